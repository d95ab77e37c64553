section NM
variable {X : va_G × List (ClassId × FieldType) × (Nat × Nat × Nat × (Nat → Int32))}
theorem dX12_placeIn_0 : decode cX12_placeIn 0 = .ok (.iconst 0, 1) := by decide +kernel
theorem dX12_placeIn_1 : decode cX12_placeIn 1 = .ok (.istore_n 2, 1) := by decide +kernel
theorem dX12_placeIn_2 : decode cX12_placeIn 2 = .ok (.iconst 0, 1) := by decide +kernel
theorem dX12_placeIn_3 : decode cX12_placeIn 3 = .ok (.istore_n 3, 1) := by decide +kernel
theorem dX12_placeIn_4 : decode cX12_placeIn 4 = .ok (.iload_n 3, 1) := by decide +kernel
theorem dX12_placeIn_5 : decode cX12_placeIn 5 = .ok (.iload_n 1, 1) := by decide +kernel
theorem dX12_placeIn_6 : decode cX12_placeIn 6 = .ok (.if_icmp .ge 17, 3) := by decide +kernel
theorem dX12_placeIn_9 : decode cX12_placeIn 9 = .ok (.iload_n 2, 1) := by decide +kernel
theorem dX12_placeIn_10 : decode cX12_placeIn 10 = .ok (.iload_n 0, 1) := by decide +kernel
theorem dX12_placeIn_11 : decode cX12_placeIn 11 = .ok (.iload_n 3, 1) := by decide +kernel
theorem dX12_placeIn_12 : decode cX12_placeIn 12 = .ok (.ishr, 1) := by decide +kernel
theorem dX12_placeIn_13 : decode cX12_placeIn 13 = .ok (.iconst 1, 1) := by decide +kernel
theorem dX12_placeIn_14 : decode cX12_placeIn 14 = .ok (.iand, 1) := by decide +kernel
theorem dX12_placeIn_15 : decode cX12_placeIn 15 = .ok (.iadd, 1) := by decide +kernel
theorem dX12_placeIn_16 : decode cX12_placeIn 16 = .ok (.istore_n 2, 1) := by decide +kernel
theorem dX12_placeIn_17 : decode cX12_placeIn 17 = .ok (.iinc 3 1, 3) := by decide +kernel
theorem dX12_placeIn_20 : decode cX12_placeIn 20 = .ok (.goto (-16), 3) := by decide +kernel
theorem dX12_placeIn_23 : decode cX12_placeIn 23 = .ok (.iload_n 2, 1) := by decide +kernel
theorem dX12_placeIn_24 : decode cX12_placeIn 24 = .ok (.ireturn, 1) := by decide +kernel
theorem dX12_bits_0 : decode cX12_bits 0 = .ok (.iconst 0, 1) := by decide +kernel
theorem dX12_bits_1 : decode cX12_bits 1 = .ok (.istore_n 1, 1) := by decide +kernel
theorem dX12_bits_2 : decode cX12_bits 2 = .ok (.iconst 0, 1) := by decide +kernel
theorem dX12_bits_3 : decode cX12_bits 3 = .ok (.istore_n 2, 1) := by decide +kernel
theorem dX12_bits_4 : decode cX12_bits 4 = .ok (.iload_n 2, 1) := by decide +kernel
theorem dX12_bits_5 : decode cX12_bits 5 = .ok (.bipush 16, 2) := by decide +kernel
theorem dX12_bits_7 : decode cX12_bits 7 = .ok (.if_icmp .ge 17, 3) := by decide +kernel
theorem dX12_bits_10 : decode cX12_bits 10 = .ok (.iload_n 1, 1) := by decide +kernel
theorem dX12_bits_11 : decode cX12_bits 11 = .ok (.iload_n 0, 1) := by decide +kernel
theorem dX12_bits_12 : decode cX12_bits 12 = .ok (.iload_n 2, 1) := by decide +kernel
theorem dX12_bits_13 : decode cX12_bits 13 = .ok (.ishr, 1) := by decide +kernel
theorem dX12_bits_14 : decode cX12_bits 14 = .ok (.iconst 1, 1) := by decide +kernel
theorem dX12_bits_15 : decode cX12_bits 15 = .ok (.iand, 1) := by decide +kernel
theorem dX12_bits_16 : decode cX12_bits 16 = .ok (.iadd, 1) := by decide +kernel
theorem dX12_bits_17 : decode cX12_bits 17 = .ok (.istore_n 1, 1) := by decide +kernel
theorem dX12_bits_18 : decode cX12_bits 18 = .ok (.iinc 2 1, 3) := by decide +kernel
theorem dX12_bits_21 : decode cX12_bits 21 = .ok (.goto (-17), 3) := by decide +kernel
theorem dX12_bits_24 : decode cX12_bits 24 = .ok (.iload_n 1, 1) := by decide +kernel
theorem dX12_bits_25 : decode cX12_bits 25 = .ok (.ireturn, 1) := by decide +kernel
theorem dX12_sameEnds_0 : decode cX12_sameEnds 0 = .ok (.aload_n 0, 1) := by decide +kernel
theorem dX12_sameEnds_1 : decode cX12_sameEnds 1 = .ok (.getfield 23, 3) := by decide +kernel
theorem dX12_sameEnds_4 : decode cX12_sameEnds 4 = .ok (.iload_n 2, 1) := by decide +kernel
theorem dX12_sameEnds_5 : decode cX12_sameEnds 5 = .ok (.iaload, 1) := by decide +kernel
theorem dX12_sameEnds_6 : decode cX12_sameEnds 6 = .ok (.aload_n 0, 1) := by decide +kernel
theorem dX12_sameEnds_7 : decode cX12_sameEnds 7 = .ok (.getfield 23, 3) := by decide +kernel
theorem dX12_sameEnds_10 : decode cX12_sameEnds 10 = .ok (.iload_n 3, 1) := by decide +kernel
theorem dX12_sameEnds_11 : decode cX12_sameEnds 11 = .ok (.iaload, 1) := by decide +kernel
theorem dX12_sameEnds_12 : decode cX12_sameEnds 12 = .ok (.if_icmp .ne 22, 3) := by decide +kernel
theorem dX12_sameEnds_15 : decode cX12_sameEnds 15 = .ok (.aload_n 0, 1) := by decide +kernel
theorem dX12_sameEnds_16 : decode cX12_sameEnds 16 = .ok (.getfield 26, 3) := by decide +kernel
theorem dX12_sameEnds_19 : decode cX12_sameEnds 19 = .ok (.iload_n 2, 1) := by decide +kernel
theorem dX12_sameEnds_20 : decode cX12_sameEnds 20 = .ok (.iaload, 1) := by decide +kernel
theorem dX12_sameEnds_21 : decode cX12_sameEnds 21 = .ok (.aload_n 0, 1) := by decide +kernel
theorem dX12_sameEnds_22 : decode cX12_sameEnds 22 = .ok (.getfield 26, 3) := by decide +kernel
theorem dX12_sameEnds_25 : decode cX12_sameEnds 25 = .ok (.iload_n 3, 1) := by decide +kernel
theorem dX12_sameEnds_26 : decode cX12_sameEnds 26 = .ok (.iaload, 1) := by decide +kernel
theorem dX12_sameEnds_27 : decode cX12_sameEnds 27 = .ok (.if_icmp .ne 7, 3) := by decide +kernel
theorem dX12_sameEnds_30 : decode cX12_sameEnds 30 = .ok (.iconst 1, 1) := by decide +kernel
theorem dX12_sameEnds_31 : decode cX12_sameEnds 31 = .ok (.goto 4, 3) := by decide +kernel
theorem dX12_sameEnds_34 : decode cX12_sameEnds 34 = .ok (.iconst 0, 1) := by decide +kernel
theorem dX12_sameEnds_35 : decode cX12_sameEnds 35 = .ok (.istore 4, 2) := by decide +kernel
theorem dX12_sameEnds_37 : decode cX12_sameEnds 37 = .ok (.iload 4, 2) := by decide +kernel
theorem dX12_sameEnds_39 : decode cX12_sameEnds 39 = .ok (.ifCond .ne 42, 3) := by decide +kernel
theorem dX12_sameEnds_42 : decode cX12_sameEnds 42 = .ok (.aload_n 0, 1) := by decide +kernel
theorem dX12_sameEnds_43 : decode cX12_sameEnds 43 = .ok (.getfield 16, 3) := by decide +kernel
theorem dX12_sameEnds_46 : decode cX12_sameEnds 46 = .ok (.iload_n 1, 1) := by decide +kernel
theorem dX12_sameEnds_47 : decode cX12_sameEnds 47 = .ok (.baload, 1) := by decide +kernel
theorem dX12_sameEnds_48 : decode cX12_sameEnds 48 = .ok (.ifCond .ne 37, 3) := by decide +kernel
theorem dX12_sameEnds_51 : decode cX12_sameEnds 51 = .ok (.aload_n 0, 1) := by decide +kernel
theorem dX12_sameEnds_52 : decode cX12_sameEnds 52 = .ok (.getfield 23, 3) := by decide +kernel
theorem dX12_sameEnds_55 : decode cX12_sameEnds 55 = .ok (.iload_n 2, 1) := by decide +kernel
theorem dX12_sameEnds_56 : decode cX12_sameEnds 56 = .ok (.iaload, 1) := by decide +kernel
theorem dX12_sameEnds_57 : decode cX12_sameEnds 57 = .ok (.aload_n 0, 1) := by decide +kernel
theorem dX12_sameEnds_58 : decode cX12_sameEnds 58 = .ok (.getfield 26, 3) := by decide +kernel
theorem dX12_sameEnds_61 : decode cX12_sameEnds 61 = .ok (.iload_n 3, 1) := by decide +kernel
theorem dX12_sameEnds_62 : decode cX12_sameEnds 62 = .ok (.iaload, 1) := by decide +kernel
theorem dX12_sameEnds_63 : decode cX12_sameEnds 63 = .ok (.if_icmp .ne 22, 3) := by decide +kernel
theorem dX12_sameEnds_66 : decode cX12_sameEnds 66 = .ok (.aload_n 0, 1) := by decide +kernel
theorem dX12_sameEnds_67 : decode cX12_sameEnds 67 = .ok (.getfield 26, 3) := by decide +kernel
theorem dX12_sameEnds_70 : decode cX12_sameEnds 70 = .ok (.iload_n 2, 1) := by decide +kernel
theorem dX12_sameEnds_71 : decode cX12_sameEnds 71 = .ok (.iaload, 1) := by decide +kernel
theorem dX12_sameEnds_72 : decode cX12_sameEnds 72 = .ok (.aload_n 0, 1) := by decide +kernel
theorem dX12_sameEnds_73 : decode cX12_sameEnds 73 = .ok (.getfield 23, 3) := by decide +kernel
theorem dX12_sameEnds_76 : decode cX12_sameEnds 76 = .ok (.iload_n 3, 1) := by decide +kernel
theorem dX12_sameEnds_77 : decode cX12_sameEnds 77 = .ok (.iaload, 1) := by decide +kernel
theorem dX12_sameEnds_78 : decode cX12_sameEnds 78 = .ok (.if_icmp .ne 7, 3) := by decide +kernel
theorem dX12_sameEnds_81 : decode cX12_sameEnds 81 = .ok (.iconst 1, 1) := by decide +kernel
theorem dX12_sameEnds_82 : decode cX12_sameEnds 82 = .ok (.goto 4, 3) := by decide +kernel
theorem dX12_sameEnds_85 : decode cX12_sameEnds 85 = .ok (.iconst 0, 1) := by decide +kernel
theorem dX12_sameEnds_86 : decode cX12_sameEnds 86 = .ok (.ireturn, 1) := by decide +kernel
theorem dX12_over_0 : decode cX12_over 0 = .ok (.iload_n 1, 1) := by decide +kernel
theorem dX12_over_1 : decode cX12_over 1 = .ok (.iload_n 2, 1) := by decide +kernel
theorem dX12_over_2 : decode cX12_over 2 = .ok (.invokestatic 157, 3) := by decide +kernel
theorem dX12_over_5 : decode cX12_over 5 = .ok (.istore 4, 2) := by decide +kernel
theorem dX12_over_7 : decode cX12_over 7 = .ok (.aload_n 0, 1) := by decide +kernel
theorem dX12_over_8 : decode cX12_over 8 = .ok (.getfield 23, 3) := by decide +kernel
theorem dX12_over_11 : decode cX12_over 11 = .ok (.iload 4, 2) := by decide +kernel
theorem dX12_over_13 : decode cX12_over 13 = .ok (.iaload, 1) := by decide +kernel
theorem dX12_over_14 : decode cX12_over 14 = .ok (.iload_n 3, 1) := by decide +kernel
theorem dX12_over_15 : decode cX12_over 15 = .ok (.if_icmp .ne 13, 3) := by decide +kernel
theorem dX12_over_18 : decode cX12_over 18 = .ok (.aload_n 0, 1) := by decide +kernel
theorem dX12_over_19 : decode cX12_over 19 = .ok (.getfield 26, 3) := by decide +kernel
theorem dX12_over_22 : decode cX12_over 22 = .ok (.iload 4, 2) := by decide +kernel
theorem dX12_over_24 : decode cX12_over 24 = .ok (.iaload, 1) := by decide +kernel
theorem dX12_over_25 : decode cX12_over 25 = .ok (.goto 34, 3) := by decide +kernel
theorem dX12_over_28 : decode cX12_over 28 = .ok (.aload_n 0, 1) := by decide +kernel
theorem dX12_over_29 : decode cX12_over 29 = .ok (.getfield 16, 3) := by decide +kernel
theorem dX12_over_32 : decode cX12_over 32 = .ok (.iload_n 1, 1) := by decide +kernel
theorem dX12_over_33 : decode cX12_over 33 = .ok (.baload, 1) := by decide +kernel
theorem dX12_over_34 : decode cX12_over 34 = .ok (.ifCond .ne 24, 3) := by decide +kernel
theorem dX12_over_37 : decode cX12_over 37 = .ok (.aload_n 0, 1) := by decide +kernel
theorem dX12_over_38 : decode cX12_over 38 = .ok (.getfield 26, 3) := by decide +kernel
theorem dX12_over_41 : decode cX12_over 41 = .ok (.iload 4, 2) := by decide +kernel
theorem dX12_over_43 : decode cX12_over 43 = .ok (.iaload, 1) := by decide +kernel
theorem dX12_over_44 : decode cX12_over 44 = .ok (.iload_n 3, 1) := by decide +kernel
theorem dX12_over_45 : decode cX12_over 45 = .ok (.if_icmp .ne 13, 3) := by decide +kernel
theorem dX12_over_48 : decode cX12_over 48 = .ok (.aload_n 0, 1) := by decide +kernel
theorem dX12_over_49 : decode cX12_over 49 = .ok (.getfield 23, 3) := by decide +kernel
theorem dX12_over_52 : decode cX12_over 52 = .ok (.iload 4, 2) := by decide +kernel
theorem dX12_over_54 : decode cX12_over 54 = .ok (.iaload, 1) := by decide +kernel
theorem dX12_over_55 : decode cX12_over 55 = .ok (.goto 4, 3) := by decide +kernel
theorem dX12_over_58 : decode cX12_over 58 = .ok (.iconst (-1), 1) := by decide +kernel
theorem dX12_over_59 : decode cX12_over 59 = .ok (.ireturn, 1) := by decide +kernel
theorem dX12_square_0 : decode cX12_square 0 = .ok (.aload_n 0, 1) := by decide +kernel
theorem dX12_square_1 : decode cX12_square 1 = .ok (.getfield 13, 3) := by decide +kernel
theorem dX12_square_4 : decode cX12_square 4 = .ok (.iload_n 1, 1) := by decide +kernel
theorem dX12_square_5 : decode cX12_square 5 = .ok (.iaload, 1) := by decide +kernel
theorem dX12_square_6 : decode cX12_square 6 = .ok (.istore_n 2, 1) := by decide +kernel
theorem dX12_square_7 : decode cX12_square 7 = .ok (.iconst 0, 1) := by decide +kernel
theorem dX12_square_8 : decode cX12_square 8 = .ok (.istore_n 3, 1) := by decide +kernel
theorem dX12_square_9 : decode cX12_square 9 = .ok (.iload_n 3, 1) := by decide +kernel
theorem dX12_square_10 : decode cX12_square 10 = .ok (.iload_n 2, 1) := by decide +kernel
theorem dX12_square_11 : decode cX12_square 11 = .ok (.if_icmp .ge 196, 3) := by decide +kernel
theorem dX12_square_14 : decode cX12_square 14 = .ok (.aload_n 0, 1) := by decide +kernel
theorem dX12_square_15 : decode cX12_square 15 = .ok (.getfield 16, 3) := by decide +kernel
theorem dX12_square_18 : decode cX12_square 18 = .ok (.iload_n 1, 1) := by decide +kernel
theorem dX12_square_19 : decode cX12_square 19 = .ok (.baload, 1) := by decide +kernel
theorem dX12_square_20 : decode cX12_square 20 = .ok (.ifCond .eq 7, 3) := by decide +kernel
theorem dX12_square_23 : decode cX12_square 23 = .ok (.iconst 0, 1) := by decide +kernel
theorem dX12_square_24 : decode cX12_square 24 = .ok (.goto 4, 3) := by decide +kernel
theorem dX12_square_27 : decode cX12_square 27 = .ok (.iload_n 3, 1) := by decide +kernel
theorem dX12_square_28 : decode cX12_square 28 = .ok (.istore 4, 2) := by decide +kernel
theorem dX12_square_30 : decode cX12_square 30 = .ok (.iload 4, 2) := by decide +kernel
theorem dX12_square_32 : decode cX12_square 32 = .ok (.iload_n 2, 1) := by decide +kernel
theorem dX12_square_33 : decode cX12_square 33 = .ok (.if_icmp .ge 168, 3) := by decide +kernel
theorem dX12_square_36 : decode cX12_square 36 = .ok (.ldc 204, 2) := by decide +kernel
theorem dX12_square_38 : decode cX12_square 38 = .ok (.istore 5, 2) := by decide +kernel
theorem dX12_square_40 : decode cX12_square 40 = .ok (.iconst 0, 1) := by decide +kernel
theorem dX12_square_41 : decode cX12_square 41 = .ok (.istore 6, 2) := by decide +kernel
theorem dX12_square_43 : decode cX12_square 43 = .ok (.iload 6, 2) := by decide +kernel
theorem dX12_square_45 : decode cX12_square 45 = .ok (.aload_n 0, 1) := by decide +kernel
theorem dX12_square_46 : decode cX12_square 46 = .ok (.getfield 20, 3) := by decide +kernel
theorem dX12_square_49 : decode cX12_square 49 = .ok (.iload_n 1, 1) := by decide +kernel
theorem dX12_square_50 : decode cX12_square 50 = .ok (.iaload, 1) := by decide +kernel
theorem dX12_square_51 : decode cX12_square 51 = .ok (.if_icmp .ge 99, 3) := by decide +kernel
theorem dX12_square_54 : decode cX12_square 54 = .ok (.aload_n 0, 1) := by decide +kernel
theorem dX12_square_55 : decode cX12_square 55 = .ok (.iload_n 1, 1) := by decide +kernel
theorem dX12_square_56 : decode cX12_square 56 = .ok (.iload 6, 2) := by decide +kernel
theorem dX12_square_58 : decode cX12_square 58 = .ok (.iload_n 3, 1) := by decide +kernel
theorem dX12_square_59 : decode cX12_square 59 = .ok (.invokevirtual 205, 3) := by decide +kernel
theorem dX12_square_62 : decode cX12_square 62 = .ok (.istore 7, 2) := by decide +kernel
theorem dX12_square_64 : decode cX12_square 64 = .ok (.iconst 0, 1) := by decide +kernel
theorem dX12_square_65 : decode cX12_square 65 = .ok (.istore 8, 2) := by decide +kernel
theorem dX12_square_67 : decode cX12_square 67 = .ok (.iload 8, 2) := by decide +kernel
theorem dX12_square_69 : decode cX12_square 69 = .ok (.aload_n 0, 1) := by decide +kernel
theorem dX12_square_70 : decode cX12_square 70 = .ok (.getfield 20, 3) := by decide +kernel
theorem dX12_square_73 : decode cX12_square 73 = .ok (.iload_n 1, 1) := by decide +kernel
theorem dX12_square_74 : decode cX12_square 74 = .ok (.iaload, 1) := by decide +kernel
theorem dX12_square_75 : decode cX12_square 75 = .ok (.if_icmp .ge 69, 3) := by decide +kernel
theorem dX12_square_78 : decode cX12_square 78 = .ok (.iload 7, 2) := by decide +kernel
theorem dX12_square_80 : decode cX12_square 80 = .ok (.ifCond .lt 64, 3) := by decide +kernel
theorem dX12_square_83 : decode cX12_square 83 = .ok (.aload_n 0, 1) := by decide +kernel
theorem dX12_square_84 : decode cX12_square 84 = .ok (.getfield 29, 3) := by decide +kernel
theorem dX12_square_87 : decode cX12_square 87 = .ok (.iload_n 1, 1) := by decide +kernel
theorem dX12_square_88 : decode cX12_square 88 = .ok (.iload 6, 2) := by decide +kernel
theorem dX12_square_90 : decode cX12_square 90 = .ok (.invokestatic 157, 3) := by decide +kernel
theorem dX12_square_93 : decode cX12_square 93 = .ok (.iaload, 1) := by decide +kernel
theorem dX12_square_94 : decode cX12_square 94 = .ok (.aload_n 0, 1) := by decide +kernel
theorem dX12_square_95 : decode cX12_square 95 = .ok (.getfield 29, 3) := by decide +kernel
theorem dX12_square_98 : decode cX12_square 98 = .ok (.iload_n 1, 1) := by decide +kernel
theorem dX12_square_99 : decode cX12_square 99 = .ok (.iload 8, 2) := by decide +kernel
theorem dX12_square_101 : decode cX12_square 101 = .ok (.invokestatic 157, 3) := by decide +kernel
theorem dX12_square_104 : decode cX12_square 104 = .ok (.iaload, 1) := by decide +kernel
theorem dX12_square_105 : decode cX12_square 105 = .ok (.iadd, 1) := by decide +kernel
theorem dX12_square_106 : decode cX12_square 106 = .ok (.istore 9, 2) := by decide +kernel
theorem dX12_square_108 : decode cX12_square 108 = .ok (.aload_n 0, 1) := by decide +kernel
theorem dX12_square_109 : decode cX12_square 109 = .ok (.iload_n 1, 1) := by decide +kernel
theorem dX12_square_110 : decode cX12_square 110 = .ok (.iload 8, 2) := by decide +kernel
theorem dX12_square_112 : decode cX12_square 112 = .ok (.iload 7, 2) := by decide +kernel
theorem dX12_square_114 : decode cX12_square 114 = .ok (.invokevirtual 205, 3) := by decide +kernel
theorem dX12_square_117 : decode cX12_square 117 = .ok (.iload 4, 2) := by decide +kernel
theorem dX12_square_119 : decode cX12_square 119 = .ok (.if_icmp .ne 15, 3) := by decide +kernel
theorem dX12_square_122 : decode cX12_square 122 = .ok (.iload 9, 2) := by decide +kernel
theorem dX12_square_124 : decode cX12_square 124 = .ok (.iload 5, 2) := by decide +kernel
theorem dX12_square_126 : decode cX12_square 126 = .ok (.if_icmp .ge 8, 3) := by decide +kernel
theorem dX12_square_129 : decode cX12_square 129 = .ok (.iload 9, 2) := by decide +kernel
theorem dX12_square_131 : decode cX12_square 131 = .ok (.goto 5, 3) := by decide +kernel
theorem dX12_square_134 : decode cX12_square 134 = .ok (.iload 5, 2) := by decide +kernel
theorem dX12_square_136 : decode cX12_square 136 = .ok (.istore 5, 2) := by decide +kernel
theorem dX12_square_138 : decode cX12_square 138 = .ok (.iinc 8 1, 3) := by decide +kernel
theorem dX12_square_141 : decode cX12_square 141 = .ok (.goto (-74), 3) := by decide +kernel
theorem dX12_square_144 : decode cX12_square 144 = .ok (.iinc 6 1, 3) := by decide +kernel
theorem dX12_square_147 : decode cX12_square 147 = .ok (.goto (-104), 3) := by decide +kernel
theorem dX12_square_150 : decode cX12_square 150 = .ok (.iload 5, 2) := by decide +kernel
theorem dX12_square_152 : decode cX12_square 152 = .ok (.ldc 204, 2) := by decide +kernel
theorem dX12_square_154 : decode cX12_square 154 = .ok (.if_icmp .ge 41, 3) := by decide +kernel
theorem dX12_square_157 : decode cX12_square 157 = .ok (.aload_n 0, 1) := by decide +kernel
theorem dX12_square_158 : decode cX12_square 158 = .ok (.iload_n 3, 1) := by decide +kernel
theorem dX12_square_159 : decode cX12_square 159 = .ok (.iload 4, 2) := by decide +kernel
theorem dX12_square_161 : decode cX12_square 161 = .ok (.iload 5, 2) := by decide +kernel
theorem dX12_square_163 : decode cX12_square 163 = .ok (.sipush (-1000), 3) := by decide +kernel
theorem dX12_square_166 : decode cX12_square 166 = .ok (.if_icmp .ge 9, 3) := by decide +kernel
theorem dX12_square_169 : decode cX12_square 169 = .ok (.sipush (-1000), 3) := by decide +kernel
theorem dX12_square_172 : decode cX12_square 172 = .ok (.goto 19, 3) := by decide +kernel
theorem dX12_square_175 : decode cX12_square 175 = .ok (.iload 5, 2) := by decide +kernel
theorem dX12_square_177 : decode cX12_square 177 = .ok (.sipush 1000, 3) := by decide +kernel
theorem dX12_square_180 : decode cX12_square 180 = .ok (.if_icmp .le 9, 3) := by decide +kernel
theorem dX12_square_183 : decode cX12_square 183 = .ok (.sipush 1000, 3) := by decide +kernel
theorem dX12_square_186 : decode cX12_square 186 = .ok (.goto 5, 3) := by decide +kernel
theorem dX12_square_189 : decode cX12_square 189 = .ok (.iload 5, 2) := by decide +kernel
theorem dX12_square_191 : decode cX12_square 191 = .ok (.iconst 0, 1) := by decide +kernel
theorem dX12_square_192 : decode cX12_square 192 = .ok (.invokevirtual 171, 3) := by decide +kernel
theorem dX12_square_195 : decode cX12_square 195 = .ok (.iinc 4 1, 3) := by decide +kernel
theorem dX12_square_198 : decode cX12_square 198 = .ok (.goto (-168), 3) := by decide +kernel
theorem dX12_square_201 : decode cX12_square 201 = .ok (.iinc 3 1, 3) := by decide +kernel
theorem dX12_square_204 : decode cX12_square 204 = .ok (.goto (-195), 3) := by decide +kernel
theorem dX12_square_207 : decode cX12_square 207 = .ok (.return_, 1) := by decide +kernel
theorem kX12_204 : Cond.constant RX12 204 99999 ∈ g_ws (gS, X) := (tb_t (k := 1331) (w := Cond.constant RX12 204 99999) (by decide +kernel))
theorem kX12_205 : lkK (gS, X) RX12 205 mX12_over 3 ∧ Cond.instanceMethod yX12_over ∈ g_ws (gS, X) ∧ Cond.selects RX12 yX12_over yX12_over ∈ g_ws (gS, X) ∧ yX12_over.cls = RX12 := ⟨⟨tb_good, (tb_t (k := 1332) (w := Cond.methodLink RX12 205 yX12_over) (by decide +kernel)), (tb_t (k := 8) (w := Cond.initialized RX12) (by decide +kernel)), (tb_t (k := 1335) (w := Cond.code yX12_over cX12_over 5 (some .int)) (by decide +kernel)), by decide +kernel, by decide⟩, (tb_t (k := 1334) (w := Cond.instanceMethod yX12_over) (by decide +kernel)), (tb_p (k := 85) (q := (yX12_over, 45)) (by decide +kernel)), rfl⟩
theorem dX12_line_0 : decode cX12_line 0 = .ok (.iconst 0, 1) := by decide +kernel
theorem dX12_line_1 : decode cX12_line 1 = .ok (.istore_n 2, 1) := by decide +kernel
theorem dX12_line_2 : decode cX12_line 2 = .ok (.iload_n 2, 1) := by decide +kernel
theorem dX12_line_3 : decode cX12_line 3 = .ok (.aload_n 0, 1) := by decide +kernel
theorem dX12_line_4 : decode cX12_line 4 = .ok (.getfield 20, 3) := by decide +kernel
theorem dX12_line_7 : decode cX12_line 7 = .ok (.iload_n 1, 1) := by decide +kernel
theorem dX12_line_8 : decode cX12_line 8 = .ok (.iaload, 1) := by decide +kernel
theorem dX12_line_9 : decode cX12_line 9 = .ok (.if_icmp .ge 168, 3) := by decide +kernel
theorem dX12_line_12 : decode cX12_line 12 = .ok (.iconst 0, 1) := by decide +kernel
theorem dX12_line_13 : decode cX12_line 13 = .ok (.istore_n 3, 1) := by decide +kernel
theorem dX12_line_14 : decode cX12_line 14 = .ok (.iload_n 3, 1) := by decide +kernel
theorem dX12_line_15 : decode cX12_line 15 = .ok (.aload_n 0, 1) := by decide +kernel
theorem dX12_line_16 : decode cX12_line 16 = .ok (.getfield 20, 3) := by decide +kernel
theorem dX12_line_19 : decode cX12_line 19 = .ok (.iload_n 1, 1) := by decide +kernel
theorem dX12_line_20 : decode cX12_line 20 = .ok (.iaload, 1) := by decide +kernel
theorem dX12_line_21 : decode cX12_line 21 = .ok (.if_icmp .ge 150, 3) := by decide +kernel
theorem dX12_line_24 : decode cX12_line 24 = .ok (.iload_n 1, 1) := by decide +kernel
theorem dX12_line_25 : decode cX12_line 25 = .ok (.iload_n 2, 1) := by decide +kernel
theorem dX12_line_26 : decode cX12_line 26 = .ok (.invokestatic 157, 3) := by decide +kernel
theorem dX12_line_29 : decode cX12_line 29 = .ok (.istore 4, 2) := by decide +kernel
theorem dX12_line_31 : decode cX12_line 31 = .ok (.iload_n 1, 1) := by decide +kernel
theorem dX12_line_32 : decode cX12_line 32 = .ok (.iload_n 3, 1) := by decide +kernel
theorem dX12_line_33 : decode cX12_line 33 = .ok (.invokestatic 157, 3) := by decide +kernel
theorem dX12_line_36 : decode cX12_line 36 = .ok (.istore 5, 2) := by decide +kernel
theorem dX12_line_38 : decode cX12_line 38 = .ok (.aload_n 0, 1) := by decide +kernel
theorem dX12_line_39 : decode cX12_line 39 = .ok (.getfield 16, 3) := by decide +kernel
theorem dX12_line_42 : decode cX12_line 42 = .ok (.iload_n 1, 1) := by decide +kernel
theorem dX12_line_43 : decode cX12_line 43 = .ok (.baload, 1) := by decide +kernel
theorem dX12_line_44 : decode cX12_line 44 = .ok (.ifCond .eq 28, 3) := by decide +kernel
theorem dX12_line_47 : decode cX12_line 47 = .ok (.aload_n 0, 1) := by decide +kernel
theorem dX12_line_48 : decode cX12_line 48 = .ok (.getfield 26, 3) := by decide +kernel
theorem dX12_line_51 : decode cX12_line 51 = .ok (.iload 4, 2) := by decide +kernel
theorem dX12_line_53 : decode cX12_line 53 = .ok (.iaload, 1) := by decide +kernel
theorem dX12_line_54 : decode cX12_line 54 = .ok (.aload_n 0, 1) := by decide +kernel
theorem dX12_line_55 : decode cX12_line 55 = .ok (.getfield 23, 3) := by decide +kernel
theorem dX12_line_58 : decode cX12_line 58 = .ok (.iload 5, 2) := by decide +kernel
theorem dX12_line_60 : decode cX12_line 60 = .ok (.iaload, 1) := by decide +kernel
theorem dX12_line_61 : decode cX12_line 61 = .ok (.if_icmp .ne 7, 3) := by decide +kernel
theorem dX12_line_64 : decode cX12_line 64 = .ok (.iconst 1, 1) := by decide +kernel
theorem dX12_line_65 : decode cX12_line 65 = .ok (.goto 85, 3) := by decide +kernel
theorem dX12_line_68 : decode cX12_line 68 = .ok (.iconst 0, 1) := by decide +kernel
theorem dX12_line_69 : decode cX12_line 69 = .ok (.goto 81, 3) := by decide +kernel
theorem dX12_line_72 : decode cX12_line 72 = .ok (.iload_n 2, 1) := by decide +kernel
theorem dX12_line_73 : decode cX12_line 73 = .ok (.iload_n 3, 1) := by decide +kernel
theorem dX12_line_74 : decode cX12_line 74 = .ok (.if_icmp .ge 75, 3) := by decide +kernel
theorem dX12_line_77 : decode cX12_line 77 = .ok (.aload_n 0, 1) := by decide +kernel
theorem dX12_line_78 : decode cX12_line 78 = .ok (.getfield 23, 3) := by decide +kernel
theorem dX12_line_81 : decode cX12_line 81 = .ok (.iload 4, 2) := by decide +kernel
theorem dX12_line_83 : decode cX12_line 83 = .ok (.iaload, 1) := by decide +kernel
theorem dX12_line_84 : decode cX12_line 84 = .ok (.aload_n 0, 1) := by decide +kernel
theorem dX12_line_85 : decode cX12_line 85 = .ok (.getfield 23, 3) := by decide +kernel
theorem dX12_line_88 : decode cX12_line 88 = .ok (.iload 5, 2) := by decide +kernel
theorem dX12_line_90 : decode cX12_line 90 = .ok (.iaload, 1) := by decide +kernel
theorem dX12_line_91 : decode cX12_line 91 = .ok (.if_icmp .eq 54, 3) := by decide +kernel
theorem dX12_line_94 : decode cX12_line 94 = .ok (.aload_n 0, 1) := by decide +kernel
theorem dX12_line_95 : decode cX12_line 95 = .ok (.getfield 23, 3) := by decide +kernel
theorem dX12_line_98 : decode cX12_line 98 = .ok (.iload 4, 2) := by decide +kernel
theorem dX12_line_100 : decode cX12_line 100 = .ok (.iaload, 1) := by decide +kernel
theorem dX12_line_101 : decode cX12_line 101 = .ok (.aload_n 0, 1) := by decide +kernel
theorem dX12_line_102 : decode cX12_line 102 = .ok (.getfield 26, 3) := by decide +kernel
theorem dX12_line_105 : decode cX12_line 105 = .ok (.iload 5, 2) := by decide +kernel
theorem dX12_line_107 : decode cX12_line 107 = .ok (.iaload, 1) := by decide +kernel
theorem dX12_line_108 : decode cX12_line 108 = .ok (.if_icmp .eq 37, 3) := by decide +kernel
theorem dX12_line_111 : decode cX12_line 111 = .ok (.aload_n 0, 1) := by decide +kernel
theorem dX12_line_112 : decode cX12_line 112 = .ok (.getfield 26, 3) := by decide +kernel
theorem dX12_line_115 : decode cX12_line 115 = .ok (.iload 4, 2) := by decide +kernel
theorem dX12_line_117 : decode cX12_line 117 = .ok (.iaload, 1) := by decide +kernel
theorem dX12_line_118 : decode cX12_line 118 = .ok (.aload_n 0, 1) := by decide +kernel
theorem dX12_line_119 : decode cX12_line 119 = .ok (.getfield 23, 3) := by decide +kernel
theorem dX12_line_122 : decode cX12_line 122 = .ok (.iload 5, 2) := by decide +kernel
theorem dX12_line_124 : decode cX12_line 124 = .ok (.iaload, 1) := by decide +kernel
theorem dX12_line_125 : decode cX12_line 125 = .ok (.if_icmp .eq 20, 3) := by decide +kernel
theorem dX12_line_128 : decode cX12_line 128 = .ok (.aload_n 0, 1) := by decide +kernel
theorem dX12_line_129 : decode cX12_line 129 = .ok (.getfield 26, 3) := by decide +kernel
theorem dX12_line_132 : decode cX12_line 132 = .ok (.iload 4, 2) := by decide +kernel
theorem dX12_line_134 : decode cX12_line 134 = .ok (.iaload, 1) := by decide +kernel
theorem dX12_line_135 : decode cX12_line 135 = .ok (.aload_n 0, 1) := by decide +kernel
theorem dX12_line_136 : decode cX12_line 136 = .ok (.getfield 26, 3) := by decide +kernel
theorem dX12_line_139 : decode cX12_line 139 = .ok (.iload 5, 2) := by decide +kernel
theorem dX12_line_141 : decode cX12_line 141 = .ok (.iaload, 1) := by decide +kernel
theorem dX12_line_142 : decode cX12_line 142 = .ok (.if_icmp .ne 7, 3) := by decide +kernel
theorem dX12_line_145 : decode cX12_line 145 = .ok (.iconst 1, 1) := by decide +kernel
theorem dX12_line_146 : decode cX12_line 146 = .ok (.goto 4, 3) := by decide +kernel
theorem dX12_line_149 : decode cX12_line 149 = .ok (.iconst 0, 1) := by decide +kernel
theorem dX12_line_150 : decode cX12_line 150 = .ok (.istore 6, 2) := by decide +kernel
theorem dX12_line_152 : decode cX12_line 152 = .ok (.iload 6, 2) := by decide +kernel
theorem dX12_line_154 : decode cX12_line 154 = .ok (.ifCond .eq 11, 3) := by decide +kernel
theorem dX12_line_157 : decode cX12_line 157 = .ok (.aload_n 0, 1) := by decide +kernel
theorem dX12_line_158 : decode cX12_line 158 = .ok (.iload_n 2, 1) := by decide +kernel
theorem dX12_line_159 : decode cX12_line 159 = .ok (.iload_n 3, 1) := by decide +kernel
theorem dX12_line_160 : decode cX12_line 160 = .ok (.iconst 0, 1) := by decide +kernel
theorem dX12_line_161 : decode cX12_line 161 = .ok (.iconst 0, 1) := by decide +kernel
theorem dX12_line_162 : decode cX12_line 162 = .ok (.invokevirtual 171, 3) := by decide +kernel
theorem dX12_line_165 : decode cX12_line 165 = .ok (.iinc 3 1, 3) := by decide +kernel
theorem dX12_line_168 : decode cX12_line 168 = .ok (.goto (-154), 3) := by decide +kernel
theorem dX12_line_171 : decode cX12_line 171 = .ok (.iinc 2 1, 3) := by decide +kernel
theorem dX12_line_174 : decode cX12_line 174 = .ok (.goto (-172), 3) := by decide +kernel
theorem dX12_line_177 : decode cX12_line 177 = .ok (.return_, 1) := by decide +kernel
theorem dX12_degrees_0 : decode cX12_degrees 0 = .ok (.iconst 0, 1) := by decide +kernel
theorem dX12_degrees_1 : decode cX12_degrees 1 = .ok (.istore_n 3, 1) := by decide +kernel
theorem dX12_degrees_2 : decode cX12_degrees 2 = .ok (.iload_n 3, 1) := by decide +kernel
theorem dX12_degrees_3 : decode cX12_degrees 3 = .ok (.aload_n 0, 1) := by decide +kernel
theorem dX12_degrees_4 : decode cX12_degrees 4 = .ok (.getfield 20, 3) := by decide +kernel
theorem dX12_degrees_7 : decode cX12_degrees 7 = .ok (.iload_n 1, 1) := by decide +kernel
theorem dX12_degrees_8 : decode cX12_degrees 8 = .ok (.iaload, 1) := by decide +kernel
theorem dX12_degrees_9 : decode cX12_degrees 9 = .ok (.if_icmp .ge 148, 3) := by decide +kernel
theorem dX12_degrees_12 : decode cX12_degrees 12 = .ok (.iload_n 1, 1) := by decide +kernel
theorem dX12_degrees_13 : decode cX12_degrees 13 = .ok (.iload_n 3, 1) := by decide +kernel
theorem dX12_degrees_14 : decode cX12_degrees 14 = .ok (.invokestatic 157, 3) := by decide +kernel
theorem dX12_degrees_17 : decode cX12_degrees 17 = .ok (.istore 4, 2) := by decide +kernel
theorem dX12_degrees_19 : decode cX12_degrees 19 = .ok (.aload_n 0, 1) := by decide +kernel
theorem dX12_degrees_20 : decode cX12_degrees 20 = .ok (.getfield 23, 3) := by decide +kernel
theorem dX12_degrees_23 : decode cX12_degrees 23 = .ok (.iload 4, 2) := by decide +kernel
theorem dX12_degrees_25 : decode cX12_degrees 25 = .ok (.iaload, 1) := by decide +kernel
theorem dX12_degrees_26 : decode cX12_degrees 26 = .ok (.istore 5, 2) := by decide +kernel
theorem dX12_degrees_28 : decode cX12_degrees 28 = .ok (.aload_n 0, 1) := by decide +kernel
theorem dX12_degrees_29 : decode cX12_degrees 29 = .ok (.getfield 26, 3) := by decide +kernel
theorem dX12_degrees_32 : decode cX12_degrees 32 = .ok (.iload 4, 2) := by decide +kernel
theorem dX12_degrees_34 : decode cX12_degrees 34 = .ok (.iaload, 1) := by decide +kernel
theorem dX12_degrees_35 : decode cX12_degrees 35 = .ok (.istore 6, 2) := by decide +kernel
theorem dX12_degrees_37 : decode cX12_degrees 37 = .ok (.iload_n 2, 1) := by decide +kernel
theorem dX12_degrees_38 : decode cX12_degrees 38 = .ok (.iconst 2, 1) := by decide +kernel
theorem dX12_degrees_39 : decode cX12_degrees 39 = .ok (.if_icmp .ne 58, 3) := by decide +kernel
theorem dX12_degrees_42 : decode cX12_degrees 42 = .ok (.aload_n 0, 1) := by decide +kernel
theorem dX12_degrees_43 : decode cX12_degrees 43 = .ok (.getfield 72, 3) := by decide +kernel
theorem dX12_degrees_46 : decode cX12_degrees 46 = .ok (.iload 5, 2) := by decide +kernel
theorem dX12_degrees_48 : decode cX12_degrees 48 = .ok (.dup2, 1) := by decide +kernel
theorem dX12_degrees_49 : decode cX12_degrees 49 = .ok (.laload, 1) := by decide +kernel
theorem dX12_degrees_50 : decode cX12_degrees 50 = .ok (.aload_n 0, 1) := by decide +kernel
theorem dX12_degrees_51 : decode cX12_degrees 51 = .ok (.getfield 29, 3) := by decide +kernel
theorem dX12_degrees_54 : decode cX12_degrees 54 = .ok (.iload 4, 2) := by decide +kernel
theorem dX12_degrees_56 : decode cX12_degrees 56 = .ok (.iaload, 1) := by decide +kernel
theorem dX12_degrees_57 : decode cX12_degrees 57 = .ok (.i2l, 1) := by decide +kernel
theorem dX12_degrees_58 : decode cX12_degrees 58 = .ok (.ladd, 1) := by decide +kernel
theorem dX12_degrees_59 : decode cX12_degrees 59 = .ok (.lastore, 1) := by decide +kernel
theorem dX12_degrees_60 : decode cX12_degrees 60 = .ok (.aload_n 0, 1) := by decide +kernel
theorem dX12_degrees_61 : decode cX12_degrees 61 = .ok (.getfield 16, 3) := by decide +kernel
theorem dX12_degrees_64 : decode cX12_degrees 64 = .ok (.iload_n 1, 1) := by decide +kernel
theorem dX12_degrees_65 : decode cX12_degrees 65 = .ok (.baload, 1) := by decide +kernel
theorem dX12_degrees_66 : decode cX12_degrees 66 = .ok (.ifCond .ne 85, 3) := by decide +kernel
theorem dX12_degrees_69 : decode cX12_degrees 69 = .ok (.iload 5, 2) := by decide +kernel
theorem dX12_degrees_71 : decode cX12_degrees 71 = .ok (.iload 6, 2) := by decide +kernel
theorem dX12_degrees_73 : decode cX12_degrees 73 = .ok (.if_icmp .eq 78, 3) := by decide +kernel
theorem dX12_degrees_76 : decode cX12_degrees 76 = .ok (.aload_n 0, 1) := by decide +kernel
theorem dX12_degrees_77 : decode cX12_degrees 77 = .ok (.getfield 72, 3) := by decide +kernel
theorem dX12_degrees_80 : decode cX12_degrees 80 = .ok (.iload 6, 2) := by decide +kernel
theorem dX12_degrees_82 : decode cX12_degrees 82 = .ok (.dup2, 1) := by decide +kernel
theorem dX12_degrees_83 : decode cX12_degrees 83 = .ok (.laload, 1) := by decide +kernel
theorem dX12_degrees_84 : decode cX12_degrees 84 = .ok (.aload_n 0, 1) := by decide +kernel
theorem dX12_degrees_85 : decode cX12_degrees 85 = .ok (.getfield 29, 3) := by decide +kernel
theorem dX12_degrees_88 : decode cX12_degrees 88 = .ok (.iload 4, 2) := by decide +kernel
theorem dX12_degrees_90 : decode cX12_degrees 90 = .ok (.iaload, 1) := by decide +kernel
theorem dX12_degrees_91 : decode cX12_degrees 91 = .ok (.i2l, 1) := by decide +kernel
theorem dX12_degrees_92 : decode cX12_degrees 92 = .ok (.ladd, 1) := by decide +kernel
theorem dX12_degrees_93 : decode cX12_degrees 93 = .ok (.lastore, 1) := by decide +kernel
theorem dX12_degrees_94 : decode cX12_degrees 94 = .ok (.goto 57, 3) := by decide +kernel
theorem dX12_degrees_97 : decode cX12_degrees 97 = .ok (.aload_n 0, 1) := by decide +kernel
theorem dX12_degrees_98 : decode cX12_degrees 98 = .ok (.getfield 16, 3) := by decide +kernel
theorem dX12_degrees_101 : decode cX12_degrees 101 = .ok (.iload_n 1, 1) := by decide +kernel
theorem dX12_degrees_102 : decode cX12_degrees 102 = .ok (.baload, 1) := by decide +kernel
theorem dX12_degrees_103 : decode cX12_degrees 103 = .ok (.ifCond .eq 26, 3) := by decide +kernel
theorem dX12_degrees_106 : decode cX12_degrees 106 = .ok (.aload_n 0, 1) := by decide +kernel
theorem dX12_degrees_107 : decode cX12_degrees 107 = .ok (.getfield 72, 3) := by decide +kernel
theorem dX12_degrees_110 : decode cX12_degrees 110 = .ok (.iload_n 2, 1) := by decide +kernel
theorem dX12_degrees_111 : decode cX12_degrees 111 = .ok (.ifCond .ne 8, 3) := by decide +kernel
theorem dX12_degrees_114 : decode cX12_degrees 114 = .ok (.iload 5, 2) := by decide +kernel
theorem dX12_degrees_116 : decode cX12_degrees 116 = .ok (.goto 5, 3) := by decide +kernel
theorem dX12_degrees_119 : decode cX12_degrees 119 = .ok (.iload 6, 2) := by decide +kernel
theorem dX12_degrees_121 : decode cX12_degrees 121 = .ok (.dup2, 1) := by decide +kernel
theorem dX12_degrees_122 : decode cX12_degrees 122 = .ok (.laload, 1) := by decide +kernel
theorem dX12_degrees_123 : decode cX12_degrees 123 = .ok (.lconst 1, 1) := by decide +kernel
theorem dX12_degrees_124 : decode cX12_degrees 124 = .ok (.ladd, 1) := by decide +kernel
theorem dX12_degrees_125 : decode cX12_degrees 125 = .ok (.lastore, 1) := by decide +kernel
theorem dX12_degrees_126 : decode cX12_degrees 126 = .ok (.goto 25, 3) := by decide +kernel
theorem dX12_degrees_129 : decode cX12_degrees 129 = .ok (.aload_n 0, 1) := by decide +kernel
theorem dX12_degrees_130 : decode cX12_degrees 130 = .ok (.getfield 72, 3) := by decide +kernel
theorem dX12_degrees_133 : decode cX12_degrees 133 = .ok (.iload 5, 2) := by decide +kernel
theorem dX12_degrees_135 : decode cX12_degrees 135 = .ok (.dup2, 1) := by decide +kernel
theorem dX12_degrees_136 : decode cX12_degrees 136 = .ok (.laload, 1) := by decide +kernel
theorem dX12_degrees_137 : decode cX12_degrees 137 = .ok (.lconst 1, 1) := by decide +kernel
theorem dX12_degrees_138 : decode cX12_degrees 138 = .ok (.ladd, 1) := by decide +kernel
theorem dX12_degrees_139 : decode cX12_degrees 139 = .ok (.lastore, 1) := by decide +kernel
theorem dX12_degrees_140 : decode cX12_degrees 140 = .ok (.aload_n 0, 1) := by decide +kernel
theorem dX12_degrees_141 : decode cX12_degrees 141 = .ok (.getfield 72, 3) := by decide +kernel
theorem dX12_degrees_144 : decode cX12_degrees 144 = .ok (.iload 6, 2) := by decide +kernel
theorem dX12_degrees_146 : decode cX12_degrees 146 = .ok (.dup2, 1) := by decide +kernel
theorem dX12_degrees_147 : decode cX12_degrees 147 = .ok (.laload, 1) := by decide +kernel
theorem dX12_degrees_148 : decode cX12_degrees 148 = .ok (.lconst 1, 1) := by decide +kernel
theorem dX12_degrees_149 : decode cX12_degrees 149 = .ok (.ladd, 1) := by decide +kernel
theorem dX12_degrees_150 : decode cX12_degrees 150 = .ok (.lastore, 1) := by decide +kernel
theorem dX12_degrees_151 : decode cX12_degrees 151 = .ok (.iinc 3 1, 3) := by decide +kernel
theorem dX12_degrees_154 : decode cX12_degrees 154 = .ok (.goto (-152), 3) := by decide +kernel
theorem dX12_degrees_157 : decode cX12_degrees 157 = .ok (.return_, 1) := by decide +kernel
theorem dX12_cores_0 : decode cX12_cores 0 = .ok (.aload_n 0, 1) := by decide +kernel
theorem dX12_cores_1 : decode cX12_cores 1 = .ok (.getfield 13, 3) := by decide +kernel
theorem dX12_cores_4 : decode cX12_cores 4 = .ok (.iload_n 1, 1) := by decide +kernel
theorem dX12_cores_5 : decode cX12_cores 5 = .ok (.iaload, 1) := by decide +kernel
theorem dX12_cores_6 : decode cX12_cores 6 = .ok (.istore_n 2, 1) := by decide +kernel
theorem dX12_cores_7 : decode cX12_cores 7 = .ok (.iconst 1, 1) := by decide +kernel
theorem dX12_cores_8 : decode cX12_cores 8 = .ok (.istore_n 3, 1) := by decide +kernel
theorem dX12_cores_9 : decode cX12_cores 9 = .ok (.iload_n 3, 1) := by decide +kernel
theorem dX12_cores_10 : decode cX12_cores 10 = .ok (.iconst 1, 1) := by decide +kernel
theorem dX12_cores_11 : decode cX12_cores 11 = .ok (.iload_n 2, 1) := by decide +kernel
theorem dX12_cores_12 : decode cX12_cores 12 = .ok (.ishl, 1) := by decide +kernel
theorem dX12_cores_13 : decode cX12_cores 13 = .ok (.if_icmp .ge 254, 3) := by decide +kernel
theorem dX12_cores_16 : decode cX12_cores 16 = .ok (.iconst 0, 1) := by decide +kernel
theorem dX12_cores_17 : decode cX12_cores 17 = .ok (.istore 4, 2) := by decide +kernel
theorem dX12_cores_19 : decode cX12_cores 19 = .ok (.iload 4, 2) := by decide +kernel
theorem dX12_cores_21 : decode cX12_cores 21 = .ok (.iload_n 2, 1) := by decide +kernel
theorem dX12_cores_22 : decode cX12_cores 22 = .ok (.if_icmp .ge 17, 3) := by decide +kernel
theorem dX12_cores_25 : decode cX12_cores 25 = .ok (.aload_n 0, 1) := by decide +kernel
theorem dX12_cores_26 : decode cX12_cores 26 = .ok (.getfield 78, 3) := by decide +kernel
theorem dX12_cores_29 : decode cX12_cores 29 = .ok (.iload 4, 2) := by decide +kernel
theorem dX12_cores_31 : decode cX12_cores 31 = .ok (.iconst 0, 1) := by decide +kernel
theorem dX12_cores_32 : decode cX12_cores 32 = .ok (.iastore, 1) := by decide +kernel
theorem dX12_cores_33 : decode cX12_cores 33 = .ok (.iinc 4 1, 3) := by decide +kernel
theorem dX12_cores_36 : decode cX12_cores 36 = .ok (.goto (-17), 3) := by decide +kernel
theorem dX12_cores_39 : decode cX12_cores 39 = .ok (.iconst 0, 1) := by decide +kernel
theorem dX12_cores_40 : decode cX12_cores 40 = .ok (.istore 4, 2) := by decide +kernel
theorem dX12_cores_42 : decode cX12_cores 42 = .ok (.iload 4, 2) := by decide +kernel
theorem dX12_cores_44 : decode cX12_cores 44 = .ok (.aload_n 0, 1) := by decide +kernel
theorem dX12_cores_45 : decode cX12_cores 45 = .ok (.getfield 20, 3) := by decide +kernel
theorem dX12_cores_48 : decode cX12_cores 48 = .ok (.iload_n 1, 1) := by decide +kernel
theorem dX12_cores_49 : decode cX12_cores 49 = .ok (.iaload, 1) := by decide +kernel
theorem dX12_cores_50 : decode cX12_cores 50 = .ok (.if_icmp .ge 96, 3) := by decide +kernel
theorem dX12_cores_53 : decode cX12_cores 53 = .ok (.iload_n 1, 1) := by decide +kernel
theorem dX12_cores_54 : decode cX12_cores 54 = .ok (.iload 4, 2) := by decide +kernel
theorem dX12_cores_56 : decode cX12_cores 56 = .ok (.invokestatic 157, 3) := by decide +kernel
theorem dX12_cores_59 : decode cX12_cores 59 = .ok (.istore 5, 2) := by decide +kernel
theorem dX12_cores_61 : decode cX12_cores 61 = .ok (.aload_n 0, 1) := by decide +kernel
theorem dX12_cores_62 : decode cX12_cores 62 = .ok (.getfield 23, 3) := by decide +kernel
theorem dX12_cores_65 : decode cX12_cores 65 = .ok (.iload 5, 2) := by decide +kernel
theorem dX12_cores_67 : decode cX12_cores 67 = .ok (.iaload, 1) := by decide +kernel
theorem dX12_cores_68 : decode cX12_cores 68 = .ok (.aload_n 0, 1) := by decide +kernel
theorem dX12_cores_69 : decode cX12_cores 69 = .ok (.getfield 26, 3) := by decide +kernel
theorem dX12_cores_72 : decode cX12_cores 72 = .ok (.iload 5, 2) := by decide +kernel
theorem dX12_cores_74 : decode cX12_cores 74 = .ok (.iaload, 1) := by decide +kernel
theorem dX12_cores_75 : decode cX12_cores 75 = .ok (.if_icmp .eq 65, 3) := by decide +kernel
theorem dX12_cores_78 : decode cX12_cores 78 = .ok (.iload_n 3, 1) := by decide +kernel
theorem dX12_cores_79 : decode cX12_cores 79 = .ok (.aload_n 0, 1) := by decide +kernel
theorem dX12_cores_80 : decode cX12_cores 80 = .ok (.getfield 23, 3) := by decide +kernel
theorem dX12_cores_83 : decode cX12_cores 83 = .ok (.iload 5, 2) := by decide +kernel
theorem dX12_cores_85 : decode cX12_cores 85 = .ok (.iaload, 1) := by decide +kernel
theorem dX12_cores_86 : decode cX12_cores 86 = .ok (.ishr, 1) := by decide +kernel
theorem dX12_cores_87 : decode cX12_cores 87 = .ok (.iconst 1, 1) := by decide +kernel
theorem dX12_cores_88 : decode cX12_cores 88 = .ok (.iand, 1) := by decide +kernel
theorem dX12_cores_89 : decode cX12_cores 89 = .ok (.iconst 1, 1) := by decide +kernel
theorem dX12_cores_90 : decode cX12_cores 90 = .ok (.if_icmp .ne 50, 3) := by decide +kernel
theorem dX12_cores_93 : decode cX12_cores 93 = .ok (.iload_n 3, 1) := by decide +kernel
theorem dX12_cores_94 : decode cX12_cores 94 = .ok (.aload_n 0, 1) := by decide +kernel
theorem dX12_cores_95 : decode cX12_cores 95 = .ok (.getfield 26, 3) := by decide +kernel
theorem dX12_cores_98 : decode cX12_cores 98 = .ok (.iload 5, 2) := by decide +kernel
theorem dX12_cores_100 : decode cX12_cores 100 = .ok (.iaload, 1) := by decide +kernel
theorem dX12_cores_101 : decode cX12_cores 101 = .ok (.ishr, 1) := by decide +kernel
theorem dX12_cores_102 : decode cX12_cores 102 = .ok (.iconst 1, 1) := by decide +kernel
theorem dX12_cores_103 : decode cX12_cores 103 = .ok (.iand, 1) := by decide +kernel
theorem dX12_cores_104 : decode cX12_cores 104 = .ok (.iconst 1, 1) := by decide +kernel
theorem dX12_cores_105 : decode cX12_cores 105 = .ok (.if_icmp .ne 35, 3) := by decide +kernel
theorem dX12_cores_108 : decode cX12_cores 108 = .ok (.aload_n 0, 1) := by decide +kernel
theorem dX12_cores_109 : decode cX12_cores 109 = .ok (.getfield 78, 3) := by decide +kernel
theorem dX12_cores_112 : decode cX12_cores 112 = .ok (.aload_n 0, 1) := by decide +kernel
theorem dX12_cores_113 : decode cX12_cores 113 = .ok (.getfield 23, 3) := by decide +kernel
theorem dX12_cores_116 : decode cX12_cores 116 = .ok (.iload 5, 2) := by decide +kernel
theorem dX12_cores_118 : decode cX12_cores 118 = .ok (.iaload, 1) := by decide +kernel
theorem dX12_cores_119 : decode cX12_cores 119 = .ok (.dup2, 1) := by decide +kernel
theorem dX12_cores_120 : decode cX12_cores 120 = .ok (.iaload, 1) := by decide +kernel
theorem dX12_cores_121 : decode cX12_cores 121 = .ok (.iconst 1, 1) := by decide +kernel
theorem dX12_cores_122 : decode cX12_cores 122 = .ok (.iadd, 1) := by decide +kernel
theorem dX12_cores_123 : decode cX12_cores 123 = .ok (.iastore, 1) := by decide +kernel
theorem dX12_cores_124 : decode cX12_cores 124 = .ok (.aload_n 0, 1) := by decide +kernel
theorem dX12_cores_125 : decode cX12_cores 125 = .ok (.getfield 78, 3) := by decide +kernel
theorem dX12_cores_128 : decode cX12_cores 128 = .ok (.aload_n 0, 1) := by decide +kernel
theorem dX12_cores_129 : decode cX12_cores 129 = .ok (.getfield 26, 3) := by decide +kernel
theorem dX12_cores_132 : decode cX12_cores 132 = .ok (.iload 5, 2) := by decide +kernel
theorem dX12_cores_134 : decode cX12_cores 134 = .ok (.iaload, 1) := by decide +kernel
theorem dX12_cores_135 : decode cX12_cores 135 = .ok (.dup2, 1) := by decide +kernel
theorem dX12_cores_136 : decode cX12_cores 136 = .ok (.iaload, 1) := by decide +kernel
theorem dX12_cores_137 : decode cX12_cores 137 = .ok (.iconst 1, 1) := by decide +kernel
theorem dX12_cores_138 : decode cX12_cores 138 = .ok (.iadd, 1) := by decide +kernel
theorem dX12_cores_139 : decode cX12_cores 139 = .ok (.iastore, 1) := by decide +kernel
theorem dX12_cores_140 : decode cX12_cores 140 = .ok (.iinc 4 1, 3) := by decide +kernel
theorem dX12_cores_143 : decode cX12_cores 143 = .ok (.goto (-101), 3) := by decide +kernel
theorem dX12_cores_146 : decode cX12_cores 146 = .ok (.sipush 1000, 3) := by decide +kernel
theorem dX12_cores_149 : decode cX12_cores 149 = .ok (.istore 4, 2) := by decide +kernel
theorem dX12_cores_151 : decode cX12_cores 151 = .ok (.iconst 0, 1) := by decide +kernel
theorem dX12_cores_152 : decode cX12_cores 152 = .ok (.istore 5, 2) := by decide +kernel
theorem dX12_cores_154 : decode cX12_cores 154 = .ok (.iload 5, 2) := by decide +kernel
theorem dX12_cores_156 : decode cX12_cores 156 = .ok (.iload_n 2, 1) := by decide +kernel
theorem dX12_cores_157 : decode cX12_cores 157 = .ok (.if_icmp .ge 45, 3) := by decide +kernel
theorem dX12_cores_160 : decode cX12_cores 160 = .ok (.iload_n 3, 1) := by decide +kernel
theorem dX12_cores_161 : decode cX12_cores 161 = .ok (.iload 5, 2) := by decide +kernel
theorem dX12_cores_163 : decode cX12_cores 163 = .ok (.ishr, 1) := by decide +kernel
theorem dX12_cores_164 : decode cX12_cores 164 = .ok (.iconst 1, 1) := by decide +kernel
theorem dX12_cores_165 : decode cX12_cores 165 = .ok (.iand, 1) := by decide +kernel
theorem dX12_cores_166 : decode cX12_cores 166 = .ok (.iconst 1, 1) := by decide +kernel
theorem dX12_cores_167 : decode cX12_cores 167 = .ok (.if_icmp .ne 25, 3) := by decide +kernel
theorem dX12_cores_170 : decode cX12_cores 170 = .ok (.aload_n 0, 1) := by decide +kernel
theorem dX12_cores_171 : decode cX12_cores 171 = .ok (.getfield 78, 3) := by decide +kernel
theorem dX12_cores_174 : decode cX12_cores 174 = .ok (.iload 5, 2) := by decide +kernel
theorem dX12_cores_176 : decode cX12_cores 176 = .ok (.iaload, 1) := by decide +kernel
theorem dX12_cores_177 : decode cX12_cores 177 = .ok (.iload 4, 2) := by decide +kernel
theorem dX12_cores_179 : decode cX12_cores 179 = .ok (.if_icmp .ge 13, 3) := by decide +kernel
theorem dX12_cores_182 : decode cX12_cores 182 = .ok (.aload_n 0, 1) := by decide +kernel
theorem dX12_cores_183 : decode cX12_cores 183 = .ok (.getfield 78, 3) := by decide +kernel
theorem dX12_cores_186 : decode cX12_cores 186 = .ok (.iload 5, 2) := by decide +kernel
theorem dX12_cores_188 : decode cX12_cores 188 = .ok (.iaload, 1) := by decide +kernel
theorem dX12_cores_189 : decode cX12_cores 189 = .ok (.goto 5, 3) := by decide +kernel
theorem dX12_cores_192 : decode cX12_cores 192 = .ok (.iload 4, 2) := by decide +kernel
theorem dX12_cores_194 : decode cX12_cores 194 = .ok (.istore 4, 2) := by decide +kernel
theorem dX12_cores_196 : decode cX12_cores 196 = .ok (.iinc 5 1, 3) := by decide +kernel
theorem dX12_cores_199 : decode cX12_cores 199 = .ok (.goto (-45), 3) := by decide +kernel
theorem dX12_cores_202 : decode cX12_cores 202 = .ok (.iconst 0, 1) := by decide +kernel
theorem dX12_cores_203 : decode cX12_cores 203 = .ok (.istore 5, 2) := by decide +kernel
theorem dX12_cores_205 : decode cX12_cores 205 = .ok (.iload 5, 2) := by decide +kernel
theorem dX12_cores_207 : decode cX12_cores 207 = .ok (.iload_n 2, 1) := by decide +kernel
theorem dX12_cores_208 : decode cX12_cores 208 = .ok (.if_icmp .ge 53, 3) := by decide +kernel
theorem dX12_cores_211 : decode cX12_cores 211 = .ok (.aload_n 0, 1) := by decide +kernel
theorem dX12_cores_212 : decode cX12_cores 212 = .ok (.getfield 72, 3) := by decide +kernel
theorem dX12_cores_215 : decode cX12_cores 215 = .ok (.iload 5, 2) := by decide +kernel
theorem dX12_cores_217 : decode cX12_cores 217 = .ok (.iload_n 3, 1) := by decide +kernel
theorem dX12_cores_218 : decode cX12_cores 218 = .ok (.iload 5, 2) := by decide +kernel
theorem dX12_cores_220 : decode cX12_cores 220 = .ok (.ishr, 1) := by decide +kernel
theorem dX12_cores_221 : decode cX12_cores 221 = .ok (.iconst 1, 1) := by decide +kernel
theorem dX12_cores_222 : decode cX12_cores 222 = .ok (.iand, 1) := by decide +kernel
theorem dX12_cores_223 : decode cX12_cores 223 = .ok (.iconst 1, 1) := by decide +kernel
theorem dX12_cores_224 : decode cX12_cores 224 = .ok (.if_icmp .ne 23, 3) := by decide +kernel
theorem dX12_cores_227 : decode cX12_cores 227 = .ok (.iload 4, 2) := by decide +kernel
theorem dX12_cores_229 : decode cX12_cores 229 = .ok (.i2l, 1) := by decide +kernel
theorem dX12_cores_230 : decode cX12_cores 230 = .ok (.aload_n 0, 1) := by decide +kernel
theorem dX12_cores_231 : decode cX12_cores 231 = .ok (.getfield 72, 3) := by decide +kernel
theorem dX12_cores_234 : decode cX12_cores 234 = .ok (.iload 5, 2) := by decide +kernel
theorem dX12_cores_236 : decode cX12_cores 236 = .ok (.laload, 1) := by decide +kernel
theorem dX12_cores_237 : decode cX12_cores 237 = .ok (.lcmp, 1) := by decide +kernel
theorem dX12_cores_238 : decode cX12_cores 238 = .ok (.ifCond .le 9, 3) := by decide +kernel
theorem dX12_cores_241 : decode cX12_cores 241 = .ok (.iload 4, 2) := by decide +kernel
theorem dX12_cores_243 : decode cX12_cores 243 = .ok (.i2l, 1) := by decide +kernel
theorem dX12_cores_244 : decode cX12_cores 244 = .ok (.goto 10, 3) := by decide +kernel
theorem dX12_cores_247 : decode cX12_cores 247 = .ok (.aload_n 0, 1) := by decide +kernel
theorem dX12_cores_248 : decode cX12_cores 248 = .ok (.getfield 72, 3) := by decide +kernel
theorem dX12_cores_251 : decode cX12_cores 251 = .ok (.iload 5, 2) := by decide +kernel
theorem dX12_cores_253 : decode cX12_cores 253 = .ok (.laload, 1) := by decide +kernel
theorem dX12_cores_254 : decode cX12_cores 254 = .ok (.lastore, 1) := by decide +kernel
theorem dX12_cores_255 : decode cX12_cores 255 = .ok (.iinc 5 1, 3) := by decide +kernel
theorem dX12_cores_258 : decode cX12_cores 258 = .ok (.goto (-53), 3) := by decide +kernel
theorem dX12_cores_261 : decode cX12_cores 261 = .ok (.iinc 3 1, 3) := by decide +kernel
theorem dX12_cores_264 : decode cX12_cores 264 = .ok (.goto (-255), 3) := by decide +kernel
theorem dX12_cores_267 : decode cX12_cores 267 = .ok (.return_, 1) := by decide +kernel
theorem dX12_reach_0 : decode cX12_reach 0 = .ok (.iconst 0, 1) := by decide +kernel
theorem dX12_reach_1 : decode cX12_reach 1 = .ok (.istore_n 3, 1) := by decide +kernel
theorem dX12_reach_2 : decode cX12_reach 2 = .ok (.iconst 0, 1) := by decide +kernel
theorem dX12_reach_3 : decode cX12_reach 3 = .ok (.istore 4, 2) := by decide +kernel
theorem dX12_reach_5 : decode cX12_reach 5 = .ok (.iload 4, 2) := by decide +kernel
theorem dX12_reach_7 : decode cX12_reach 7 = .ok (.aload_n 0, 1) := by decide +kernel
theorem dX12_reach_8 : decode cX12_reach 8 = .ok (.getfield 20, 3) := by decide +kernel
theorem dX12_reach_11 : decode cX12_reach 11 = .ok (.iload_n 1, 1) := by decide +kernel
theorem dX12_reach_12 : decode cX12_reach 12 = .ok (.iaload, 1) := by decide +kernel
theorem dX12_reach_13 : decode cX12_reach 13 = .ok (.if_icmp .ge 80, 3) := by decide +kernel
theorem dX12_reach_16 : decode cX12_reach 16 = .ok (.iload_n 1, 1) := by decide +kernel
theorem dX12_reach_17 : decode cX12_reach 17 = .ok (.iload 4, 2) := by decide +kernel
theorem dX12_reach_19 : decode cX12_reach 19 = .ok (.invokestatic 157, 3) := by decide +kernel
theorem dX12_reach_22 : decode cX12_reach 22 = .ok (.istore 5, 2) := by decide +kernel
theorem dX12_reach_24 : decode cX12_reach 24 = .ok (.iload_n 2, 1) := by decide +kernel
theorem dX12_reach_25 : decode cX12_reach 25 = .ok (.aload_n 0, 1) := by decide +kernel
theorem dX12_reach_26 : decode cX12_reach 26 = .ok (.getfield 23, 3) := by decide +kernel
theorem dX12_reach_29 : decode cX12_reach 29 = .ok (.iload 5, 2) := by decide +kernel
theorem dX12_reach_31 : decode cX12_reach 31 = .ok (.iaload, 1) := by decide +kernel
theorem dX12_reach_32 : decode cX12_reach 32 = .ok (.ishr, 1) := by decide +kernel
theorem dX12_reach_33 : decode cX12_reach 33 = .ok (.iconst 1, 1) := by decide +kernel
theorem dX12_reach_34 : decode cX12_reach 34 = .ok (.iand, 1) := by decide +kernel
theorem dX12_reach_35 : decode cX12_reach 35 = .ok (.iconst 1, 1) := by decide +kernel
theorem dX12_reach_36 : decode cX12_reach 36 = .ok (.if_icmp .ne 15, 3) := by decide +kernel
theorem dX12_reach_39 : decode cX12_reach 39 = .ok (.iload_n 3, 1) := by decide +kernel
theorem dX12_reach_40 : decode cX12_reach 40 = .ok (.iconst 1, 1) := by decide +kernel
theorem dX12_reach_41 : decode cX12_reach 41 = .ok (.aload_n 0, 1) := by decide +kernel
theorem dX12_reach_42 : decode cX12_reach 42 = .ok (.getfield 26, 3) := by decide +kernel
theorem dX12_reach_45 : decode cX12_reach 45 = .ok (.iload 5, 2) := by decide +kernel
theorem dX12_reach_47 : decode cX12_reach 47 = .ok (.iaload, 1) := by decide +kernel
theorem dX12_reach_48 : decode cX12_reach 48 = .ok (.ishl, 1) := by decide +kernel
theorem dX12_reach_49 : decode cX12_reach 49 = .ok (.ior, 1) := by decide +kernel
theorem dX12_reach_50 : decode cX12_reach 50 = .ok (.istore_n 3, 1) := by decide +kernel
theorem dX12_reach_51 : decode cX12_reach 51 = .ok (.aload_n 0, 1) := by decide +kernel
theorem dX12_reach_52 : decode cX12_reach 52 = .ok (.getfield 16, 3) := by decide +kernel
theorem dX12_reach_55 : decode cX12_reach 55 = .ok (.iload_n 1, 1) := by decide +kernel
theorem dX12_reach_56 : decode cX12_reach 56 = .ok (.baload, 1) := by decide +kernel
theorem dX12_reach_57 : decode cX12_reach 57 = .ok (.ifCond .ne 30, 3) := by decide +kernel
theorem dX12_reach_60 : decode cX12_reach 60 = .ok (.iload_n 2, 1) := by decide +kernel
theorem dX12_reach_61 : decode cX12_reach 61 = .ok (.aload_n 0, 1) := by decide +kernel
theorem dX12_reach_62 : decode cX12_reach 62 = .ok (.getfield 26, 3) := by decide +kernel
theorem dX12_reach_65 : decode cX12_reach 65 = .ok (.iload 5, 2) := by decide +kernel
theorem dX12_reach_67 : decode cX12_reach 67 = .ok (.iaload, 1) := by decide +kernel
theorem dX12_reach_68 : decode cX12_reach 68 = .ok (.ishr, 1) := by decide +kernel
theorem dX12_reach_69 : decode cX12_reach 69 = .ok (.iconst 1, 1) := by decide +kernel
theorem dX12_reach_70 : decode cX12_reach 70 = .ok (.iand, 1) := by decide +kernel
theorem dX12_reach_71 : decode cX12_reach 71 = .ok (.iconst 1, 1) := by decide +kernel
theorem dX12_reach_72 : decode cX12_reach 72 = .ok (.if_icmp .ne 15, 3) := by decide +kernel
theorem dX12_reach_75 : decode cX12_reach 75 = .ok (.iload_n 3, 1) := by decide +kernel
theorem dX12_reach_76 : decode cX12_reach 76 = .ok (.iconst 1, 1) := by decide +kernel
theorem dX12_reach_77 : decode cX12_reach 77 = .ok (.aload_n 0, 1) := by decide +kernel
theorem dX12_reach_78 : decode cX12_reach 78 = .ok (.getfield 23, 3) := by decide +kernel
theorem dX12_reach_81 : decode cX12_reach 81 = .ok (.iload 5, 2) := by decide +kernel
theorem dX12_reach_83 : decode cX12_reach 83 = .ok (.iaload, 1) := by decide +kernel
theorem dX12_reach_84 : decode cX12_reach 84 = .ok (.ishl, 1) := by decide +kernel
theorem dX12_reach_85 : decode cX12_reach 85 = .ok (.ior, 1) := by decide +kernel
theorem dX12_reach_86 : decode cX12_reach 86 = .ok (.istore_n 3, 1) := by decide +kernel
theorem dX12_reach_87 : decode cX12_reach 87 = .ok (.iinc 4 1, 3) := by decide +kernel
theorem dX12_reach_90 : decode cX12_reach 90 = .ok (.goto (-85), 3) := by decide +kernel
theorem dX12_reach_93 : decode cX12_reach 93 = .ok (.iload_n 3, 1) := by decide +kernel
theorem dX12_reach_94 : decode cX12_reach 94 = .ok (.ireturn, 1) := by decide +kernel
theorem dX12_farthest_0 : decode cX12_farthest 0 = .ok (.iconst 0, 1) := by decide +kernel
theorem dX12_farthest_1 : decode cX12_farthest 1 = .ok (.istore_n 2, 1) := by decide +kernel
theorem dX12_farthest_2 : decode cX12_farthest 2 = .ok (.iload_n 2, 1) := by decide +kernel
theorem dX12_farthest_3 : decode cX12_farthest 3 = .ok (.aload_n 0, 1) := by decide +kernel
theorem dX12_farthest_4 : decode cX12_farthest 4 = .ok (.getfield 13, 3) := by decide +kernel
theorem dX12_farthest_7 : decode cX12_farthest 7 = .ok (.iload_n 1, 1) := by decide +kernel
theorem dX12_farthest_8 : decode cX12_farthest 8 = .ok (.iaload, 1) := by decide +kernel
theorem dX12_farthest_9 : decode cX12_farthest 9 = .ok (.if_icmp .ge 55, 3) := by decide +kernel
theorem dX12_farthest_12 : decode cX12_farthest 12 = .ok (.iconst 1, 1) := by decide +kernel
theorem dX12_farthest_13 : decode cX12_farthest 13 = .ok (.iload_n 2, 1) := by decide +kernel
theorem dX12_farthest_14 : decode cX12_farthest 14 = .ok (.ishl, 1) := by decide +kernel
theorem dX12_farthest_15 : decode cX12_farthest 15 = .ok (.istore_n 3, 1) := by decide +kernel
theorem dX12_farthest_16 : decode cX12_farthest 16 = .ok (.iload_n 3, 1) := by decide +kernel
theorem dX12_farthest_17 : decode cX12_farthest 17 = .ok (.aload_n 0, 1) := by decide +kernel
theorem dX12_farthest_18 : decode cX12_farthest 18 = .ok (.iload_n 1, 1) := by decide +kernel
theorem dX12_farthest_19 : decode cX12_farthest 19 = .ok (.iload_n 3, 1) := by decide +kernel
theorem dX12_farthest_20 : decode cX12_farthest 20 = .ok (.invokevirtual 231, 3) := by decide +kernel
theorem dX12_farthest_23 : decode cX12_farthest 23 = .ok (.ior, 1) := by decide +kernel
theorem dX12_farthest_24 : decode cX12_farthest 24 = .ok (.istore 4, 2) := by decide +kernel
theorem dX12_farthest_26 : decode cX12_farthest 26 = .ok (.iload 4, 2) := by decide +kernel
theorem dX12_farthest_28 : decode cX12_farthest 28 = .ok (.iload_n 3, 1) := by decide +kernel
theorem dX12_farthest_29 : decode cX12_farthest 29 = .ok (.if_icmp .eq 29, 3) := by decide +kernel
theorem dX12_farthest_32 : decode cX12_farthest 32 = .ok (.aload_n 0, 1) := by decide +kernel
theorem dX12_farthest_33 : decode cX12_farthest 33 = .ok (.getfield 72, 3) := by decide +kernel
theorem dX12_farthest_36 : decode cX12_farthest 36 = .ok (.iload_n 2, 1) := by decide +kernel
theorem dX12_farthest_37 : decode cX12_farthest 37 = .ok (.dup2, 1) := by decide +kernel
theorem dX12_farthest_38 : decode cX12_farthest 38 = .ok (.laload, 1) := by decide +kernel
theorem dX12_farthest_39 : decode cX12_farthest 39 = .ok (.lconst 1, 1) := by decide +kernel
theorem dX12_farthest_40 : decode cX12_farthest 40 = .ok (.ladd, 1) := by decide +kernel
theorem dX12_farthest_41 : decode cX12_farthest 41 = .ok (.lastore, 1) := by decide +kernel
theorem dX12_farthest_42 : decode cX12_farthest 42 = .ok (.iload 4, 2) := by decide +kernel
theorem dX12_farthest_44 : decode cX12_farthest 44 = .ok (.istore_n 3, 1) := by decide +kernel
theorem dX12_farthest_45 : decode cX12_farthest 45 = .ok (.iload_n 3, 1) := by decide +kernel
theorem dX12_farthest_46 : decode cX12_farthest 46 = .ok (.aload_n 0, 1) := by decide +kernel
theorem dX12_farthest_47 : decode cX12_farthest 47 = .ok (.iload_n 1, 1) := by decide +kernel
theorem dX12_farthest_48 : decode cX12_farthest 48 = .ok (.iload_n 3, 1) := by decide +kernel
theorem dX12_farthest_49 : decode cX12_farthest 49 = .ok (.invokevirtual 231, 3) := by decide +kernel
theorem dX12_farthest_52 : decode cX12_farthest 52 = .ok (.ior, 1) := by decide +kernel
theorem dX12_farthest_53 : decode cX12_farthest 53 = .ok (.istore 4, 2) := by decide +kernel
theorem dX12_farthest_55 : decode cX12_farthest 55 = .ok (.goto (-29), 3) := by decide +kernel
theorem dX12_farthest_58 : decode cX12_farthest 58 = .ok (.iinc 2 1, 3) := by decide +kernel
theorem dX12_farthest_61 : decode cX12_farthest 61 = .ok (.goto (-59), 3) := by decide +kernel
theorem dX12_farthest_64 : decode cX12_farthest 64 = .ok (.return_, 1) := by decide +kernel
theorem kX12_231 : lkK (gS, X) RX12 231 mX12_reach 2 ∧ Cond.instanceMethod yX12_reach ∈ g_ws (gS, X) ∧ Cond.selects RX12 yX12_reach yX12_reach ∈ g_ws (gS, X) ∧ yX12_reach.cls = RX12 := ⟨⟨tb_good, (tb_t (k := 1374) (w := Cond.methodLink RX12 231 yX12_reach) (by decide +kernel)), (tb_t (k := 8) (w := Cond.initialized RX12) (by decide +kernel)), (tb_t (k := 1377) (w := Cond.code yX12_reach cX12_reach 6 (some .int)) (by decide +kernel)), by decide +kernel, by decide⟩, (tb_t (k := 1376) (w := Cond.instanceMethod yX12_reach) (by decide +kernel)), (tb_p (k := 92) (q := (yX12_reach, 45)) (by decide +kernel)), rfl⟩
theorem dX12_walks_0 : decode cX12_walks 0 = .ok (.aload_n 0, 1) := by decide +kernel
theorem dX12_walks_1 : decode cX12_walks 1 = .ok (.getfield 13, 3) := by decide +kernel
theorem dX12_walks_4 : decode cX12_walks 4 = .ok (.iload_n 1, 1) := by decide +kernel
theorem dX12_walks_5 : decode cX12_walks 5 = .ok (.iaload, 1) := by decide +kernel
theorem dX12_walks_6 : decode cX12_walks 6 = .ok (.istore_n 3, 1) := by decide +kernel
theorem dX12_walks_7 : decode cX12_walks 7 = .ok (.iconst 0, 1) := by decide +kernel
theorem dX12_walks_8 : decode cX12_walks 8 = .ok (.istore 4, 2) := by decide +kernel
theorem dX12_walks_10 : decode cX12_walks 10 = .ok (.iload 4, 2) := by decide +kernel
theorem dX12_walks_12 : decode cX12_walks 12 = .ok (.iload_n 2, 1) := by decide +kernel
theorem dX12_walks_13 : decode cX12_walks 13 = .ok (.if_icmp .ge 117, 3) := by decide +kernel
theorem dX12_walks_16 : decode cX12_walks 16 = .ok (.iconst 0, 1) := by decide +kernel
theorem dX12_walks_17 : decode cX12_walks 17 = .ok (.istore 5, 2) := by decide +kernel
theorem dX12_walks_19 : decode cX12_walks 19 = .ok (.iload 5, 2) := by decide +kernel
theorem dX12_walks_21 : decode cX12_walks 21 = .ok (.iload_n 3, 1) := by decide +kernel
theorem dX12_walks_22 : decode cX12_walks 22 = .ok (.if_icmp .ge 73, 3) := by decide +kernel
theorem dX12_walks_25 : decode cX12_walks 25 = .ok (.lconst 0, 1) := by decide +kernel
theorem dX12_walks_26 : decode cX12_walks 26 = .ok (.lstore 6, 2) := by decide +kernel
theorem dX12_walks_28 : decode cX12_walks 28 = .ok (.iconst 0, 1) := by decide +kernel
theorem dX12_walks_29 : decode cX12_walks 29 = .ok (.istore 8, 2) := by decide +kernel
theorem dX12_walks_31 : decode cX12_walks 31 = .ok (.iload 8, 2) := by decide +kernel
theorem dX12_walks_33 : decode cX12_walks 33 = .ok (.aload_n 0, 1) := by decide +kernel
theorem dX12_walks_34 : decode cX12_walks 34 = .ok (.getfield 20, 3) := by decide +kernel
theorem dX12_walks_37 : decode cX12_walks 37 = .ok (.iload_n 1, 1) := by decide +kernel
theorem dX12_walks_38 : decode cX12_walks 38 = .ok (.iaload, 1) := by decide +kernel
theorem dX12_walks_39 : decode cX12_walks 39 = .ok (.if_icmp .ge 41, 3) := by decide +kernel
theorem dX12_walks_42 : decode cX12_walks 42 = .ok (.aload_n 0, 1) := by decide +kernel
theorem dX12_walks_43 : decode cX12_walks 43 = .ok (.iload_n 1, 1) := by decide +kernel
theorem dX12_walks_44 : decode cX12_walks 44 = .ok (.iload 8, 2) := by decide +kernel
theorem dX12_walks_46 : decode cX12_walks 46 = .ok (.iload 5, 2) := by decide +kernel
theorem dX12_walks_48 : decode cX12_walks 48 = .ok (.invokevirtual 205, 3) := by decide +kernel
theorem dX12_walks_51 : decode cX12_walks 51 = .ok (.istore 9, 2) := by decide +kernel
theorem dX12_walks_53 : decode cX12_walks 53 = .ok (.lload 6, 2) := by decide +kernel
theorem dX12_walks_55 : decode cX12_walks 55 = .ok (.iload 9, 2) := by decide +kernel
theorem dX12_walks_57 : decode cX12_walks 57 = .ok (.ifCond .lt 13, 3) := by decide +kernel
theorem dX12_walks_60 : decode cX12_walks 60 = .ok (.aload_n 0, 1) := by decide +kernel
theorem dX12_walks_61 : decode cX12_walks 61 = .ok (.getfield 72, 3) := by decide +kernel
theorem dX12_walks_64 : decode cX12_walks 64 = .ok (.iload 9, 2) := by decide +kernel
theorem dX12_walks_66 : decode cX12_walks 66 = .ok (.laload, 1) := by decide +kernel
theorem dX12_walks_67 : decode cX12_walks 67 = .ok (.goto 4, 3) := by decide +kernel
theorem dX12_walks_70 : decode cX12_walks 70 = .ok (.lconst 0, 1) := by decide +kernel
theorem dX12_walks_71 : decode cX12_walks 71 = .ok (.ladd, 1) := by decide +kernel
theorem dX12_walks_72 : decode cX12_walks 72 = .ok (.lstore 6, 2) := by decide +kernel
theorem dX12_walks_74 : decode cX12_walks 74 = .ok (.iinc 8 1, 3) := by decide +kernel
theorem dX12_walks_77 : decode cX12_walks 77 = .ok (.goto (-46), 3) := by decide +kernel
theorem dX12_walks_80 : decode cX12_walks 80 = .ok (.aload_n 0, 1) := by decide +kernel
theorem dX12_walks_81 : decode cX12_walks 81 = .ok (.getfield 75, 3) := by decide +kernel
theorem dX12_walks_84 : decode cX12_walks 84 = .ok (.iload 5, 2) := by decide +kernel
theorem dX12_walks_86 : decode cX12_walks 86 = .ok (.lload 6, 2) := by decide +kernel
theorem dX12_walks_88 : decode cX12_walks 88 = .ok (.lastore, 1) := by decide +kernel
theorem dX12_walks_89 : decode cX12_walks 89 = .ok (.iinc 5 1, 3) := by decide +kernel
theorem dX12_walks_92 : decode cX12_walks 92 = .ok (.goto (-73), 3) := by decide +kernel
theorem dX12_walks_95 : decode cX12_walks 95 = .ok (.iconst 0, 1) := by decide +kernel
theorem dX12_walks_96 : decode cX12_walks 96 = .ok (.istore 5, 2) := by decide +kernel
theorem dX12_walks_98 : decode cX12_walks 98 = .ok (.iload 5, 2) := by decide +kernel
theorem dX12_walks_100 : decode cX12_walks 100 = .ok (.iload_n 3, 1) := by decide +kernel
theorem dX12_walks_101 : decode cX12_walks 101 = .ok (.if_icmp .ge 23, 3) := by decide +kernel
theorem dX12_walks_104 : decode cX12_walks 104 = .ok (.aload_n 0, 1) := by decide +kernel
theorem dX12_walks_105 : decode cX12_walks 105 = .ok (.getfield 72, 3) := by decide +kernel
theorem dX12_walks_108 : decode cX12_walks 108 = .ok (.iload 5, 2) := by decide +kernel
theorem dX12_walks_110 : decode cX12_walks 110 = .ok (.aload_n 0, 1) := by decide +kernel
theorem dX12_walks_111 : decode cX12_walks 111 = .ok (.getfield 75, 3) := by decide +kernel
theorem dX12_walks_114 : decode cX12_walks 114 = .ok (.iload 5, 2) := by decide +kernel
theorem dX12_walks_116 : decode cX12_walks 116 = .ok (.laload, 1) := by decide +kernel
theorem dX12_walks_117 : decode cX12_walks 117 = .ok (.lastore, 1) := by decide +kernel
theorem dX12_walks_118 : decode cX12_walks 118 = .ok (.iinc 5 1, 3) := by decide +kernel
theorem dX12_walks_121 : decode cX12_walks 121 = .ok (.goto (-23), 3) := by decide +kernel
theorem dX12_walks_124 : decode cX12_walks 124 = .ok (.iinc 4 1, 3) := by decide +kernel
theorem dX12_walks_127 : decode cX12_walks 127 = .ok (.goto (-117), 3) := by decide +kernel
theorem dX12_walks_130 : decode cX12_walks 130 = .ok (.return_, 1) := by decide +kernel
theorem dX12_joinsOf_0 : decode cX12_joinsOf 0 = .ok (.iconst 0, 1) := by decide +kernel
theorem dX12_joinsOf_1 : decode cX12_joinsOf 1 = .ok (.istore_n 3, 1) := by decide +kernel
theorem dX12_joinsOf_2 : decode cX12_joinsOf 2 = .ok (.iload_n 3, 1) := by decide +kernel
theorem dX12_joinsOf_3 : decode cX12_joinsOf 3 = .ok (.bipush 16, 2) := by decide +kernel
theorem dX12_joinsOf_5 : decode cX12_joinsOf 5 = .ok (.if_icmp .ge 16, 3) := by decide +kernel
theorem dX12_joinsOf_8 : decode cX12_joinsOf 8 = .ok (.aload_n 0, 1) := by decide +kernel
theorem dX12_joinsOf_9 : decode cX12_joinsOf 9 = .ok (.getfield 81, 3) := by decide +kernel
theorem dX12_joinsOf_12 : decode cX12_joinsOf 12 = .ok (.iload_n 3, 1) := by decide +kernel
theorem dX12_joinsOf_13 : decode cX12_joinsOf 13 = .ok (.iconst 0, 1) := by decide +kernel
theorem dX12_joinsOf_14 : decode cX12_joinsOf 14 = .ok (.iastore, 1) := by decide +kernel
theorem dX12_joinsOf_15 : decode cX12_joinsOf 15 = .ok (.iinc 3 1, 3) := by decide +kernel
theorem dX12_joinsOf_18 : decode cX12_joinsOf 18 = .ok (.goto (-16), 3) := by decide +kernel
theorem dX12_joinsOf_21 : decode cX12_joinsOf 21 = .ok (.iconst 0, 1) := by decide +kernel
theorem dX12_joinsOf_22 : decode cX12_joinsOf 22 = .ok (.istore_n 3, 1) := by decide +kernel
theorem dX12_joinsOf_23 : decode cX12_joinsOf 23 = .ok (.iload_n 3, 1) := by decide +kernel
theorem dX12_joinsOf_24 : decode cX12_joinsOf 24 = .ok (.aload_n 0, 1) := by decide +kernel
theorem dX12_joinsOf_25 : decode cX12_joinsOf 25 = .ok (.getfield 20, 3) := by decide +kernel
theorem dX12_joinsOf_28 : decode cX12_joinsOf 28 = .ok (.iload_n 1, 1) := by decide +kernel
theorem dX12_joinsOf_29 : decode cX12_joinsOf 29 = .ok (.iaload, 1) := by decide +kernel
theorem dX12_joinsOf_30 : decode cX12_joinsOf 30 = .ok (.if_icmp .ge 86, 3) := by decide +kernel
theorem dX12_joinsOf_33 : decode cX12_joinsOf 33 = .ok (.iload_n 1, 1) := by decide +kernel
theorem dX12_joinsOf_34 : decode cX12_joinsOf 34 = .ok (.iload_n 3, 1) := by decide +kernel
theorem dX12_joinsOf_35 : decode cX12_joinsOf 35 = .ok (.invokestatic 157, 3) := by decide +kernel
theorem dX12_joinsOf_38 : decode cX12_joinsOf 38 = .ok (.istore 4, 2) := by decide +kernel
theorem dX12_joinsOf_40 : decode cX12_joinsOf 40 = .ok (.iload_n 3, 1) := by decide +kernel
theorem dX12_joinsOf_41 : decode cX12_joinsOf 41 = .ok (.iload_n 2, 1) := by decide +kernel
theorem dX12_joinsOf_42 : decode cX12_joinsOf 42 = .ok (.if_icmp .eq 68, 3) := by decide +kernel
theorem dX12_joinsOf_45 : decode cX12_joinsOf 45 = .ok (.aload_n 0, 1) := by decide +kernel
theorem dX12_joinsOf_46 : decode cX12_joinsOf 46 = .ok (.getfield 23, 3) := by decide +kernel
theorem dX12_joinsOf_49 : decode cX12_joinsOf 49 = .ok (.iload 4, 2) := by decide +kernel
theorem dX12_joinsOf_51 : decode cX12_joinsOf 51 = .ok (.iaload, 1) := by decide +kernel
theorem dX12_joinsOf_52 : decode cX12_joinsOf 52 = .ok (.aload_n 0, 1) := by decide +kernel
theorem dX12_joinsOf_53 : decode cX12_joinsOf 53 = .ok (.getfield 26, 3) := by decide +kernel
theorem dX12_joinsOf_56 : decode cX12_joinsOf 56 = .ok (.iload 4, 2) := by decide +kernel
theorem dX12_joinsOf_58 : decode cX12_joinsOf 58 = .ok (.iaload, 1) := by decide +kernel
theorem dX12_joinsOf_59 : decode cX12_joinsOf 59 = .ok (.if_icmp .eq 51, 3) := by decide +kernel
theorem dX12_joinsOf_62 : decode cX12_joinsOf 62 = .ok (.aload_n 0, 1) := by decide +kernel
theorem dX12_joinsOf_63 : decode cX12_joinsOf 63 = .ok (.getfield 81, 3) := by decide +kernel
theorem dX12_joinsOf_66 : decode cX12_joinsOf 66 = .ok (.aload_n 0, 1) := by decide +kernel
theorem dX12_joinsOf_67 : decode cX12_joinsOf 67 = .ok (.getfield 23, 3) := by decide +kernel
theorem dX12_joinsOf_70 : decode cX12_joinsOf 70 = .ok (.iload 4, 2) := by decide +kernel
theorem dX12_joinsOf_72 : decode cX12_joinsOf 72 = .ok (.iaload, 1) := by decide +kernel
theorem dX12_joinsOf_73 : decode cX12_joinsOf 73 = .ok (.dup2, 1) := by decide +kernel
theorem dX12_joinsOf_74 : decode cX12_joinsOf 74 = .ok (.iaload, 1) := by decide +kernel
theorem dX12_joinsOf_75 : decode cX12_joinsOf 75 = .ok (.iconst 1, 1) := by decide +kernel
theorem dX12_joinsOf_76 : decode cX12_joinsOf 76 = .ok (.aload_n 0, 1) := by decide +kernel
theorem dX12_joinsOf_77 : decode cX12_joinsOf 77 = .ok (.getfield 26, 3) := by decide +kernel
theorem dX12_joinsOf_80 : decode cX12_joinsOf 80 = .ok (.iload 4, 2) := by decide +kernel
theorem dX12_joinsOf_82 : decode cX12_joinsOf 82 = .ok (.iaload, 1) := by decide +kernel
theorem dX12_joinsOf_83 : decode cX12_joinsOf 83 = .ok (.ishl, 1) := by decide +kernel
theorem dX12_joinsOf_84 : decode cX12_joinsOf 84 = .ok (.ior, 1) := by decide +kernel
theorem dX12_joinsOf_85 : decode cX12_joinsOf 85 = .ok (.iastore, 1) := by decide +kernel
theorem dX12_joinsOf_86 : decode cX12_joinsOf 86 = .ok (.aload_n 0, 1) := by decide +kernel
theorem dX12_joinsOf_87 : decode cX12_joinsOf 87 = .ok (.getfield 81, 3) := by decide +kernel
theorem dX12_joinsOf_90 : decode cX12_joinsOf 90 = .ok (.aload_n 0, 1) := by decide +kernel
theorem dX12_joinsOf_91 : decode cX12_joinsOf 91 = .ok (.getfield 26, 3) := by decide +kernel
theorem dX12_joinsOf_94 : decode cX12_joinsOf 94 = .ok (.iload 4, 2) := by decide +kernel
theorem dX12_joinsOf_96 : decode cX12_joinsOf 96 = .ok (.iaload, 1) := by decide +kernel
theorem dX12_joinsOf_97 : decode cX12_joinsOf 97 = .ok (.dup2, 1) := by decide +kernel
theorem dX12_joinsOf_98 : decode cX12_joinsOf 98 = .ok (.iaload, 1) := by decide +kernel
theorem dX12_joinsOf_99 : decode cX12_joinsOf 99 = .ok (.iconst 1, 1) := by decide +kernel
theorem dX12_joinsOf_100 : decode cX12_joinsOf 100 = .ok (.aload_n 0, 1) := by decide +kernel
theorem dX12_joinsOf_101 : decode cX12_joinsOf 101 = .ok (.getfield 23, 3) := by decide +kernel
theorem dX12_joinsOf_104 : decode cX12_joinsOf 104 = .ok (.iload 4, 2) := by decide +kernel
theorem dX12_joinsOf_106 : decode cX12_joinsOf 106 = .ok (.iaload, 1) := by decide +kernel
theorem dX12_joinsOf_107 : decode cX12_joinsOf 107 = .ok (.ishl, 1) := by decide +kernel
theorem dX12_joinsOf_108 : decode cX12_joinsOf 108 = .ok (.ior, 1) := by decide +kernel
theorem dX12_joinsOf_109 : decode cX12_joinsOf 109 = .ok (.iastore, 1) := by decide +kernel
theorem dX12_joinsOf_110 : decode cX12_joinsOf 110 = .ok (.iinc 3 1, 3) := by decide +kernel
theorem dX12_joinsOf_113 : decode cX12_joinsOf 113 = .ok (.goto (-90), 3) := by decide +kernel
theorem dX12_joinsOf_116 : decode cX12_joinsOf 116 = .ok (.return_, 1) := by decide +kernel
theorem dX12_together_0 : decode cX12_together 0 = .ok (.iload_n 1, 1) := by decide +kernel
theorem dX12_together_1 : decode cX12_together 1 = .ok (.iload_n 1, 1) := by decide +kernel
theorem dX12_together_2 : decode cX12_together 2 = .ok (.ineg, 1) := by decide +kernel
theorem dX12_together_3 : decode cX12_together 3 = .ok (.iand, 1) := by decide +kernel
theorem dX12_together_4 : decode cX12_together 4 = .ok (.istore_n 2, 1) := by decide +kernel
theorem dX12_together_5 : decode cX12_together 5 = .ok (.iconst 0, 1) := by decide +kernel
theorem dX12_together_6 : decode cX12_together 6 = .ok (.istore_n 3, 1) := by decide +kernel
theorem dX12_together_7 : decode cX12_together 7 = .ok (.iload_n 3, 1) := by decide +kernel
theorem dX12_together_8 : decode cX12_together 8 = .ok (.iload_n 2, 1) := by decide +kernel
theorem dX12_together_9 : decode cX12_together 9 = .ok (.if_icmp .eq 46, 3) := by decide +kernel
theorem dX12_together_12 : decode cX12_together 12 = .ok (.iload_n 2, 1) := by decide +kernel
theorem dX12_together_13 : decode cX12_together 13 = .ok (.istore_n 3, 1) := by decide +kernel
theorem dX12_together_14 : decode cX12_together 14 = .ok (.iconst 0, 1) := by decide +kernel
theorem dX12_together_15 : decode cX12_together 15 = .ok (.istore 4, 2) := by decide +kernel
theorem dX12_together_17 : decode cX12_together 17 = .ok (.iload 4, 2) := by decide +kernel
theorem dX12_together_19 : decode cX12_together 19 = .ok (.bipush 16, 2) := by decide +kernel
theorem dX12_together_21 : decode cX12_together 21 = .ok (.if_icmp .ge 31, 3) := by decide +kernel
theorem dX12_together_24 : decode cX12_together 24 = .ok (.iload_n 3, 1) := by decide +kernel
theorem dX12_together_25 : decode cX12_together 25 = .ok (.iload 4, 2) := by decide +kernel
theorem dX12_together_27 : decode cX12_together 27 = .ok (.ishr, 1) := by decide +kernel
theorem dX12_together_28 : decode cX12_together 28 = .ok (.iconst 1, 1) := by decide +kernel
theorem dX12_together_29 : decode cX12_together 29 = .ok (.iand, 1) := by decide +kernel
theorem dX12_together_30 : decode cX12_together 30 = .ok (.iconst 1, 1) := by decide +kernel
theorem dX12_together_31 : decode cX12_together 31 = .ok (.if_icmp .ne 15, 3) := by decide +kernel
theorem dX12_together_34 : decode cX12_together 34 = .ok (.iload_n 2, 1) := by decide +kernel
theorem dX12_together_35 : decode cX12_together 35 = .ok (.aload_n 0, 1) := by decide +kernel
theorem dX12_together_36 : decode cX12_together 36 = .ok (.getfield 81, 3) := by decide +kernel
theorem dX12_together_39 : decode cX12_together 39 = .ok (.iload 4, 2) := by decide +kernel
theorem dX12_together_41 : decode cX12_together 41 = .ok (.iaload, 1) := by decide +kernel
theorem dX12_together_42 : decode cX12_together 42 = .ok (.iload_n 1, 1) := by decide +kernel
theorem dX12_together_43 : decode cX12_together 43 = .ok (.iand, 1) := by decide +kernel
theorem dX12_together_44 : decode cX12_together 44 = .ok (.ior, 1) := by decide +kernel
theorem dX12_together_45 : decode cX12_together 45 = .ok (.istore_n 2, 1) := by decide +kernel
theorem dX12_together_46 : decode cX12_together 46 = .ok (.iinc 4 1, 3) := by decide +kernel
theorem dX12_together_49 : decode cX12_together 49 = .ok (.goto (-32), 3) := by decide +kernel
theorem dX12_together_52 : decode cX12_together 52 = .ok (.goto (-45), 3) := by decide +kernel
theorem dX12_together_55 : decode cX12_together 55 = .ok (.iload_n 2, 1) := by decide +kernel
theorem dX12_together_56 : decode cX12_together 56 = .ok (.ireturn, 1) := by decide +kernel
theorem dX12_blocks_0 : decode cX12_blocks 0 = .ok (.aload_n 0, 1) := by decide +kernel
theorem dX12_blocks_1 : decode cX12_blocks 1 = .ok (.getfield 13, 3) := by decide +kernel
theorem dX12_blocks_4 : decode cX12_blocks 4 = .ok (.iload_n 1, 1) := by decide +kernel
theorem dX12_blocks_5 : decode cX12_blocks 5 = .ok (.iaload, 1) := by decide +kernel
theorem dX12_blocks_6 : decode cX12_blocks 6 = .ok (.istore_n 2, 1) := by decide +kernel
theorem dX12_blocks_7 : decode cX12_blocks 7 = .ok (.aload_n 0, 1) := by decide +kernel
theorem dX12_blocks_8 : decode cX12_blocks 8 = .ok (.iload_n 1, 1) := by decide +kernel
theorem dX12_blocks_9 : decode cX12_blocks 9 = .ok (.iconst (-1), 1) := by decide +kernel
theorem dX12_blocks_10 : decode cX12_blocks 10 = .ok (.invokevirtual 234, 3) := by decide +kernel
theorem dX12_blocks_13 : decode cX12_blocks 13 = .ok (.iconst 0, 1) := by decide +kernel
theorem dX12_blocks_14 : decode cX12_blocks 14 = .ok (.istore_n 3, 1) := by decide +kernel
theorem dX12_blocks_15 : decode cX12_blocks 15 = .ok (.iload_n 3, 1) := by decide +kernel
theorem dX12_blocks_16 : decode cX12_blocks 16 = .ok (.iconst 1, 1) := by decide +kernel
theorem dX12_blocks_17 : decode cX12_blocks 17 = .ok (.iload_n 2, 1) := by decide +kernel
theorem dX12_blocks_18 : decode cX12_blocks 18 = .ok (.ishl, 1) := by decide +kernel
theorem dX12_blocks_19 : decode cX12_blocks 19 = .ok (.if_icmp .ge 95, 3) := by decide +kernel
theorem dX12_blocks_22 : decode cX12_blocks 22 = .ok (.iload_n 3, 1) := by decide +kernel
theorem dX12_blocks_23 : decode cX12_blocks 23 = .ok (.invokestatic 201, 3) := by decide +kernel
theorem dX12_blocks_26 : decode cX12_blocks 26 = .ok (.iconst 1, 1) := by decide +kernel
theorem dX12_blocks_27 : decode cX12_blocks 27 = .ok (.if_icmp .le 16, 3) := by decide +kernel
theorem dX12_blocks_30 : decode cX12_blocks 30 = .ok (.aload_n 0, 1) := by decide +kernel
theorem dX12_blocks_31 : decode cX12_blocks 31 = .ok (.iload_n 3, 1) := by decide +kernel
theorem dX12_blocks_32 : decode cX12_blocks 32 = .ok (.invokevirtual 237, 3) := by decide +kernel
theorem dX12_blocks_35 : decode cX12_blocks 35 = .ok (.iload_n 3, 1) := by decide +kernel
theorem dX12_blocks_36 : decode cX12_blocks 36 = .ok (.if_icmp .ne 7, 3) := by decide +kernel
theorem dX12_blocks_39 : decode cX12_blocks 39 = .ok (.iconst 1, 1) := by decide +kernel
theorem dX12_blocks_40 : decode cX12_blocks 40 = .ok (.goto 4, 3) := by decide +kernel
theorem dX12_blocks_43 : decode cX12_blocks 43 = .ok (.iconst 0, 1) := by decide +kernel
theorem dX12_blocks_44 : decode cX12_blocks 44 = .ok (.istore 4, 2) := by decide +kernel
theorem dX12_blocks_46 : decode cX12_blocks 46 = .ok (.iconst 0, 1) := by decide +kernel
theorem dX12_blocks_47 : decode cX12_blocks 47 = .ok (.istore 5, 2) := by decide +kernel
theorem dX12_blocks_49 : decode cX12_blocks 49 = .ok (.iload 5, 2) := by decide +kernel
theorem dX12_blocks_51 : decode cX12_blocks 51 = .ok (.iload_n 2, 1) := by decide +kernel
theorem dX12_blocks_52 : decode cX12_blocks 52 = .ok (.if_icmp .ge 48, 3) := by decide +kernel
theorem dX12_blocks_55 : decode cX12_blocks 55 = .ok (.iload 4, 2) := by decide +kernel
theorem dX12_blocks_57 : decode cX12_blocks 57 = .ok (.ifCond .eq 43, 3) := by decide +kernel
theorem dX12_blocks_60 : decode cX12_blocks 60 = .ok (.iload_n 3, 1) := by decide +kernel
theorem dX12_blocks_61 : decode cX12_blocks 61 = .ok (.iconst 1, 1) := by decide +kernel
theorem dX12_blocks_62 : decode cX12_blocks 62 = .ok (.iload 5, 2) := by decide +kernel
theorem dX12_blocks_64 : decode cX12_blocks 64 = .ok (.ishl, 1) := by decide +kernel
theorem dX12_blocks_65 : decode cX12_blocks 65 = .ok (.iconst (-1), 1) := by decide +kernel
theorem dX12_blocks_66 : decode cX12_blocks 66 = .ok (.ixor, 1) := by decide +kernel
theorem dX12_blocks_67 : decode cX12_blocks 67 = .ok (.iand, 1) := by decide +kernel
theorem dX12_blocks_68 : decode cX12_blocks 68 = .ok (.istore 6, 2) := by decide +kernel
theorem dX12_blocks_70 : decode cX12_blocks 70 = .ok (.iload 6, 2) := by decide +kernel
theorem dX12_blocks_72 : decode cX12_blocks 72 = .ok (.iload_n 3, 1) := by decide +kernel
theorem dX12_blocks_73 : decode cX12_blocks 73 = .ok (.if_icmp .eq 14, 3) := by decide +kernel
theorem dX12_blocks_76 : decode cX12_blocks 76 = .ok (.aload_n 0, 1) := by decide +kernel
theorem dX12_blocks_77 : decode cX12_blocks 77 = .ok (.iload 6, 2) := by decide +kernel
theorem dX12_blocks_79 : decode cX12_blocks 79 = .ok (.invokevirtual 237, 3) := by decide +kernel
theorem dX12_blocks_82 : decode cX12_blocks 82 = .ok (.iload 6, 2) := by decide +kernel
theorem dX12_blocks_84 : decode cX12_blocks 84 = .ok (.if_icmp .ne 7, 3) := by decide +kernel
theorem dX12_blocks_87 : decode cX12_blocks 87 = .ok (.iconst 1, 1) := by decide +kernel
theorem dX12_blocks_88 : decode cX12_blocks 88 = .ok (.goto 4, 3) := by decide +kernel
theorem dX12_blocks_91 : decode cX12_blocks 91 = .ok (.iconst 0, 1) := by decide +kernel
theorem dX12_blocks_92 : decode cX12_blocks 92 = .ok (.istore 4, 2) := by decide +kernel
theorem dX12_blocks_94 : decode cX12_blocks 94 = .ok (.iinc 5 1, 3) := by decide +kernel
theorem dX12_blocks_97 : decode cX12_blocks 97 = .ok (.goto (-48), 3) := by decide +kernel
theorem dX12_blocks_100 : decode cX12_blocks 100 = .ok (.aload_n 0, 1) := by decide +kernel
theorem dX12_blocks_101 : decode cX12_blocks 101 = .ok (.getfield 85, 3) := by decide +kernel
theorem dX12_blocks_104 : decode cX12_blocks 104 = .ok (.iload_n 3, 1) := by decide +kernel
theorem dX12_blocks_105 : decode cX12_blocks 105 = .ok (.iload 4, 2) := by decide +kernel
theorem dX12_blocks_107 : decode cX12_blocks 107 = .ok (.bastore, 1) := by decide +kernel
theorem dX12_blocks_108 : decode cX12_blocks 108 = .ok (.iinc 3 1, 3) := by decide +kernel
theorem dX12_blocks_111 : decode cX12_blocks 111 = .ok (.goto (-96), 3) := by decide +kernel
theorem dX12_blocks_114 : decode cX12_blocks 114 = .ok (.iconst 1, 1) := by decide +kernel
theorem dX12_blocks_115 : decode cX12_blocks 115 = .ok (.iload_n 2, 1) := by decide +kernel
theorem dX12_blocks_116 : decode cX12_blocks 116 = .ok (.ishl, 1) := by decide +kernel
theorem dX12_blocks_117 : decode cX12_blocks 117 = .ok (.iconst 1, 1) := by decide +kernel
theorem dX12_blocks_118 : decode cX12_blocks 118 = .ok (.isub, 1) := by decide +kernel
theorem dX12_blocks_119 : decode cX12_blocks 119 = .ok (.istore_n 3, 1) := by decide +kernel
theorem dX12_blocks_120 : decode cX12_blocks 120 = .ok (.iload_n 3, 1) := by decide +kernel
theorem dX12_blocks_121 : decode cX12_blocks 121 = .ok (.ifCond .le 127, 3) := by decide +kernel
theorem dX12_blocks_124 : decode cX12_blocks 124 = .ok (.iconst 0, 1) := by decide +kernel
theorem dX12_blocks_125 : decode cX12_blocks 125 = .ok (.istore 4, 2) := by decide +kernel
theorem dX12_blocks_127 : decode cX12_blocks 127 = .ok (.iconst 0, 1) := by decide +kernel
theorem dX12_blocks_128 : decode cX12_blocks 128 = .ok (.istore 5, 2) := by decide +kernel
theorem dX12_blocks_130 : decode cX12_blocks 130 = .ok (.iload 5, 2) := by decide +kernel
theorem dX12_blocks_132 : decode cX12_blocks 132 = .ok (.iload_n 2, 1) := by decide +kernel
theorem dX12_blocks_133 : decode cX12_blocks 133 = .ok (.if_icmp .ge 55, 3) := by decide +kernel
theorem dX12_blocks_136 : decode cX12_blocks 136 = .ok (.iload_n 3, 1) := by decide +kernel
theorem dX12_blocks_137 : decode cX12_blocks 137 = .ok (.iconst 1, 1) := by decide +kernel
theorem dX12_blocks_138 : decode cX12_blocks 138 = .ok (.iload 5, 2) := by decide +kernel
theorem dX12_blocks_140 : decode cX12_blocks 140 = .ok (.ishl, 1) := by decide +kernel
theorem dX12_blocks_141 : decode cX12_blocks 141 = .ok (.ior, 1) := by decide +kernel
theorem dX12_blocks_142 : decode cX12_blocks 142 = .ok (.istore 6, 2) := by decide +kernel
theorem dX12_blocks_144 : decode cX12_blocks 144 = .ok (.iload 4, 2) := by decide +kernel
theorem dX12_blocks_146 : decode cX12_blocks 146 = .ok (.ifCond .ne 29, 3) := by decide +kernel
theorem dX12_blocks_149 : decode cX12_blocks 149 = .ok (.iload 6, 2) := by decide +kernel
theorem dX12_blocks_151 : decode cX12_blocks 151 = .ok (.iload_n 3, 1) := by decide +kernel
theorem dX12_blocks_152 : decode cX12_blocks 152 = .ok (.if_icmp .eq 27, 3) := by decide +kernel
theorem dX12_blocks_155 : decode cX12_blocks 155 = .ok (.aload_n 0, 1) := by decide +kernel
theorem dX12_blocks_156 : decode cX12_blocks 156 = .ok (.getfield 85, 3) := by decide +kernel
theorem dX12_blocks_159 : decode cX12_blocks 159 = .ok (.iload 6, 2) := by decide +kernel
theorem dX12_blocks_161 : decode cX12_blocks 161 = .ok (.baload, 1) := by decide +kernel
theorem dX12_blocks_162 : decode cX12_blocks 162 = .ok (.ifCond .ne 13, 3) := by decide +kernel
theorem dX12_blocks_165 : decode cX12_blocks 165 = .ok (.aload_n 0, 1) := by decide +kernel
theorem dX12_blocks_166 : decode cX12_blocks 166 = .ok (.getfield 88, 3) := by decide +kernel
theorem dX12_blocks_169 : decode cX12_blocks 169 = .ok (.iload 6, 2) := by decide +kernel
theorem dX12_blocks_171 : decode cX12_blocks 171 = .ok (.baload, 1) := by decide +kernel
theorem dX12_blocks_172 : decode cX12_blocks 172 = .ok (.ifCond .eq 7, 3) := by decide +kernel
theorem dX12_blocks_175 : decode cX12_blocks 175 = .ok (.iconst 1, 1) := by decide +kernel
theorem dX12_blocks_176 : decode cX12_blocks 176 = .ok (.goto 4, 3) := by decide +kernel
theorem dX12_blocks_179 : decode cX12_blocks 179 = .ok (.iconst 0, 1) := by decide +kernel
theorem dX12_blocks_180 : decode cX12_blocks 180 = .ok (.istore 4, 2) := by decide +kernel
theorem dX12_blocks_182 : decode cX12_blocks 182 = .ok (.iinc 5 1, 3) := by decide +kernel
theorem dX12_blocks_185 : decode cX12_blocks 185 = .ok (.goto (-55), 3) := by decide +kernel
theorem dX12_blocks_188 : decode cX12_blocks 188 = .ok (.aload_n 0, 1) := by decide +kernel
theorem dX12_blocks_189 : decode cX12_blocks 189 = .ok (.getfield 88, 3) := by decide +kernel
theorem dX12_blocks_192 : decode cX12_blocks 192 = .ok (.iload_n 3, 1) := by decide +kernel
theorem dX12_blocks_193 : decode cX12_blocks 193 = .ok (.iload 4, 2) := by decide +kernel
theorem dX12_blocks_195 : decode cX12_blocks 195 = .ok (.bastore, 1) := by decide +kernel
theorem dX12_blocks_196 : decode cX12_blocks 196 = .ok (.iconst 0, 1) := by decide +kernel
theorem dX12_blocks_197 : decode cX12_blocks 197 = .ok (.istore 5, 2) := by decide +kernel
theorem dX12_blocks_199 : decode cX12_blocks 199 = .ok (.iload 5, 2) := by decide +kernel
theorem dX12_blocks_201 : decode cX12_blocks 201 = .ok (.iload_n 2, 1) := by decide +kernel
theorem dX12_blocks_202 : decode cX12_blocks 202 = .ok (.if_icmp .ge 40, 3) := by decide +kernel
theorem dX12_blocks_205 : decode cX12_blocks 205 = .ok (.aload_n 0, 1) := by decide +kernel
theorem dX12_blocks_206 : decode cX12_blocks 206 = .ok (.getfield 85, 3) := by decide +kernel
theorem dX12_blocks_209 : decode cX12_blocks 209 = .ok (.iload_n 3, 1) := by decide +kernel
theorem dX12_blocks_210 : decode cX12_blocks 210 = .ok (.baload, 1) := by decide +kernel
theorem dX12_blocks_211 : decode cX12_blocks 211 = .ok (.ifCond .eq 31, 3) := by decide +kernel
theorem dX12_blocks_214 : decode cX12_blocks 214 = .ok (.iload 4, 2) := by decide +kernel
theorem dX12_blocks_216 : decode cX12_blocks 216 = .ok (.ifCond .ne 26, 3) := by decide +kernel
theorem dX12_blocks_219 : decode cX12_blocks 219 = .ok (.aload_n 0, 1) := by decide +kernel
theorem dX12_blocks_220 : decode cX12_blocks 220 = .ok (.getfield 72, 3) := by decide +kernel
theorem dX12_blocks_223 : decode cX12_blocks 223 = .ok (.iload 5, 2) := by decide +kernel
theorem dX12_blocks_225 : decode cX12_blocks 225 = .ok (.dup2, 1) := by decide +kernel
theorem dX12_blocks_226 : decode cX12_blocks 226 = .ok (.laload, 1) := by decide +kernel
theorem dX12_blocks_227 : decode cX12_blocks 227 = .ok (.iload_n 3, 1) := by decide +kernel
theorem dX12_blocks_228 : decode cX12_blocks 228 = .ok (.iload 5, 2) := by decide +kernel
theorem dX12_blocks_230 : decode cX12_blocks 230 = .ok (.ishr, 1) := by decide +kernel
theorem dX12_blocks_231 : decode cX12_blocks 231 = .ok (.iconst 1, 1) := by decide +kernel
theorem dX12_blocks_232 : decode cX12_blocks 232 = .ok (.iand, 1) := by decide +kernel
theorem dX12_blocks_233 : decode cX12_blocks 233 = .ok (.i2l, 1) := by decide +kernel
theorem dX12_blocks_234 : decode cX12_blocks 234 = .ok (.ladd, 1) := by decide +kernel
theorem dX12_blocks_235 : decode cX12_blocks 235 = .ok (.lastore, 1) := by decide +kernel
theorem dX12_blocks_236 : decode cX12_blocks 236 = .ok (.iinc 5 1, 3) := by decide +kernel
theorem dX12_blocks_239 : decode cX12_blocks 239 = .ok (.goto (-40), 3) := by decide +kernel
theorem dX12_blocks_242 : decode cX12_blocks 242 = .ok (.iinc 3 (-1), 3) := by decide +kernel
theorem dX12_blocks_245 : decode cX12_blocks 245 = .ok (.goto (-125), 3) := by decide +kernel
theorem dX12_blocks_248 : decode cX12_blocks 248 = .ok (.return_, 1) := by decide +kernel
theorem kX12_237 : lkK (gS, X) RX12 237 mX12_together 1 ∧ Cond.instanceMethod yX12_together ∈ g_ws (gS, X) ∧ Cond.selects RX12 yX12_together yX12_together ∈ g_ws (gS, X) ∧ yX12_together.cls = RX12 := ⟨⟨tb_good, (tb_t (k := 1390) (w := Cond.methodLink RX12 237 yX12_together) (by decide +kernel)), (tb_t (k := 8) (w := Cond.initialized RX12) (by decide +kernel)), (tb_t (k := 1393) (w := Cond.code yX12_together cX12_together 5 (some .int)) (by decide +kernel)), by decide +kernel, by decide⟩, (tb_t (k := 1392) (w := Cond.instanceMethod yX12_together) (by decide +kernel)), (tb_p (k := 96) (q := (yX12_together, 45)) (by decide +kernel)), rfl⟩
theorem dX12_joined_0 : decode cX12_joined 0 = .ok (.iload_n 0, 1) := by decide +kernel
theorem dX12_joined_1 : decode cX12_joined 1 = .ok (.ifCond .ne 17, 3) := by decide +kernel
theorem dX12_joined_4 : decode cX12_joined 4 = .ok (.lload_n 1, 1) := by decide +kernel
theorem dX12_joined_5 : decode cX12_joined 5 = .ok (.lload_n 3, 1) := by decide +kernel
theorem dX12_joined_6 : decode cX12_joined 6 = .ok (.lcmp, 1) := by decide +kernel
theorem dX12_joined_7 : decode cX12_joined 7 = .ok (.ifCond .ge 7, 3) := by decide +kernel
theorem dX12_joined_10 : decode cX12_joined 10 = .ok (.lload_n 1, 1) := by decide +kernel
theorem dX12_joined_11 : decode cX12_joined 11 = .ok (.goto 40, 3) := by decide +kernel
theorem dX12_joined_14 : decode cX12_joined 14 = .ok (.lload_n 3, 1) := by decide +kernel
theorem dX12_joined_15 : decode cX12_joined 15 = .ok (.goto 36, 3) := by decide +kernel
theorem dX12_joined_18 : decode cX12_joined 18 = .ok (.iload_n 0, 1) := by decide +kernel
theorem dX12_joined_19 : decode cX12_joined 19 = .ok (.iconst 1, 1) := by decide +kernel
theorem dX12_joined_20 : decode cX12_joined 20 = .ok (.if_icmp .ne 17, 3) := by decide +kernel
theorem dX12_joined_23 : decode cX12_joined 23 = .ok (.lload_n 1, 1) := by decide +kernel
theorem dX12_joined_24 : decode cX12_joined 24 = .ok (.lload_n 3, 1) := by decide +kernel
theorem dX12_joined_25 : decode cX12_joined 25 = .ok (.lcmp, 1) := by decide +kernel
theorem dX12_joined_26 : decode cX12_joined 26 = .ok (.ifCond .le 7, 3) := by decide +kernel
theorem dX12_joined_29 : decode cX12_joined 29 = .ok (.lload_n 1, 1) := by decide +kernel
theorem dX12_joined_30 : decode cX12_joined 30 = .ok (.goto 21, 3) := by decide +kernel
theorem dX12_joined_33 : decode cX12_joined 33 = .ok (.lload_n 3, 1) := by decide +kernel
theorem dX12_joined_34 : decode cX12_joined 34 = .ok (.goto 17, 3) := by decide +kernel
theorem dX12_joined_37 : decode cX12_joined 37 = .ok (.iload_n 0, 1) := by decide +kernel
theorem dX12_joined_38 : decode cX12_joined 38 = .ok (.iconst 2, 1) := by decide +kernel
theorem dX12_joined_39 : decode cX12_joined 39 = .ok (.if_icmp .ne 9, 3) := by decide +kernel
theorem dX12_joined_42 : decode cX12_joined 42 = .ok (.lload_n 1, 1) := by decide +kernel
theorem dX12_joined_43 : decode cX12_joined 43 = .ok (.lload_n 3, 1) := by decide +kernel
theorem dX12_joined_44 : decode cX12_joined 44 = .ok (.ladd, 1) := by decide +kernel
theorem dX12_joined_45 : decode cX12_joined 45 = .ok (.goto 6, 3) := by decide +kernel
theorem dX12_joined_48 : decode cX12_joined 48 = .ok (.lload_n 1, 1) := by decide +kernel
theorem dX12_joined_49 : decode cX12_joined 49 = .ok (.lload_n 3, 1) := by decide +kernel
theorem dX12_joined_50 : decode cX12_joined 50 = .ok (.lxor, 1) := by decide +kernel
theorem dX12_joined_51 : decode cX12_joined 51 = .ok (.lreturn, 1) := by decide +kernel
theorem dX12_message_0 : decode cX12_message 0 = .ok (.iload_n 0, 1) := by decide +kernel
theorem dX12_message_1 : decode cX12_message 1 = .ok (.ifCond .ne 7, 3) := by decide +kernel
theorem dX12_message_4 : decode cX12_message 4 = .ok (.lload_n 1, 1) := by decide +kernel
theorem dX12_message_5 : decode cX12_message 5 = .ok (.goto 47, 3) := by decide +kernel
theorem dX12_message_8 : decode cX12_message 8 = .ok (.iload_n 0, 1) := by decide +kernel
theorem dX12_message_9 : decode cX12_message 9 = .ok (.iconst 1, 1) := by decide +kernel
theorem dX12_message_10 : decode cX12_message 10 = .ok (.if_icmp .ne 9, 3) := by decide +kernel
theorem dX12_message_13 : decode cX12_message 13 = .ok (.lload_n 1, 1) := by decide +kernel
theorem dX12_message_14 : decode cX12_message 14 = .ok (.lload_n 3, 1) := by decide +kernel
theorem dX12_message_15 : decode cX12_message 15 = .ok (.ladd, 1) := by decide +kernel
theorem dX12_message_16 : decode cX12_message 16 = .ok (.goto 36, 3) := by decide +kernel
theorem dX12_message_19 : decode cX12_message 19 = .ok (.iload_n 0, 1) := by decide +kernel
theorem dX12_message_20 : decode cX12_message 20 = .ok (.iconst 2, 1) := by decide +kernel
theorem dX12_message_21 : decode cX12_message 21 = .ok (.if_icmp .ne 9, 3) := by decide +kernel
theorem dX12_message_24 : decode cX12_message 24 = .ok (.lload_n 1, 1) := by decide +kernel
theorem dX12_message_25 : decode cX12_message 25 = .ok (.lload_n 3, 1) := by decide +kernel
theorem dX12_message_26 : decode cX12_message 26 = .ok (.lmul, 1) := by decide +kernel
theorem dX12_message_27 : decode cX12_message 27 = .ok (.goto 25, 3) := by decide +kernel
theorem dX12_message_30 : decode cX12_message 30 = .ok (.iload_n 0, 1) := by decide +kernel
theorem dX12_message_31 : decode cX12_message 31 = .ok (.iconst 3, 1) := by decide +kernel
theorem dX12_message_32 : decode cX12_message 32 = .ok (.if_icmp .ne 17, 3) := by decide +kernel
theorem dX12_message_35 : decode cX12_message 35 = .ok (.lload_n 1, 1) := by decide +kernel
theorem dX12_message_36 : decode cX12_message 36 = .ok (.lload_n 3, 1) := by decide +kernel
theorem dX12_message_37 : decode cX12_message 37 = .ok (.lcmp, 1) := by decide +kernel
theorem dX12_message_38 : decode cX12_message 38 = .ok (.ifCond .ge 7, 3) := by decide +kernel
theorem dX12_message_41 : decode cX12_message 41 = .ok (.lload_n 1, 1) := by decide +kernel
theorem dX12_message_42 : decode cX12_message 42 = .ok (.goto 10, 3) := by decide +kernel
theorem dX12_message_45 : decode cX12_message 45 = .ok (.lload_n 3, 1) := by decide +kernel
theorem dX12_message_46 : decode cX12_message 46 = .ok (.goto 6, 3) := by decide +kernel
theorem dX12_message_49 : decode cX12_message 49 = .ok (.lload_n 1, 1) := by decide +kernel
theorem dX12_message_50 : decode cX12_message 50 = .ok (.lload_n 3, 1) := by decide +kernel
theorem dX12_message_51 : decode cX12_message 51 = .ok (.lxor, 1) := by decide +kernel
theorem dX12_message_52 : decode cX12_message 52 = .ok (.lreturn, 1) := by decide +kernel
theorem dX12_heard_0 : decode cX12_heard 0 = .ok (.iconst 0, 1) := by decide +kernel
theorem dX12_heard_1 : decode cX12_heard 1 = .ok (.istore 6, 2) := by decide +kernel
theorem dX12_heard_3 : decode cX12_heard 3 = .ok (.lconst 0, 1) := by decide +kernel
theorem dX12_heard_4 : decode cX12_heard 4 = .ok (.lstore 7, 2) := by decide +kernel
theorem dX12_heard_6 : decode cX12_heard 6 = .ok (.iconst 0, 1) := by decide +kernel
theorem dX12_heard_7 : decode cX12_heard 7 = .ok (.istore 9, 2) := by decide +kernel
theorem dX12_heard_9 : decode cX12_heard 9 = .ok (.iload 9, 2) := by decide +kernel
theorem dX12_heard_11 : decode cX12_heard 11 = .ok (.aload_n 0, 1) := by decide +kernel
theorem dX12_heard_12 : decode cX12_heard 12 = .ok (.getfield 20, 3) := by decide +kernel
theorem dX12_heard_15 : decode cX12_heard 15 = .ok (.iload_n 1, 1) := by decide +kernel
theorem dX12_heard_16 : decode cX12_heard 16 = .ok (.iaload, 1) := by decide +kernel
theorem dX12_heard_17 : decode cX12_heard 17 = .ok (.if_icmp .ge 121, 3) := by decide +kernel
theorem dX12_heard_20 : decode cX12_heard 20 = .ok (.iload_n 1, 1) := by decide +kernel
theorem dX12_heard_21 : decode cX12_heard 21 = .ok (.iload 9, 2) := by decide +kernel
theorem dX12_heard_23 : decode cX12_heard 23 = .ok (.invokestatic 157, 3) := by decide +kernel
theorem dX12_heard_26 : decode cX12_heard 26 = .ok (.istore 10, 2) := by decide +kernel
theorem dX12_heard_28 : decode cX12_heard 28 = .ok (.aload_n 0, 1) := by decide +kernel
theorem dX12_heard_29 : decode cX12_heard 29 = .ok (.getfield 26, 3) := by decide +kernel
theorem dX12_heard_32 : decode cX12_heard 32 = .ok (.iload 10, 2) := by decide +kernel
theorem dX12_heard_34 : decode cX12_heard 34 = .ok (.iaload, 1) := by decide +kernel
theorem dX12_heard_35 : decode cX12_heard 35 = .ok (.iload_n 2, 1) := by decide +kernel
theorem dX12_heard_36 : decode cX12_heard 36 = .ok (.if_icmp .ne 13, 3) := by decide +kernel
theorem dX12_heard_39 : decode cX12_heard 39 = .ok (.aload_n 0, 1) := by decide +kernel
theorem dX12_heard_40 : decode cX12_heard 40 = .ok (.getfield 23, 3) := by decide +kernel
theorem dX12_heard_43 : decode cX12_heard 43 = .ok (.iload 10, 2) := by decide +kernel
theorem dX12_heard_45 : decode cX12_heard 45 = .ok (.iaload, 1) := by decide +kernel
theorem dX12_heard_46 : decode cX12_heard 46 = .ok (.goto 34, 3) := by decide +kernel
theorem dX12_heard_49 : decode cX12_heard 49 = .ok (.aload_n 0, 1) := by decide +kernel
theorem dX12_heard_50 : decode cX12_heard 50 = .ok (.getfield 16, 3) := by decide +kernel
theorem dX12_heard_53 : decode cX12_heard 53 = .ok (.iload_n 1, 1) := by decide +kernel
theorem dX12_heard_54 : decode cX12_heard 54 = .ok (.baload, 1) := by decide +kernel
theorem dX12_heard_55 : decode cX12_heard 55 = .ok (.ifCond .ne 24, 3) := by decide +kernel
theorem dX12_heard_58 : decode cX12_heard 58 = .ok (.aload_n 0, 1) := by decide +kernel
theorem dX12_heard_59 : decode cX12_heard 59 = .ok (.getfield 23, 3) := by decide +kernel
theorem dX12_heard_62 : decode cX12_heard 62 = .ok (.iload 10, 2) := by decide +kernel
theorem dX12_heard_64 : decode cX12_heard 64 = .ok (.iaload, 1) := by decide +kernel
theorem dX12_heard_65 : decode cX12_heard 65 = .ok (.iload_n 2, 1) := by decide +kernel
theorem dX12_heard_66 : decode cX12_heard 66 = .ok (.if_icmp .ne 13, 3) := by decide +kernel
theorem dX12_heard_69 : decode cX12_heard 69 = .ok (.aload_n 0, 1) := by decide +kernel
theorem dX12_heard_70 : decode cX12_heard 70 = .ok (.getfield 26, 3) := by decide +kernel
theorem dX12_heard_73 : decode cX12_heard 73 = .ok (.iload 10, 2) := by decide +kernel
theorem dX12_heard_75 : decode cX12_heard 75 = .ok (.iaload, 1) := by decide +kernel
theorem dX12_heard_76 : decode cX12_heard 76 = .ok (.goto 4, 3) := by decide +kernel
theorem dX12_heard_79 : decode cX12_heard 79 = .ok (.iconst (-1), 1) := by decide +kernel
theorem dX12_heard_80 : decode cX12_heard 80 = .ok (.istore 11, 2) := by decide +kernel
theorem dX12_heard_82 : decode cX12_heard 82 = .ok (.iload 11, 2) := by decide +kernel
theorem dX12_heard_84 : decode cX12_heard 84 = .ok (.ifCond .lt 48, 3) := by decide +kernel
theorem dX12_heard_87 : decode cX12_heard 87 = .ok (.iload_n 3, 1) := by decide +kernel
theorem dX12_heard_88 : decode cX12_heard 88 = .ok (.aload_n 0, 1) := by decide +kernel
theorem dX12_heard_89 : decode cX12_heard 89 = .ok (.getfield 72, 3) := by decide +kernel
theorem dX12_heard_92 : decode cX12_heard 92 = .ok (.iload 11, 2) := by decide +kernel
theorem dX12_heard_94 : decode cX12_heard 94 = .ok (.laload, 1) := by decide +kernel
theorem dX12_heard_95 : decode cX12_heard 95 = .ok (.aload_n 0, 1) := by decide +kernel
theorem dX12_heard_96 : decode cX12_heard 96 = .ok (.getfield 29, 3) := by decide +kernel
theorem dX12_heard_99 : decode cX12_heard 99 = .ok (.iload 10, 2) := by decide +kernel
theorem dX12_heard_101 : decode cX12_heard 101 = .ok (.iaload, 1) := by decide +kernel
theorem dX12_heard_102 : decode cX12_heard 102 = .ok (.i2l, 1) := by decide +kernel
theorem dX12_heard_103 : decode cX12_heard 103 = .ok (.invokestatic 244, 3) := by decide +kernel
theorem dX12_heard_106 : decode cX12_heard 106 = .ok (.lstore 12, 2) := by decide +kernel
theorem dX12_heard_108 : decode cX12_heard 108 = .ok (.iload 6, 2) := by decide +kernel
theorem dX12_heard_110 : decode cX12_heard 110 = .ok (.ifCond .eq 15, 3) := by decide +kernel
theorem dX12_heard_113 : decode cX12_heard 113 = .ok (.iload 4, 2) := by decide +kernel
theorem dX12_heard_115 : decode cX12_heard 115 = .ok (.lload 7, 2) := by decide +kernel
theorem dX12_heard_117 : decode cX12_heard 117 = .ok (.lload 12, 2) := by decide +kernel
theorem dX12_heard_119 : decode cX12_heard 119 = .ok (.invokestatic 248, 3) := by decide +kernel
theorem dX12_heard_122 : decode cX12_heard 122 = .ok (.goto 5, 3) := by decide +kernel
theorem dX12_heard_125 : decode cX12_heard 125 = .ok (.lload 12, 2) := by decide +kernel
theorem dX12_heard_127 : decode cX12_heard 127 = .ok (.lstore 7, 2) := by decide +kernel
theorem dX12_heard_129 : decode cX12_heard 129 = .ok (.iconst 1, 1) := by decide +kernel
theorem dX12_heard_130 : decode cX12_heard 130 = .ok (.istore 6, 2) := by decide +kernel
theorem dX12_heard_132 : decode cX12_heard 132 = .ok (.iinc 9 1, 3) := by decide +kernel
theorem dX12_heard_135 : decode cX12_heard 135 = .ok (.goto (-126), 3) := by decide +kernel
theorem dX12_heard_138 : decode cX12_heard 138 = .ok (.iload 6, 2) := by decide +kernel
theorem dX12_heard_140 : decode cX12_heard 140 = .ok (.ifCond .ne 12, 3) := by decide +kernel
theorem dX12_heard_143 : decode cX12_heard 143 = .ok (.aload_n 0, 1) := by decide +kernel
theorem dX12_heard_144 : decode cX12_heard 144 = .ok (.getfield 72, 3) := by decide +kernel
theorem dX12_heard_147 : decode cX12_heard 147 = .ok (.iload_n 2, 1) := by decide +kernel
theorem dX12_heard_148 : decode cX12_heard 148 = .ok (.laload, 1) := by decide +kernel
theorem dX12_heard_149 : decode cX12_heard 149 = .ok (.goto 26, 3) := by decide +kernel
theorem dX12_heard_152 : decode cX12_heard 152 = .ok (.iload 5, 2) := by decide +kernel
theorem dX12_heard_154 : decode cX12_heard 154 = .ok (.ifCond .eq 19, 3) := by decide +kernel
theorem dX12_heard_157 : decode cX12_heard 157 = .ok (.iload 4, 2) := by decide +kernel
theorem dX12_heard_159 : decode cX12_heard 159 = .ok (.lload 7, 2) := by decide +kernel
theorem dX12_heard_161 : decode cX12_heard 161 = .ok (.aload_n 0, 1) := by decide +kernel
theorem dX12_heard_162 : decode cX12_heard 162 = .ok (.getfield 72, 3) := by decide +kernel
theorem dX12_heard_165 : decode cX12_heard 165 = .ok (.iload_n 2, 1) := by decide +kernel
theorem dX12_heard_166 : decode cX12_heard 166 = .ok (.laload, 1) := by decide +kernel
theorem dX12_heard_167 : decode cX12_heard 167 = .ok (.invokestatic 248, 3) := by decide +kernel
theorem dX12_heard_170 : decode cX12_heard 170 = .ok (.goto 5, 3) := by decide +kernel
theorem dX12_heard_173 : decode cX12_heard 173 = .ok (.lload 7, 2) := by decide +kernel
theorem dX12_heard_175 : decode cX12_heard 175 = .ok (.lreturn, 1) := by decide +kernel
theorem kX12_244 : lkK (gS, X) RX12 244 mX12_message 3 ∧ Cond.static yX12_message ∈ g_ws (gS, X) := ⟨⟨tb_good, (tb_t (k := 1414) (w := Cond.methodLink RX12 244 yX12_message) (by decide +kernel)), (tb_t (k := 8) (w := Cond.initialized RX12) (by decide +kernel)), (tb_t (k := 1416) (w := Cond.code yX12_message cX12_message 5 (some .long)) (by decide +kernel)), by decide +kernel, by decide⟩, (tb_t (k := 1415) (w := Cond.static yX12_message) (by decide +kernel))⟩
theorem kX12_248 : lkK (gS, X) RX12 248 mX12_joined 3 ∧ Cond.static yX12_joined ∈ g_ws (gS, X) := ⟨⟨tb_good, (tb_t (k := 1417) (w := Cond.methodLink RX12 248 yX12_joined) (by decide +kernel)), (tb_t (k := 8) (w := Cond.initialized RX12) (by decide +kernel)), (tb_t (k := 1419) (w := Cond.code yX12_joined cX12_joined 5 (some .long)) (by decide +kernel)), by decide +kernel, by decide⟩, (tb_t (k := 1418) (w := Cond.static yX12_joined) (by decide +kernel))⟩
theorem dX12_goes_0 : decode cX12_goes 0 = .ok (.iload_n 3, 1) := by decide +kernel
theorem dX12_goes_1 : decode cX12_goes 1 = .ok (.iconst 2, 1) := by decide +kernel
theorem dX12_goes_2 : decode cX12_goes 2 = .ok (.if_icmp .ne 20, 3) := by decide +kernel
theorem dX12_goes_5 : decode cX12_goes 5 = .ok (.aload_n 0, 1) := by decide +kernel
theorem dX12_goes_6 : decode cX12_goes 6 = .ok (.getfield 29, 3) := by decide +kernel
theorem dX12_goes_9 : decode cX12_goes 9 = .ok (.iload_n 1, 1) := by decide +kernel
theorem dX12_goes_10 : decode cX12_goes 10 = .ok (.iload_n 2, 1) := by decide +kernel
theorem dX12_goes_11 : decode cX12_goes 11 = .ok (.invokestatic 157, 3) := by decide +kernel
theorem dX12_goes_14 : decode cX12_goes 14 = .ok (.iaload, 1) := by decide +kernel
theorem dX12_goes_15 : decode cX12_goes 15 = .ok (.i2l, 1) := by decide +kernel
theorem dX12_goes_16 : decode cX12_goes 16 = .ok (.lload 4, 2) := by decide +kernel
theorem dX12_goes_18 : decode cX12_goes 18 = .ok (.lcmp, 1) := by decide +kernel
theorem dX12_goes_19 : decode cX12_goes 19 = .ok (.ifCond .lt 7, 3) := by decide +kernel
theorem dX12_goes_22 : decode cX12_goes 22 = .ok (.iconst 1, 1) := by decide +kernel
theorem dX12_goes_23 : decode cX12_goes 23 = .ok (.goto 4, 3) := by decide +kernel
theorem dX12_goes_26 : decode cX12_goes 26 = .ok (.iconst 0, 1) := by decide +kernel
theorem dX12_goes_27 : decode cX12_goes 27 = .ok (.ireturn, 1) := by decide +kernel
theorem dX12_spread_0 : decode cX12_spread 0 = .ok (.aload_n 0, 1) := by decide +kernel
theorem dX12_spread_1 : decode cX12_spread 1 = .ok (.getfield 13, 3) := by decide +kernel
theorem dX12_spread_4 : decode cX12_spread 4 = .ok (.iload_n 1, 1) := by decide +kernel
theorem dX12_spread_5 : decode cX12_spread 5 = .ok (.iaload, 1) := by decide +kernel
theorem dX12_spread_6 : decode cX12_spread 6 = .ok (.istore 7, 2) := by decide +kernel
theorem dX12_spread_8 : decode cX12_spread 8 = .ok (.iconst 0, 1) := by decide +kernel
theorem dX12_spread_9 : decode cX12_spread 9 = .ok (.istore 8, 2) := by decide +kernel
theorem dX12_spread_11 : decode cX12_spread 11 = .ok (.iload 8, 2) := by decide +kernel
theorem dX12_spread_13 : decode cX12_spread 13 = .ok (.iload 4, 2) := by decide +kernel
theorem dX12_spread_15 : decode cX12_spread 15 = .ok (.if_icmp .gt 254, 3) := by decide +kernel
theorem dX12_spread_18 : decode cX12_spread 18 = .ok (.iconst 0, 1) := by decide +kernel
theorem dX12_spread_19 : decode cX12_spread 19 = .ok (.istore 9, 2) := by decide +kernel
theorem dX12_spread_21 : decode cX12_spread 21 = .ok (.iload 9, 2) := by decide +kernel
theorem dX12_spread_23 : decode cX12_spread 23 = .ok (.iload 7, 2) := by decide +kernel
theorem dX12_spread_25 : decode cX12_spread 25 = .ok (.if_icmp .ge 238, 3) := by decide +kernel
theorem dX12_spread_28 : decode cX12_spread 28 = .ok (.iload 8, 2) := by decide +kernel
theorem dX12_spread_30 : decode cX12_spread 30 = .ok (.ifCond .ne 13, 3) := by decide +kernel
theorem dX12_spread_33 : decode cX12_spread 33 = .ok (.iload 9, 2) := by decide +kernel
theorem dX12_spread_35 : decode cX12_spread 35 = .ok (.iload_n 3, 1) := by decide +kernel
theorem dX12_spread_36 : decode cX12_spread 36 = .ok (.if_icmp .ne 7, 3) := by decide +kernel
theorem dX12_spread_39 : decode cX12_spread 39 = .ok (.lconst 0, 1) := by decide +kernel
theorem dX12_spread_40 : decode cX12_spread 40 = .ok (.goto 6, 3) := by decide +kernel
theorem dX12_spread_43 : decode cX12_spread 43 = .ok (.ldc2_w 251, 3) := by decide +kernel
theorem dX12_spread_46 : decode cX12_spread 46 = .ok (.lstore 10, 2) := by decide +kernel
theorem dX12_spread_48 : decode cX12_spread 48 = .ok (.iload 8, 2) := by decide +kernel
theorem dX12_spread_50 : decode cX12_spread 50 = .ok (.ifCond .ne 13, 3) := by decide +kernel
theorem dX12_spread_53 : decode cX12_spread 53 = .ok (.iload 9, 2) := by decide +kernel
theorem dX12_spread_55 : decode cX12_spread 55 = .ok (.iload_n 3, 1) := by decide +kernel
theorem dX12_spread_56 : decode cX12_spread 56 = .ok (.if_icmp .ne 7, 3) := by decide +kernel
theorem dX12_spread_59 : decode cX12_spread 59 = .ok (.lconst 1, 1) := by decide +kernel
theorem dX12_spread_60 : decode cX12_spread 60 = .ok (.goto 4, 3) := by decide +kernel
theorem dX12_spread_63 : decode cX12_spread 63 = .ok (.lconst 0, 1) := by decide +kernel
theorem dX12_spread_64 : decode cX12_spread 64 = .ok (.lstore 12, 2) := by decide +kernel
theorem dX12_spread_66 : decode cX12_spread 66 = .ok (.iconst 0, 1) := by decide +kernel
theorem dX12_spread_67 : decode cX12_spread 67 = .ok (.istore 14, 2) := by decide +kernel
theorem dX12_spread_69 : decode cX12_spread 69 = .ok (.iload 14, 2) := by decide +kernel
theorem dX12_spread_71 : decode cX12_spread 71 = .ok (.aload_n 0, 1) := by decide +kernel
theorem dX12_spread_72 : decode cX12_spread 72 = .ok (.getfield 20, 3) := by decide +kernel
theorem dX12_spread_75 : decode cX12_spread 75 = .ok (.iload_n 1, 1) := by decide +kernel
theorem dX12_spread_76 : decode cX12_spread 76 = .ok (.iaload, 1) := by decide +kernel
theorem dX12_spread_77 : decode cX12_spread 77 = .ok (.if_icmp .ge 150, 3) := by decide +kernel
theorem dX12_spread_80 : decode cX12_spread 80 = .ok (.iload 8, 2) := by decide +kernel
theorem dX12_spread_82 : decode cX12_spread 82 = .ok (.ifCond .le 145, 3) := by decide +kernel
theorem dX12_spread_85 : decode cX12_spread 85 = .ok (.aload_n 0, 1) := by decide +kernel
theorem dX12_spread_86 : decode cX12_spread 86 = .ok (.iload_n 1, 1) := by decide +kernel
theorem dX12_spread_87 : decode cX12_spread 87 = .ok (.iload 14, 2) := by decide +kernel
theorem dX12_spread_89 : decode cX12_spread 89 = .ok (.iload 9, 2) := by decide +kernel
theorem dX12_spread_91 : decode cX12_spread 91 = .ok (.invokevirtual 253, 3) := by decide +kernel
theorem dX12_spread_94 : decode cX12_spread 94 = .ok (.istore 15, 2) := by decide +kernel
theorem dX12_spread_96 : decode cX12_spread 96 = .ok (.iload 15, 2) := by decide +kernel
theorem dX12_spread_98 : decode cX12_spread 98 = .ok (.ifCond .lt 123, 3) := by decide +kernel
theorem dX12_spread_101 : decode cX12_spread 101 = .ok (.aload_n 0, 1) := by decide +kernel
theorem dX12_spread_102 : decode cX12_spread 102 = .ok (.iload_n 1, 1) := by decide +kernel
theorem dX12_spread_103 : decode cX12_spread 103 = .ok (.iload 14, 2) := by decide +kernel
theorem dX12_spread_105 : decode cX12_spread 105 = .ok (.iload_n 2, 1) := by decide +kernel
theorem dX12_spread_106 : decode cX12_spread 106 = .ok (.lload 5, 2) := by decide +kernel
theorem dX12_spread_108 : decode cX12_spread 108 = .ok (.invokevirtual 256, 3) := by decide +kernel
theorem dX12_spread_111 : decode cX12_spread 111 = .ok (.ifCond .eq 110, 3) := by decide +kernel
theorem dX12_spread_114 : decode cX12_spread 114 = .ok (.aload_n 0, 1) := by decide +kernel
theorem dX12_spread_115 : decode cX12_spread 115 = .ok (.getfield 91, 3) := by decide +kernel
theorem dX12_spread_118 : decode cX12_spread 118 = .ok (.bipush 16, 2) := by decide +kernel
theorem dX12_spread_120 : decode cX12_spread 120 = .ok (.iload 8, 2) := by decide +kernel
theorem dX12_spread_122 : decode cX12_spread 122 = .ok (.iconst 1, 1) := by decide +kernel
theorem dX12_spread_123 : decode cX12_spread 123 = .ok (.isub, 1) := by decide +kernel
theorem dX12_spread_124 : decode cX12_spread 124 = .ok (.imul, 1) := by decide +kernel
theorem dX12_spread_125 : decode cX12_spread 125 = .ok (.iload 15, 2) := by decide +kernel
theorem dX12_spread_127 : decode cX12_spread 127 = .ok (.iadd, 1) := by decide +kernel
theorem dX12_spread_128 : decode cX12_spread 128 = .ok (.laload, 1) := by decide +kernel
theorem dX12_spread_129 : decode cX12_spread 129 = .ok (.ldc2_w 251, 3) := by decide +kernel
theorem dX12_spread_132 : decode cX12_spread 132 = .ok (.lcmp, 1) := by decide +kernel
theorem dX12_spread_133 : decode cX12_spread 133 = .ok (.ifCond .ge 88, 3) := by decide +kernel
theorem dX12_spread_136 : decode cX12_spread 136 = .ok (.aload_n 0, 1) := by decide +kernel
theorem dX12_spread_137 : decode cX12_spread 137 = .ok (.getfield 91, 3) := by decide +kernel
theorem dX12_spread_140 : decode cX12_spread 140 = .ok (.bipush 16, 2) := by decide +kernel
theorem dX12_spread_142 : decode cX12_spread 142 = .ok (.iload 8, 2) := by decide +kernel
theorem dX12_spread_144 : decode cX12_spread 144 = .ok (.iconst 1, 1) := by decide +kernel
theorem dX12_spread_145 : decode cX12_spread 145 = .ok (.isub, 1) := by decide +kernel
theorem dX12_spread_146 : decode cX12_spread 146 = .ok (.imul, 1) := by decide +kernel
theorem dX12_spread_147 : decode cX12_spread 147 = .ok (.iload 15, 2) := by decide +kernel
theorem dX12_spread_149 : decode cX12_spread 149 = .ok (.iadd, 1) := by decide +kernel
theorem dX12_spread_150 : decode cX12_spread 150 = .ok (.laload, 1) := by decide +kernel
theorem dX12_spread_151 : decode cX12_spread 151 = .ok (.iload_n 2, 1) := by decide +kernel
theorem dX12_spread_152 : decode cX12_spread 152 = .ok (.ifCond .ne 17, 3) := by decide +kernel
theorem dX12_spread_155 : decode cX12_spread 155 = .ok (.aload_n 0, 1) := by decide +kernel
theorem dX12_spread_156 : decode cX12_spread 156 = .ok (.getfield 29, 3) := by decide +kernel
theorem dX12_spread_159 : decode cX12_spread 159 = .ok (.iload_n 1, 1) := by decide +kernel
theorem dX12_spread_160 : decode cX12_spread 160 = .ok (.iload 14, 2) := by decide +kernel
theorem dX12_spread_162 : decode cX12_spread 162 = .ok (.invokestatic 157, 3) := by decide +kernel
theorem dX12_spread_165 : decode cX12_spread 165 = .ok (.iaload, 1) := by decide +kernel
theorem dX12_spread_166 : decode cX12_spread 166 = .ok (.goto 4, 3) := by decide +kernel
theorem dX12_spread_169 : decode cX12_spread 169 = .ok (.iconst 0, 1) := by decide +kernel
theorem dX12_spread_170 : decode cX12_spread 170 = .ok (.i2l, 1) := by decide +kernel
theorem dX12_spread_171 : decode cX12_spread 171 = .ok (.ladd, 1) := by decide +kernel
theorem dX12_spread_172 : decode cX12_spread 172 = .ok (.lstore 16, 2) := by decide +kernel
theorem dX12_spread_174 : decode cX12_spread 174 = .ok (.lload 16, 2) := by decide +kernel
theorem dX12_spread_176 : decode cX12_spread 176 = .ok (.lload 10, 2) := by decide +kernel
theorem dX12_spread_178 : decode cX12_spread 178 = .ok (.lcmp, 1) := by decide +kernel
theorem dX12_spread_179 : decode cX12_spread 179 = .ok (.ifCond .ge 10, 3) := by decide +kernel
theorem dX12_spread_182 : decode cX12_spread 182 = .ok (.lload 16, 2) := by decide +kernel
theorem dX12_spread_184 : decode cX12_spread 184 = .ok (.lstore 10, 2) := by decide +kernel
theorem dX12_spread_186 : decode cX12_spread 186 = .ok (.lconst 0, 1) := by decide +kernel
theorem dX12_spread_187 : decode cX12_spread 187 = .ok (.lstore 12, 2) := by decide +kernel
theorem dX12_spread_189 : decode cX12_spread 189 = .ok (.lload 12, 2) := by decide +kernel
theorem dX12_spread_191 : decode cX12_spread 191 = .ok (.lload 16, 2) := by decide +kernel
theorem dX12_spread_193 : decode cX12_spread 193 = .ok (.lload 10, 2) := by decide +kernel
theorem dX12_spread_195 : decode cX12_spread 195 = .ok (.lcmp, 1) := by decide +kernel
theorem dX12_spread_196 : decode cX12_spread 196 = .ok (.ifCond .ne 21, 3) := by decide +kernel
theorem dX12_spread_199 : decode cX12_spread 199 = .ok (.aload_n 0, 1) := by decide +kernel
theorem dX12_spread_200 : decode cX12_spread 200 = .ok (.getfield 94, 3) := by decide +kernel
theorem dX12_spread_203 : decode cX12_spread 203 = .ok (.bipush 16, 2) := by decide +kernel
theorem dX12_spread_205 : decode cX12_spread 205 = .ok (.iload 8, 2) := by decide +kernel
theorem dX12_spread_207 : decode cX12_spread 207 = .ok (.iconst 1, 1) := by decide +kernel
theorem dX12_spread_208 : decode cX12_spread 208 = .ok (.isub, 1) := by decide +kernel
theorem dX12_spread_209 : decode cX12_spread 209 = .ok (.imul, 1) := by decide +kernel
theorem dX12_spread_210 : decode cX12_spread 210 = .ok (.iload 15, 2) := by decide +kernel
theorem dX12_spread_212 : decode cX12_spread 212 = .ok (.iadd, 1) := by decide +kernel
theorem dX12_spread_213 : decode cX12_spread 213 = .ok (.laload, 1) := by decide +kernel
theorem dX12_spread_214 : decode cX12_spread 214 = .ok (.goto 4, 3) := by decide +kernel
theorem dX12_spread_217 : decode cX12_spread 217 = .ok (.lconst 0, 1) := by decide +kernel
theorem dX12_spread_218 : decode cX12_spread 218 = .ok (.ladd, 1) := by decide +kernel
theorem dX12_spread_219 : decode cX12_spread 219 = .ok (.lstore 12, 2) := by decide +kernel
theorem dX12_spread_221 : decode cX12_spread 221 = .ok (.iinc 14 1, 3) := by decide +kernel
theorem dX12_spread_224 : decode cX12_spread 224 = .ok (.goto (-155), 3) := by decide +kernel
theorem dX12_spread_227 : decode cX12_spread 227 = .ok (.aload_n 0, 1) := by decide +kernel
theorem dX12_spread_228 : decode cX12_spread 228 = .ok (.getfield 91, 3) := by decide +kernel
theorem dX12_spread_231 : decode cX12_spread 231 = .ok (.bipush 16, 2) := by decide +kernel
theorem dX12_spread_233 : decode cX12_spread 233 = .ok (.iload 8, 2) := by decide +kernel
theorem dX12_spread_235 : decode cX12_spread 235 = .ok (.imul, 1) := by decide +kernel
theorem dX12_spread_236 : decode cX12_spread 236 = .ok (.iload 9, 2) := by decide +kernel
theorem dX12_spread_238 : decode cX12_spread 238 = .ok (.iadd, 1) := by decide +kernel
theorem dX12_spread_239 : decode cX12_spread 239 = .ok (.lload 10, 2) := by decide +kernel
theorem dX12_spread_241 : decode cX12_spread 241 = .ok (.lastore, 1) := by decide +kernel
theorem dX12_spread_242 : decode cX12_spread 242 = .ok (.aload_n 0, 1) := by decide +kernel
theorem dX12_spread_243 : decode cX12_spread 243 = .ok (.getfield 94, 3) := by decide +kernel
theorem dX12_spread_246 : decode cX12_spread 246 = .ok (.bipush 16, 2) := by decide +kernel
theorem dX12_spread_248 : decode cX12_spread 248 = .ok (.iload 8, 2) := by decide +kernel
theorem dX12_spread_250 : decode cX12_spread 250 = .ok (.imul, 1) := by decide +kernel
theorem dX12_spread_251 : decode cX12_spread 251 = .ok (.iload 9, 2) := by decide +kernel
theorem dX12_spread_253 : decode cX12_spread 253 = .ok (.iadd, 1) := by decide +kernel
theorem dX12_spread_254 : decode cX12_spread 254 = .ok (.lload 12, 2) := by decide +kernel
theorem dX12_spread_256 : decode cX12_spread 256 = .ok (.lastore, 1) := by decide +kernel
theorem dX12_spread_257 : decode cX12_spread 257 = .ok (.iinc 9 1, 3) := by decide +kernel
theorem dX12_spread_260 : decode cX12_spread 260 = .ok (.goto (-239), 3) := by decide +kernel
theorem dX12_spread_263 : decode cX12_spread 263 = .ok (.iinc 8 1, 3) := by decide +kernel
theorem dX12_spread_266 : decode cX12_spread 266 = .ok (.goto (-255), 3) := by decide +kernel
theorem dX12_spread_269 : decode cX12_spread 269 = .ok (.return_, 1) := by decide +kernel
theorem kX12_251 : Cond.constantLong RX12 251 1000000000000 ∈ g_ws (gS, X) := (tb_t (k := 1438) (w := Cond.constantLong RX12 251 1000000000000) (by decide +kernel))
theorem kX12_253 : lkK (gS, X) RX12 253 mX12_into 3 ∧ Cond.instanceMethod yX12_into ∈ g_ws (gS, X) ∧ Cond.selects RX12 yX12_into yX12_into ∈ g_ws (gS, X) ∧ yX12_into.cls = RX12 := ⟨⟨tb_good, (tb_t (k := 1439) (w := Cond.methodLink RX12 253 yX12_into) (by decide +kernel)), (tb_t (k := 8) (w := Cond.initialized RX12) (by decide +kernel)), (tb_t (k := 1442) (w := Cond.code yX12_into cX12_into 5 (some .int)) (by decide +kernel)), by decide +kernel, by decide⟩, (tb_t (k := 1441) (w := Cond.instanceMethod yX12_into) (by decide +kernel)), (tb_p (k := 102) (q := (yX12_into, 45)) (by decide +kernel)), rfl⟩
theorem kX12_256 : lkK (gS, X) RX12 256 mX12_goes 4 ∧ Cond.instanceMethod yX12_goes ∈ g_ws (gS, X) ∧ Cond.selects RX12 yX12_goes yX12_goes ∈ g_ws (gS, X) ∧ yX12_goes.cls = RX12 := ⟨⟨tb_good, (tb_t (k := 1443) (w := Cond.methodLink RX12 256 yX12_goes) (by decide +kernel)), (tb_t (k := 8) (w := Cond.initialized RX12) (by decide +kernel)), (tb_t (k := 1446) (w := Cond.code yX12_goes cX12_goes 6 (some .boolean)) (by decide +kernel)), by decide +kernel, by decide⟩, (tb_t (k := 1445) (w := Cond.instanceMethod yX12_goes) (by decide +kernel)), (tb_p (k := 103) (q := (yX12_goes, 45)) (by decide +kernel)), rfl⟩
theorem dX12_into_0 : decode cX12_into 0 = .ok (.iload_n 1, 1) := by decide +kernel
theorem dX12_into_1 : decode cX12_into 1 = .ok (.iload_n 2, 1) := by decide +kernel
theorem dX12_into_2 : decode cX12_into 2 = .ok (.invokestatic 157, 3) := by decide +kernel
theorem dX12_into_5 : decode cX12_into 5 = .ok (.istore 4, 2) := by decide +kernel
theorem dX12_into_7 : decode cX12_into 7 = .ok (.aload_n 0, 1) := by decide +kernel
theorem dX12_into_8 : decode cX12_into 8 = .ok (.getfield 26, 3) := by decide +kernel
theorem dX12_into_11 : decode cX12_into 11 = .ok (.iload 4, 2) := by decide +kernel
theorem dX12_into_13 : decode cX12_into 13 = .ok (.iaload, 1) := by decide +kernel
theorem dX12_into_14 : decode cX12_into 14 = .ok (.iload_n 3, 1) := by decide +kernel
theorem dX12_into_15 : decode cX12_into 15 = .ok (.if_icmp .ne 13, 3) := by decide +kernel
theorem dX12_into_18 : decode cX12_into 18 = .ok (.aload_n 0, 1) := by decide +kernel
theorem dX12_into_19 : decode cX12_into 19 = .ok (.getfield 23, 3) := by decide +kernel
theorem dX12_into_22 : decode cX12_into 22 = .ok (.iload 4, 2) := by decide +kernel
theorem dX12_into_24 : decode cX12_into 24 = .ok (.iaload, 1) := by decide +kernel
theorem dX12_into_25 : decode cX12_into 25 = .ok (.goto 34, 3) := by decide +kernel
theorem dX12_into_28 : decode cX12_into 28 = .ok (.aload_n 0, 1) := by decide +kernel
theorem dX12_into_29 : decode cX12_into 29 = .ok (.getfield 16, 3) := by decide +kernel
theorem dX12_into_32 : decode cX12_into 32 = .ok (.iload_n 1, 1) := by decide +kernel
theorem dX12_into_33 : decode cX12_into 33 = .ok (.baload, 1) := by decide +kernel
theorem dX12_into_34 : decode cX12_into 34 = .ok (.ifCond .ne 24, 3) := by decide +kernel
theorem dX12_into_37 : decode cX12_into 37 = .ok (.aload_n 0, 1) := by decide +kernel
theorem dX12_into_38 : decode cX12_into 38 = .ok (.getfield 23, 3) := by decide +kernel
theorem dX12_into_41 : decode cX12_into 41 = .ok (.iload 4, 2) := by decide +kernel
theorem dX12_into_43 : decode cX12_into 43 = .ok (.iaload, 1) := by decide +kernel
theorem dX12_into_44 : decode cX12_into 44 = .ok (.iload_n 3, 1) := by decide +kernel
theorem dX12_into_45 : decode cX12_into 45 = .ok (.if_icmp .ne 13, 3) := by decide +kernel
theorem dX12_into_48 : decode cX12_into 48 = .ok (.aload_n 0, 1) := by decide +kernel
theorem dX12_into_49 : decode cX12_into 49 = .ok (.getfield 26, 3) := by decide +kernel
theorem dX12_into_52 : decode cX12_into 52 = .ok (.iload 4, 2) := by decide +kernel
theorem dX12_into_54 : decode cX12_into 54 = .ok (.iaload, 1) := by decide +kernel
theorem dX12_into_55 : decode cX12_into 55 = .ok (.goto 4, 3) := by decide +kernel
theorem dX12_into_58 : decode cX12_into 58 = .ok (.iconst (-1), 1) := by decide +kernel
theorem dX12_into_59 : decode cX12_into 59 = .ok (.ireturn, 1) := by decide +kernel
theorem dX12_widest_0 : decode cX12_widest 0 = .ok (.iload_n 2, 1) := by decide +kernel
theorem dX12_widest_1 : decode cX12_widest 1 = .ok (.iload_n 3, 1) := by decide +kernel
theorem dX12_widest_2 : decode cX12_widest 2 = .ok (.if_icmp .ne 7, 3) := by decide +kernel
theorem dX12_widest_5 : decode cX12_widest 5 = .ok (.ldc2_w 268, 3) := by decide +kernel
theorem dX12_widest_8 : decode cX12_widest 8 = .ok (.lreturn, 1) := by decide +kernel
theorem dX12_widest_9 : decode cX12_widest 9 = .ok (.sipush 1000, 3) := by decide +kernel
theorem dX12_widest_12 : decode cX12_widest 12 = .ok (.istore 4, 2) := by decide +kernel
theorem dX12_widest_14 : decode cX12_widest 14 = .ok (.iload 4, 2) := by decide +kernel
theorem dX12_widest_16 : decode cX12_widest 16 = .ok (.sipush (-1000), 3) := by decide +kernel
theorem dX12_widest_19 : decode cX12_widest 19 = .ok (.if_icmp .lt 162, 3) := by decide +kernel
theorem dX12_widest_22 : decode cX12_widest 22 = .ok (.iconst 1, 1) := by decide +kernel
theorem dX12_widest_23 : decode cX12_widest 23 = .ok (.iload_n 2, 1) := by decide +kernel
theorem dX12_widest_24 : decode cX12_widest 24 = .ok (.ishl, 1) := by decide +kernel
theorem dX12_widest_25 : decode cX12_widest 25 = .ok (.istore 5, 2) := by decide +kernel
theorem dX12_widest_27 : decode cX12_widest 27 = .ok (.iconst 0, 1) := by decide +kernel
theorem dX12_widest_28 : decode cX12_widest 28 = .ok (.istore 6, 2) := by decide +kernel
theorem dX12_widest_30 : decode cX12_widest 30 = .ok (.iload 6, 2) := by decide +kernel
theorem dX12_widest_32 : decode cX12_widest 32 = .ok (.iload 5, 2) := by decide +kernel
theorem dX12_widest_34 : decode cX12_widest 34 = .ok (.if_icmp .eq 127, 3) := by decide +kernel
theorem dX12_widest_37 : decode cX12_widest 37 = .ok (.iload 5, 2) := by decide +kernel
theorem dX12_widest_39 : decode cX12_widest 39 = .ok (.istore 6, 2) := by decide +kernel
theorem dX12_widest_41 : decode cX12_widest 41 = .ok (.iconst 0, 1) := by decide +kernel
theorem dX12_widest_42 : decode cX12_widest 42 = .ok (.istore 7, 2) := by decide +kernel
theorem dX12_widest_44 : decode cX12_widest 44 = .ok (.iload 7, 2) := by decide +kernel
theorem dX12_widest_46 : decode cX12_widest 46 = .ok (.aload_n 0, 1) := by decide +kernel
theorem dX12_widest_47 : decode cX12_widest 47 = .ok (.getfield 20, 3) := by decide +kernel
theorem dX12_widest_50 : decode cX12_widest 50 = .ok (.iload_n 1, 1) := by decide +kernel
theorem dX12_widest_51 : decode cX12_widest 51 = .ok (.iaload, 1) := by decide +kernel
theorem dX12_widest_52 : decode cX12_widest 52 = .ok (.if_icmp .ge 106, 3) := by decide +kernel
theorem dX12_widest_55 : decode cX12_widest 55 = .ok (.iload_n 1, 1) := by decide +kernel
theorem dX12_widest_56 : decode cX12_widest 56 = .ok (.iload 7, 2) := by decide +kernel
theorem dX12_widest_58 : decode cX12_widest 58 = .ok (.invokestatic 157, 3) := by decide +kernel
theorem dX12_widest_61 : decode cX12_widest 61 = .ok (.istore 8, 2) := by decide +kernel
theorem dX12_widest_63 : decode cX12_widest 63 = .ok (.aload_n 0, 1) := by decide +kernel
theorem dX12_widest_64 : decode cX12_widest 64 = .ok (.getfield 29, 3) := by decide +kernel
theorem dX12_widest_67 : decode cX12_widest 67 = .ok (.iload 8, 2) := by decide +kernel
theorem dX12_widest_69 : decode cX12_widest 69 = .ok (.iaload, 1) := by decide +kernel
theorem dX12_widest_70 : decode cX12_widest 70 = .ok (.iload 4, 2) := by decide +kernel
theorem dX12_widest_72 : decode cX12_widest 72 = .ok (.if_icmp .lt 80, 3) := by decide +kernel
theorem dX12_widest_75 : decode cX12_widest 75 = .ok (.iload 5, 2) := by decide +kernel
theorem dX12_widest_77 : decode cX12_widest 77 = .ok (.iload 5, 2) := by decide +kernel
theorem dX12_widest_79 : decode cX12_widest 79 = .ok (.aload_n 0, 1) := by decide +kernel
theorem dX12_widest_80 : decode cX12_widest 80 = .ok (.getfield 23, 3) := by decide +kernel
theorem dX12_widest_83 : decode cX12_widest 83 = .ok (.iload 8, 2) := by decide +kernel
theorem dX12_widest_85 : decode cX12_widest 85 = .ok (.iaload, 1) := by decide +kernel
theorem dX12_widest_86 : decode cX12_widest 86 = .ok (.ishr, 1) := by decide +kernel
theorem dX12_widest_87 : decode cX12_widest 87 = .ok (.iconst 1, 1) := by decide +kernel
theorem dX12_widest_88 : decode cX12_widest 88 = .ok (.iand, 1) := by decide +kernel
theorem dX12_widest_89 : decode cX12_widest 89 = .ok (.iconst 1, 1) := by decide +kernel
theorem dX12_widest_90 : decode cX12_widest 90 = .ok (.if_icmp .ne 15, 3) := by decide +kernel
theorem dX12_widest_93 : decode cX12_widest 93 = .ok (.iconst 1, 1) := by decide +kernel
theorem dX12_widest_94 : decode cX12_widest 94 = .ok (.aload_n 0, 1) := by decide +kernel
theorem dX12_widest_95 : decode cX12_widest 95 = .ok (.getfield 26, 3) := by decide +kernel
theorem dX12_widest_98 : decode cX12_widest 98 = .ok (.iload 8, 2) := by decide +kernel
theorem dX12_widest_100 : decode cX12_widest 100 = .ok (.iaload, 1) := by decide +kernel
theorem dX12_widest_101 : decode cX12_widest 101 = .ok (.ishl, 1) := by decide +kernel
theorem dX12_widest_102 : decode cX12_widest 102 = .ok (.goto 4, 3) := by decide +kernel
theorem dX12_widest_105 : decode cX12_widest 105 = .ok (.iconst 0, 1) := by decide +kernel
theorem dX12_widest_106 : decode cX12_widest 106 = .ok (.ior, 1) := by decide +kernel
theorem dX12_widest_107 : decode cX12_widest 107 = .ok (.istore 5, 2) := by decide +kernel
theorem dX12_widest_109 : decode cX12_widest 109 = .ok (.iload 5, 2) := by decide +kernel
theorem dX12_widest_111 : decode cX12_widest 111 = .ok (.aload_n 0, 1) := by decide +kernel
theorem dX12_widest_112 : decode cX12_widest 112 = .ok (.getfield 16, 3) := by decide +kernel
theorem dX12_widest_115 : decode cX12_widest 115 = .ok (.iload_n 1, 1) := by decide +kernel
theorem dX12_widest_116 : decode cX12_widest 116 = .ok (.baload, 1) := by decide +kernel
theorem dX12_widest_117 : decode cX12_widest 117 = .ok (.ifCond .ne 31, 3) := by decide +kernel
theorem dX12_widest_120 : decode cX12_widest 120 = .ok (.iload 5, 2) := by decide +kernel
theorem dX12_widest_122 : decode cX12_widest 122 = .ok (.aload_n 0, 1) := by decide +kernel
theorem dX12_widest_123 : decode cX12_widest 123 = .ok (.getfield 26, 3) := by decide +kernel
theorem dX12_widest_126 : decode cX12_widest 126 = .ok (.iload 8, 2) := by decide +kernel
theorem dX12_widest_128 : decode cX12_widest 128 = .ok (.iaload, 1) := by decide +kernel
theorem dX12_widest_129 : decode cX12_widest 129 = .ok (.ishr, 1) := by decide +kernel
theorem dX12_widest_130 : decode cX12_widest 130 = .ok (.iconst 1, 1) := by decide +kernel
theorem dX12_widest_131 : decode cX12_widest 131 = .ok (.iand, 1) := by decide +kernel
theorem dX12_widest_132 : decode cX12_widest 132 = .ok (.iconst 1, 1) := by decide +kernel
theorem dX12_widest_133 : decode cX12_widest 133 = .ok (.if_icmp .ne 15, 3) := by decide +kernel
theorem dX12_widest_136 : decode cX12_widest 136 = .ok (.iconst 1, 1) := by decide +kernel
theorem dX12_widest_137 : decode cX12_widest 137 = .ok (.aload_n 0, 1) := by decide +kernel
theorem dX12_widest_138 : decode cX12_widest 138 = .ok (.getfield 23, 3) := by decide +kernel
theorem dX12_widest_141 : decode cX12_widest 141 = .ok (.iload 8, 2) := by decide +kernel
theorem dX12_widest_143 : decode cX12_widest 143 = .ok (.iaload, 1) := by decide +kernel
theorem dX12_widest_144 : decode cX12_widest 144 = .ok (.ishl, 1) := by decide +kernel
theorem dX12_widest_145 : decode cX12_widest 145 = .ok (.goto 4, 3) := by decide +kernel
theorem dX12_widest_148 : decode cX12_widest 148 = .ok (.iconst 0, 1) := by decide +kernel
theorem dX12_widest_149 : decode cX12_widest 149 = .ok (.ior, 1) := by decide +kernel
theorem dX12_widest_150 : decode cX12_widest 150 = .ok (.istore 5, 2) := by decide +kernel
theorem dX12_widest_152 : decode cX12_widest 152 = .ok (.iinc 7 1, 3) := by decide +kernel
theorem dX12_widest_155 : decode cX12_widest 155 = .ok (.goto (-111), 3) := by decide +kernel
theorem dX12_widest_158 : decode cX12_widest 158 = .ok (.goto (-128), 3) := by decide +kernel
theorem dX12_widest_161 : decode cX12_widest 161 = .ok (.iload 5, 2) := by decide +kernel
theorem dX12_widest_163 : decode cX12_widest 163 = .ok (.iload_n 3, 1) := by decide +kernel
theorem dX12_widest_164 : decode cX12_widest 164 = .ok (.ishr, 1) := by decide +kernel
theorem dX12_widest_165 : decode cX12_widest 165 = .ok (.iconst 1, 1) := by decide +kernel
theorem dX12_widest_166 : decode cX12_widest 166 = .ok (.iand, 1) := by decide +kernel
theorem dX12_widest_167 : decode cX12_widest 167 = .ok (.iconst 1, 1) := by decide +kernel
theorem dX12_widest_168 : decode cX12_widest 168 = .ok (.if_icmp .ne 7, 3) := by decide +kernel
theorem dX12_widest_171 : decode cX12_widest 171 = .ok (.iload 4, 2) := by decide +kernel
theorem dX12_widest_173 : decode cX12_widest 173 = .ok (.i2l, 1) := by decide +kernel
theorem dX12_widest_174 : decode cX12_widest 174 = .ok (.lreturn, 1) := by decide +kernel
theorem dX12_widest_175 : decode cX12_widest 175 = .ok (.iinc 4 (-1), 3) := by decide +kernel
theorem dX12_widest_178 : decode cX12_widest 178 = .ok (.goto (-164), 3) := by decide +kernel
theorem dX12_widest_181 : decode cX12_widest 181 = .ok (.ldc2_w 270, 3) := by decide +kernel
theorem dX12_widest_184 : decode cX12_widest 184 = .ok (.lreturn, 1) := by decide +kernel
theorem kX12_268 : Cond.constantLong RX12 268 1001 ∈ g_ws (gS, X) := (tb_t (k := 1428) (w := Cond.constantLong RX12 268 1001) (by decide +kernel))
theorem kX12_270 : Cond.constantLong RX12 270 (-5000) ∈ g_ws (gS, X) := (tb_t (k := 1429) (w := Cond.constantLong RX12 270 (-5000)) (by decide +kernel))
theorem dX12_fill_0 : decode cX12_fill 0 = .ok (.aload_n 0, 1) := by decide +kernel
theorem dX12_fill_1 : decode cX12_fill 1 = .ok (.getfield 13, 3) := by decide +kernel
theorem dX12_fill_4 : decode cX12_fill 4 = .ok (.iload_n 2, 1) := by decide +kernel
theorem dX12_fill_5 : decode cX12_fill 5 = .ok (.iaload, 1) := by decide +kernel
theorem dX12_fill_6 : decode cX12_fill 6 = .ok (.istore 8, 2) := by decide +kernel
theorem dX12_fill_8 : decode cX12_fill 8 = .ok (.bipush 16, 2) := by decide +kernel
theorem dX12_fill_10 : decode cX12_fill 10 = .ok (.iload_n 1, 1) := by decide +kernel
theorem dX12_fill_11 : decode cX12_fill 11 = .ok (.imul, 1) := by decide +kernel
theorem dX12_fill_12 : decode cX12_fill 12 = .ok (.iload 5, 2) := by decide +kernel
theorem dX12_fill_14 : decode cX12_fill 14 = .ok (.iadd, 1) := by decide +kernel
theorem dX12_fill_15 : decode cX12_fill 15 = .ok (.istore 9, 2) := by decide +kernel
theorem dX12_fill_17 : decode cX12_fill 17 = .ok (.aload_n 0, 1) := by decide +kernel
theorem dX12_fill_18 : decode cX12_fill 18 = .ok (.getfield 39, 3) := by decide +kernel
theorem dX12_fill_21 : decode cX12_fill 21 = .ok (.iload 9, 2) := by decide +kernel
theorem dX12_fill_23 : decode cX12_fill 23 = .ok (.iconst 0, 1) := by decide +kernel
theorem dX12_fill_24 : decode cX12_fill 24 = .ok (.iastore, 1) := by decide +kernel
theorem dX12_fill_25 : decode cX12_fill 25 = .ok (.aload_n 0, 1) := by decide +kernel
theorem dX12_fill_26 : decode cX12_fill 26 = .ok (.getfield 42, 3) := by decide +kernel
theorem dX12_fill_29 : decode cX12_fill 29 = .ok (.iload 9, 2) := by decide +kernel
theorem dX12_fill_31 : decode cX12_fill 31 = .ok (.lconst 0, 1) := by decide +kernel
theorem dX12_fill_32 : decode cX12_fill 32 = .ok (.lastore, 1) := by decide +kernel
theorem dX12_fill_33 : decode cX12_fill 33 = .ok (.aload_n 0, 1) := by decide +kernel
theorem dX12_fill_34 : decode cX12_fill 34 = .ok (.getfield 45, 3) := by decide +kernel
theorem dX12_fill_37 : decode cX12_fill 37 = .ok (.iload 9, 2) := by decide +kernel
theorem dX12_fill_39 : decode cX12_fill 39 = .ok (.iconst (-1), 1) := by decide +kernel
theorem dX12_fill_40 : decode cX12_fill 40 = .ok (.iastore, 1) := by decide +kernel
theorem dX12_fill_41 : decode cX12_fill 41 = .ok (.aload_n 0, 1) := by decide +kernel
theorem dX12_fill_42 : decode cX12_fill 42 = .ok (.getfield 48, 3) := by decide +kernel
theorem dX12_fill_45 : decode cX12_fill 45 = .ok (.iload 9, 2) := by decide +kernel
theorem dX12_fill_47 : decode cX12_fill 47 = .ok (.lconst 0, 1) := by decide +kernel
theorem dX12_fill_48 : decode cX12_fill 48 = .ok (.lastore, 1) := by decide +kernel
theorem dX12_fill_49 : decode cX12_fill 49 = .ok (.aload_n 0, 1) := by decide +kernel
theorem dX12_fill_50 : decode cX12_fill 50 = .ok (.iload_n 2, 1) := by decide +kernel
theorem dX12_fill_51 : decode cX12_fill 51 = .ok (.iload_n 3, 1) := by decide +kernel
theorem dX12_fill_52 : decode cX12_fill 52 = .ok (.iload 4, 2) := by decide +kernel
theorem dX12_fill_54 : decode cX12_fill 54 = .ok (.iload 8, 2) := by decide +kernel
theorem dX12_fill_56 : decode cX12_fill 56 = .ok (.lload 6, 2) := by decide +kernel
theorem dX12_fill_58 : decode cX12_fill 58 = .ok (.invokevirtual 272, 3) := by decide +kernel
theorem dX12_fill_61 : decode cX12_fill 61 = .ok (.iconst (-1), 1) := by decide +kernel
theorem dX12_fill_62 : decode cX12_fill 62 = .ok (.istore 10, 2) := by decide +kernel
theorem dX12_fill_64 : decode cX12_fill 64 = .ok (.iconst 0, 1) := by decide +kernel
theorem dX12_fill_65 : decode cX12_fill 65 = .ok (.istore 11, 2) := by decide +kernel
theorem dX12_fill_67 : decode cX12_fill 67 = .ok (.iload 11, 2) := by decide +kernel
theorem dX12_fill_69 : decode cX12_fill 69 = .ok (.iload 8, 2) := by decide +kernel
theorem dX12_fill_71 : decode cX12_fill 71 = .ok (.if_icmp .ge 65, 3) := by decide +kernel
theorem dX12_fill_74 : decode cX12_fill 74 = .ok (.aload_n 0, 1) := by decide +kernel
theorem dX12_fill_75 : decode cX12_fill 75 = .ok (.getfield 91, 3) := by decide +kernel
theorem dX12_fill_78 : decode cX12_fill 78 = .ok (.bipush 16, 2) := by decide +kernel
theorem dX12_fill_80 : decode cX12_fill 80 = .ok (.iload 11, 2) := by decide +kernel
theorem dX12_fill_82 : decode cX12_fill 82 = .ok (.imul, 1) := by decide +kernel
theorem dX12_fill_83 : decode cX12_fill 83 = .ok (.iload 5, 2) := by decide +kernel
theorem dX12_fill_85 : decode cX12_fill 85 = .ok (.iadd, 1) := by decide +kernel
theorem dX12_fill_86 : decode cX12_fill 86 = .ok (.laload, 1) := by decide +kernel
theorem dX12_fill_87 : decode cX12_fill 87 = .ok (.lstore 12, 2) := by decide +kernel
theorem dX12_fill_89 : decode cX12_fill 89 = .ok (.lload 12, 2) := by decide +kernel
theorem dX12_fill_91 : decode cX12_fill 91 = .ok (.ldc2_w 251, 3) := by decide +kernel
theorem dX12_fill_94 : decode cX12_fill 94 = .ok (.lcmp, 1) := by decide +kernel
theorem dX12_fill_95 : decode cX12_fill 95 = .ok (.ifCond .ge 35, 3) := by decide +kernel
theorem dX12_fill_98 : decode cX12_fill 98 = .ok (.iload 10, 2) := by decide +kernel
theorem dX12_fill_100 : decode cX12_fill 100 = .ok (.ifCond .lt 26, 3) := by decide +kernel
theorem dX12_fill_103 : decode cX12_fill 103 = .ok (.iload_n 3, 1) := by decide +kernel
theorem dX12_fill_104 : decode cX12_fill 104 = .ok (.ifCond .ne 26, 3) := by decide +kernel
theorem dX12_fill_107 : decode cX12_fill 107 = .ok (.lload 12, 2) := by decide +kernel
theorem dX12_fill_109 : decode cX12_fill 109 = .ok (.aload_n 0, 1) := by decide +kernel
theorem dX12_fill_110 : decode cX12_fill 110 = .ok (.getfield 91, 3) := by decide +kernel
theorem dX12_fill_113 : decode cX12_fill 113 = .ok (.bipush 16, 2) := by decide +kernel
theorem dX12_fill_115 : decode cX12_fill 115 = .ok (.iload 10, 2) := by decide +kernel
theorem dX12_fill_117 : decode cX12_fill 117 = .ok (.imul, 1) := by decide +kernel
theorem dX12_fill_118 : decode cX12_fill 118 = .ok (.iload 5, 2) := by decide +kernel
theorem dX12_fill_120 : decode cX12_fill 120 = .ok (.iadd, 1) := by decide +kernel
theorem dX12_fill_121 : decode cX12_fill 121 = .ok (.laload, 1) := by decide +kernel
theorem dX12_fill_122 : decode cX12_fill 122 = .ok (.lcmp, 1) := by decide +kernel
theorem dX12_fill_123 : decode cX12_fill 123 = .ok (.ifCond .ge 7, 3) := by decide +kernel
theorem dX12_fill_126 : decode cX12_fill 126 = .ok (.iload 11, 2) := by decide +kernel
theorem dX12_fill_128 : decode cX12_fill 128 = .ok (.istore 10, 2) := by decide +kernel
theorem dX12_fill_130 : decode cX12_fill 130 = .ok (.iinc 11 1, 3) := by decide +kernel
theorem dX12_fill_133 : decode cX12_fill 133 = .ok (.goto (-66), 3) := by decide +kernel
theorem dX12_fill_136 : decode cX12_fill 136 = .ok (.iload 10, 2) := by decide +kernel
theorem dX12_fill_138 : decode cX12_fill 138 = .ok (.ifCond .ge 4, 3) := by decide +kernel
theorem dX12_fill_141 : decode cX12_fill 141 = .ok (.return_, 1) := by decide +kernel
theorem dX12_fill_142 : decode cX12_fill 142 = .ok (.iload_n 3, 1) := by decide +kernel
theorem dX12_fill_143 : decode cX12_fill 143 = .ok (.ifCond .ne 24, 3) := by decide +kernel
theorem dX12_fill_146 : decode cX12_fill 146 = .ok (.aload_n 0, 1) := by decide +kernel
theorem dX12_fill_147 : decode cX12_fill 147 = .ok (.iload_n 2, 1) := by decide +kernel
theorem dX12_fill_148 : decode cX12_fill 148 = .ok (.iload 4, 2) := by decide +kernel
theorem dX12_fill_150 : decode cX12_fill 150 = .ok (.iload 5, 2) := by decide +kernel
theorem dX12_fill_152 : decode cX12_fill 152 = .ok (.invokevirtual 276, 3) := by decide +kernel
theorem dX12_fill_155 : decode cX12_fill 155 = .ok (.ifCond .eq 12, 3) := by decide +kernel
theorem dX12_fill_158 : decode cX12_fill 158 = .ok (.aload_n 0, 1) := by decide +kernel
theorem dX12_fill_159 : decode cX12_fill 159 = .ok (.getfield 39, 3) := by decide +kernel
theorem dX12_fill_162 : decode cX12_fill 162 = .ok (.iload 9, 2) := by decide +kernel
theorem dX12_fill_164 : decode cX12_fill 164 = .ok (.iconst 2, 1) := by decide +kernel
theorem dX12_fill_165 : decode cX12_fill 165 = .ok (.iastore, 1) := by decide +kernel
theorem dX12_fill_166 : decode cX12_fill 166 = .ok (.return_, 1) := by decide +kernel
theorem dX12_fill_167 : decode cX12_fill 167 = .ok (.aload_n 0, 1) := by decide +kernel
theorem dX12_fill_168 : decode cX12_fill 168 = .ok (.getfield 39, 3) := by decide +kernel
theorem dX12_fill_171 : decode cX12_fill 171 = .ok (.iload 9, 2) := by decide +kernel
theorem dX12_fill_173 : decode cX12_fill 173 = .ok (.iconst 1, 1) := by decide +kernel
theorem dX12_fill_174 : decode cX12_fill 174 = .ok (.iastore, 1) := by decide +kernel
theorem dX12_fill_175 : decode cX12_fill 175 = .ok (.aload_n 0, 1) := by decide +kernel
theorem dX12_fill_176 : decode cX12_fill 176 = .ok (.getfield 42, 3) := by decide +kernel
theorem dX12_fill_179 : decode cX12_fill 179 = .ok (.iload 9, 2) := by decide +kernel
theorem dX12_fill_181 : decode cX12_fill 181 = .ok (.iload_n 3, 1) := by decide +kernel
theorem dX12_fill_182 : decode cX12_fill 182 = .ok (.ifCond .ne 19, 3) := by decide +kernel
theorem dX12_fill_185 : decode cX12_fill 185 = .ok (.aload_n 0, 1) := by decide +kernel
theorem dX12_fill_186 : decode cX12_fill 186 = .ok (.getfield 91, 3) := by decide +kernel
theorem dX12_fill_189 : decode cX12_fill 189 = .ok (.bipush 16, 2) := by decide +kernel
theorem dX12_fill_191 : decode cX12_fill 191 = .ok (.iload 10, 2) := by decide +kernel
theorem dX12_fill_193 : decode cX12_fill 193 = .ok (.imul, 1) := by decide +kernel
theorem dX12_fill_194 : decode cX12_fill 194 = .ok (.iload 5, 2) := by decide +kernel
theorem dX12_fill_196 : decode cX12_fill 196 = .ok (.iadd, 1) := by decide +kernel
theorem dX12_fill_197 : decode cX12_fill 197 = .ok (.laload, 1) := by decide +kernel
theorem dX12_fill_198 : decode cX12_fill 198 = .ok (.goto 16, 3) := by decide +kernel
theorem dX12_fill_201 : decode cX12_fill 201 = .ok (.iload_n 3, 1) := by decide +kernel
theorem dX12_fill_202 : decode cX12_fill 202 = .ok (.iconst 1, 1) := by decide +kernel
theorem dX12_fill_203 : decode cX12_fill 203 = .ok (.if_icmp .ne 9, 3) := by decide +kernel
theorem dX12_fill_206 : decode cX12_fill 206 = .ok (.iload 10, 2) := by decide +kernel
theorem dX12_fill_208 : decode cX12_fill 208 = .ok (.i2l, 1) := by decide +kernel
theorem dX12_fill_209 : decode cX12_fill 209 = .ok (.goto 5, 3) := by decide +kernel
theorem dX12_fill_212 : decode cX12_fill 212 = .ok (.lload 6, 2) := by decide +kernel
theorem dX12_fill_214 : decode cX12_fill 214 = .ok (.lastore, 1) := by decide +kernel
theorem dX12_fill_215 : decode cX12_fill 215 = .ok (.aload_n 0, 1) := by decide +kernel
theorem dX12_fill_216 : decode cX12_fill 216 = .ok (.getfield 45, 3) := by decide +kernel
theorem dX12_fill_219 : decode cX12_fill 219 = .ok (.iload 9, 2) := by decide +kernel
theorem dX12_fill_221 : decode cX12_fill 221 = .ok (.iload 10, 2) := by decide +kernel
theorem dX12_fill_223 : decode cX12_fill 223 = .ok (.iastore, 1) := by decide +kernel
theorem dX12_fill_224 : decode cX12_fill 224 = .ok (.aload_n 0, 1) := by decide +kernel
theorem dX12_fill_225 : decode cX12_fill 225 = .ok (.getfield 48, 3) := by decide +kernel
theorem dX12_fill_228 : decode cX12_fill 228 = .ok (.iload 9, 2) := by decide +kernel
theorem dX12_fill_230 : decode cX12_fill 230 = .ok (.aload_n 0, 1) := by decide +kernel
theorem dX12_fill_231 : decode cX12_fill 231 = .ok (.getfield 94, 3) := by decide +kernel
theorem dX12_fill_234 : decode cX12_fill 234 = .ok (.bipush 16, 2) := by decide +kernel
theorem dX12_fill_236 : decode cX12_fill 236 = .ok (.iload 10, 2) := by decide +kernel
theorem dX12_fill_238 : decode cX12_fill 238 = .ok (.imul, 1) := by decide +kernel
theorem dX12_fill_239 : decode cX12_fill 239 = .ok (.iload 5, 2) := by decide +kernel
theorem dX12_fill_241 : decode cX12_fill 241 = .ok (.iadd, 1) := by decide +kernel
theorem dX12_fill_242 : decode cX12_fill 242 = .ok (.laload, 1) := by decide +kernel
theorem dX12_fill_243 : decode cX12_fill 243 = .ok (.lastore, 1) := by decide +kernel
theorem dX12_fill_244 : decode cX12_fill 244 = .ok (.iload 5, 2) := by decide +kernel
theorem dX12_fill_246 : decode cX12_fill 246 = .ok (.istore 11, 2) := by decide +kernel
theorem dX12_fill_248 : decode cX12_fill 248 = .ok (.iload 10, 2) := by decide +kernel
theorem dX12_fill_250 : decode cX12_fill 250 = .ok (.istore 12, 2) := by decide +kernel
theorem dX12_fill_252 : decode cX12_fill 252 = .ok (.iload 12, 2) := by decide +kernel
theorem dX12_fill_254 : decode cX12_fill 254 = .ok (.ifCond .le 69, 3) := by decide +kernel
theorem dX12_fill_257 : decode cX12_fill 257 = .ok (.iconst 0, 1) := by decide +kernel
theorem dX12_fill_258 : decode cX12_fill 258 = .ok (.istore 13, 2) := by decide +kernel
theorem dX12_fill_260 : decode cX12_fill 260 = .ok (.aload_n 0, 1) := by decide +kernel
theorem dX12_fill_261 : decode cX12_fill 261 = .ok (.iload_n 2, 1) := by decide +kernel
theorem dX12_fill_262 : decode cX12_fill 262 = .ok (.iload_n 3, 1) := by decide +kernel
theorem dX12_fill_263 : decode cX12_fill 263 = .ok (.lload 6, 2) := by decide +kernel
theorem dX12_fill_265 : decode cX12_fill 265 = .ok (.iload 13, 2) := by decide +kernel
theorem dX12_fill_267 : decode cX12_fill 267 = .ok (.iload 11, 2) := by decide +kernel
theorem dX12_fill_269 : decode cX12_fill 269 = .ok (.iload 12, 2) := by decide +kernel
theorem dX12_fill_271 : decode cX12_fill 271 = .ok (.invokevirtual 279, 3) := by decide +kernel
theorem dX12_fill_274 : decode cX12_fill 274 = .ok (.ifCond .ne 9, 3) := by decide +kernel
theorem dX12_fill_277 : decode cX12_fill 277 = .ok (.iinc 13 1, 3) := by decide +kernel
theorem dX12_fill_280 : decode cX12_fill 280 = .ok (.goto (-20), 3) := by decide +kernel
theorem dX12_fill_283 : decode cX12_fill 283 = .ok (.aload_n 0, 1) := by decide +kernel
theorem dX12_fill_284 : decode cX12_fill 284 = .ok (.getfield 51, 3) := by decide +kernel
theorem dX12_fill_287 : decode cX12_fill 287 = .ok (.sipush 256, 3) := by decide +kernel
theorem dX12_fill_290 : decode cX12_fill 290 = .ok (.iload_n 1, 1) := by decide +kernel
theorem dX12_fill_291 : decode cX12_fill 291 = .ok (.imul, 1) := by decide +kernel
theorem dX12_fill_292 : decode cX12_fill 292 = .ok (.bipush 16, 2) := by decide +kernel
theorem dX12_fill_294 : decode cX12_fill 294 = .ok (.iload 5, 2) := by decide +kernel
theorem dX12_fill_296 : decode cX12_fill 296 = .ok (.imul, 1) := by decide +kernel
theorem dX12_fill_297 : decode cX12_fill 297 = .ok (.iadd, 1) := by decide +kernel
theorem dX12_fill_298 : decode cX12_fill 298 = .ok (.iload 12, 2) := by decide +kernel
theorem dX12_fill_300 : decode cX12_fill 300 = .ok (.iadd, 1) := by decide +kernel
theorem dX12_fill_301 : decode cX12_fill 301 = .ok (.iconst 1, 1) := by decide +kernel
theorem dX12_fill_302 : decode cX12_fill 302 = .ok (.isub, 1) := by decide +kernel
theorem dX12_fill_303 : decode cX12_fill 303 = .ok (.iload 13, 2) := by decide +kernel
theorem dX12_fill_305 : decode cX12_fill 305 = .ok (.iastore, 1) := by decide +kernel
theorem dX12_fill_306 : decode cX12_fill 306 = .ok (.aload_n 0, 1) := by decide +kernel
theorem dX12_fill_307 : decode cX12_fill 307 = .ok (.iload_n 2, 1) := by decide +kernel
theorem dX12_fill_308 : decode cX12_fill 308 = .ok (.iload 13, 2) := by decide +kernel
theorem dX12_fill_310 : decode cX12_fill 310 = .ok (.iload 11, 2) := by decide +kernel
theorem dX12_fill_312 : decode cX12_fill 312 = .ok (.invokevirtual 253, 3) := by decide +kernel
theorem dX12_fill_315 : decode cX12_fill 315 = .ok (.istore 11, 2) := by decide +kernel
theorem dX12_fill_317 : decode cX12_fill 317 = .ok (.iinc 12 (-1), 3) := by decide +kernel
theorem dX12_fill_320 : decode cX12_fill 320 = .ok (.goto (-68), 3) := by decide +kernel
theorem dX12_fill_323 : decode cX12_fill 323 = .ok (.return_, 1) := by decide +kernel
theorem kX12_272 : lkK (gS, X) RX12 272 mX12_spread 5 ∧ Cond.instanceMethod yX12_spread ∈ g_ws (gS, X) ∧ Cond.selects RX12 yX12_spread yX12_spread ∈ g_ws (gS, X) ∧ yX12_spread.cls = RX12 := ⟨⟨tb_good, (tb_t (k := 1434) (w := Cond.methodLink RX12 272 yX12_spread) (by decide +kernel)), (tb_t (k := 8) (w := Cond.initialized RX12) (by decide +kernel)), (tb_t (k := 1437) (w := Cond.code yX12_spread cX12_spread 18 none) (by decide +kernel)), by decide +kernel, by decide⟩, (tb_t (k := 1436) (w := Cond.instanceMethod yX12_spread) (by decide +kernel)), (tb_p (k := 101) (q := (yX12_spread, 45)) (by decide +kernel)), rfl⟩
theorem kX12_276 : lkK (gS, X) RX12 276 mX12_isEndless 3 ∧ Cond.instanceMethod yX12_isEndless ∈ g_ws (gS, X) ∧ Cond.selects RX12 yX12_isEndless yX12_isEndless ∈ g_ws (gS, X) ∧ yX12_isEndless.cls = RX12 := ⟨⟨tb_good, (tb_t (k := 1447) (w := Cond.methodLink RX12 276 yX12_isEndless) (by decide +kernel)), (tb_t (k := 8) (w := Cond.initialized RX12) (by decide +kernel)), (tb_t (k := 1450) (w := Cond.code yX12_isEndless cX12_isEndless 7 (some .boolean)) (by decide +kernel)), by decide +kernel, by decide⟩, (tb_t (k := 1449) (w := Cond.instanceMethod yX12_isEndless) (by decide +kernel)), (tb_p (k := 104) (q := (yX12_isEndless, 45)) (by decide +kernel)), rfl⟩
theorem kX12_279 : lkK (gS, X) RX12 279 mX12_isLast 6 ∧ Cond.instanceMethod yX12_isLast ∈ g_ws (gS, X) ∧ Cond.selects RX12 yX12_isLast yX12_isLast ∈ g_ws (gS, X) ∧ yX12_isLast.cls = RX12 := ⟨⟨tb_good, (tb_t (k := 1459) (w := Cond.methodLink RX12 279 yX12_isLast) (by decide +kernel)), (tb_t (k := 8) (w := Cond.initialized RX12) (by decide +kernel)), (tb_t (k := 1462) (w := Cond.code yX12_isLast cX12_isLast 9 (some .boolean)) (by decide +kernel)), by decide +kernel, by decide⟩, (tb_t (k := 1461) (w := Cond.instanceMethod yX12_isLast) (by decide +kernel)), (tb_p (k := 107) (q := (yX12_isLast, 45)) (by decide +kernel)), rfl⟩
theorem dX12_isLast_0 : decode cX12_isLast 0 = .ok (.aload_n 0, 1) := by decide +kernel
theorem dX12_isLast_1 : decode cX12_isLast 1 = .ok (.iload_n 1, 1) := by decide +kernel
theorem dX12_isLast_2 : decode cX12_isLast 2 = .ok (.iload 5, 2) := by decide +kernel
theorem dX12_isLast_4 : decode cX12_isLast 4 = .ok (.iload 6, 2) := by decide +kernel
theorem dX12_isLast_6 : decode cX12_isLast 6 = .ok (.invokevirtual 253, 3) := by decide +kernel
theorem dX12_isLast_9 : decode cX12_isLast 9 = .ok (.istore 8, 2) := by decide +kernel
theorem dX12_isLast_11 : decode cX12_isLast 11 = .ok (.iload 8, 2) := by decide +kernel
theorem dX12_isLast_13 : decode cX12_isLast 13 = .ok (.ifCond .lt 94, 3) := by decide +kernel
theorem dX12_isLast_16 : decode cX12_isLast 16 = .ok (.aload_n 0, 1) := by decide +kernel
theorem dX12_isLast_17 : decode cX12_isLast 17 = .ok (.iload_n 1, 1) := by decide +kernel
theorem dX12_isLast_18 : decode cX12_isLast 18 = .ok (.iload 5, 2) := by decide +kernel
theorem dX12_isLast_20 : decode cX12_isLast 20 = .ok (.iload_n 2, 1) := by decide +kernel
theorem dX12_isLast_21 : decode cX12_isLast 21 = .ok (.lload_n 3, 1) := by decide +kernel
theorem dX12_isLast_22 : decode cX12_isLast 22 = .ok (.invokevirtual 256, 3) := by decide +kernel
theorem dX12_isLast_25 : decode cX12_isLast 25 = .ok (.ifCond .eq 82, 3) := by decide +kernel
theorem dX12_isLast_28 : decode cX12_isLast 28 = .ok (.aload_n 0, 1) := by decide +kernel
theorem dX12_isLast_29 : decode cX12_isLast 29 = .ok (.getfield 91, 3) := by decide +kernel
theorem dX12_isLast_32 : decode cX12_isLast 32 = .ok (.bipush 16, 2) := by decide +kernel
theorem dX12_isLast_34 : decode cX12_isLast 34 = .ok (.iload 7, 2) := by decide +kernel
theorem dX12_isLast_36 : decode cX12_isLast 36 = .ok (.iconst 1, 1) := by decide +kernel
theorem dX12_isLast_37 : decode cX12_isLast 37 = .ok (.isub, 1) := by decide +kernel
theorem dX12_isLast_38 : decode cX12_isLast 38 = .ok (.imul, 1) := by decide +kernel
theorem dX12_isLast_39 : decode cX12_isLast 39 = .ok (.iload 8, 2) := by decide +kernel
theorem dX12_isLast_41 : decode cX12_isLast 41 = .ok (.iadd, 1) := by decide +kernel
theorem dX12_isLast_42 : decode cX12_isLast 42 = .ok (.laload, 1) := by decide +kernel
theorem dX12_isLast_43 : decode cX12_isLast 43 = .ok (.ldc2_w 251, 3) := by decide +kernel
theorem dX12_isLast_46 : decode cX12_isLast 46 = .ok (.lcmp, 1) := by decide +kernel
theorem dX12_isLast_47 : decode cX12_isLast 47 = .ok (.ifCond .ge 60, 3) := by decide +kernel
theorem dX12_isLast_50 : decode cX12_isLast 50 = .ok (.aload_n 0, 1) := by decide +kernel
theorem dX12_isLast_51 : decode cX12_isLast 51 = .ok (.getfield 91, 3) := by decide +kernel
theorem dX12_isLast_54 : decode cX12_isLast 54 = .ok (.bipush 16, 2) := by decide +kernel
theorem dX12_isLast_56 : decode cX12_isLast 56 = .ok (.iload 7, 2) := by decide +kernel
theorem dX12_isLast_58 : decode cX12_isLast 58 = .ok (.iconst 1, 1) := by decide +kernel
theorem dX12_isLast_59 : decode cX12_isLast 59 = .ok (.isub, 1) := by decide +kernel
theorem dX12_isLast_60 : decode cX12_isLast 60 = .ok (.imul, 1) := by decide +kernel
theorem dX12_isLast_61 : decode cX12_isLast 61 = .ok (.iload 8, 2) := by decide +kernel
theorem dX12_isLast_63 : decode cX12_isLast 63 = .ok (.iadd, 1) := by decide +kernel
theorem dX12_isLast_64 : decode cX12_isLast 64 = .ok (.laload, 1) := by decide +kernel
theorem dX12_isLast_65 : decode cX12_isLast 65 = .ok (.iload_n 2, 1) := by decide +kernel
theorem dX12_isLast_66 : decode cX12_isLast 66 = .ok (.ifCond .ne 17, 3) := by decide +kernel
theorem dX12_isLast_69 : decode cX12_isLast 69 = .ok (.aload_n 0, 1) := by decide +kernel
theorem dX12_isLast_70 : decode cX12_isLast 70 = .ok (.getfield 29, 3) := by decide +kernel
theorem dX12_isLast_73 : decode cX12_isLast 73 = .ok (.iload_n 1, 1) := by decide +kernel
theorem dX12_isLast_74 : decode cX12_isLast 74 = .ok (.iload 5, 2) := by decide +kernel
theorem dX12_isLast_76 : decode cX12_isLast 76 = .ok (.invokestatic 157, 3) := by decide +kernel
theorem dX12_isLast_79 : decode cX12_isLast 79 = .ok (.iaload, 1) := by decide +kernel
theorem dX12_isLast_80 : decode cX12_isLast 80 = .ok (.goto 4, 3) := by decide +kernel
theorem dX12_isLast_83 : decode cX12_isLast 83 = .ok (.iconst 0, 1) := by decide +kernel
theorem dX12_isLast_84 : decode cX12_isLast 84 = .ok (.i2l, 1) := by decide +kernel
theorem dX12_isLast_85 : decode cX12_isLast 85 = .ok (.ladd, 1) := by decide +kernel
theorem dX12_isLast_86 : decode cX12_isLast 86 = .ok (.aload_n 0, 1) := by decide +kernel
theorem dX12_isLast_87 : decode cX12_isLast 87 = .ok (.getfield 91, 3) := by decide +kernel
theorem dX12_isLast_90 : decode cX12_isLast 90 = .ok (.bipush 16, 2) := by decide +kernel
theorem dX12_isLast_92 : decode cX12_isLast 92 = .ok (.iload 7, 2) := by decide +kernel
theorem dX12_isLast_94 : decode cX12_isLast 94 = .ok (.imul, 1) := by decide +kernel
theorem dX12_isLast_95 : decode cX12_isLast 95 = .ok (.iload 6, 2) := by decide +kernel
theorem dX12_isLast_97 : decode cX12_isLast 97 = .ok (.iadd, 1) := by decide +kernel
theorem dX12_isLast_98 : decode cX12_isLast 98 = .ok (.laload, 1) := by decide +kernel
theorem dX12_isLast_99 : decode cX12_isLast 99 = .ok (.lcmp, 1) := by decide +kernel
theorem dX12_isLast_100 : decode cX12_isLast 100 = .ok (.ifCond .ne 7, 3) := by decide +kernel
theorem dX12_isLast_103 : decode cX12_isLast 103 = .ok (.iconst 1, 1) := by decide +kernel
theorem dX12_isLast_104 : decode cX12_isLast 104 = .ok (.goto 4, 3) := by decide +kernel
theorem dX12_isLast_107 : decode cX12_isLast 107 = .ok (.iconst 0, 1) := by decide +kernel
theorem dX12_isLast_108 : decode cX12_isLast 108 = .ok (.ireturn, 1) := by decide +kernel
theorem dX12_isEndless_0 : decode cX12_isEndless 0 = .ok (.aload_n 0, 1) := by decide +kernel
theorem dX12_isEndless_1 : decode cX12_isEndless 1 = .ok (.getfield 13, 3) := by decide +kernel
theorem dX12_isEndless_4 : decode cX12_isEndless 4 = .ok (.iload_n 1, 1) := by decide +kernel
theorem dX12_isEndless_5 : decode cX12_isEndless 5 = .ok (.iaload, 1) := by decide +kernel
theorem dX12_isEndless_6 : decode cX12_isEndless 6 = .ok (.istore 4, 2) := by decide +kernel
theorem dX12_isEndless_8 : decode cX12_isEndless 8 = .ok (.iconst 0, 1) := by decide +kernel
theorem dX12_isEndless_9 : decode cX12_isEndless 9 = .ok (.istore 5, 2) := by decide +kernel
theorem dX12_isEndless_11 : decode cX12_isEndless 11 = .ok (.iconst 0, 1) := by decide +kernel
theorem dX12_isEndless_12 : decode cX12_isEndless 12 = .ok (.istore 6, 2) := by decide +kernel
theorem dX12_isEndless_14 : decode cX12_isEndless 14 = .ok (.iload 6, 2) := by decide +kernel
theorem dX12_isEndless_16 : decode cX12_isEndless 16 = .ok (.iload 4, 2) := by decide +kernel
theorem dX12_isEndless_18 : decode cX12_isEndless 18 = .ok (.if_icmp .ge 45, 3) := by decide +kernel
theorem dX12_isEndless_21 : decode cX12_isEndless 21 = .ok (.aload_n 0, 1) := by decide +kernel
theorem dX12_isEndless_22 : decode cX12_isEndless 22 = .ok (.iload_n 1, 1) := by decide +kernel
theorem dX12_isEndless_23 : decode cX12_isEndless 23 = .ok (.iconst 1, 1) := by decide +kernel
theorem dX12_isEndless_24 : decode cX12_isEndless 24 = .ok (.iload_n 2, 1) := by decide +kernel
theorem dX12_isEndless_25 : decode cX12_isEndless 25 = .ok (.ishl, 1) := by decide +kernel
theorem dX12_isEndless_26 : decode cX12_isEndless 26 = .ok (.invokevirtual 283, 3) := by decide +kernel
theorem dX12_isEndless_29 : decode cX12_isEndless 29 = .ok (.iload 6, 2) := by decide +kernel
theorem dX12_isEndless_31 : decode cX12_isEndless 31 = .ok (.ishr, 1) := by decide +kernel
theorem dX12_isEndless_32 : decode cX12_isEndless 32 = .ok (.iconst 1, 1) := by decide +kernel
theorem dX12_isEndless_33 : decode cX12_isEndless 33 = .ok (.iand, 1) := by decide +kernel
theorem dX12_isEndless_34 : decode cX12_isEndless 34 = .ok (.iconst 1, 1) := by decide +kernel
theorem dX12_isEndless_35 : decode cX12_isEndless 35 = .ok (.if_icmp .ne 22, 3) := by decide +kernel
theorem dX12_isEndless_38 : decode cX12_isEndless 38 = .ok (.aload_n 0, 1) := by decide +kernel
theorem dX12_isEndless_39 : decode cX12_isEndless 39 = .ok (.iload_n 1, 1) := by decide +kernel
theorem dX12_isEndless_40 : decode cX12_isEndless 40 = .ok (.iload 6, 2) := by decide +kernel
theorem dX12_isEndless_42 : decode cX12_isEndless 42 = .ok (.invokevirtual 286, 3) := by decide +kernel
theorem dX12_isEndless_45 : decode cX12_isEndless 45 = .ok (.ifCond .eq 12, 3) := by decide +kernel
theorem dX12_isEndless_48 : decode cX12_isEndless 48 = .ok (.iload 5, 2) := by decide +kernel
theorem dX12_isEndless_50 : decode cX12_isEndless 50 = .ok (.iconst 1, 1) := by decide +kernel
theorem dX12_isEndless_51 : decode cX12_isEndless 51 = .ok (.iload 6, 2) := by decide +kernel
theorem dX12_isEndless_53 : decode cX12_isEndless 53 = .ok (.ishl, 1) := by decide +kernel
theorem dX12_isEndless_54 : decode cX12_isEndless 54 = .ok (.ior, 1) := by decide +kernel
theorem dX12_isEndless_55 : decode cX12_isEndless 55 = .ok (.istore 5, 2) := by decide +kernel
theorem dX12_isEndless_57 : decode cX12_isEndless 57 = .ok (.iinc 6 1, 3) := by decide +kernel
theorem dX12_isEndless_60 : decode cX12_isEndless 60 = .ok (.goto (-46), 3) := by decide +kernel
theorem dX12_isEndless_63 : decode cX12_isEndless 63 = .ok (.iload 5, 2) := by decide +kernel
theorem dX12_isEndless_65 : decode cX12_isEndless 65 = .ok (.ifCond .eq 22, 3) := by decide +kernel
theorem dX12_isEndless_68 : decode cX12_isEndless 68 = .ok (.aload_n 0, 1) := by decide +kernel
theorem dX12_isEndless_69 : decode cX12_isEndless 69 = .ok (.iload_n 1, 1) := by decide +kernel
theorem dX12_isEndless_70 : decode cX12_isEndless 70 = .ok (.iload 5, 2) := by decide +kernel
theorem dX12_isEndless_72 : decode cX12_isEndless 72 = .ok (.invokevirtual 283, 3) := by decide +kernel
theorem dX12_isEndless_75 : decode cX12_isEndless 75 = .ok (.iload_n 3, 1) := by decide +kernel
theorem dX12_isEndless_76 : decode cX12_isEndless 76 = .ok (.ishr, 1) := by decide +kernel
theorem dX12_isEndless_77 : decode cX12_isEndless 77 = .ok (.iconst 1, 1) := by decide +kernel
theorem dX12_isEndless_78 : decode cX12_isEndless 78 = .ok (.iand, 1) := by decide +kernel
theorem dX12_isEndless_79 : decode cX12_isEndless 79 = .ok (.iconst 1, 1) := by decide +kernel
theorem dX12_isEndless_80 : decode cX12_isEndless 80 = .ok (.if_icmp .ne 7, 3) := by decide +kernel
theorem dX12_isEndless_83 : decode cX12_isEndless 83 = .ok (.iconst 1, 1) := by decide +kernel
theorem dX12_isEndless_84 : decode cX12_isEndless 84 = .ok (.goto 4, 3) := by decide +kernel
theorem dX12_isEndless_87 : decode cX12_isEndless 87 = .ok (.iconst 0, 1) := by decide +kernel
theorem dX12_isEndless_88 : decode cX12_isEndless 88 = .ok (.ireturn, 1) := by decide +kernel
theorem kX12_286 : lkK (gS, X) RX12 286 mX12_isFalling 2 ∧ Cond.instanceMethod yX12_isFalling ∈ g_ws (gS, X) ∧ Cond.selects RX12 yX12_isFalling yX12_isFalling ∈ g_ws (gS, X) ∧ yX12_isFalling.cls = RX12 := ⟨⟨tb_good, (tb_t (k := 1455) (w := Cond.methodLink RX12 286 yX12_isFalling) (by decide +kernel)), (tb_t (k := 8) (w := Cond.initialized RX12) (by decide +kernel)), (tb_t (k := 1458) (w := Cond.code yX12_isFalling cX12_isFalling 9 (some .boolean)) (by decide +kernel)), by decide +kernel, by decide⟩, (tb_t (k := 1457) (w := Cond.instanceMethod yX12_isFalling) (by decide +kernel)), (tb_p (k := 106) (q := (yX12_isFalling, 45)) (by decide +kernel)), rfl⟩
theorem dX12_reachAll_0 : decode cX12_reachAll 0 = .ok (.iload_n 2, 1) := by decide +kernel
theorem dX12_reachAll_1 : decode cX12_reachAll 1 = .ok (.istore_n 3, 1) := by decide +kernel
theorem dX12_reachAll_2 : decode cX12_reachAll 2 = .ok (.iload_n 3, 1) := by decide +kernel
theorem dX12_reachAll_3 : decode cX12_reachAll 3 = .ok (.aload_n 0, 1) := by decide +kernel
theorem dX12_reachAll_4 : decode cX12_reachAll 4 = .ok (.iload_n 1, 1) := by decide +kernel
theorem dX12_reachAll_5 : decode cX12_reachAll 5 = .ok (.iload_n 3, 1) := by decide +kernel
theorem dX12_reachAll_6 : decode cX12_reachAll 6 = .ok (.invokevirtual 231, 3) := by decide +kernel
theorem dX12_reachAll_9 : decode cX12_reachAll 9 = .ok (.ior, 1) := by decide +kernel
theorem dX12_reachAll_10 : decode cX12_reachAll 10 = .ok (.istore 4, 2) := by decide +kernel
theorem dX12_reachAll_12 : decode cX12_reachAll 12 = .ok (.iload 4, 2) := by decide +kernel
theorem dX12_reachAll_14 : decode cX12_reachAll 14 = .ok (.iload_n 3, 1) := by decide +kernel
theorem dX12_reachAll_15 : decode cX12_reachAll 15 = .ok (.if_icmp .eq 19, 3) := by decide +kernel
theorem dX12_reachAll_18 : decode cX12_reachAll 18 = .ok (.iload 4, 2) := by decide +kernel
theorem dX12_reachAll_20 : decode cX12_reachAll 20 = .ok (.istore_n 3, 1) := by decide +kernel
theorem dX12_reachAll_21 : decode cX12_reachAll 21 = .ok (.iload_n 3, 1) := by decide +kernel
theorem dX12_reachAll_22 : decode cX12_reachAll 22 = .ok (.aload_n 0, 1) := by decide +kernel
theorem dX12_reachAll_23 : decode cX12_reachAll 23 = .ok (.iload_n 1, 1) := by decide +kernel
theorem dX12_reachAll_24 : decode cX12_reachAll 24 = .ok (.iload_n 3, 1) := by decide +kernel
theorem dX12_reachAll_25 : decode cX12_reachAll 25 = .ok (.invokevirtual 231, 3) := by decide +kernel
theorem dX12_reachAll_28 : decode cX12_reachAll 28 = .ok (.ior, 1) := by decide +kernel
theorem dX12_reachAll_29 : decode cX12_reachAll 29 = .ok (.istore 4, 2) := by decide +kernel
theorem dX12_reachAll_31 : decode cX12_reachAll 31 = .ok (.goto (-19), 3) := by decide +kernel
theorem dX12_reachAll_34 : decode cX12_reachAll 34 = .ok (.iload_n 3, 1) := by decide +kernel
theorem dX12_reachAll_35 : decode cX12_reachAll 35 = .ok (.ireturn, 1) := by decide +kernel
theorem dX12_isFalling_0 : decode cX12_isFalling 0 = .ok (.aload_n 0, 1) := by decide +kernel
theorem dX12_isFalling_1 : decode cX12_isFalling 1 = .ok (.getfield 13, 3) := by decide +kernel
theorem dX12_isFalling_4 : decode cX12_isFalling 4 = .ok (.iload_n 1, 1) := by decide +kernel
theorem dX12_isFalling_5 : decode cX12_isFalling 5 = .ok (.iaload, 1) := by decide +kernel
theorem dX12_isFalling_6 : decode cX12_isFalling 6 = .ok (.istore_n 3, 1) := by decide +kernel
theorem dX12_isFalling_7 : decode cX12_isFalling 7 = .ok (.iconst 0, 1) := by decide +kernel
theorem dX12_isFalling_8 : decode cX12_isFalling 8 = .ok (.istore 4, 2) := by decide +kernel
theorem dX12_isFalling_10 : decode cX12_isFalling 10 = .ok (.iload 4, 2) := by decide +kernel
theorem dX12_isFalling_12 : decode cX12_isFalling 12 = .ok (.iload_n 3, 1) := by decide +kernel
theorem dX12_isFalling_13 : decode cX12_isFalling 13 = .ok (.if_icmp .ge 29, 3) := by decide +kernel
theorem dX12_isFalling_16 : decode cX12_isFalling 16 = .ok (.aload_n 0, 1) := by decide +kernel
theorem dX12_isFalling_17 : decode cX12_isFalling 17 = .ok (.getfield 97, 3) := by decide +kernel
theorem dX12_isFalling_20 : decode cX12_isFalling 20 = .ok (.iload 4, 2) := by decide +kernel
theorem dX12_isFalling_22 : decode cX12_isFalling 22 = .ok (.iload 4, 2) := by decide +kernel
theorem dX12_isFalling_24 : decode cX12_isFalling 24 = .ok (.iload_n 2, 1) := by decide +kernel
theorem dX12_isFalling_25 : decode cX12_isFalling 25 = .ok (.if_icmp .ne 7, 3) := by decide +kernel
theorem dX12_isFalling_28 : decode cX12_isFalling 28 = .ok (.lconst 0, 1) := by decide +kernel
theorem dX12_isFalling_29 : decode cX12_isFalling 29 = .ok (.goto 6, 3) := by decide +kernel
theorem dX12_isFalling_32 : decode cX12_isFalling 32 = .ok (.ldc2_w 251, 3) := by decide +kernel
theorem dX12_isFalling_35 : decode cX12_isFalling 35 = .ok (.lastore, 1) := by decide +kernel
theorem dX12_isFalling_36 : decode cX12_isFalling 36 = .ok (.iinc 4 1, 3) := by decide +kernel
theorem dX12_isFalling_39 : decode cX12_isFalling 39 = .ok (.goto (-29), 3) := by decide +kernel
theorem dX12_isFalling_42 : decode cX12_isFalling 42 = .ok (.iconst 0, 1) := by decide +kernel
theorem dX12_isFalling_43 : decode cX12_isFalling 43 = .ok (.istore 4, 2) := by decide +kernel
theorem dX12_isFalling_45 : decode cX12_isFalling 45 = .ok (.iconst 0, 1) := by decide +kernel
theorem dX12_isFalling_46 : decode cX12_isFalling 46 = .ok (.istore 5, 2) := by decide +kernel
theorem dX12_isFalling_48 : decode cX12_isFalling 48 = .ok (.iload 5, 2) := by decide +kernel
theorem dX12_isFalling_50 : decode cX12_isFalling 50 = .ok (.iload_n 3, 1) := by decide +kernel
theorem dX12_isFalling_51 : decode cX12_isFalling 51 = .ok (.if_icmp .ge 194, 3) := by decide +kernel
theorem dX12_isFalling_54 : decode cX12_isFalling 54 = .ok (.iload 4, 2) := by decide +kernel
theorem dX12_isFalling_56 : decode cX12_isFalling 56 = .ok (.ifCond .ne 189, 3) := by decide +kernel
theorem dX12_isFalling_59 : decode cX12_isFalling 59 = .ok (.iconst 0, 1) := by decide +kernel
theorem dX12_isFalling_60 : decode cX12_isFalling 60 = .ok (.istore 6, 2) := by decide +kernel
theorem dX12_isFalling_62 : decode cX12_isFalling 62 = .ok (.iload 6, 2) := by decide +kernel
theorem dX12_isFalling_64 : decode cX12_isFalling 64 = .ok (.iload_n 3, 1) := by decide +kernel
theorem dX12_isFalling_65 : decode cX12_isFalling 65 = .ok (.if_icmp .ge 127, 3) := by decide +kernel
theorem dX12_isFalling_68 : decode cX12_isFalling 68 = .ok (.aload_n 0, 1) := by decide +kernel
theorem dX12_isFalling_69 : decode cX12_isFalling 69 = .ok (.getfield 100, 3) := by decide +kernel
theorem dX12_isFalling_72 : decode cX12_isFalling 72 = .ok (.iload 6, 2) := by decide +kernel
theorem dX12_isFalling_74 : decode cX12_isFalling 74 = .ok (.ldc2_w 251, 3) := by decide +kernel
theorem dX12_isFalling_77 : decode cX12_isFalling 77 = .ok (.lastore, 1) := by decide +kernel
theorem dX12_isFalling_78 : decode cX12_isFalling 78 = .ok (.iconst 0, 1) := by decide +kernel
theorem dX12_isFalling_79 : decode cX12_isFalling 79 = .ok (.istore 7, 2) := by decide +kernel
theorem dX12_isFalling_81 : decode cX12_isFalling 81 = .ok (.iload 7, 2) := by decide +kernel
theorem dX12_isFalling_83 : decode cX12_isFalling 83 = .ok (.aload_n 0, 1) := by decide +kernel
theorem dX12_isFalling_84 : decode cX12_isFalling 84 = .ok (.getfield 20, 3) := by decide +kernel
theorem dX12_isFalling_87 : decode cX12_isFalling 87 = .ok (.iload_n 1, 1) := by decide +kernel
theorem dX12_isFalling_88 : decode cX12_isFalling 88 = .ok (.iaload, 1) := by decide +kernel
theorem dX12_isFalling_89 : decode cX12_isFalling 89 = .ok (.if_icmp .ge 97, 3) := by decide +kernel
theorem dX12_isFalling_92 : decode cX12_isFalling 92 = .ok (.aload_n 0, 1) := by decide +kernel
theorem dX12_isFalling_93 : decode cX12_isFalling 93 = .ok (.iload_n 1, 1) := by decide +kernel
theorem dX12_isFalling_94 : decode cX12_isFalling 94 = .ok (.iload 7, 2) := by decide +kernel
theorem dX12_isFalling_96 : decode cX12_isFalling 96 = .ok (.iload 6, 2) := by decide +kernel
theorem dX12_isFalling_98 : decode cX12_isFalling 98 = .ok (.invokevirtual 253, 3) := by decide +kernel
theorem dX12_isFalling_101 : decode cX12_isFalling 101 = .ok (.istore 8, 2) := by decide +kernel
theorem dX12_isFalling_103 : decode cX12_isFalling 103 = .ok (.iload 8, 2) := by decide +kernel
theorem dX12_isFalling_105 : decode cX12_isFalling 105 = .ok (.ifCond .lt 75, 3) := by decide +kernel
theorem dX12_isFalling_108 : decode cX12_isFalling 108 = .ok (.aload_n 0, 1) := by decide +kernel
theorem dX12_isFalling_109 : decode cX12_isFalling 109 = .ok (.getfield 97, 3) := by decide +kernel
theorem dX12_isFalling_112 : decode cX12_isFalling 112 = .ok (.iload 8, 2) := by decide +kernel
theorem dX12_isFalling_114 : decode cX12_isFalling 114 = .ok (.laload, 1) := by decide +kernel
theorem dX12_isFalling_115 : decode cX12_isFalling 115 = .ok (.ldc2_w 251, 3) := by decide +kernel
theorem dX12_isFalling_118 : decode cX12_isFalling 118 = .ok (.lcmp, 1) := by decide +kernel
theorem dX12_isFalling_119 : decode cX12_isFalling 119 = .ok (.ifCond .ge 61, 3) := by decide +kernel
theorem dX12_isFalling_122 : decode cX12_isFalling 122 = .ok (.aload_n 0, 1) := by decide +kernel
theorem dX12_isFalling_123 : decode cX12_isFalling 123 = .ok (.getfield 97, 3) := by decide +kernel
theorem dX12_isFalling_126 : decode cX12_isFalling 126 = .ok (.iload 8, 2) := by decide +kernel
theorem dX12_isFalling_128 : decode cX12_isFalling 128 = .ok (.laload, 1) := by decide +kernel
theorem dX12_isFalling_129 : decode cX12_isFalling 129 = .ok (.aload_n 0, 1) := by decide +kernel
theorem dX12_isFalling_130 : decode cX12_isFalling 130 = .ok (.getfield 29, 3) := by decide +kernel
theorem dX12_isFalling_133 : decode cX12_isFalling 133 = .ok (.iload_n 1, 1) := by decide +kernel
theorem dX12_isFalling_134 : decode cX12_isFalling 134 = .ok (.iload 7, 2) := by decide +kernel
theorem dX12_isFalling_136 : decode cX12_isFalling 136 = .ok (.invokestatic 157, 3) := by decide +kernel
theorem dX12_isFalling_139 : decode cX12_isFalling 139 = .ok (.iaload, 1) := by decide +kernel
theorem dX12_isFalling_140 : decode cX12_isFalling 140 = .ok (.i2l, 1) := by decide +kernel
theorem dX12_isFalling_141 : decode cX12_isFalling 141 = .ok (.ladd, 1) := by decide +kernel
theorem dX12_isFalling_142 : decode cX12_isFalling 142 = .ok (.aload_n 0, 1) := by decide +kernel
theorem dX12_isFalling_143 : decode cX12_isFalling 143 = .ok (.getfield 100, 3) := by decide +kernel
theorem dX12_isFalling_146 : decode cX12_isFalling 146 = .ok (.iload 6, 2) := by decide +kernel
theorem dX12_isFalling_148 : decode cX12_isFalling 148 = .ok (.laload, 1) := by decide +kernel
theorem dX12_isFalling_149 : decode cX12_isFalling 149 = .ok (.lcmp, 1) := by decide +kernel
theorem dX12_isFalling_150 : decode cX12_isFalling 150 = .ok (.ifCond .ge 30, 3) := by decide +kernel
theorem dX12_isFalling_153 : decode cX12_isFalling 153 = .ok (.aload_n 0, 1) := by decide +kernel
theorem dX12_isFalling_154 : decode cX12_isFalling 154 = .ok (.getfield 100, 3) := by decide +kernel
theorem dX12_isFalling_157 : decode cX12_isFalling 157 = .ok (.iload 6, 2) := by decide +kernel
theorem dX12_isFalling_159 : decode cX12_isFalling 159 = .ok (.aload_n 0, 1) := by decide +kernel
theorem dX12_isFalling_160 : decode cX12_isFalling 160 = .ok (.getfield 97, 3) := by decide +kernel
theorem dX12_isFalling_163 : decode cX12_isFalling 163 = .ok (.iload 8, 2) := by decide +kernel
theorem dX12_isFalling_165 : decode cX12_isFalling 165 = .ok (.laload, 1) := by decide +kernel
theorem dX12_isFalling_166 : decode cX12_isFalling 166 = .ok (.aload_n 0, 1) := by decide +kernel
theorem dX12_isFalling_167 : decode cX12_isFalling 167 = .ok (.getfield 29, 3) := by decide +kernel
theorem dX12_isFalling_170 : decode cX12_isFalling 170 = .ok (.iload_n 1, 1) := by decide +kernel
theorem dX12_isFalling_171 : decode cX12_isFalling 171 = .ok (.iload 7, 2) := by decide +kernel
theorem dX12_isFalling_173 : decode cX12_isFalling 173 = .ok (.invokestatic 157, 3) := by decide +kernel
theorem dX12_isFalling_176 : decode cX12_isFalling 176 = .ok (.iaload, 1) := by decide +kernel
theorem dX12_isFalling_177 : decode cX12_isFalling 177 = .ok (.i2l, 1) := by decide +kernel
theorem dX12_isFalling_178 : decode cX12_isFalling 178 = .ok (.ladd, 1) := by decide +kernel
theorem dX12_isFalling_179 : decode cX12_isFalling 179 = .ok (.lastore, 1) := by decide +kernel
theorem dX12_isFalling_180 : decode cX12_isFalling 180 = .ok (.iinc 7 1, 3) := by decide +kernel
theorem dX12_isFalling_183 : decode cX12_isFalling 183 = .ok (.goto (-102), 3) := by decide +kernel
theorem dX12_isFalling_186 : decode cX12_isFalling 186 = .ok (.iinc 6 1, 3) := by decide +kernel
theorem dX12_isFalling_189 : decode cX12_isFalling 189 = .ok (.goto (-127), 3) := by decide +kernel
theorem dX12_isFalling_192 : decode cX12_isFalling 192 = .ok (.iconst 0, 1) := by decide +kernel
theorem dX12_isFalling_193 : decode cX12_isFalling 193 = .ok (.istore 6, 2) := by decide +kernel
theorem dX12_isFalling_195 : decode cX12_isFalling 195 = .ok (.iload 6, 2) := by decide +kernel
theorem dX12_isFalling_197 : decode cX12_isFalling 197 = .ok (.iload_n 3, 1) := by decide +kernel
theorem dX12_isFalling_198 : decode cX12_isFalling 198 = .ok (.if_icmp .ge 23, 3) := by decide +kernel
theorem dX12_isFalling_201 : decode cX12_isFalling 201 = .ok (.aload_n 0, 1) := by decide +kernel
theorem dX12_isFalling_202 : decode cX12_isFalling 202 = .ok (.getfield 97, 3) := by decide +kernel
theorem dX12_isFalling_205 : decode cX12_isFalling 205 = .ok (.iload 6, 2) := by decide +kernel
theorem dX12_isFalling_207 : decode cX12_isFalling 207 = .ok (.aload_n 0, 1) := by decide +kernel
theorem dX12_isFalling_208 : decode cX12_isFalling 208 = .ok (.getfield 100, 3) := by decide +kernel
theorem dX12_isFalling_211 : decode cX12_isFalling 211 = .ok (.iload 6, 2) := by decide +kernel
theorem dX12_isFalling_213 : decode cX12_isFalling 213 = .ok (.laload, 1) := by decide +kernel
theorem dX12_isFalling_214 : decode cX12_isFalling 214 = .ok (.lastore, 1) := by decide +kernel
theorem dX12_isFalling_215 : decode cX12_isFalling 215 = .ok (.iinc 6 1, 3) := by decide +kernel
theorem dX12_isFalling_218 : decode cX12_isFalling 218 = .ok (.goto (-23), 3) := by decide +kernel
theorem dX12_isFalling_221 : decode cX12_isFalling 221 = .ok (.aload_n 0, 1) := by decide +kernel
theorem dX12_isFalling_222 : decode cX12_isFalling 222 = .ok (.getfield 97, 3) := by decide +kernel
theorem dX12_isFalling_225 : decode cX12_isFalling 225 = .ok (.iload_n 2, 1) := by decide +kernel
theorem dX12_isFalling_226 : decode cX12_isFalling 226 = .ok (.laload, 1) := by decide +kernel
theorem dX12_isFalling_227 : decode cX12_isFalling 227 = .ok (.lconst 0, 1) := by decide +kernel
theorem dX12_isFalling_228 : decode cX12_isFalling 228 = .ok (.lcmp, 1) := by decide +kernel
theorem dX12_isFalling_229 : decode cX12_isFalling 229 = .ok (.ifCond .ge 7, 3) := by decide +kernel
theorem dX12_isFalling_232 : decode cX12_isFalling 232 = .ok (.iconst 1, 1) := by decide +kernel
theorem dX12_isFalling_233 : decode cX12_isFalling 233 = .ok (.goto 4, 3) := by decide +kernel
theorem dX12_isFalling_236 : decode cX12_isFalling 236 = .ok (.iconst 0, 1) := by decide +kernel
theorem dX12_isFalling_237 : decode cX12_isFalling 237 = .ok (.istore 4, 2) := by decide +kernel
theorem dX12_isFalling_239 : decode cX12_isFalling 239 = .ok (.iinc 5 1, 3) := by decide +kernel
theorem dX12_isFalling_242 : decode cX12_isFalling 242 = .ok (.goto (-194), 3) := by decide +kernel
theorem dX12_isFalling_245 : decode cX12_isFalling 245 = .ok (.iload 4, 2) := by decide +kernel
theorem dX12_isFalling_247 : decode cX12_isFalling 247 = .ok (.ireturn, 1) := by decide +kernel
theorem dX12_madeParts_0 : decode cX12_madeParts 0 = .ok (.aload_n 0, 1) := by decide +kernel
theorem dX12_madeParts_1 : decode cX12_madeParts 1 = .ok (.iconst 4, 1) := by decide +kernel
theorem dX12_madeParts_2 : decode cX12_madeParts 2 = .ok (.invokevirtual 168, 3) := by decide +kernel
theorem dX12_madeParts_5 : decode cX12_madeParts 5 = .ok (.istore_n 2, 1) := by decide +kernel
theorem dX12_madeParts_6 : decode cX12_madeParts 6 = .ok (.iload_n 2, 1) := by decide +kernel
theorem dX12_madeParts_7 : decode cX12_madeParts 7 = .ok (.ifCond .ge 5, 3) := by decide +kernel
theorem dX12_madeParts_10 : decode cX12_madeParts 10 = .ok (.iload_n 2, 1) := by decide +kernel
theorem dX12_madeParts_11 : decode cX12_madeParts 11 = .ok (.ireturn, 1) := by decide +kernel
theorem dX12_madeParts_12 : decode cX12_madeParts 12 = .ok (.aload_n 0, 1) := by decide +kernel
theorem dX12_madeParts_13 : decode cX12_madeParts 13 = .ok (.getfield 13, 3) := by decide +kernel
theorem dX12_madeParts_16 : decode cX12_madeParts 16 = .ok (.iload_n 2, 1) := by decide +kernel
theorem dX12_madeParts_17 : decode cX12_madeParts 17 = .ok (.iload_n 1, 1) := by decide +kernel
theorem dX12_madeParts_18 : decode cX12_madeParts 18 = .ok (.iastore, 1) := by decide +kernel
theorem dX12_madeParts_19 : decode cX12_madeParts 19 = .ok (.iconst 0, 1) := by decide +kernel
theorem dX12_madeParts_20 : decode cX12_madeParts 20 = .ok (.istore_n 3, 1) := by decide +kernel
theorem dX12_madeParts_21 : decode cX12_madeParts 21 = .ok (.iconst 0, 1) := by decide +kernel
theorem dX12_madeParts_22 : decode cX12_madeParts 22 = .ok (.istore 4, 2) := by decide +kernel
theorem dX12_madeParts_24 : decode cX12_madeParts 24 = .ok (.iload 4, 2) := by decide +kernel
theorem dX12_madeParts_26 : decode cX12_madeParts 26 = .ok (.iload_n 1, 1) := by decide +kernel
theorem dX12_madeParts_27 : decode cX12_madeParts 27 = .ok (.if_icmp .ge 104, 3) := by decide +kernel
theorem dX12_madeParts_30 : decode cX12_madeParts 30 = .ok (.iconst (-1), 1) := by decide +kernel
theorem dX12_madeParts_31 : decode cX12_madeParts 31 = .ok (.istore 5, 2) := by decide +kernel
theorem dX12_madeParts_33 : decode cX12_madeParts 33 = .ok (.iconst 0, 1) := by decide +kernel
theorem dX12_madeParts_34 : decode cX12_madeParts 34 = .ok (.istore 6, 2) := by decide +kernel
theorem dX12_madeParts_36 : decode cX12_madeParts 36 = .ok (.iload 6, 2) := by decide +kernel
theorem dX12_madeParts_38 : decode cX12_madeParts 38 = .ok (.iload 4, 2) := by decide +kernel
theorem dX12_madeParts_40 : decode cX12_madeParts 40 = .ok (.if_icmp .ge 49, 3) := by decide +kernel
theorem dX12_madeParts_43 : decode cX12_madeParts 43 = .ok (.iload 5, 2) := by decide +kernel
theorem dX12_madeParts_45 : decode cX12_madeParts 45 = .ok (.ifCond .ge 44, 3) := by decide +kernel
theorem dX12_madeParts_48 : decode cX12_madeParts 48 = .ok (.aload_n 0, 1) := by decide +kernel
theorem dX12_madeParts_49 : decode cX12_madeParts 49 = .ok (.getfield 103, 3) := by decide +kernel
theorem dX12_madeParts_52 : decode cX12_madeParts 52 = .ok (.iload 6, 2) := by decide +kernel
theorem dX12_madeParts_54 : decode cX12_madeParts 54 = .ok (.iaload, 1) := by decide +kernel
theorem dX12_madeParts_55 : decode cX12_madeParts 55 = .ok (.aload_n 0, 1) := by decide +kernel
theorem dX12_madeParts_56 : decode cX12_madeParts 56 = .ok (.getfield 103, 3) := by decide +kernel
theorem dX12_madeParts_59 : decode cX12_madeParts 59 = .ok (.iload 4, 2) := by decide +kernel
theorem dX12_madeParts_61 : decode cX12_madeParts 61 = .ok (.iaload, 1) := by decide +kernel
theorem dX12_madeParts_62 : decode cX12_madeParts 62 = .ok (.if_icmp .ne 18, 3) := by decide +kernel
theorem dX12_madeParts_65 : decode cX12_madeParts 65 = .ok (.aload_n 0, 1) := by decide +kernel
theorem dX12_madeParts_66 : decode cX12_madeParts 66 = .ok (.getfield 54, 3) := by decide +kernel
theorem dX12_madeParts_69 : decode cX12_madeParts 69 = .ok (.bipush 16, 2) := by decide +kernel
theorem dX12_madeParts_71 : decode cX12_madeParts 71 = .ok (.iload_n 2, 1) := by decide +kernel
theorem dX12_madeParts_72 : decode cX12_madeParts 72 = .ok (.imul, 1) := by decide +kernel
theorem dX12_madeParts_73 : decode cX12_madeParts 73 = .ok (.iload 6, 2) := by decide +kernel
theorem dX12_madeParts_75 : decode cX12_madeParts 75 = .ok (.iadd, 1) := by decide +kernel
theorem dX12_madeParts_76 : decode cX12_madeParts 76 = .ok (.iaload, 1) := by decide +kernel
theorem dX12_madeParts_77 : decode cX12_madeParts 77 = .ok (.goto 4, 3) := by decide +kernel
theorem dX12_madeParts_80 : decode cX12_madeParts 80 = .ok (.iconst (-1), 1) := by decide +kernel
theorem dX12_madeParts_81 : decode cX12_madeParts 81 = .ok (.istore 5, 2) := by decide +kernel
theorem dX12_madeParts_83 : decode cX12_madeParts 83 = .ok (.iinc 6 1, 3) := by decide +kernel
theorem dX12_madeParts_86 : decode cX12_madeParts 86 = .ok (.goto (-50), 3) := by decide +kernel
theorem dX12_madeParts_89 : decode cX12_madeParts 89 = .ok (.aload_n 0, 1) := by decide +kernel
theorem dX12_madeParts_90 : decode cX12_madeParts 90 = .ok (.getfield 54, 3) := by decide +kernel
theorem dX12_madeParts_93 : decode cX12_madeParts 93 = .ok (.bipush 16, 2) := by decide +kernel
theorem dX12_madeParts_95 : decode cX12_madeParts 95 = .ok (.iload_n 2, 1) := by decide +kernel
theorem dX12_madeParts_96 : decode cX12_madeParts 96 = .ok (.imul, 1) := by decide +kernel
theorem dX12_madeParts_97 : decode cX12_madeParts 97 = .ok (.iload 4, 2) := by decide +kernel
theorem dX12_madeParts_99 : decode cX12_madeParts 99 = .ok (.iadd, 1) := by decide +kernel
theorem dX12_madeParts_100 : decode cX12_madeParts 100 = .ok (.iload 5, 2) := by decide +kernel
theorem dX12_madeParts_102 : decode cX12_madeParts 102 = .ok (.ifCond .ge 7, 3) := by decide +kernel
theorem dX12_madeParts_105 : decode cX12_madeParts 105 = .ok (.iload_n 3, 1) := by decide +kernel
theorem dX12_madeParts_106 : decode cX12_madeParts 106 = .ok (.goto 5, 3) := by decide +kernel
theorem dX12_madeParts_109 : decode cX12_madeParts 109 = .ok (.iload 5, 2) := by decide +kernel
theorem dX12_madeParts_111 : decode cX12_madeParts 111 = .ok (.iastore, 1) := by decide +kernel
theorem dX12_madeParts_112 : decode cX12_madeParts 112 = .ok (.iload_n 3, 1) := by decide +kernel
theorem dX12_madeParts_113 : decode cX12_madeParts 113 = .ok (.iload 5, 2) := by decide +kernel
theorem dX12_madeParts_115 : decode cX12_madeParts 115 = .ok (.ifCond .ge 7, 3) := by decide +kernel
theorem dX12_madeParts_118 : decode cX12_madeParts 118 = .ok (.iconst 1, 1) := by decide +kernel
theorem dX12_madeParts_119 : decode cX12_madeParts 119 = .ok (.goto 4, 3) := by decide +kernel
theorem dX12_madeParts_122 : decode cX12_madeParts 122 = .ok (.iconst 0, 1) := by decide +kernel
theorem dX12_madeParts_123 : decode cX12_madeParts 123 = .ok (.iadd, 1) := by decide +kernel
theorem dX12_madeParts_124 : decode cX12_madeParts 124 = .ok (.istore_n 3, 1) := by decide +kernel
theorem dX12_madeParts_125 : decode cX12_madeParts 125 = .ok (.iinc 4 1, 3) := by decide +kernel
theorem dX12_madeParts_128 : decode cX12_madeParts 128 = .ok (.goto (-104), 3) := by decide +kernel
theorem dX12_madeParts_131 : decode cX12_madeParts 131 = .ok (.aload_n 0, 1) := by decide +kernel
theorem dX12_madeParts_132 : decode cX12_madeParts 132 = .ok (.getfield 57, 3) := by decide +kernel
theorem dX12_madeParts_135 : decode cX12_madeParts 135 = .ok (.iload_n 2, 1) := by decide +kernel
theorem dX12_madeParts_136 : decode cX12_madeParts 136 = .ok (.iload_n 3, 1) := by decide +kernel
theorem dX12_madeParts_137 : decode cX12_madeParts 137 = .ok (.iastore, 1) := by decide +kernel
theorem dX12_madeParts_138 : decode cX12_madeParts 138 = .ok (.iload_n 2, 1) := by decide +kernel
theorem dX12_madeParts_139 : decode cX12_madeParts 139 = .ok (.ireturn, 1) := by decide +kernel
theorem dX12_weakCount_0 : decode cX12_weakCount 0 = .ok (.iconst 1, 1) := by decide +kernel
theorem dX12_weakCount_1 : decode cX12_weakCount 1 = .ok (.iload_n 1, 1) := by decide +kernel
theorem dX12_weakCount_2 : decode cX12_weakCount 2 = .ok (.ishl, 1) := by decide +kernel
theorem dX12_weakCount_3 : decode cX12_weakCount 3 = .ok (.iconst 1, 1) := by decide +kernel
theorem dX12_weakCount_4 : decode cX12_weakCount 4 = .ok (.isub, 1) := by decide +kernel
theorem dX12_weakCount_5 : decode cX12_weakCount 5 = .ok (.istore_n 2, 1) := by decide +kernel
theorem dX12_weakCount_6 : decode cX12_weakCount 6 = .ok (.iconst 0, 1) := by decide +kernel
theorem dX12_weakCount_7 : decode cX12_weakCount 7 = .ok (.istore_n 3, 1) := by decide +kernel
theorem dX12_weakCount_8 : decode cX12_weakCount 8 = .ok (.iload_n 2, 1) := by decide +kernel
theorem dX12_weakCount_9 : decode cX12_weakCount 9 = .ok (.ifCond .eq 19, 3) := by decide +kernel
theorem dX12_weakCount_12 : decode cX12_weakCount 12 = .ok (.iload_n 2, 1) := by decide +kernel
theorem dX12_weakCount_13 : decode cX12_weakCount 13 = .ok (.aload_n 0, 1) := by decide +kernel
theorem dX12_weakCount_14 : decode cX12_weakCount 14 = .ok (.iload_n 2, 1) := by decide +kernel
theorem dX12_weakCount_15 : decode cX12_weakCount 15 = .ok (.invokevirtual 237, 3) := by decide +kernel
theorem dX12_weakCount_18 : decode cX12_weakCount 18 = .ok (.iconst (-1), 1) := by decide +kernel
theorem dX12_weakCount_19 : decode cX12_weakCount 19 = .ok (.ixor, 1) := by decide +kernel
theorem dX12_weakCount_20 : decode cX12_weakCount 20 = .ok (.iand, 1) := by decide +kernel
theorem dX12_weakCount_21 : decode cX12_weakCount 21 = .ok (.istore_n 2, 1) := by decide +kernel
theorem dX12_weakCount_22 : decode cX12_weakCount 22 = .ok (.iinc 3 1, 3) := by decide +kernel
theorem dX12_weakCount_25 : decode cX12_weakCount 25 = .ok (.goto (-17), 3) := by decide +kernel
theorem dX12_weakCount_28 : decode cX12_weakCount 28 = .ok (.iload_n 3, 1) := by decide +kernel
theorem dX12_weakCount_29 : decode cX12_weakCount 29 = .ok (.ireturn, 1) := by decide +kernel
theorem dX12_weakLabels_0 : decode cX12_weakLabels 0 = .ok (.iconst 1, 1) := by decide +kernel
theorem dX12_weakLabels_1 : decode cX12_weakLabels 1 = .ok (.iload_n 1, 1) := by decide +kernel
theorem dX12_weakLabels_2 : decode cX12_weakLabels 2 = .ok (.ishl, 1) := by decide +kernel
theorem dX12_weakLabels_3 : decode cX12_weakLabels 3 = .ok (.iconst 1, 1) := by decide +kernel
theorem dX12_weakLabels_4 : decode cX12_weakLabels 4 = .ok (.isub, 1) := by decide +kernel
theorem dX12_weakLabels_5 : decode cX12_weakLabels 5 = .ok (.istore_n 2, 1) := by decide +kernel
theorem dX12_weakLabels_6 : decode cX12_weakLabels 6 = .ok (.iload_n 2, 1) := by decide +kernel
theorem dX12_weakLabels_7 : decode cX12_weakLabels 7 = .ok (.ifCond .eq 61, 3) := by decide +kernel
theorem dX12_weakLabels_10 : decode cX12_weakLabels 10 = .ok (.aload_n 0, 1) := by decide +kernel
theorem dX12_weakLabels_11 : decode cX12_weakLabels 11 = .ok (.iload_n 2, 1) := by decide +kernel
theorem dX12_weakLabels_12 : decode cX12_weakLabels 12 = .ok (.invokevirtual 237, 3) := by decide +kernel
theorem dX12_weakLabels_15 : decode cX12_weakLabels 15 = .ok (.istore_n 3, 1) := by decide +kernel
theorem dX12_weakLabels_16 : decode cX12_weakLabels 16 = .ok (.iconst 0, 1) := by decide +kernel
theorem dX12_weakLabels_17 : decode cX12_weakLabels 17 = .ok (.istore 4, 2) := by decide +kernel
theorem dX12_weakLabels_19 : decode cX12_weakLabels 19 = .ok (.iload 4, 2) := by decide +kernel
theorem dX12_weakLabels_21 : decode cX12_weakLabels 21 = .ok (.iload_n 1, 1) := by decide +kernel
theorem dX12_weakLabels_22 : decode cX12_weakLabels 22 = .ok (.if_icmp .ge 37, 3) := by decide +kernel
theorem dX12_weakLabels_25 : decode cX12_weakLabels 25 = .ok (.aload_n 0, 1) := by decide +kernel
theorem dX12_weakLabels_26 : decode cX12_weakLabels 26 = .ok (.getfield 103, 3) := by decide +kernel
theorem dX12_weakLabels_29 : decode cX12_weakLabels 29 = .ok (.iload 4, 2) := by decide +kernel
theorem dX12_weakLabels_31 : decode cX12_weakLabels 31 = .ok (.iload_n 3, 1) := by decide +kernel
theorem dX12_weakLabels_32 : decode cX12_weakLabels 32 = .ok (.iload 4, 2) := by decide +kernel
theorem dX12_weakLabels_34 : decode cX12_weakLabels 34 = .ok (.ishr, 1) := by decide +kernel
theorem dX12_weakLabels_35 : decode cX12_weakLabels 35 = .ok (.iconst 1, 1) := by decide +kernel
theorem dX12_weakLabels_36 : decode cX12_weakLabels 36 = .ok (.iand, 1) := by decide +kernel
theorem dX12_weakLabels_37 : decode cX12_weakLabels 37 = .ok (.iconst 1, 1) := by decide +kernel
theorem dX12_weakLabels_38 : decode cX12_weakLabels 38 = .ok (.if_icmp .ne 7, 3) := by decide +kernel
theorem dX12_weakLabels_41 : decode cX12_weakLabels 41 = .ok (.iload_n 3, 1) := by decide +kernel
theorem dX12_weakLabels_42 : decode cX12_weakLabels 42 = .ok (.goto 10, 3) := by decide +kernel
theorem dX12_weakLabels_45 : decode cX12_weakLabels 45 = .ok (.aload_n 0, 1) := by decide +kernel
theorem dX12_weakLabels_46 : decode cX12_weakLabels 46 = .ok (.getfield 103, 3) := by decide +kernel
theorem dX12_weakLabels_49 : decode cX12_weakLabels 49 = .ok (.iload 4, 2) := by decide +kernel
theorem dX12_weakLabels_51 : decode cX12_weakLabels 51 = .ok (.iaload, 1) := by decide +kernel
theorem dX12_weakLabels_52 : decode cX12_weakLabels 52 = .ok (.iastore, 1) := by decide +kernel
theorem dX12_weakLabels_53 : decode cX12_weakLabels 53 = .ok (.iinc 4 1, 3) := by decide +kernel
theorem dX12_weakLabels_56 : decode cX12_weakLabels 56 = .ok (.goto (-37), 3) := by decide +kernel
theorem dX12_weakLabels_59 : decode cX12_weakLabels 59 = .ok (.iload_n 2, 1) := by decide +kernel
theorem dX12_weakLabels_60 : decode cX12_weakLabels 60 = .ok (.iload_n 3, 1) := by decide +kernel
theorem dX12_weakLabels_61 : decode cX12_weakLabels 61 = .ok (.iconst (-1), 1) := by decide +kernel
theorem dX12_weakLabels_62 : decode cX12_weakLabels 62 = .ok (.ixor, 1) := by decide +kernel
theorem dX12_weakLabels_63 : decode cX12_weakLabels 63 = .ok (.iand, 1) := by decide +kernel
theorem dX12_weakLabels_64 : decode cX12_weakLabels 64 = .ok (.istore_n 2, 1) := by decide +kernel
theorem dX12_weakLabels_65 : decode cX12_weakLabels 65 = .ok (.goto (-59), 3) := by decide +kernel
theorem dX12_weakLabels_68 : decode cX12_weakLabels 68 = .ok (.return_, 1) := by decide +kernel
theorem dX12_bridgesOf_0 : decode cX12_bridgesOf 0 = .ok (.aload_n 0, 1) := by decide +kernel
theorem dX12_bridgesOf_1 : decode cX12_bridgesOf 1 = .ok (.getfield 13, 3) := by decide +kernel
theorem dX12_bridgesOf_4 : decode cX12_bridgesOf 4 = .ok (.iload_n 1, 1) := by decide +kernel
theorem dX12_bridgesOf_5 : decode cX12_bridgesOf 5 = .ok (.iaload, 1) := by decide +kernel
theorem dX12_bridgesOf_6 : decode cX12_bridgesOf 6 = .ok (.istore_n 2, 1) := by decide +kernel
theorem dX12_bridgesOf_7 : decode cX12_bridgesOf 7 = .ok (.aload_n 0, 1) := by decide +kernel
theorem dX12_bridgesOf_8 : decode cX12_bridgesOf 8 = .ok (.iload_n 1, 1) := by decide +kernel
theorem dX12_bridgesOf_9 : decode cX12_bridgesOf 9 = .ok (.iconst (-1), 1) := by decide +kernel
theorem dX12_bridgesOf_10 : decode cX12_bridgesOf 10 = .ok (.invokevirtual 234, 3) := by decide +kernel
theorem dX12_bridgesOf_13 : decode cX12_bridgesOf 13 = .ok (.aload_n 0, 1) := by decide +kernel
theorem dX12_bridgesOf_14 : decode cX12_bridgesOf 14 = .ok (.iload_n 2, 1) := by decide +kernel
theorem dX12_bridgesOf_15 : decode cX12_bridgesOf 15 = .ok (.invokevirtual 304, 3) := by decide +kernel
theorem dX12_bridgesOf_18 : decode cX12_bridgesOf 18 = .ok (.istore_n 3, 1) := by decide +kernel
theorem dX12_bridgesOf_19 : decode cX12_bridgesOf 19 = .ok (.iconst 0, 1) := by decide +kernel
theorem dX12_bridgesOf_20 : decode cX12_bridgesOf 20 = .ok (.istore 4, 2) := by decide +kernel
theorem dX12_bridgesOf_22 : decode cX12_bridgesOf 22 = .ok (.iconst 0, 1) := by decide +kernel
theorem dX12_bridgesOf_23 : decode cX12_bridgesOf 23 = .ok (.istore 5, 2) := by decide +kernel
theorem dX12_bridgesOf_25 : decode cX12_bridgesOf 25 = .ok (.iload 5, 2) := by decide +kernel
theorem dX12_bridgesOf_27 : decode cX12_bridgesOf 27 = .ok (.aload_n 0, 1) := by decide +kernel
theorem dX12_bridgesOf_28 : decode cX12_bridgesOf 28 = .ok (.getfield 20, 3) := by decide +kernel
theorem dX12_bridgesOf_31 : decode cX12_bridgesOf 31 = .ok (.iload_n 1, 1) := by decide +kernel
theorem dX12_bridgesOf_32 : decode cX12_bridgesOf 32 = .ok (.iaload, 1) := by decide +kernel
theorem dX12_bridgesOf_33 : decode cX12_bridgesOf 33 = .ok (.if_icmp .ge 57, 3) := by decide +kernel
theorem dX12_bridgesOf_36 : decode cX12_bridgesOf 36 = .ok (.aload_n 0, 1) := by decide +kernel
theorem dX12_bridgesOf_37 : decode cX12_bridgesOf 37 = .ok (.iload_n 1, 1) := by decide +kernel
theorem dX12_bridgesOf_38 : decode cX12_bridgesOf 38 = .ok (.iload 5, 2) := by decide +kernel
theorem dX12_bridgesOf_40 : decode cX12_bridgesOf 40 = .ok (.invokevirtual 234, 3) := by decide +kernel
theorem dX12_bridgesOf_43 : decode cX12_bridgesOf 43 = .ok (.aload_n 0, 1) := by decide +kernel
theorem dX12_bridgesOf_44 : decode cX12_bridgesOf 44 = .ok (.getfield 106, 3) := by decide +kernel
theorem dX12_bridgesOf_47 : decode cX12_bridgesOf 47 = .ok (.iload 5, 2) := by decide +kernel
theorem dX12_bridgesOf_49 : decode cX12_bridgesOf 49 = .ok (.aload_n 0, 1) := by decide +kernel
theorem dX12_bridgesOf_50 : decode cX12_bridgesOf 50 = .ok (.iload_n 2, 1) := by decide +kernel
theorem dX12_bridgesOf_51 : decode cX12_bridgesOf 51 = .ok (.invokevirtual 304, 3) := by decide +kernel
theorem dX12_bridgesOf_54 : decode cX12_bridgesOf 54 = .ok (.iload_n 3, 1) := by decide +kernel
theorem dX12_bridgesOf_55 : decode cX12_bridgesOf 55 = .ok (.if_icmp .le 7, 3) := by decide +kernel
theorem dX12_bridgesOf_58 : decode cX12_bridgesOf 58 = .ok (.iconst 1, 1) := by decide +kernel
theorem dX12_bridgesOf_59 : decode cX12_bridgesOf 59 = .ok (.goto 4, 3) := by decide +kernel
theorem dX12_bridgesOf_62 : decode cX12_bridgesOf 62 = .ok (.iconst 0, 1) := by decide +kernel
theorem dX12_bridgesOf_63 : decode cX12_bridgesOf 63 = .ok (.bastore, 1) := by decide +kernel
theorem dX12_bridgesOf_64 : decode cX12_bridgesOf 64 = .ok (.iload 4, 2) := by decide +kernel
theorem dX12_bridgesOf_66 : decode cX12_bridgesOf 66 = .ok (.aload_n 0, 1) := by decide +kernel
theorem dX12_bridgesOf_67 : decode cX12_bridgesOf 67 = .ok (.getfield 106, 3) := by decide +kernel
theorem dX12_bridgesOf_70 : decode cX12_bridgesOf 70 = .ok (.iload 5, 2) := by decide +kernel
theorem dX12_bridgesOf_72 : decode cX12_bridgesOf 72 = .ok (.baload, 1) := by decide +kernel
theorem dX12_bridgesOf_73 : decode cX12_bridgesOf 73 = .ok (.ifCond .eq 7, 3) := by decide +kernel
theorem dX12_bridgesOf_76 : decode cX12_bridgesOf 76 = .ok (.iconst 1, 1) := by decide +kernel
theorem dX12_bridgesOf_77 : decode cX12_bridgesOf 77 = .ok (.goto 4, 3) := by decide +kernel
theorem dX12_bridgesOf_80 : decode cX12_bridgesOf 80 = .ok (.iconst 0, 1) := by decide +kernel
theorem dX12_bridgesOf_81 : decode cX12_bridgesOf 81 = .ok (.iadd, 1) := by decide +kernel
theorem dX12_bridgesOf_82 : decode cX12_bridgesOf 82 = .ok (.istore 4, 2) := by decide +kernel
theorem dX12_bridgesOf_84 : decode cX12_bridgesOf 84 = .ok (.iinc 5 1, 3) := by decide +kernel
theorem dX12_bridgesOf_87 : decode cX12_bridgesOf 87 = .ok (.goto (-62), 3) := by decide +kernel
theorem dX12_bridgesOf_90 : decode cX12_bridgesOf 90 = .ok (.iload 4, 2) := by decide +kernel
theorem dX12_bridgesOf_92 : decode cX12_bridgesOf 92 = .ok (.ireturn, 1) := by decide +kernel
theorem kX12_304 : lkK (gS, X) RX12 304 mX12_weakCount 1 ∧ Cond.instanceMethod yX12_weakCount ∈ g_ws (gS, X) ∧ Cond.selects RX12 yX12_weakCount yX12_weakCount ∈ g_ws (gS, X) ∧ yX12_weakCount.cls = RX12 := ⟨⟨tb_good, (tb_t (k := 1475) (w := Cond.methodLink RX12 304 yX12_weakCount) (by decide +kernel)), (tb_t (k := 8) (w := Cond.initialized RX12) (by decide +kernel)), (tb_t (k := 1478) (w := Cond.code yX12_weakCount cX12_weakCount 4 (some .int)) (by decide +kernel)), by decide +kernel, by decide⟩, (tb_t (k := 1477) (w := Cond.instanceMethod yX12_weakCount) (by decide +kernel)), (tb_p (k := 110) (q := (yX12_weakCount, 45)) (by decide +kernel)), rfl⟩
theorem dX12_withoutBridges_0 : decode cX12_withoutBridges 0 = .ok (.iconst 0, 1) := by decide +kernel
theorem dX12_withoutBridges_1 : decode cX12_withoutBridges 1 = .ok (.istore_n 2, 1) := by decide +kernel
theorem dX12_withoutBridges_2 : decode cX12_withoutBridges 2 = .ok (.iload_n 2, 1) := by decide +kernel
theorem dX12_withoutBridges_3 : decode cX12_withoutBridges 3 = .ok (.bipush 16, 2) := by decide +kernel
theorem dX12_withoutBridges_5 : decode cX12_withoutBridges 5 = .ok (.if_icmp .ge 16, 3) := by decide +kernel
theorem dX12_withoutBridges_8 : decode cX12_withoutBridges 8 = .ok (.aload_n 0, 1) := by decide +kernel
theorem dX12_withoutBridges_9 : decode cX12_withoutBridges 9 = .ok (.getfield 81, 3) := by decide +kernel
theorem dX12_withoutBridges_12 : decode cX12_withoutBridges 12 = .ok (.iload_n 2, 1) := by decide +kernel
theorem dX12_withoutBridges_13 : decode cX12_withoutBridges 13 = .ok (.iconst 0, 1) := by decide +kernel
theorem dX12_withoutBridges_14 : decode cX12_withoutBridges 14 = .ok (.iastore, 1) := by decide +kernel
theorem dX12_withoutBridges_15 : decode cX12_withoutBridges 15 = .ok (.iinc 2 1, 3) := by decide +kernel
theorem dX12_withoutBridges_18 : decode cX12_withoutBridges 18 = .ok (.goto (-16), 3) := by decide +kernel
theorem dX12_withoutBridges_21 : decode cX12_withoutBridges 21 = .ok (.iconst 0, 1) := by decide +kernel
theorem dX12_withoutBridges_22 : decode cX12_withoutBridges 22 = .ok (.istore_n 2, 1) := by decide +kernel
theorem dX12_withoutBridges_23 : decode cX12_withoutBridges 23 = .ok (.iload_n 2, 1) := by decide +kernel
theorem dX12_withoutBridges_24 : decode cX12_withoutBridges 24 = .ok (.aload_n 0, 1) := by decide +kernel
theorem dX12_withoutBridges_25 : decode cX12_withoutBridges 25 = .ok (.getfield 20, 3) := by decide +kernel
theorem dX12_withoutBridges_28 : decode cX12_withoutBridges 28 = .ok (.iload_n 1, 1) := by decide +kernel
theorem dX12_withoutBridges_29 : decode cX12_withoutBridges 29 = .ok (.iaload, 1) := by decide +kernel
theorem dX12_withoutBridges_30 : decode cX12_withoutBridges 30 = .ok (.if_icmp .ge 83, 3) := by decide +kernel
theorem dX12_withoutBridges_33 : decode cX12_withoutBridges 33 = .ok (.iload_n 1, 1) := by decide +kernel
theorem dX12_withoutBridges_34 : decode cX12_withoutBridges 34 = .ok (.iload_n 2, 1) := by decide +kernel
theorem dX12_withoutBridges_35 : decode cX12_withoutBridges 35 = .ok (.invokestatic 157, 3) := by decide +kernel
theorem dX12_withoutBridges_38 : decode cX12_withoutBridges 38 = .ok (.istore_n 3, 1) := by decide +kernel
theorem dX12_withoutBridges_39 : decode cX12_withoutBridges 39 = .ok (.aload_n 0, 1) := by decide +kernel
theorem dX12_withoutBridges_40 : decode cX12_withoutBridges 40 = .ok (.getfield 106, 3) := by decide +kernel
theorem dX12_withoutBridges_43 : decode cX12_withoutBridges 43 = .ok (.iload_n 2, 1) := by decide +kernel
theorem dX12_withoutBridges_44 : decode cX12_withoutBridges 44 = .ok (.baload, 1) := by decide +kernel
theorem dX12_withoutBridges_45 : decode cX12_withoutBridges 45 = .ok (.ifCond .ne 62, 3) := by decide +kernel
theorem dX12_withoutBridges_48 : decode cX12_withoutBridges 48 = .ok (.aload_n 0, 1) := by decide +kernel
theorem dX12_withoutBridges_49 : decode cX12_withoutBridges 49 = .ok (.getfield 23, 3) := by decide +kernel
theorem dX12_withoutBridges_52 : decode cX12_withoutBridges 52 = .ok (.iload_n 3, 1) := by decide +kernel
theorem dX12_withoutBridges_53 : decode cX12_withoutBridges 53 = .ok (.iaload, 1) := by decide +kernel
theorem dX12_withoutBridges_54 : decode cX12_withoutBridges 54 = .ok (.aload_n 0, 1) := by decide +kernel
theorem dX12_withoutBridges_55 : decode cX12_withoutBridges 55 = .ok (.getfield 26, 3) := by decide +kernel
theorem dX12_withoutBridges_58 : decode cX12_withoutBridges 58 = .ok (.iload_n 3, 1) := by decide +kernel
theorem dX12_withoutBridges_59 : decode cX12_withoutBridges 59 = .ok (.iaload, 1) := by decide +kernel
theorem dX12_withoutBridges_60 : decode cX12_withoutBridges 60 = .ok (.if_icmp .eq 47, 3) := by decide +kernel
theorem dX12_withoutBridges_63 : decode cX12_withoutBridges 63 = .ok (.aload_n 0, 1) := by decide +kernel
theorem dX12_withoutBridges_64 : decode cX12_withoutBridges 64 = .ok (.getfield 81, 3) := by decide +kernel
theorem dX12_withoutBridges_67 : decode cX12_withoutBridges 67 = .ok (.aload_n 0, 1) := by decide +kernel
theorem dX12_withoutBridges_68 : decode cX12_withoutBridges 68 = .ok (.getfield 23, 3) := by decide +kernel
theorem dX12_withoutBridges_71 : decode cX12_withoutBridges 71 = .ok (.iload_n 3, 1) := by decide +kernel
theorem dX12_withoutBridges_72 : decode cX12_withoutBridges 72 = .ok (.iaload, 1) := by decide +kernel
theorem dX12_withoutBridges_73 : decode cX12_withoutBridges 73 = .ok (.dup2, 1) := by decide +kernel
theorem dX12_withoutBridges_74 : decode cX12_withoutBridges 74 = .ok (.iaload, 1) := by decide +kernel
theorem dX12_withoutBridges_75 : decode cX12_withoutBridges 75 = .ok (.iconst 1, 1) := by decide +kernel
theorem dX12_withoutBridges_76 : decode cX12_withoutBridges 76 = .ok (.aload_n 0, 1) := by decide +kernel
theorem dX12_withoutBridges_77 : decode cX12_withoutBridges 77 = .ok (.getfield 26, 3) := by decide +kernel
theorem dX12_withoutBridges_80 : decode cX12_withoutBridges 80 = .ok (.iload_n 3, 1) := by decide +kernel
theorem dX12_withoutBridges_81 : decode cX12_withoutBridges 81 = .ok (.iaload, 1) := by decide +kernel
theorem dX12_withoutBridges_82 : decode cX12_withoutBridges 82 = .ok (.ishl, 1) := by decide +kernel
theorem dX12_withoutBridges_83 : decode cX12_withoutBridges 83 = .ok (.ior, 1) := by decide +kernel
theorem dX12_withoutBridges_84 : decode cX12_withoutBridges 84 = .ok (.iastore, 1) := by decide +kernel
theorem dX12_withoutBridges_85 : decode cX12_withoutBridges 85 = .ok (.aload_n 0, 1) := by decide +kernel
theorem dX12_withoutBridges_86 : decode cX12_withoutBridges 86 = .ok (.getfield 81, 3) := by decide +kernel
theorem dX12_withoutBridges_89 : decode cX12_withoutBridges 89 = .ok (.aload_n 0, 1) := by decide +kernel
theorem dX12_withoutBridges_90 : decode cX12_withoutBridges 90 = .ok (.getfield 26, 3) := by decide +kernel
theorem dX12_withoutBridges_93 : decode cX12_withoutBridges 93 = .ok (.iload_n 3, 1) := by decide +kernel
theorem dX12_withoutBridges_94 : decode cX12_withoutBridges 94 = .ok (.iaload, 1) := by decide +kernel
theorem dX12_withoutBridges_95 : decode cX12_withoutBridges 95 = .ok (.dup2, 1) := by decide +kernel
theorem dX12_withoutBridges_96 : decode cX12_withoutBridges 96 = .ok (.iaload, 1) := by decide +kernel
theorem dX12_withoutBridges_97 : decode cX12_withoutBridges 97 = .ok (.iconst 1, 1) := by decide +kernel
theorem dX12_withoutBridges_98 : decode cX12_withoutBridges 98 = .ok (.aload_n 0, 1) := by decide +kernel
theorem dX12_withoutBridges_99 : decode cX12_withoutBridges 99 = .ok (.getfield 23, 3) := by decide +kernel
theorem dX12_withoutBridges_102 : decode cX12_withoutBridges 102 = .ok (.iload_n 3, 1) := by decide +kernel
theorem dX12_withoutBridges_103 : decode cX12_withoutBridges 103 = .ok (.iaload, 1) := by decide +kernel
theorem dX12_withoutBridges_104 : decode cX12_withoutBridges 104 = .ok (.ishl, 1) := by decide +kernel
theorem dX12_withoutBridges_105 : decode cX12_withoutBridges 105 = .ok (.ior, 1) := by decide +kernel
theorem dX12_withoutBridges_106 : decode cX12_withoutBridges 106 = .ok (.iastore, 1) := by decide +kernel
theorem dX12_withoutBridges_107 : decode cX12_withoutBridges 107 = .ok (.iinc 2 1, 3) := by decide +kernel
theorem dX12_withoutBridges_110 : decode cX12_withoutBridges 110 = .ok (.goto (-87), 3) := by decide +kernel
theorem dX12_withoutBridges_113 : decode cX12_withoutBridges 113 = .ok (.return_, 1) := by decide +kernel
theorem dX12_same_0 : decode cX12_same 0 = .ok (.aload_n 0, 1) := by decide +kernel
theorem dX12_same_1 : decode cX12_same 1 = .ok (.getfield 13, 3) := by decide +kernel
theorem dX12_same_4 : decode cX12_same 4 = .ok (.iload_n 1, 1) := by decide +kernel
theorem dX12_same_5 : decode cX12_same 5 = .ok (.iaload, 1) := by decide +kernel
theorem dX12_same_6 : decode cX12_same 6 = .ok (.istore_n 2, 1) := by decide +kernel
theorem dX12_same_7 : decode cX12_same 7 = .ok (.iconst 0, 1) := by decide +kernel
theorem dX12_same_8 : decode cX12_same 8 = .ok (.istore_n 3, 1) := by decide +kernel
theorem dX12_same_9 : decode cX12_same 9 = .ok (.iload_n 3, 1) := by decide +kernel
theorem dX12_same_10 : decode cX12_same 10 = .ok (.iload_n 2, 1) := by decide +kernel
theorem dX12_same_11 : decode cX12_same 11 = .ok (.if_icmp .ge 23, 3) := by decide +kernel
theorem dX12_same_14 : decode cX12_same 14 = .ok (.aload_n 0, 1) := by decide +kernel
theorem dX12_same_15 : decode cX12_same 15 = .ok (.getfield 109, 3) := by decide +kernel
theorem dX12_same_18 : decode cX12_same 18 = .ok (.iload_n 3, 1) := by decide +kernel
theorem dX12_same_19 : decode cX12_same 19 = .ok (.iconst 0, 1) := by decide +kernel
theorem dX12_same_20 : decode cX12_same 20 = .ok (.iastore, 1) := by decide +kernel
theorem dX12_same_21 : decode cX12_same 21 = .ok (.aload_n 0, 1) := by decide +kernel
theorem dX12_same_22 : decode cX12_same 22 = .ok (.getfield 112, 3) := by decide +kernel
theorem dX12_same_25 : decode cX12_same 25 = .ok (.iload_n 3, 1) := by decide +kernel
theorem dX12_same_26 : decode cX12_same 26 = .ok (.iconst 0, 1) := by decide +kernel
theorem dX12_same_27 : decode cX12_same 27 = .ok (.iastore, 1) := by decide +kernel
theorem dX12_same_28 : decode cX12_same 28 = .ok (.iinc 3 1, 3) := by decide +kernel
theorem dX12_same_31 : decode cX12_same 31 = .ok (.goto (-22), 3) := by decide +kernel
theorem dX12_same_34 : decode cX12_same 34 = .ok (.iconst 0, 1) := by decide +kernel
theorem dX12_same_35 : decode cX12_same 35 = .ok (.istore_n 3, 1) := by decide +kernel
theorem dX12_same_36 : decode cX12_same 36 = .ok (.iload_n 3, 1) := by decide +kernel
theorem dX12_same_37 : decode cX12_same 37 = .ok (.aload_n 0, 1) := by decide +kernel
theorem dX12_same_38 : decode cX12_same 38 = .ok (.getfield 20, 3) := by decide +kernel
theorem dX12_same_41 : decode cX12_same 41 = .ok (.iload_n 1, 1) := by decide +kernel
theorem dX12_same_42 : decode cX12_same 42 = .ok (.iaload, 1) := by decide +kernel
theorem dX12_same_43 : decode cX12_same 43 = .ok (.if_icmp .ge 138, 3) := by decide +kernel
theorem dX12_same_46 : decode cX12_same 46 = .ok (.iload_n 1, 1) := by decide +kernel
theorem dX12_same_47 : decode cX12_same 47 = .ok (.iload_n 3, 1) := by decide +kernel
theorem dX12_same_48 : decode cX12_same 48 = .ok (.invokestatic 157, 3) := by decide +kernel
theorem dX12_same_51 : decode cX12_same 51 = .ok (.istore 4, 2) := by decide +kernel
theorem dX12_same_53 : decode cX12_same 53 = .ok (.aload_n 0, 1) := by decide +kernel
theorem dX12_same_54 : decode cX12_same 54 = .ok (.getfield 23, 3) := by decide +kernel
theorem dX12_same_57 : decode cX12_same 57 = .ok (.iload 4, 2) := by decide +kernel
theorem dX12_same_59 : decode cX12_same 59 = .ok (.iaload, 1) := by decide +kernel
theorem dX12_same_60 : decode cX12_same 60 = .ok (.aload_n 0, 1) := by decide +kernel
theorem dX12_same_61 : decode cX12_same 61 = .ok (.getfield 26, 3) := by decide +kernel
theorem dX12_same_64 : decode cX12_same 64 = .ok (.iload 4, 2) := by decide +kernel
theorem dX12_same_66 : decode cX12_same 66 = .ok (.iaload, 1) := by decide +kernel
theorem dX12_same_67 : decode cX12_same 67 = .ok (.if_icmp .eq 108, 3) := by decide +kernel
theorem dX12_same_70 : decode cX12_same 70 = .ok (.aload_n 0, 1) := by decide +kernel
theorem dX12_same_71 : decode cX12_same 71 = .ok (.getfield 109, 3) := by decide +kernel
theorem dX12_same_74 : decode cX12_same 74 = .ok (.aload_n 0, 1) := by decide +kernel
theorem dX12_same_75 : decode cX12_same 75 = .ok (.getfield 23, 3) := by decide +kernel
theorem dX12_same_78 : decode cX12_same 78 = .ok (.iload 4, 2) := by decide +kernel
theorem dX12_same_80 : decode cX12_same 80 = .ok (.iaload, 1) := by decide +kernel
theorem dX12_same_81 : decode cX12_same 81 = .ok (.dup2, 1) := by decide +kernel
theorem dX12_same_82 : decode cX12_same 82 = .ok (.iaload, 1) := by decide +kernel
theorem dX12_same_83 : decode cX12_same 83 = .ok (.iconst 1, 1) := by decide +kernel
theorem dX12_same_84 : decode cX12_same 84 = .ok (.aload_n 0, 1) := by decide +kernel
theorem dX12_same_85 : decode cX12_same 85 = .ok (.getfield 26, 3) := by decide +kernel
theorem dX12_same_88 : decode cX12_same 88 = .ok (.iload 4, 2) := by decide +kernel
theorem dX12_same_90 : decode cX12_same 90 = .ok (.iaload, 1) := by decide +kernel
theorem dX12_same_91 : decode cX12_same 91 = .ok (.ishl, 1) := by decide +kernel
theorem dX12_same_92 : decode cX12_same 92 = .ok (.ior, 1) := by decide +kernel
theorem dX12_same_93 : decode cX12_same 93 = .ok (.iastore, 1) := by decide +kernel
theorem dX12_same_94 : decode cX12_same 94 = .ok (.aload_n 0, 1) := by decide +kernel
theorem dX12_same_95 : decode cX12_same 95 = .ok (.getfield 112, 3) := by decide +kernel
theorem dX12_same_98 : decode cX12_same 98 = .ok (.aload_n 0, 1) := by decide +kernel
theorem dX12_same_99 : decode cX12_same 99 = .ok (.getfield 26, 3) := by decide +kernel
theorem dX12_same_102 : decode cX12_same 102 = .ok (.iload 4, 2) := by decide +kernel
theorem dX12_same_104 : decode cX12_same 104 = .ok (.iaload, 1) := by decide +kernel
theorem dX12_same_105 : decode cX12_same 105 = .ok (.dup2, 1) := by decide +kernel
theorem dX12_same_106 : decode cX12_same 106 = .ok (.iaload, 1) := by decide +kernel
theorem dX12_same_107 : decode cX12_same 107 = .ok (.iconst 1, 1) := by decide +kernel
theorem dX12_same_108 : decode cX12_same 108 = .ok (.aload_n 0, 1) := by decide +kernel
theorem dX12_same_109 : decode cX12_same 109 = .ok (.getfield 23, 3) := by decide +kernel
theorem dX12_same_112 : decode cX12_same 112 = .ok (.iload 4, 2) := by decide +kernel
theorem dX12_same_114 : decode cX12_same 114 = .ok (.iaload, 1) := by decide +kernel
theorem dX12_same_115 : decode cX12_same 115 = .ok (.ishl, 1) := by decide +kernel
theorem dX12_same_116 : decode cX12_same 116 = .ok (.ior, 1) := by decide +kernel
theorem dX12_same_117 : decode cX12_same 117 = .ok (.iastore, 1) := by decide +kernel
theorem dX12_same_118 : decode cX12_same 118 = .ok (.aload_n 0, 1) := by decide +kernel
theorem dX12_same_119 : decode cX12_same 119 = .ok (.getfield 16, 3) := by decide +kernel
theorem dX12_same_122 : decode cX12_same 122 = .ok (.iload_n 1, 1) := by decide +kernel
theorem dX12_same_123 : decode cX12_same 123 = .ok (.baload, 1) := by decide +kernel
theorem dX12_same_124 : decode cX12_same 124 = .ok (.ifCond .ne 51, 3) := by decide +kernel
theorem dX12_same_127 : decode cX12_same 127 = .ok (.aload_n 0, 1) := by decide +kernel
theorem dX12_same_128 : decode cX12_same 128 = .ok (.getfield 109, 3) := by decide +kernel
theorem dX12_same_131 : decode cX12_same 131 = .ok (.aload_n 0, 1) := by decide +kernel
theorem dX12_same_132 : decode cX12_same 132 = .ok (.getfield 26, 3) := by decide +kernel
theorem dX12_same_135 : decode cX12_same 135 = .ok (.iload 4, 2) := by decide +kernel
theorem dX12_same_137 : decode cX12_same 137 = .ok (.iaload, 1) := by decide +kernel
theorem dX12_same_138 : decode cX12_same 138 = .ok (.dup2, 1) := by decide +kernel
theorem dX12_same_139 : decode cX12_same 139 = .ok (.iaload, 1) := by decide +kernel
theorem dX12_same_140 : decode cX12_same 140 = .ok (.iconst 1, 1) := by decide +kernel
theorem dX12_same_141 : decode cX12_same 141 = .ok (.aload_n 0, 1) := by decide +kernel
theorem dX12_same_142 : decode cX12_same 142 = .ok (.getfield 23, 3) := by decide +kernel
theorem dX12_same_145 : decode cX12_same 145 = .ok (.iload 4, 2) := by decide +kernel
theorem dX12_same_147 : decode cX12_same 147 = .ok (.iaload, 1) := by decide +kernel
theorem dX12_same_148 : decode cX12_same 148 = .ok (.ishl, 1) := by decide +kernel
theorem dX12_same_149 : decode cX12_same 149 = .ok (.ior, 1) := by decide +kernel
theorem dX12_same_150 : decode cX12_same 150 = .ok (.iastore, 1) := by decide +kernel
theorem dX12_same_151 : decode cX12_same 151 = .ok (.aload_n 0, 1) := by decide +kernel
theorem dX12_same_152 : decode cX12_same 152 = .ok (.getfield 112, 3) := by decide +kernel
theorem dX12_same_155 : decode cX12_same 155 = .ok (.aload_n 0, 1) := by decide +kernel
theorem dX12_same_156 : decode cX12_same 156 = .ok (.getfield 23, 3) := by decide +kernel
theorem dX12_same_159 : decode cX12_same 159 = .ok (.iload 4, 2) := by decide +kernel
theorem dX12_same_161 : decode cX12_same 161 = .ok (.iaload, 1) := by decide +kernel
theorem dX12_same_162 : decode cX12_same 162 = .ok (.dup2, 1) := by decide +kernel
theorem dX12_same_163 : decode cX12_same 163 = .ok (.iaload, 1) := by decide +kernel
theorem dX12_same_164 : decode cX12_same 164 = .ok (.iconst 1, 1) := by decide +kernel
theorem dX12_same_165 : decode cX12_same 165 = .ok (.aload_n 0, 1) := by decide +kernel
theorem dX12_same_166 : decode cX12_same 166 = .ok (.getfield 26, 3) := by decide +kernel
theorem dX12_same_169 : decode cX12_same 169 = .ok (.iload 4, 2) := by decide +kernel
theorem dX12_same_171 : decode cX12_same 171 = .ok (.iaload, 1) := by decide +kernel
theorem dX12_same_172 : decode cX12_same 172 = .ok (.ishl, 1) := by decide +kernel
theorem dX12_same_173 : decode cX12_same 173 = .ok (.ior, 1) := by decide +kernel
theorem dX12_same_174 : decode cX12_same 174 = .ok (.iastore, 1) := by decide +kernel
theorem dX12_same_175 : decode cX12_same 175 = .ok (.iinc 3 1, 3) := by decide +kernel
theorem dX12_same_178 : decode cX12_same 178 = .ok (.goto (-142), 3) := by decide +kernel
theorem dX12_same_181 : decode cX12_same 181 = .ok (.iconst 0, 1) := by decide +kernel
theorem dX12_same_182 : decode cX12_same 182 = .ok (.istore_n 3, 1) := by decide +kernel
theorem dX12_same_183 : decode cX12_same 183 = .ok (.iload_n 3, 1) := by decide +kernel
theorem dX12_same_184 : decode cX12_same 184 = .ok (.iload_n 2, 1) := by decide +kernel
theorem dX12_same_185 : decode cX12_same 185 = .ok (.if_icmp .ge 81, 3) := by decide +kernel
theorem dX12_same_188 : decode cX12_same 188 = .ok (.aload_n 0, 1) := by decide +kernel
theorem dX12_same_189 : decode cX12_same 189 = .ok (.getfield 103, 3) := by decide +kernel
theorem dX12_same_192 : decode cX12_same 192 = .ok (.iload_n 3, 1) := by decide +kernel
theorem dX12_same_193 : decode cX12_same 193 = .ok (.iload_n 3, 1) := by decide +kernel
theorem dX12_same_194 : decode cX12_same 194 = .ok (.iastore, 1) := by decide +kernel
theorem dX12_same_195 : decode cX12_same 195 = .ok (.iload_n 3, 1) := by decide +kernel
theorem dX12_same_196 : decode cX12_same 196 = .ok (.iconst 1, 1) := by decide +kernel
theorem dX12_same_197 : decode cX12_same 197 = .ok (.isub, 1) := by decide +kernel
theorem dX12_same_198 : decode cX12_same 198 = .ok (.istore 4, 2) := by decide +kernel
theorem dX12_same_200 : decode cX12_same 200 = .ok (.iload 4, 2) := by decide +kernel
theorem dX12_same_202 : decode cX12_same 202 = .ok (.ifCond .lt 58, 3) := by decide +kernel
theorem dX12_same_205 : decode cX12_same 205 = .ok (.aload_n 0, 1) := by decide +kernel
theorem dX12_same_206 : decode cX12_same 206 = .ok (.getfield 103, 3) := by decide +kernel
theorem dX12_same_209 : decode cX12_same 209 = .ok (.iload_n 3, 1) := by decide +kernel
theorem dX12_same_210 : decode cX12_same 210 = .ok (.aload_n 0, 1) := by decide +kernel
theorem dX12_same_211 : decode cX12_same 211 = .ok (.getfield 109, 3) := by decide +kernel
theorem dX12_same_214 : decode cX12_same 214 = .ok (.iload 4, 2) := by decide +kernel
theorem dX12_same_216 : decode cX12_same 216 = .ok (.iaload, 1) := by decide +kernel
theorem dX12_same_217 : decode cX12_same 217 = .ok (.aload_n 0, 1) := by decide +kernel
theorem dX12_same_218 : decode cX12_same 218 = .ok (.getfield 109, 3) := by decide +kernel
theorem dX12_same_221 : decode cX12_same 221 = .ok (.iload_n 3, 1) := by decide +kernel
theorem dX12_same_222 : decode cX12_same 222 = .ok (.iaload, 1) := by decide +kernel
theorem dX12_same_223 : decode cX12_same 223 = .ok (.if_icmp .ne 24, 3) := by decide +kernel
theorem dX12_same_226 : decode cX12_same 226 = .ok (.aload_n 0, 1) := by decide +kernel
theorem dX12_same_227 : decode cX12_same 227 = .ok (.getfield 112, 3) := by decide +kernel
theorem dX12_same_230 : decode cX12_same 230 = .ok (.iload 4, 2) := by decide +kernel
theorem dX12_same_232 : decode cX12_same 232 = .ok (.iaload, 1) := by decide +kernel
theorem dX12_same_233 : decode cX12_same 233 = .ok (.aload_n 0, 1) := by decide +kernel
theorem dX12_same_234 : decode cX12_same 234 = .ok (.getfield 112, 3) := by decide +kernel
theorem dX12_same_237 : decode cX12_same 237 = .ok (.iload_n 3, 1) := by decide +kernel
theorem dX12_same_238 : decode cX12_same 238 = .ok (.iaload, 1) := by decide +kernel
theorem dX12_same_239 : decode cX12_same 239 = .ok (.if_icmp .ne 8, 3) := by decide +kernel
theorem dX12_same_242 : decode cX12_same 242 = .ok (.iload 4, 2) := by decide +kernel
theorem dX12_same_244 : decode cX12_same 244 = .ok (.goto 9, 3) := by decide +kernel
theorem dX12_same_247 : decode cX12_same 247 = .ok (.aload_n 0, 1) := by decide +kernel
theorem dX12_same_248 : decode cX12_same 248 = .ok (.getfield 103, 3) := by decide +kernel
theorem dX12_same_251 : decode cX12_same 251 = .ok (.iload_n 3, 1) := by decide +kernel
theorem dX12_same_252 : decode cX12_same 252 = .ok (.iaload, 1) := by decide +kernel
theorem dX12_same_253 : decode cX12_same 253 = .ok (.iastore, 1) := by decide +kernel
theorem dX12_same_254 : decode cX12_same 254 = .ok (.iinc 4 (-1), 3) := by decide +kernel
theorem dX12_same_257 : decode cX12_same 257 = .ok (.goto (-57), 3) := by decide +kernel
theorem dX12_same_260 : decode cX12_same 260 = .ok (.iinc 3 1, 3) := by decide +kernel
theorem dX12_same_263 : decode cX12_same 263 = .ok (.goto (-80), 3) := by decide +kernel
theorem dX12_same_266 : decode cX12_same 266 = .ok (.return_, 1) := by decide +kernel
theorem dX12_order_0 : decode cX12_order 0 = .ok (.aload_n 0, 1) := by decide +kernel
theorem dX12_order_1 : decode cX12_order 1 = .ok (.getfield 13, 3) := by decide +kernel
theorem dX12_order_4 : decode cX12_order 4 = .ok (.iload_n 1, 1) := by decide +kernel
theorem dX12_order_5 : decode cX12_order 5 = .ok (.iaload, 1) := by decide +kernel
theorem dX12_order_6 : decode cX12_order 6 = .ok (.istore_n 3, 1) := by decide +kernel
theorem dX12_order_7 : decode cX12_order 7 = .ok (.aload_n 0, 1) := by decide +kernel
theorem dX12_order_8 : decode cX12_order 8 = .ok (.getfield 16, 3) := by decide +kernel
theorem dX12_order_11 : decode cX12_order 11 = .ok (.iload_n 1, 1) := by decide +kernel
theorem dX12_order_12 : decode cX12_order 12 = .ok (.baload, 1) := by decide +kernel
theorem dX12_order_13 : decode cX12_order 13 = .ok (.ifCond .ne 16, 3) := by decide +kernel
theorem dX12_order_16 : decode cX12_order 16 = .ok (.aload_n 0, 1) := by decide +kernel
theorem dX12_order_17 : decode cX12_order 17 = .ok (.getfield 20, 3) := by decide +kernel
theorem dX12_order_20 : decode cX12_order 20 = .ok (.iload_n 1, 1) := by decide +kernel
theorem dX12_order_21 : decode cX12_order 21 = .ok (.iaload, 1) := by decide +kernel
theorem dX12_order_22 : decode cX12_order 22 = .ok (.ifCond .le 7, 3) := by decide +kernel
theorem dX12_order_25 : decode cX12_order 25 = .ok (.ldc2_w 357, 3) := by decide +kernel
theorem dX12_order_28 : decode cX12_order 28 = .ok (.lreturn, 1) := by decide +kernel
theorem dX12_order_29 : decode cX12_order 29 = .ok (.iconst 1, 1) := by decide +kernel
theorem dX12_order_30 : decode cX12_order 30 = .ok (.iload_n 3, 1) := by decide +kernel
theorem dX12_order_31 : decode cX12_order 31 = .ok (.ishl, 1) := by decide +kernel
theorem dX12_order_32 : decode cX12_order 32 = .ok (.iconst 1, 1) := by decide +kernel
theorem dX12_order_33 : decode cX12_order 33 = .ok (.isub, 1) := by decide +kernel
theorem dX12_order_34 : decode cX12_order 34 = .ok (.istore 4, 2) := by decide +kernel
theorem dX12_order_36 : decode cX12_order 36 = .ok (.ldc2_w 357, 3) := by decide +kernel
theorem dX12_order_39 : decode cX12_order 39 = .ok (.lstore 5, 2) := by decide +kernel
theorem dX12_order_41 : decode cX12_order 41 = .ok (.iconst 0, 1) := by decide +kernel
theorem dX12_order_42 : decode cX12_order 42 = .ok (.istore 7, 2) := by decide +kernel
theorem dX12_order_44 : decode cX12_order 44 = .ok (.iload 7, 2) := by decide +kernel
theorem dX12_order_46 : decode cX12_order 46 = .ok (.iload_n 3, 1) := by decide +kernel
theorem dX12_order_47 : decode cX12_order 47 = .ok (.if_icmp .ge 83, 3) := by decide +kernel
theorem dX12_order_50 : decode cX12_order 50 = .ok (.iconst 0, 1) := by decide +kernel
theorem dX12_order_51 : decode cX12_order 51 = .ok (.istore 8, 2) := by decide +kernel
theorem dX12_order_53 : decode cX12_order 53 = .ok (.iload 8, 2) := by decide +kernel
theorem dX12_order_55 : decode cX12_order 55 = .ok (.iload_n 3, 1) := by decide +kernel
theorem dX12_order_56 : decode cX12_order 56 = .ok (.if_icmp .ge 31, 3) := by decide +kernel
theorem dX12_order_59 : decode cX12_order 59 = .ok (.iload 4, 2) := by decide +kernel
theorem dX12_order_61 : decode cX12_order 61 = .ok (.iload 8, 2) := by decide +kernel
theorem dX12_order_63 : decode cX12_order 63 = .ok (.ishr, 1) := by decide +kernel
theorem dX12_order_64 : decode cX12_order 64 = .ok (.iconst 1, 1) := by decide +kernel
theorem dX12_order_65 : decode cX12_order 65 = .ok (.iand, 1) := by decide +kernel
theorem dX12_order_66 : decode cX12_order 66 = .ok (.ifCond .eq 15, 3) := by decide +kernel
theorem dX12_order_69 : decode cX12_order 69 = .ok (.aload_n 0, 1) := by decide +kernel
theorem dX12_order_70 : decode cX12_order 70 = .ok (.iload_n 1, 1) := by decide +kernel
theorem dX12_order_71 : decode cX12_order 71 = .ok (.iload 4, 2) := by decide +kernel
theorem dX12_order_73 : decode cX12_order 73 = .ok (.iload 8, 2) := by decide +kernel
theorem dX12_order_75 : decode cX12_order 75 = .ok (.invokevirtual 359, 3) := by decide +kernel
theorem dX12_order_78 : decode cX12_order 78 = .ok (.ifCond .eq 9, 3) := by decide +kernel
theorem dX12_order_81 : decode cX12_order 81 = .ok (.iinc 8 1, 3) := by decide +kernel
theorem dX12_order_84 : decode cX12_order 84 = .ok (.goto (-31), 3) := by decide +kernel
theorem dX12_order_87 : decode cX12_order 87 = .ok (.iload 8, 2) := by decide +kernel
theorem dX12_order_89 : decode cX12_order 89 = .ok (.iload_n 3, 1) := by decide +kernel
theorem dX12_order_90 : decode cX12_order 90 = .ok (.if_icmp .ne 7, 3) := by decide +kernel
theorem dX12_order_93 : decode cX12_order 93 = .ok (.ldc2_w 357, 3) := by decide +kernel
theorem dX12_order_96 : decode cX12_order 96 = .ok (.lreturn, 1) := by decide +kernel
theorem dX12_order_97 : decode cX12_order 97 = .ok (.iload 4, 2) := by decide +kernel
theorem dX12_order_99 : decode cX12_order 99 = .ok (.iconst 1, 1) := by decide +kernel
theorem dX12_order_100 : decode cX12_order 100 = .ok (.iload 8, 2) := by decide +kernel
theorem dX12_order_102 : decode cX12_order 102 = .ok (.ishl, 1) := by decide +kernel
theorem dX12_order_103 : decode cX12_order 103 = .ok (.iconst (-1), 1) := by decide +kernel
theorem dX12_order_104 : decode cX12_order 104 = .ok (.ixor, 1) := by decide +kernel
theorem dX12_order_105 : decode cX12_order 105 = .ok (.iand, 1) := by decide +kernel
theorem dX12_order_106 : decode cX12_order 106 = .ok (.istore 4, 2) := by decide +kernel
theorem dX12_order_108 : decode cX12_order 108 = .ok (.iload 7, 2) := by decide +kernel
theorem dX12_order_110 : decode cX12_order 110 = .ok (.iload_n 2, 1) := by decide +kernel
theorem dX12_order_111 : decode cX12_order 111 = .ok (.if_icmp .ne 9, 3) := by decide +kernel
theorem dX12_order_114 : decode cX12_order 114 = .ok (.iload 8, 2) := by decide +kernel
theorem dX12_order_116 : decode cX12_order 116 = .ok (.i2l, 1) := by decide +kernel
theorem dX12_order_117 : decode cX12_order 117 = .ok (.goto 5, 3) := by decide +kernel
theorem dX12_order_120 : decode cX12_order 120 = .ok (.lload 5, 2) := by decide +kernel
theorem dX12_order_122 : decode cX12_order 122 = .ok (.lstore 5, 2) := by decide +kernel
theorem dX12_order_124 : decode cX12_order 124 = .ok (.iinc 7 1, 3) := by decide +kernel
theorem dX12_order_127 : decode cX12_order 127 = .ok (.goto (-83), 3) := by decide +kernel
theorem dX12_order_130 : decode cX12_order 130 = .ok (.lload 5, 2) := by decide +kernel
theorem dX12_order_132 : decode cX12_order 132 = .ok (.lreturn, 1) := by decide +kernel
theorem kX12_357 : Cond.constantLong RX12 357 (-1) ∈ g_ws (gS, X) := (tb_t (k := 1543) (w := Cond.constantLong RX12 357 (-1)) (by decide +kernel))
theorem kX12_359 : lkK (gS, X) RX12 359 mX12_isLed 3 ∧ Cond.instanceMethod yX12_isLed ∈ g_ws (gS, X) ∧ Cond.selects RX12 yX12_isLed yX12_isLed ∈ g_ws (gS, X) ∧ yX12_isLed.cls = RX12 := ⟨⟨tb_good, (tb_t (k := 1544) (w := Cond.methodLink RX12 359 yX12_isLed) (by decide +kernel)), (tb_t (k := 8) (w := Cond.initialized RX12) (by decide +kernel)), (tb_t (k := 1547) (w := Cond.code yX12_isLed cX12_isLed 7 (some .boolean)) (by decide +kernel)), by decide +kernel, by decide⟩, (tb_t (k := 1546) (w := Cond.instanceMethod yX12_isLed) (by decide +kernel)), (tb_p (k := 116) (q := (yX12_isLed, 45)) (by decide +kernel)), rfl⟩
theorem dX12_isLed_0 : decode cX12_isLed 0 = .ok (.iconst 0, 1) := by decide +kernel
theorem dX12_isLed_1 : decode cX12_isLed 1 = .ok (.istore 4, 2) := by decide +kernel
theorem dX12_isLed_3 : decode cX12_isLed 3 = .ok (.iconst 0, 1) := by decide +kernel
theorem dX12_isLed_4 : decode cX12_isLed 4 = .ok (.istore 5, 2) := by decide +kernel
theorem dX12_isLed_6 : decode cX12_isLed 6 = .ok (.iload 5, 2) := by decide +kernel
theorem dX12_isLed_8 : decode cX12_isLed 8 = .ok (.aload_n 0, 1) := by decide +kernel
theorem dX12_isLed_9 : decode cX12_isLed 9 = .ok (.getfield 20, 3) := by decide +kernel
theorem dX12_isLed_12 : decode cX12_isLed 12 = .ok (.iload_n 1, 1) := by decide +kernel
theorem dX12_isLed_13 : decode cX12_isLed 13 = .ok (.iaload, 1) := by decide +kernel
theorem dX12_isLed_14 : decode cX12_isLed 14 = .ok (.if_icmp .ge 55, 3) := by decide +kernel
theorem dX12_isLed_17 : decode cX12_isLed 17 = .ok (.iload_n 1, 1) := by decide +kernel
theorem dX12_isLed_18 : decode cX12_isLed 18 = .ok (.iload 5, 2) := by decide +kernel
theorem dX12_isLed_20 : decode cX12_isLed 20 = .ok (.invokestatic 157, 3) := by decide +kernel
theorem dX12_isLed_23 : decode cX12_isLed 23 = .ok (.istore 6, 2) := by decide +kernel
theorem dX12_isLed_25 : decode cX12_isLed 25 = .ok (.iload 4, 2) := by decide +kernel
theorem dX12_isLed_27 : decode cX12_isLed 27 = .ok (.ifCond .ne 29, 3) := by decide +kernel
theorem dX12_isLed_30 : decode cX12_isLed 30 = .ok (.aload_n 0, 1) := by decide +kernel
theorem dX12_isLed_31 : decode cX12_isLed 31 = .ok (.getfield 26, 3) := by decide +kernel
theorem dX12_isLed_34 : decode cX12_isLed 34 = .ok (.iload 6, 2) := by decide +kernel
theorem dX12_isLed_36 : decode cX12_isLed 36 = .ok (.iaload, 1) := by decide +kernel
theorem dX12_isLed_37 : decode cX12_isLed 37 = .ok (.iload_n 3, 1) := by decide +kernel
theorem dX12_isLed_38 : decode cX12_isLed 38 = .ok (.if_icmp .ne 22, 3) := by decide +kernel
theorem dX12_isLed_41 : decode cX12_isLed 41 = .ok (.iload_n 2, 1) := by decide +kernel
theorem dX12_isLed_42 : decode cX12_isLed 42 = .ok (.aload_n 0, 1) := by decide +kernel
theorem dX12_isLed_43 : decode cX12_isLed 43 = .ok (.getfield 23, 3) := by decide +kernel
theorem dX12_isLed_46 : decode cX12_isLed 46 = .ok (.iload 6, 2) := by decide +kernel
theorem dX12_isLed_48 : decode cX12_isLed 48 = .ok (.iaload, 1) := by decide +kernel
theorem dX12_isLed_49 : decode cX12_isLed 49 = .ok (.ishr, 1) := by decide +kernel
theorem dX12_isLed_50 : decode cX12_isLed 50 = .ok (.iconst 1, 1) := by decide +kernel
theorem dX12_isLed_51 : decode cX12_isLed 51 = .ok (.iand, 1) := by decide +kernel
theorem dX12_isLed_52 : decode cX12_isLed 52 = .ok (.iconst 1, 1) := by decide +kernel
theorem dX12_isLed_53 : decode cX12_isLed 53 = .ok (.if_icmp .ne 7, 3) := by decide +kernel
theorem dX12_isLed_56 : decode cX12_isLed 56 = .ok (.iconst 1, 1) := by decide +kernel
theorem dX12_isLed_57 : decode cX12_isLed 57 = .ok (.goto 4, 3) := by decide +kernel
theorem dX12_isLed_60 : decode cX12_isLed 60 = .ok (.iconst 0, 1) := by decide +kernel
theorem dX12_isLed_61 : decode cX12_isLed 61 = .ok (.istore 4, 2) := by decide +kernel
theorem dX12_isLed_63 : decode cX12_isLed 63 = .ok (.iinc 5 1, 3) := by decide +kernel
theorem dX12_isLed_66 : decode cX12_isLed 66 = .ok (.goto (-60), 3) := by decide +kernel
theorem dX12_isLed_69 : decode cX12_isLed 69 = .ok (.iload 4, 2) := by decide +kernel
theorem dX12_isLed_71 : decode cX12_isLed 71 = .ok (.ireturn, 1) := by decide +kernel
theorem dX12_ring_0 : decode cX12_ring 0 = .ok (.bipush 99, 2) := by decide +kernel
theorem dX12_ring_2 : decode cX12_ring 2 = .ok (.istore_n 2, 1) := by decide +kernel
theorem dX12_ring_3 : decode cX12_ring 3 = .ok (.iconst 0, 1) := by decide +kernel
theorem dX12_ring_4 : decode cX12_ring 4 = .ok (.istore_n 3, 1) := by decide +kernel
theorem dX12_ring_5 : decode cX12_ring 5 = .ok (.iload_n 3, 1) := by decide +kernel
theorem dX12_ring_6 : decode cX12_ring 6 = .ok (.aload_n 0, 1) := by decide +kernel
theorem dX12_ring_7 : decode cX12_ring 7 = .ok (.getfield 20, 3) := by decide +kernel
theorem dX12_ring_10 : decode cX12_ring 10 = .ok (.iload_n 1, 1) := by decide +kernel
theorem dX12_ring_11 : decode cX12_ring 11 = .ok (.iaload, 1) := by decide +kernel
theorem dX12_ring_12 : decode cX12_ring 12 = .ok (.if_icmp .ge 205, 3) := by decide +kernel
theorem dX12_ring_15 : decode cX12_ring 15 = .ok (.iload_n 1, 1) := by decide +kernel
theorem dX12_ring_16 : decode cX12_ring 16 = .ok (.iload_n 3, 1) := by decide +kernel
theorem dX12_ring_17 : decode cX12_ring 17 = .ok (.invokestatic 157, 3) := by decide +kernel
theorem dX12_ring_20 : decode cX12_ring 20 = .ok (.istore 4, 2) := by decide +kernel
theorem dX12_ring_22 : decode cX12_ring 22 = .ok (.iconst 1, 1) := by decide +kernel
theorem dX12_ring_23 : decode cX12_ring 23 = .ok (.aload_n 0, 1) := by decide +kernel
theorem dX12_ring_24 : decode cX12_ring 24 = .ok (.getfield 26, 3) := by decide +kernel
theorem dX12_ring_27 : decode cX12_ring 27 = .ok (.iload 4, 2) := by decide +kernel
theorem dX12_ring_29 : decode cX12_ring 29 = .ok (.iaload, 1) := by decide +kernel
theorem dX12_ring_30 : decode cX12_ring 30 = .ok (.ishl, 1) := by decide +kernel
theorem dX12_ring_31 : decode cX12_ring 31 = .ok (.istore 5, 2) := by decide +kernel
theorem dX12_ring_33 : decode cX12_ring 33 = .ok (.iconst 0, 1) := by decide +kernel
theorem dX12_ring_34 : decode cX12_ring 34 = .ok (.istore 6, 2) := by decide +kernel
theorem dX12_ring_36 : decode cX12_ring 36 = .ok (.iconst 0, 1) := by decide +kernel
theorem dX12_ring_37 : decode cX12_ring 37 = .ok (.istore 7, 2) := by decide +kernel
theorem dX12_ring_39 : decode cX12_ring 39 = .ok (.iload 5, 2) := by decide +kernel
theorem dX12_ring_41 : decode cX12_ring 41 = .ok (.aload_n 0, 1) := by decide +kernel
theorem dX12_ring_42 : decode cX12_ring 42 = .ok (.getfield 23, 3) := by decide +kernel
theorem dX12_ring_45 : decode cX12_ring 45 = .ok (.iload 4, 2) := by decide +kernel
theorem dX12_ring_47 : decode cX12_ring 47 = .ok (.iaload, 1) := by decide +kernel
theorem dX12_ring_48 : decode cX12_ring 48 = .ok (.ishr, 1) := by decide +kernel
theorem dX12_ring_49 : decode cX12_ring 49 = .ok (.iconst 1, 1) := by decide +kernel
theorem dX12_ring_50 : decode cX12_ring 50 = .ok (.iand, 1) := by decide +kernel
theorem dX12_ring_51 : decode cX12_ring 51 = .ok (.ifCond .ne 131, 3) := by decide +kernel
theorem dX12_ring_54 : decode cX12_ring 54 = .ok (.iload 5, 2) := by decide +kernel
theorem dX12_ring_56 : decode cX12_ring 56 = .ok (.iload 7, 2) := by decide +kernel
theorem dX12_ring_58 : decode cX12_ring 58 = .ok (.if_icmp .eq 124, 3) := by decide +kernel
theorem dX12_ring_61 : decode cX12_ring 61 = .ok (.iload 5, 2) := by decide +kernel
theorem dX12_ring_63 : decode cX12_ring 63 = .ok (.istore 7, 2) := by decide +kernel
theorem dX12_ring_65 : decode cX12_ring 65 = .ok (.iinc 6 1, 3) := by decide +kernel
theorem dX12_ring_68 : decode cX12_ring 68 = .ok (.iconst 0, 1) := by decide +kernel
theorem dX12_ring_69 : decode cX12_ring 69 = .ok (.istore 8, 2) := by decide +kernel
theorem dX12_ring_71 : decode cX12_ring 71 = .ok (.iload 8, 2) := by decide +kernel
theorem dX12_ring_73 : decode cX12_ring 73 = .ok (.aload_n 0, 1) := by decide +kernel
theorem dX12_ring_74 : decode cX12_ring 74 = .ok (.getfield 20, 3) := by decide +kernel
theorem dX12_ring_77 : decode cX12_ring 77 = .ok (.iload_n 1, 1) := by decide +kernel
theorem dX12_ring_78 : decode cX12_ring 78 = .ok (.iaload, 1) := by decide +kernel
theorem dX12_ring_79 : decode cX12_ring 79 = .ok (.if_icmp .ge 100, 3) := by decide +kernel
theorem dX12_ring_82 : decode cX12_ring 82 = .ok (.iload_n 1, 1) := by decide +kernel
theorem dX12_ring_83 : decode cX12_ring 83 = .ok (.iload 8, 2) := by decide +kernel
theorem dX12_ring_85 : decode cX12_ring 85 = .ok (.invokestatic 157, 3) := by decide +kernel
theorem dX12_ring_88 : decode cX12_ring 88 = .ok (.istore 9, 2) := by decide +kernel
theorem dX12_ring_90 : decode cX12_ring 90 = .ok (.iload 8, 2) := by decide +kernel
theorem dX12_ring_92 : decode cX12_ring 92 = .ok (.iload_n 3, 1) := by decide +kernel
theorem dX12_ring_93 : decode cX12_ring 93 = .ok (.if_icmp .eq 80, 3) := by decide +kernel
theorem dX12_ring_96 : decode cX12_ring 96 = .ok (.iload 5, 2) := by decide +kernel
theorem dX12_ring_98 : decode cX12_ring 98 = .ok (.iload 7, 2) := by decide +kernel
theorem dX12_ring_100 : decode cX12_ring 100 = .ok (.aload_n 0, 1) := by decide +kernel
theorem dX12_ring_101 : decode cX12_ring 101 = .ok (.getfield 23, 3) := by decide +kernel
theorem dX12_ring_104 : decode cX12_ring 104 = .ok (.iload 9, 2) := by decide +kernel
theorem dX12_ring_106 : decode cX12_ring 106 = .ok (.iaload, 1) := by decide +kernel
theorem dX12_ring_107 : decode cX12_ring 107 = .ok (.ishr, 1) := by decide +kernel
theorem dX12_ring_108 : decode cX12_ring 108 = .ok (.iconst 1, 1) := by decide +kernel
theorem dX12_ring_109 : decode cX12_ring 109 = .ok (.iand, 1) := by decide +kernel
theorem dX12_ring_110 : decode cX12_ring 110 = .ok (.iconst 1, 1) := by decide +kernel
theorem dX12_ring_111 : decode cX12_ring 111 = .ok (.if_icmp .ne 15, 3) := by decide +kernel
theorem dX12_ring_114 : decode cX12_ring 114 = .ok (.iconst 1, 1) := by decide +kernel
theorem dX12_ring_115 : decode cX12_ring 115 = .ok (.aload_n 0, 1) := by decide +kernel
theorem dX12_ring_116 : decode cX12_ring 116 = .ok (.getfield 26, 3) := by decide +kernel
theorem dX12_ring_119 : decode cX12_ring 119 = .ok (.iload 9, 2) := by decide +kernel
theorem dX12_ring_121 : decode cX12_ring 121 = .ok (.iaload, 1) := by decide +kernel
theorem dX12_ring_122 : decode cX12_ring 122 = .ok (.ishl, 1) := by decide +kernel
theorem dX12_ring_123 : decode cX12_ring 123 = .ok (.goto 4, 3) := by decide +kernel
theorem dX12_ring_126 : decode cX12_ring 126 = .ok (.iconst 0, 1) := by decide +kernel
theorem dX12_ring_127 : decode cX12_ring 127 = .ok (.ior, 1) := by decide +kernel
theorem dX12_ring_128 : decode cX12_ring 128 = .ok (.istore 5, 2) := by decide +kernel
theorem dX12_ring_130 : decode cX12_ring 130 = .ok (.iload 5, 2) := by decide +kernel
theorem dX12_ring_132 : decode cX12_ring 132 = .ok (.aload_n 0, 1) := by decide +kernel
theorem dX12_ring_133 : decode cX12_ring 133 = .ok (.getfield 16, 3) := by decide +kernel
theorem dX12_ring_136 : decode cX12_ring 136 = .ok (.iload_n 1, 1) := by decide +kernel
theorem dX12_ring_137 : decode cX12_ring 137 = .ok (.baload, 1) := by decide +kernel
theorem dX12_ring_138 : decode cX12_ring 138 = .ok (.ifCond .ne 31, 3) := by decide +kernel
theorem dX12_ring_141 : decode cX12_ring 141 = .ok (.iload 7, 2) := by decide +kernel
theorem dX12_ring_143 : decode cX12_ring 143 = .ok (.aload_n 0, 1) := by decide +kernel
theorem dX12_ring_144 : decode cX12_ring 144 = .ok (.getfield 26, 3) := by decide +kernel
theorem dX12_ring_147 : decode cX12_ring 147 = .ok (.iload 9, 2) := by decide +kernel
theorem dX12_ring_149 : decode cX12_ring 149 = .ok (.iaload, 1) := by decide +kernel
theorem dX12_ring_150 : decode cX12_ring 150 = .ok (.ishr, 1) := by decide +kernel
theorem dX12_ring_151 : decode cX12_ring 151 = .ok (.iconst 1, 1) := by decide +kernel
theorem dX12_ring_152 : decode cX12_ring 152 = .ok (.iand, 1) := by decide +kernel
theorem dX12_ring_153 : decode cX12_ring 153 = .ok (.iconst 1, 1) := by decide +kernel
theorem dX12_ring_154 : decode cX12_ring 154 = .ok (.if_icmp .ne 15, 3) := by decide +kernel
theorem dX12_ring_157 : decode cX12_ring 157 = .ok (.iconst 1, 1) := by decide +kernel
theorem dX12_ring_158 : decode cX12_ring 158 = .ok (.aload_n 0, 1) := by decide +kernel
theorem dX12_ring_159 : decode cX12_ring 159 = .ok (.getfield 23, 3) := by decide +kernel
theorem dX12_ring_162 : decode cX12_ring 162 = .ok (.iload 9, 2) := by decide +kernel
theorem dX12_ring_164 : decode cX12_ring 164 = .ok (.iaload, 1) := by decide +kernel
theorem dX12_ring_165 : decode cX12_ring 165 = .ok (.ishl, 1) := by decide +kernel
theorem dX12_ring_166 : decode cX12_ring 166 = .ok (.goto 4, 3) := by decide +kernel
theorem dX12_ring_169 : decode cX12_ring 169 = .ok (.iconst 0, 1) := by decide +kernel
theorem dX12_ring_170 : decode cX12_ring 170 = .ok (.ior, 1) := by decide +kernel
theorem dX12_ring_171 : decode cX12_ring 171 = .ok (.istore 5, 2) := by decide +kernel
theorem dX12_ring_173 : decode cX12_ring 173 = .ok (.iinc 8 1, 3) := by decide +kernel
theorem dX12_ring_176 : decode cX12_ring 176 = .ok (.goto (-105), 3) := by decide +kernel
theorem dX12_ring_179 : decode cX12_ring 179 = .ok (.goto (-140), 3) := by decide +kernel
theorem dX12_ring_182 : decode cX12_ring 182 = .ok (.iload 5, 2) := by decide +kernel
theorem dX12_ring_184 : decode cX12_ring 184 = .ok (.aload_n 0, 1) := by decide +kernel
theorem dX12_ring_185 : decode cX12_ring 185 = .ok (.getfield 23, 3) := by decide +kernel
theorem dX12_ring_188 : decode cX12_ring 188 = .ok (.iload 4, 2) := by decide +kernel
theorem dX12_ring_190 : decode cX12_ring 190 = .ok (.iaload, 1) := by decide +kernel
theorem dX12_ring_191 : decode cX12_ring 191 = .ok (.ishr, 1) := by decide +kernel
theorem dX12_ring_192 : decode cX12_ring 192 = .ok (.iconst 1, 1) := by decide +kernel
theorem dX12_ring_193 : decode cX12_ring 193 = .ok (.iand, 1) := by decide +kernel
theorem dX12_ring_194 : decode cX12_ring 194 = .ok (.iconst 1, 1) := by decide +kernel
theorem dX12_ring_195 : decode cX12_ring 195 = .ok (.if_icmp .ne 16, 3) := by decide +kernel
theorem dX12_ring_198 : decode cX12_ring 198 = .ok (.iload 6, 2) := by decide +kernel
theorem dX12_ring_200 : decode cX12_ring 200 = .ok (.iconst 1, 1) := by decide +kernel
theorem dX12_ring_201 : decode cX12_ring 201 = .ok (.iadd, 1) := by decide +kernel
theorem dX12_ring_202 : decode cX12_ring 202 = .ok (.iload_n 2, 1) := by decide +kernel
theorem dX12_ring_203 : decode cX12_ring 203 = .ok (.if_icmp .ge 8, 3) := by decide +kernel
theorem dX12_ring_206 : decode cX12_ring 206 = .ok (.iload 6, 2) := by decide +kernel
theorem dX12_ring_208 : decode cX12_ring 208 = .ok (.iconst 1, 1) := by decide +kernel
theorem dX12_ring_209 : decode cX12_ring 209 = .ok (.iadd, 1) := by decide +kernel
theorem dX12_ring_210 : decode cX12_ring 210 = .ok (.istore_n 2, 1) := by decide +kernel
theorem dX12_ring_211 : decode cX12_ring 211 = .ok (.iinc 3 1, 3) := by decide +kernel
theorem dX12_ring_214 : decode cX12_ring 214 = .ok (.goto (-209), 3) := by decide +kernel
theorem dX12_ring_217 : decode cX12_ring 217 = .ok (.iload_n 2, 1) := by decide +kernel
theorem dX12_ring_218 : decode cX12_ring 218 = .ok (.bipush 99, 2) := by decide +kernel
theorem dX12_ring_220 : decode cX12_ring 220 = .ok (.if_icmp .ne 7, 3) := by decide +kernel
theorem dX12_ring_223 : decode cX12_ring 223 = .ok (.lconst 0, 1) := by decide +kernel
theorem dX12_ring_224 : decode cX12_ring 224 = .ok (.goto 5, 3) := by decide +kernel
theorem dX12_ring_227 : decode cX12_ring 227 = .ok (.iload_n 2, 1) := by decide +kernel
theorem dX12_ring_228 : decode cX12_ring 228 = .ok (.i2l, 1) := by decide +kernel
theorem dX12_ring_229 : decode cX12_ring 229 = .ok (.lreturn, 1) := by decide +kernel
theorem dX12_side_0 : decode cX12_side 0 = .ok (.aload_n 0, 1) := by decide +kernel
theorem dX12_side_1 : decode cX12_side 1 = .ok (.getfield 13, 3) := by decide +kernel
theorem dX12_side_4 : decode cX12_side 4 = .ok (.iload_n 1, 1) := by decide +kernel
theorem dX12_side_5 : decode cX12_side 5 = .ok (.iaload, 1) := by decide +kernel
theorem dX12_side_6 : decode cX12_side 6 = .ok (.istore_n 3, 1) := by decide +kernel
theorem dX12_side_7 : decode cX12_side 7 = .ok (.iconst 0, 1) := by decide +kernel
theorem dX12_side_8 : decode cX12_side 8 = .ok (.istore 4, 2) := by decide +kernel
theorem dX12_side_10 : decode cX12_side 10 = .ok (.iload 4, 2) := by decide +kernel
theorem dX12_side_12 : decode cX12_side 12 = .ok (.aload_n 0, 1) := by decide +kernel
theorem dX12_side_13 : decode cX12_side 13 = .ok (.getfield 20, 3) := by decide +kernel
theorem dX12_side_16 : decode cX12_side 16 = .ok (.iload_n 1, 1) := by decide +kernel
theorem dX12_side_17 : decode cX12_side 17 = .ok (.iaload, 1) := by decide +kernel
theorem dX12_side_18 : decode cX12_side 18 = .ok (.if_icmp .ge 38, 3) := by decide +kernel
theorem dX12_side_21 : decode cX12_side 21 = .ok (.aload_n 0, 1) := by decide +kernel
theorem dX12_side_22 : decode cX12_side 22 = .ok (.getfield 23, 3) := by decide +kernel
theorem dX12_side_25 : decode cX12_side 25 = .ok (.iload_n 1, 1) := by decide +kernel
theorem dX12_side_26 : decode cX12_side 26 = .ok (.iload 4, 2) := by decide +kernel
theorem dX12_side_28 : decode cX12_side 28 = .ok (.invokestatic 157, 3) := by decide +kernel
theorem dX12_side_31 : decode cX12_side 31 = .ok (.iaload, 1) := by decide +kernel
theorem dX12_side_32 : decode cX12_side 32 = .ok (.aload_n 0, 1) := by decide +kernel
theorem dX12_side_33 : decode cX12_side 33 = .ok (.getfield 26, 3) := by decide +kernel
theorem dX12_side_36 : decode cX12_side 36 = .ok (.iload_n 1, 1) := by decide +kernel
theorem dX12_side_37 : decode cX12_side 37 = .ok (.iload 4, 2) := by decide +kernel
theorem dX12_side_39 : decode cX12_side 39 = .ok (.invokestatic 157, 3) := by decide +kernel
theorem dX12_side_42 : decode cX12_side 42 = .ok (.iaload, 1) := by decide +kernel
theorem dX12_side_43 : decode cX12_side 43 = .ok (.if_icmp .ne 7, 3) := by decide +kernel
theorem dX12_side_46 : decode cX12_side 46 = .ok (.ldc2_w 357, 3) := by decide +kernel
theorem dX12_side_49 : decode cX12_side 49 = .ok (.lreturn, 1) := by decide +kernel
theorem dX12_side_50 : decode cX12_side 50 = .ok (.iinc 4 1, 3) := by decide +kernel
theorem dX12_side_53 : decode cX12_side 53 = .ok (.goto (-43), 3) := by decide +kernel
theorem dX12_side_56 : decode cX12_side 56 = .ok (.iconst 0, 1) := by decide +kernel
theorem dX12_side_57 : decode cX12_side 57 = .ok (.istore 4, 2) := by decide +kernel
theorem dX12_side_59 : decode cX12_side 59 = .ok (.iconst 1, 1) := by decide +kernel
theorem dX12_side_60 : decode cX12_side 60 = .ok (.iload_n 3, 1) := by decide +kernel
theorem dX12_side_61 : decode cX12_side 61 = .ok (.ishl, 1) := by decide +kernel
theorem dX12_side_62 : decode cX12_side 62 = .ok (.iconst 1, 1) := by decide +kernel
theorem dX12_side_63 : decode cX12_side 63 = .ok (.isub, 1) := by decide +kernel
theorem dX12_side_64 : decode cX12_side 64 = .ok (.istore 5, 2) := by decide +kernel
theorem dX12_side_66 : decode cX12_side 66 = .ok (.iload 5, 2) := by decide +kernel
theorem dX12_side_68 : decode cX12_side 68 = .ok (.ifCond .eq 160, 3) := by decide +kernel
theorem dX12_side_71 : decode cX12_side 71 = .ok (.aload_n 0, 1) := by decide +kernel
theorem dX12_side_72 : decode cX12_side 72 = .ok (.iload 5, 2) := by decide +kernel
theorem dX12_side_74 : decode cX12_side 74 = .ok (.invokevirtual 237, 3) := by decide +kernel
theorem dX12_side_77 : decode cX12_side 77 = .ok (.istore 6, 2) := by decide +kernel
theorem dX12_side_79 : decode cX12_side 79 = .ok (.iload 6, 2) := by decide +kernel
theorem dX12_side_81 : decode cX12_side 81 = .ok (.iload 6, 2) := by decide +kernel
theorem dX12_side_83 : decode cX12_side 83 = .ok (.ineg, 1) := by decide +kernel
theorem dX12_side_84 : decode cX12_side 84 = .ok (.iand, 1) := by decide +kernel
theorem dX12_side_85 : decode cX12_side 85 = .ok (.istore 7, 2) := by decide +kernel
theorem dX12_side_87 : decode cX12_side 87 = .ok (.iconst 0, 1) := by decide +kernel
theorem dX12_side_88 : decode cX12_side 88 = .ok (.istore 8, 2) := by decide +kernel
theorem dX12_side_90 : decode cX12_side 90 = .ok (.iconst (-1), 1) := by decide +kernel
theorem dX12_side_91 : decode cX12_side 91 = .ok (.istore 9, 2) := by decide +kernel
theorem dX12_side_93 : decode cX12_side 93 = .ok (.iload 9, 2) := by decide +kernel
theorem dX12_side_95 : decode cX12_side 95 = .ok (.iload 7, 2) := by decide +kernel
theorem dX12_side_97 : decode cX12_side 97 = .ok (.iload 8, 2) := by decide +kernel
theorem dX12_side_99 : decode cX12_side 99 = .ok (.ior, 1) := by decide +kernel
theorem dX12_side_100 : decode cX12_side 100 = .ok (.if_icmp .eq 97, 3) := by decide +kernel
theorem dX12_side_103 : decode cX12_side 103 = .ok (.iload 7, 2) := by decide +kernel
theorem dX12_side_105 : decode cX12_side 105 = .ok (.iload 8, 2) := by decide +kernel
theorem dX12_side_107 : decode cX12_side 107 = .ok (.ior, 1) := by decide +kernel
theorem dX12_side_108 : decode cX12_side 108 = .ok (.istore 9, 2) := by decide +kernel
theorem dX12_side_110 : decode cX12_side 110 = .ok (.iconst 0, 1) := by decide +kernel
theorem dX12_side_111 : decode cX12_side 111 = .ok (.istore 10, 2) := by decide +kernel
theorem dX12_side_113 : decode cX12_side 113 = .ok (.iload 10, 2) := by decide +kernel
theorem dX12_side_115 : decode cX12_side 115 = .ok (.iload_n 3, 1) := by decide +kernel
theorem dX12_side_116 : decode cX12_side 116 = .ok (.if_icmp .ge 36, 3) := by decide +kernel
theorem dX12_side_119 : decode cX12_side 119 = .ok (.iload 8, 2) := by decide +kernel
theorem dX12_side_121 : decode cX12_side 121 = .ok (.iload 7, 2) := by decide +kernel
theorem dX12_side_123 : decode cX12_side 123 = .ok (.iload 10, 2) := by decide +kernel
theorem dX12_side_125 : decode cX12_side 125 = .ok (.ishr, 1) := by decide +kernel
theorem dX12_side_126 : decode cX12_side 126 = .ok (.iconst 1, 1) := by decide +kernel
theorem dX12_side_127 : decode cX12_side 127 = .ok (.iand, 1) := by decide +kernel
theorem dX12_side_128 : decode cX12_side 128 = .ok (.iconst 1, 1) := by decide +kernel
theorem dX12_side_129 : decode cX12_side 129 = .ok (.if_icmp .ne 13, 3) := by decide +kernel
theorem dX12_side_132 : decode cX12_side 132 = .ok (.aload_n 0, 1) := by decide +kernel
theorem dX12_side_133 : decode cX12_side 133 = .ok (.getfield 81, 3) := by decide +kernel
theorem dX12_side_136 : decode cX12_side 136 = .ok (.iload 10, 2) := by decide +kernel
theorem dX12_side_138 : decode cX12_side 138 = .ok (.iaload, 1) := by decide +kernel
theorem dX12_side_139 : decode cX12_side 139 = .ok (.goto 4, 3) := by decide +kernel
theorem dX12_side_142 : decode cX12_side 142 = .ok (.iconst 0, 1) := by decide +kernel
theorem dX12_side_143 : decode cX12_side 143 = .ok (.ior, 1) := by decide +kernel
theorem dX12_side_144 : decode cX12_side 144 = .ok (.istore 8, 2) := by decide +kernel
theorem dX12_side_146 : decode cX12_side 146 = .ok (.iinc 10 1, 3) := by decide +kernel
theorem dX12_side_149 : decode cX12_side 149 = .ok (.goto (-36), 3) := by decide +kernel
theorem dX12_side_152 : decode cX12_side 152 = .ok (.iconst 0, 1) := by decide +kernel
theorem dX12_side_153 : decode cX12_side 153 = .ok (.istore 10, 2) := by decide +kernel
theorem dX12_side_155 : decode cX12_side 155 = .ok (.iload 10, 2) := by decide +kernel
theorem dX12_side_157 : decode cX12_side 157 = .ok (.iload_n 3, 1) := by decide +kernel
theorem dX12_side_158 : decode cX12_side 158 = .ok (.if_icmp .ge 36, 3) := by decide +kernel
theorem dX12_side_161 : decode cX12_side 161 = .ok (.iload 7, 2) := by decide +kernel
theorem dX12_side_163 : decode cX12_side 163 = .ok (.iload 8, 2) := by decide +kernel
theorem dX12_side_165 : decode cX12_side 165 = .ok (.iload 10, 2) := by decide +kernel
theorem dX12_side_167 : decode cX12_side 167 = .ok (.ishr, 1) := by decide +kernel
theorem dX12_side_168 : decode cX12_side 168 = .ok (.iconst 1, 1) := by decide +kernel
theorem dX12_side_169 : decode cX12_side 169 = .ok (.iand, 1) := by decide +kernel
theorem dX12_side_170 : decode cX12_side 170 = .ok (.iconst 1, 1) := by decide +kernel
theorem dX12_side_171 : decode cX12_side 171 = .ok (.if_icmp .ne 13, 3) := by decide +kernel
theorem dX12_side_174 : decode cX12_side 174 = .ok (.aload_n 0, 1) := by decide +kernel
theorem dX12_side_175 : decode cX12_side 175 = .ok (.getfield 81, 3) := by decide +kernel
theorem dX12_side_178 : decode cX12_side 178 = .ok (.iload 10, 2) := by decide +kernel
theorem dX12_side_180 : decode cX12_side 180 = .ok (.iaload, 1) := by decide +kernel
theorem dX12_side_181 : decode cX12_side 181 = .ok (.goto 4, 3) := by decide +kernel
theorem dX12_side_184 : decode cX12_side 184 = .ok (.iconst 0, 1) := by decide +kernel
theorem dX12_side_185 : decode cX12_side 185 = .ok (.ior, 1) := by decide +kernel
theorem dX12_side_186 : decode cX12_side 186 = .ok (.istore 7, 2) := by decide +kernel
theorem dX12_side_188 : decode cX12_side 188 = .ok (.iinc 10 1, 3) := by decide +kernel
theorem dX12_side_191 : decode cX12_side 191 = .ok (.goto (-36), 3) := by decide +kernel
theorem dX12_side_194 : decode cX12_side 194 = .ok (.goto (-101), 3) := by decide +kernel
theorem dX12_side_197 : decode cX12_side 197 = .ok (.iload 7, 2) := by decide +kernel
theorem dX12_side_199 : decode cX12_side 199 = .ok (.iload 8, 2) := by decide +kernel
theorem dX12_side_201 : decode cX12_side 201 = .ok (.iand, 1) := by decide +kernel
theorem dX12_side_202 : decode cX12_side 202 = .ok (.ifCond .eq 7, 3) := by decide +kernel
theorem dX12_side_205 : decode cX12_side 205 = .ok (.ldc2_w 357, 3) := by decide +kernel
theorem dX12_side_208 : decode cX12_side 208 = .ok (.lreturn, 1) := by decide +kernel
theorem dX12_side_209 : decode cX12_side 209 = .ok (.iload 4, 2) := by decide +kernel
theorem dX12_side_211 : decode cX12_side 211 = .ok (.iload 8, 2) := by decide +kernel
theorem dX12_side_213 : decode cX12_side 213 = .ok (.ior, 1) := by decide +kernel
theorem dX12_side_214 : decode cX12_side 214 = .ok (.istore 4, 2) := by decide +kernel
theorem dX12_side_216 : decode cX12_side 216 = .ok (.iload 5, 2) := by decide +kernel
theorem dX12_side_218 : decode cX12_side 218 = .ok (.iload 6, 2) := by decide +kernel
theorem dX12_side_220 : decode cX12_side 220 = .ok (.iconst (-1), 1) := by decide +kernel
theorem dX12_side_221 : decode cX12_side 221 = .ok (.ixor, 1) := by decide +kernel
theorem dX12_side_222 : decode cX12_side 222 = .ok (.iand, 1) := by decide +kernel
theorem dX12_side_223 : decode cX12_side 223 = .ok (.istore 5, 2) := by decide +kernel
theorem dX12_side_225 : decode cX12_side 225 = .ok (.goto (-159), 3) := by decide +kernel
theorem dX12_side_228 : decode cX12_side 228 = .ok (.iload 4, 2) := by decide +kernel
theorem dX12_side_230 : decode cX12_side 230 = .ok (.iload_n 2, 1) := by decide +kernel
theorem dX12_side_231 : decode cX12_side 231 = .ok (.ishr, 1) := by decide +kernel
theorem dX12_side_232 : decode cX12_side 232 = .ok (.iconst 1, 1) := by decide +kernel
theorem dX12_side_233 : decode cX12_side 233 = .ok (.iand, 1) := by decide +kernel
theorem dX12_side_234 : decode cX12_side 234 = .ok (.i2l, 1) := by decide +kernel
theorem dX12_side_235 : decode cX12_side 235 = .ok (.lreturn, 1) := by decide +kernel
theorem dX12_isClique_0 : decode cX12_isClique 0 = .ok (.iconst 1, 1) := by decide +kernel
theorem dX12_isClique_1 : decode cX12_isClique 1 = .ok (.istore 4, 2) := by decide +kernel
theorem dX12_isClique_3 : decode cX12_isClique 3 = .ok (.iconst 0, 1) := by decide +kernel
theorem dX12_isClique_4 : decode cX12_isClique 4 = .ok (.istore 5, 2) := by decide +kernel
theorem dX12_isClique_6 : decode cX12_isClique 6 = .ok (.iload 5, 2) := by decide +kernel
theorem dX12_isClique_8 : decode cX12_isClique 8 = .ok (.iload_n 2, 1) := by decide +kernel
theorem dX12_isClique_9 : decode cX12_isClique 9 = .ok (.if_icmp .ge 81, 3) := by decide +kernel
theorem dX12_isClique_12 : decode cX12_isClique 12 = .ok (.iload 4, 2) := by decide +kernel
theorem dX12_isClique_14 : decode cX12_isClique 14 = .ok (.ifCond .eq 76, 3) := by decide +kernel
theorem dX12_isClique_17 : decode cX12_isClique 17 = .ok (.iload_n 1, 1) := by decide +kernel
theorem dX12_isClique_18 : decode cX12_isClique 18 = .ok (.iload 5, 2) := by decide +kernel
theorem dX12_isClique_20 : decode cX12_isClique 20 = .ok (.ishr, 1) := by decide +kernel
theorem dX12_isClique_21 : decode cX12_isClique 21 = .ok (.iconst 1, 1) := by decide +kernel
theorem dX12_isClique_22 : decode cX12_isClique 22 = .ok (.iand, 1) := by decide +kernel
theorem dX12_isClique_23 : decode cX12_isClique 23 = .ok (.iconst 1, 1) := by decide +kernel
theorem dX12_isClique_24 : decode cX12_isClique 24 = .ok (.if_icmp .ne 60, 3) := by decide +kernel
theorem dX12_isClique_27 : decode cX12_isClique 27 = .ok (.iload_n 1, 1) := by decide +kernel
theorem dX12_isClique_28 : decode cX12_isClique 28 = .ok (.iconst 1, 1) := by decide +kernel
theorem dX12_isClique_29 : decode cX12_isClique 29 = .ok (.iload 5, 2) := by decide +kernel
theorem dX12_isClique_31 : decode cX12_isClique 31 = .ok (.ishl, 1) := by decide +kernel
theorem dX12_isClique_32 : decode cX12_isClique 32 = .ok (.iconst (-1), 1) := by decide +kernel
theorem dX12_isClique_33 : decode cX12_isClique 33 = .ok (.ixor, 1) := by decide +kernel
theorem dX12_isClique_34 : decode cX12_isClique 34 = .ok (.iand, 1) := by decide +kernel
theorem dX12_isClique_35 : decode cX12_isClique 35 = .ok (.istore 6, 2) := by decide +kernel
theorem dX12_isClique_37 : decode cX12_isClique 37 = .ok (.iload_n 3, 1) := by decide +kernel
theorem dX12_isClique_38 : decode cX12_isClique 38 = .ok (.ifCond .eq 26, 3) := by decide +kernel
theorem dX12_isClique_41 : decode cX12_isClique 41 = .ok (.iload 6, 2) := by decide +kernel
theorem dX12_isClique_43 : decode cX12_isClique 43 = .ok (.aload_n 0, 1) := by decide +kernel
theorem dX12_isClique_44 : decode cX12_isClique 44 = .ok (.getfield 81, 3) := by decide +kernel
theorem dX12_isClique_47 : decode cX12_isClique 47 = .ok (.iload 5, 2) := by decide +kernel
theorem dX12_isClique_49 : decode cX12_isClique 49 = .ok (.iaload, 1) := by decide +kernel
theorem dX12_isClique_50 : decode cX12_isClique 50 = .ok (.iconst (-1), 1) := by decide +kernel
theorem dX12_isClique_51 : decode cX12_isClique 51 = .ok (.ixor, 1) := by decide +kernel
theorem dX12_isClique_52 : decode cX12_isClique 52 = .ok (.iand, 1) := by decide +kernel
theorem dX12_isClique_53 : decode cX12_isClique 53 = .ok (.ifCond .ne 7, 3) := by decide +kernel
theorem dX12_isClique_56 : decode cX12_isClique 56 = .ok (.iconst 1, 1) := by decide +kernel
theorem dX12_isClique_57 : decode cX12_isClique 57 = .ok (.goto 25, 3) := by decide +kernel
theorem dX12_isClique_60 : decode cX12_isClique 60 = .ok (.iconst 0, 1) := by decide +kernel
theorem dX12_isClique_61 : decode cX12_isClique 61 = .ok (.goto 21, 3) := by decide +kernel
theorem dX12_isClique_64 : decode cX12_isClique 64 = .ok (.iload 6, 2) := by decide +kernel
theorem dX12_isClique_66 : decode cX12_isClique 66 = .ok (.aload_n 0, 1) := by decide +kernel
theorem dX12_isClique_67 : decode cX12_isClique 67 = .ok (.getfield 81, 3) := by decide +kernel
theorem dX12_isClique_70 : decode cX12_isClique 70 = .ok (.iload 5, 2) := by decide +kernel
theorem dX12_isClique_72 : decode cX12_isClique 72 = .ok (.iaload, 1) := by decide +kernel
theorem dX12_isClique_73 : decode cX12_isClique 73 = .ok (.iand, 1) := by decide +kernel
theorem dX12_isClique_74 : decode cX12_isClique 74 = .ok (.ifCond .ne 7, 3) := by decide +kernel
theorem dX12_isClique_77 : decode cX12_isClique 77 = .ok (.iconst 1, 1) := by decide +kernel
theorem dX12_isClique_78 : decode cX12_isClique 78 = .ok (.goto 4, 3) := by decide +kernel
theorem dX12_isClique_81 : decode cX12_isClique 81 = .ok (.iconst 0, 1) := by decide +kernel
theorem dX12_isClique_82 : decode cX12_isClique 82 = .ok (.istore 4, 2) := by decide +kernel
theorem dX12_isClique_84 : decode cX12_isClique 84 = .ok (.iinc 5 1, 3) := by decide +kernel
theorem dX12_isClique_87 : decode cX12_isClique 87 = .ok (.goto (-81), 3) := by decide +kernel
theorem dX12_isClique_90 : decode cX12_isClique 90 = .ok (.iload 4, 2) := by decide +kernel
theorem dX12_isClique_92 : decode cX12_isClique 92 = .ok (.ireturn, 1) := by decide +kernel
theorem dX12_clique_0 : decode cX12_clique 0 = .ok (.iconst 0, 1) := by decide +kernel
theorem dX12_clique_1 : decode cX12_clique 1 = .ok (.istore_n 3, 1) := by decide +kernel
theorem dX12_clique_2 : decode cX12_clique 2 = .ok (.iconst 1, 1) := by decide +kernel
theorem dX12_clique_3 : decode cX12_clique 3 = .ok (.istore 4, 2) := by decide +kernel
theorem dX12_clique_5 : decode cX12_clique 5 = .ok (.iload 4, 2) := by decide +kernel
theorem dX12_clique_7 : decode cX12_clique 7 = .ok (.iconst 1, 1) := by decide +kernel
theorem dX12_clique_8 : decode cX12_clique 8 = .ok (.iload_n 1, 1) := by decide +kernel
theorem dX12_clique_9 : decode cX12_clique 9 = .ok (.ishl, 1) := by decide +kernel
theorem dX12_clique_10 : decode cX12_clique 10 = .ok (.if_icmp .ge 35, 3) := by decide +kernel
theorem dX12_clique_13 : decode cX12_clique 13 = .ok (.iload 4, 2) := by decide +kernel
theorem dX12_clique_15 : decode cX12_clique 15 = .ok (.invokestatic 201, 3) := by decide +kernel
theorem dX12_clique_18 : decode cX12_clique 18 = .ok (.iload_n 3, 1) := by decide +kernel
theorem dX12_clique_19 : decode cX12_clique 19 = .ok (.invokestatic 201, 3) := by decide +kernel
theorem dX12_clique_22 : decode cX12_clique 22 = .ok (.if_icmp .le 17, 3) := by decide +kernel
theorem dX12_clique_25 : decode cX12_clique 25 = .ok (.aload_n 0, 1) := by decide +kernel
theorem dX12_clique_26 : decode cX12_clique 26 = .ok (.iload 4, 2) := by decide +kernel
theorem dX12_clique_28 : decode cX12_clique 28 = .ok (.iload_n 1, 1) := by decide +kernel
theorem dX12_clique_29 : decode cX12_clique 29 = .ok (.iload_n 2, 1) := by decide +kernel
theorem dX12_clique_30 : decode cX12_clique 30 = .ok (.invokevirtual 362, 3) := by decide +kernel
theorem dX12_clique_33 : decode cX12_clique 33 = .ok (.ifCond .eq 6, 3) := by decide +kernel
theorem dX12_clique_36 : decode cX12_clique 36 = .ok (.iload 4, 2) := by decide +kernel
theorem dX12_clique_38 : decode cX12_clique 38 = .ok (.istore_n 3, 1) := by decide +kernel
theorem dX12_clique_39 : decode cX12_clique 39 = .ok (.iinc 4 1, 3) := by decide +kernel
theorem dX12_clique_42 : decode cX12_clique 42 = .ok (.goto (-37), 3) := by decide +kernel
theorem dX12_clique_45 : decode cX12_clique 45 = .ok (.iload_n 3, 1) := by decide +kernel
theorem dX12_clique_46 : decode cX12_clique 46 = .ok (.i2l, 1) := by decide +kernel
theorem dX12_clique_47 : decode cX12_clique 47 = .ok (.lreturn, 1) := by decide +kernel
theorem kX12_362 : lkK (gS, X) RX12 362 mX12_isClique 3 ∧ Cond.instanceMethod yX12_isClique ∈ g_ws (gS, X) ∧ Cond.selects RX12 yX12_isClique yX12_isClique ∈ g_ws (gS, X) ∧ yX12_isClique.cls = RX12 := ⟨⟨tb_good, (tb_t (k := 1560) (w := Cond.methodLink RX12 362 yX12_isClique) (by decide +kernel)), (tb_t (k := 8) (w := Cond.initialized RX12) (by decide +kernel)), (tb_t (k := 1563) (w := Cond.code yX12_isClique cX12_isClique 7 (some .boolean)) (by decide +kernel)), by decide +kernel, by decide⟩, (tb_t (k := 1562) (w := Cond.instanceMethod yX12_isClique) (by decide +kernel)), (tb_p (k := 120) (q := (yX12_isClique, 45)) (by decide +kernel)), rfl⟩
theorem dX12_colours_0 : decode cX12_colours 0 = .ok (.iconst 0, 1) := by decide +kernel
theorem dX12_colours_1 : decode cX12_colours 1 = .ok (.istore_n 2, 1) := by decide +kernel
theorem dX12_colours_2 : decode cX12_colours 2 = .ok (.iload_n 2, 1) := by decide +kernel
theorem dX12_colours_3 : decode cX12_colours 3 = .ok (.iconst 1, 1) := by decide +kernel
theorem dX12_colours_4 : decode cX12_colours 4 = .ok (.iload_n 1, 1) := by decide +kernel
theorem dX12_colours_5 : decode cX12_colours 5 = .ok (.ishl, 1) := by decide +kernel
theorem dX12_colours_6 : decode cX12_colours 6 = .ok (.if_icmp .ge 22, 3) := by decide +kernel
theorem dX12_colours_9 : decode cX12_colours 9 = .ok (.aload_n 0, 1) := by decide +kernel
theorem dX12_colours_10 : decode cX12_colours 10 = .ok (.getfield 85, 3) := by decide +kernel
theorem dX12_colours_13 : decode cX12_colours 13 = .ok (.iload_n 2, 1) := by decide +kernel
theorem dX12_colours_14 : decode cX12_colours 14 = .ok (.aload_n 0, 1) := by decide +kernel
theorem dX12_colours_15 : decode cX12_colours 15 = .ok (.iload_n 2, 1) := by decide +kernel
theorem dX12_colours_16 : decode cX12_colours 16 = .ok (.iload_n 1, 1) := by decide +kernel
theorem dX12_colours_17 : decode cX12_colours 17 = .ok (.iconst 0, 1) := by decide +kernel
theorem dX12_colours_18 : decode cX12_colours 18 = .ok (.invokevirtual 362, 3) := by decide +kernel
theorem dX12_colours_21 : decode cX12_colours 21 = .ok (.bastore, 1) := by decide +kernel
theorem dX12_colours_22 : decode cX12_colours 22 = .ok (.iinc 2 1, 3) := by decide +kernel
theorem dX12_colours_25 : decode cX12_colours 25 = .ok (.goto (-23), 3) := by decide +kernel
theorem dX12_colours_28 : decode cX12_colours 28 = .ok (.aload_n 0, 1) := by decide +kernel
theorem dX12_colours_29 : decode cX12_colours 29 = .ok (.getfield 115, 3) := by decide +kernel
theorem dX12_colours_32 : decode cX12_colours 32 = .ok (.iconst 0, 1) := by decide +kernel
theorem dX12_colours_33 : decode cX12_colours 33 = .ok (.iconst 0, 1) := by decide +kernel
theorem dX12_colours_34 : decode cX12_colours 34 = .ok (.iastore, 1) := by decide +kernel
theorem dX12_colours_35 : decode cX12_colours 35 = .ok (.iconst 1, 1) := by decide +kernel
theorem dX12_colours_36 : decode cX12_colours 36 = .ok (.istore_n 2, 1) := by decide +kernel
theorem dX12_colours_37 : decode cX12_colours 37 = .ok (.iload_n 2, 1) := by decide +kernel
theorem dX12_colours_38 : decode cX12_colours 38 = .ok (.iconst 1, 1) := by decide +kernel
theorem dX12_colours_39 : decode cX12_colours 39 = .ok (.iload_n 1, 1) := by decide +kernel
theorem dX12_colours_40 : decode cX12_colours 40 = .ok (.ishl, 1) := by decide +kernel
theorem dX12_colours_41 : decode cX12_colours 41 = .ok (.if_icmp .ge 99, 3) := by decide +kernel
theorem dX12_colours_44 : decode cX12_colours 44 = .ok (.iload_n 2, 1) := by decide +kernel
theorem dX12_colours_45 : decode cX12_colours 45 = .ok (.iload_n 2, 1) := by decide +kernel
theorem dX12_colours_46 : decode cX12_colours 46 = .ok (.ineg, 1) := by decide +kernel
theorem dX12_colours_47 : decode cX12_colours 47 = .ok (.iand, 1) := by decide +kernel
theorem dX12_colours_48 : decode cX12_colours 48 = .ok (.istore_n 3, 1) := by decide +kernel
theorem dX12_colours_49 : decode cX12_colours 49 = .ok (.aload_n 0, 1) := by decide +kernel
theorem dX12_colours_50 : decode cX12_colours 50 = .ok (.getfield 115, 3) := by decide +kernel
theorem dX12_colours_53 : decode cX12_colours 53 = .ok (.iload_n 2, 1) := by decide +kernel
theorem dX12_colours_54 : decode cX12_colours 54 = .ok (.bipush 99, 2) := by decide +kernel
theorem dX12_colours_56 : decode cX12_colours 56 = .ok (.iastore, 1) := by decide +kernel
theorem dX12_colours_57 : decode cX12_colours 57 = .ok (.iload_n 2, 1) := by decide +kernel
theorem dX12_colours_58 : decode cX12_colours 58 = .ok (.istore 4, 2) := by decide +kernel
theorem dX12_colours_60 : decode cX12_colours 60 = .ok (.iload 4, 2) := by decide +kernel
theorem dX12_colours_62 : decode cX12_colours 62 = .ok (.ifCond .le 72, 3) := by decide +kernel
theorem dX12_colours_65 : decode cX12_colours 65 = .ok (.iload 4, 2) := by decide +kernel
theorem dX12_colours_67 : decode cX12_colours 67 = .ok (.iload_n 3, 1) := by decide +kernel
theorem dX12_colours_68 : decode cX12_colours 68 = .ok (.iand, 1) := by decide +kernel
theorem dX12_colours_69 : decode cX12_colours 69 = .ok (.ifCond .eq 54, 3) := by decide +kernel
theorem dX12_colours_72 : decode cX12_colours 72 = .ok (.aload_n 0, 1) := by decide +kernel
theorem dX12_colours_73 : decode cX12_colours 73 = .ok (.getfield 85, 3) := by decide +kernel
theorem dX12_colours_76 : decode cX12_colours 76 = .ok (.iload 4, 2) := by decide +kernel
theorem dX12_colours_78 : decode cX12_colours 78 = .ok (.baload, 1) := by decide +kernel
theorem dX12_colours_79 : decode cX12_colours 79 = .ok (.ifCond .eq 44, 3) := by decide +kernel
theorem dX12_colours_82 : decode cX12_colours 82 = .ok (.aload_n 0, 1) := by decide +kernel
theorem dX12_colours_83 : decode cX12_colours 83 = .ok (.getfield 115, 3) := by decide +kernel
theorem dX12_colours_86 : decode cX12_colours 86 = .ok (.iload_n 2, 1) := by decide +kernel
theorem dX12_colours_87 : decode cX12_colours 87 = .ok (.iload 4, 2) := by decide +kernel
theorem dX12_colours_89 : decode cX12_colours 89 = .ok (.iconst (-1), 1) := by decide +kernel
theorem dX12_colours_90 : decode cX12_colours 90 = .ok (.ixor, 1) := by decide +kernel
theorem dX12_colours_91 : decode cX12_colours 91 = .ok (.iand, 1) := by decide +kernel
theorem dX12_colours_92 : decode cX12_colours 92 = .ok (.iaload, 1) := by decide +kernel
theorem dX12_colours_93 : decode cX12_colours 93 = .ok (.iconst 1, 1) := by decide +kernel
theorem dX12_colours_94 : decode cX12_colours 94 = .ok (.iadd, 1) := by decide +kernel
theorem dX12_colours_95 : decode cX12_colours 95 = .ok (.aload_n 0, 1) := by decide +kernel
theorem dX12_colours_96 : decode cX12_colours 96 = .ok (.getfield 115, 3) := by decide +kernel
theorem dX12_colours_99 : decode cX12_colours 99 = .ok (.iload_n 2, 1) := by decide +kernel
theorem dX12_colours_100 : decode cX12_colours 100 = .ok (.iaload, 1) := by decide +kernel
theorem dX12_colours_101 : decode cX12_colours 101 = .ok (.if_icmp .ge 22, 3) := by decide +kernel
theorem dX12_colours_104 : decode cX12_colours 104 = .ok (.aload_n 0, 1) := by decide +kernel
theorem dX12_colours_105 : decode cX12_colours 105 = .ok (.getfield 115, 3) := by decide +kernel
theorem dX12_colours_108 : decode cX12_colours 108 = .ok (.iload_n 2, 1) := by decide +kernel
theorem dX12_colours_109 : decode cX12_colours 109 = .ok (.aload_n 0, 1) := by decide +kernel
theorem dX12_colours_110 : decode cX12_colours 110 = .ok (.getfield 115, 3) := by decide +kernel
theorem dX12_colours_113 : decode cX12_colours 113 = .ok (.iload_n 2, 1) := by decide +kernel
theorem dX12_colours_114 : decode cX12_colours 114 = .ok (.iload 4, 2) := by decide +kernel
theorem dX12_colours_116 : decode cX12_colours 116 = .ok (.iconst (-1), 1) := by decide +kernel
theorem dX12_colours_117 : decode cX12_colours 117 = .ok (.ixor, 1) := by decide +kernel
theorem dX12_colours_118 : decode cX12_colours 118 = .ok (.iand, 1) := by decide +kernel
theorem dX12_colours_119 : decode cX12_colours 119 = .ok (.iaload, 1) := by decide +kernel
theorem dX12_colours_120 : decode cX12_colours 120 = .ok (.iconst 1, 1) := by decide +kernel
theorem dX12_colours_121 : decode cX12_colours 121 = .ok (.iadd, 1) := by decide +kernel
theorem dX12_colours_122 : decode cX12_colours 122 = .ok (.iastore, 1) := by decide +kernel
theorem dX12_colours_123 : decode cX12_colours 123 = .ok (.iload 4, 2) := by decide +kernel
theorem dX12_colours_125 : decode cX12_colours 125 = .ok (.iconst 1, 1) := by decide +kernel
theorem dX12_colours_126 : decode cX12_colours 126 = .ok (.isub, 1) := by decide +kernel
theorem dX12_colours_127 : decode cX12_colours 127 = .ok (.iload_n 2, 1) := by decide +kernel
theorem dX12_colours_128 : decode cX12_colours 128 = .ok (.iand, 1) := by decide +kernel
theorem dX12_colours_129 : decode cX12_colours 129 = .ok (.istore 4, 2) := by decide +kernel
theorem dX12_colours_131 : decode cX12_colours 131 = .ok (.goto (-71), 3) := by decide +kernel
theorem dX12_colours_134 : decode cX12_colours 134 = .ok (.iinc 2 1, 3) := by decide +kernel
theorem dX12_colours_137 : decode cX12_colours 137 = .ok (.goto (-100), 3) := by decide +kernel
theorem dX12_colours_140 : decode cX12_colours 140 = .ok (.aload_n 0, 1) := by decide +kernel
theorem dX12_colours_141 : decode cX12_colours 141 = .ok (.getfield 115, 3) := by decide +kernel
theorem dX12_colours_144 : decode cX12_colours 144 = .ok (.iconst 1, 1) := by decide +kernel
theorem dX12_colours_145 : decode cX12_colours 145 = .ok (.iload_n 1, 1) := by decide +kernel
theorem dX12_colours_146 : decode cX12_colours 146 = .ok (.ishl, 1) := by decide +kernel
theorem dX12_colours_147 : decode cX12_colours 147 = .ok (.iconst 1, 1) := by decide +kernel
theorem dX12_colours_148 : decode cX12_colours 148 = .ok (.isub, 1) := by decide +kernel
theorem dX12_colours_149 : decode cX12_colours 149 = .ok (.iaload, 1) := by decide +kernel
theorem dX12_colours_150 : decode cX12_colours 150 = .ok (.i2l, 1) := by decide +kernel
theorem dX12_colours_151 : decode cX12_colours 151 = .ok (.lreturn, 1) := by decide +kernel
theorem dX12_width_0 : decode cX12_width 0 = .ok (.iconst 1, 1) := by decide +kernel
theorem dX12_width_1 : decode cX12_width 1 = .ok (.iload_n 1, 1) := by decide +kernel
theorem dX12_width_2 : decode cX12_width 2 = .ok (.ishl, 1) := by decide +kernel
theorem dX12_width_3 : decode cX12_width 3 = .ok (.iconst 1, 1) := by decide +kernel
theorem dX12_width_4 : decode cX12_width 4 = .ok (.isub, 1) := by decide +kernel
theorem dX12_width_5 : decode cX12_width 5 = .ok (.istore_n 2, 1) := by decide +kernel
theorem dX12_width_6 : decode cX12_width 6 = .ok (.aload_n 0, 1) := by decide +kernel
theorem dX12_width_7 : decode cX12_width 7 = .ok (.getfield 115, 3) := by decide +kernel
theorem dX12_width_10 : decode cX12_width 10 = .ok (.iconst 0, 1) := by decide +kernel
theorem dX12_width_11 : decode cX12_width 11 = .ok (.iconst 0, 1) := by decide +kernel
theorem dX12_width_12 : decode cX12_width 12 = .ok (.iastore, 1) := by decide +kernel
theorem dX12_width_13 : decode cX12_width 13 = .ok (.iconst 1, 1) := by decide +kernel
theorem dX12_width_14 : decode cX12_width 14 = .ok (.istore_n 3, 1) := by decide +kernel
theorem dX12_width_15 : decode cX12_width 15 = .ok (.iload_n 3, 1) := by decide +kernel
theorem dX12_width_16 : decode cX12_width 16 = .ok (.iload_n 2, 1) := by decide +kernel
theorem dX12_width_17 : decode cX12_width 17 = .ok (.if_icmp .gt 196, 3) := by decide +kernel
theorem dX12_width_20 : decode cX12_width 20 = .ok (.aload_n 0, 1) := by decide +kernel
theorem dX12_width_21 : decode cX12_width 21 = .ok (.getfield 115, 3) := by decide +kernel
theorem dX12_width_24 : decode cX12_width 24 = .ok (.iload_n 3, 1) := by decide +kernel
theorem dX12_width_25 : decode cX12_width 25 = .ok (.bipush 99, 2) := by decide +kernel
theorem dX12_width_27 : decode cX12_width 27 = .ok (.iastore, 1) := by decide +kernel
theorem dX12_width_28 : decode cX12_width 28 = .ok (.iconst 0, 1) := by decide +kernel
theorem dX12_width_29 : decode cX12_width 29 = .ok (.istore 4, 2) := by decide +kernel
theorem dX12_width_31 : decode cX12_width 31 = .ok (.iload 4, 2) := by decide +kernel
theorem dX12_width_33 : decode cX12_width 33 = .ok (.iload_n 1, 1) := by decide +kernel
theorem dX12_width_34 : decode cX12_width 34 = .ok (.if_icmp .ge 173, 3) := by decide +kernel
theorem dX12_width_37 : decode cX12_width 37 = .ok (.iload_n 3, 1) := by decide +kernel
theorem dX12_width_38 : decode cX12_width 38 = .ok (.iload 4, 2) := by decide +kernel
theorem dX12_width_40 : decode cX12_width 40 = .ok (.ishr, 1) := by decide +kernel
theorem dX12_width_41 : decode cX12_width 41 = .ok (.iconst 1, 1) := by decide +kernel
theorem dX12_width_42 : decode cX12_width 42 = .ok (.iand, 1) := by decide +kernel
theorem dX12_width_43 : decode cX12_width 43 = .ok (.iconst 1, 1) := by decide +kernel
theorem dX12_width_44 : decode cX12_width 44 = .ok (.if_icmp .ne 157, 3) := by decide +kernel
theorem dX12_width_47 : decode cX12_width 47 = .ok (.iload_n 3, 1) := by decide +kernel
theorem dX12_width_48 : decode cX12_width 48 = .ok (.iconst 1, 1) := by decide +kernel
theorem dX12_width_49 : decode cX12_width 49 = .ok (.iload 4, 2) := by decide +kernel
theorem dX12_width_51 : decode cX12_width 51 = .ok (.ishl, 1) := by decide +kernel
theorem dX12_width_52 : decode cX12_width 52 = .ok (.iconst (-1), 1) := by decide +kernel
theorem dX12_width_53 : decode cX12_width 53 = .ok (.ixor, 1) := by decide +kernel
theorem dX12_width_54 : decode cX12_width 54 = .ok (.iand, 1) := by decide +kernel
theorem dX12_width_55 : decode cX12_width 55 = .ok (.istore 5, 2) := by decide +kernel
theorem dX12_width_57 : decode cX12_width 57 = .ok (.iconst 1, 1) := by decide +kernel
theorem dX12_width_58 : decode cX12_width 58 = .ok (.iload 4, 2) := by decide +kernel
theorem dX12_width_60 : decode cX12_width 60 = .ok (.ishl, 1) := by decide +kernel
theorem dX12_width_61 : decode cX12_width 61 = .ok (.istore 6, 2) := by decide +kernel
theorem dX12_width_63 : decode cX12_width 63 = .ok (.iconst 0, 1) := by decide +kernel
theorem dX12_width_64 : decode cX12_width 64 = .ok (.istore 7, 2) := by decide +kernel
theorem dX12_width_66 : decode cX12_width 66 = .ok (.iconst 0, 1) := by decide +kernel
theorem dX12_width_67 : decode cX12_width 67 = .ok (.istore 8, 2) := by decide +kernel
theorem dX12_width_69 : decode cX12_width 69 = .ok (.iload 6, 2) := by decide +kernel
theorem dX12_width_71 : decode cX12_width 71 = .ok (.iload 7, 2) := by decide +kernel
theorem dX12_width_73 : decode cX12_width 73 = .ok (.if_icmp .eq 63, 3) := by decide +kernel
theorem dX12_width_76 : decode cX12_width 76 = .ok (.iload 6, 2) := by decide +kernel
theorem dX12_width_78 : decode cX12_width 78 = .ok (.istore 7, 2) := by decide +kernel
theorem dX12_width_80 : decode cX12_width 80 = .ok (.iconst 0, 1) := by decide +kernel
theorem dX12_width_81 : decode cX12_width 81 = .ok (.istore 9, 2) := by decide +kernel
theorem dX12_width_83 : decode cX12_width 83 = .ok (.iload 9, 2) := by decide +kernel
theorem dX12_width_85 : decode cX12_width 85 = .ok (.iload_n 1, 1) := by decide +kernel
theorem dX12_width_86 : decode cX12_width 86 = .ok (.if_icmp .ge 47, 3) := by decide +kernel
theorem dX12_width_89 : decode cX12_width 89 = .ok (.iload 7, 2) := by decide +kernel
theorem dX12_width_91 : decode cX12_width 91 = .ok (.iload 9, 2) := by decide +kernel
theorem dX12_width_93 : decode cX12_width 93 = .ok (.ishr, 1) := by decide +kernel
theorem dX12_width_94 : decode cX12_width 94 = .ok (.iconst 1, 1) := by decide +kernel
theorem dX12_width_95 : decode cX12_width 95 = .ok (.iand, 1) := by decide +kernel
theorem dX12_width_96 : decode cX12_width 96 = .ok (.iconst 1, 1) := by decide +kernel
theorem dX12_width_97 : decode cX12_width 97 = .ok (.if_icmp .ne 30, 3) := by decide +kernel
theorem dX12_width_100 : decode cX12_width 100 = .ok (.iload 8, 2) := by decide +kernel
theorem dX12_width_102 : decode cX12_width 102 = .ok (.aload_n 0, 1) := by decide +kernel
theorem dX12_width_103 : decode cX12_width 103 = .ok (.getfield 81, 3) := by decide +kernel
theorem dX12_width_106 : decode cX12_width 106 = .ok (.iload 9, 2) := by decide +kernel
theorem dX12_width_108 : decode cX12_width 108 = .ok (.iaload, 1) := by decide +kernel
theorem dX12_width_109 : decode cX12_width 109 = .ok (.ior, 1) := by decide +kernel
theorem dX12_width_110 : decode cX12_width 110 = .ok (.istore 8, 2) := by decide +kernel
theorem dX12_width_112 : decode cX12_width 112 = .ok (.iload 6, 2) := by decide +kernel
theorem dX12_width_114 : decode cX12_width 114 = .ok (.aload_n 0, 1) := by decide +kernel
theorem dX12_width_115 : decode cX12_width 115 = .ok (.getfield 81, 3) := by decide +kernel
theorem dX12_width_118 : decode cX12_width 118 = .ok (.iload 9, 2) := by decide +kernel
theorem dX12_width_120 : decode cX12_width 120 = .ok (.iaload, 1) := by decide +kernel
theorem dX12_width_121 : decode cX12_width 121 = .ok (.iload 5, 2) := by decide +kernel
theorem dX12_width_123 : decode cX12_width 123 = .ok (.iand, 1) := by decide +kernel
theorem dX12_width_124 : decode cX12_width 124 = .ok (.ior, 1) := by decide +kernel
theorem dX12_width_125 : decode cX12_width 125 = .ok (.istore 6, 2) := by decide +kernel
theorem dX12_width_127 : decode cX12_width 127 = .ok (.iinc 9 1, 3) := by decide +kernel
theorem dX12_width_130 : decode cX12_width 130 = .ok (.goto (-47), 3) := by decide +kernel
theorem dX12_width_133 : decode cX12_width 133 = .ok (.goto (-64), 3) := by decide +kernel
theorem dX12_width_136 : decode cX12_width 136 = .ok (.iload 8, 2) := by decide +kernel
theorem dX12_width_138 : decode cX12_width 138 = .ok (.iload_n 3, 1) := by decide +kernel
theorem dX12_width_139 : decode cX12_width 139 = .ok (.iconst (-1), 1) := by decide +kernel
theorem dX12_width_140 : decode cX12_width 140 = .ok (.ixor, 1) := by decide +kernel
theorem dX12_width_141 : decode cX12_width 141 = .ok (.iand, 1) := by decide +kernel
theorem dX12_width_142 : decode cX12_width 142 = .ok (.invokestatic 201, 3) := by decide +kernel
theorem dX12_width_145 : decode cX12_width 145 = .ok (.istore 9, 2) := by decide +kernel
theorem dX12_width_147 : decode cX12_width 147 = .ok (.aload_n 0, 1) := by decide +kernel
theorem dX12_width_148 : decode cX12_width 148 = .ok (.getfield 115, 3) := by decide +kernel
theorem dX12_width_151 : decode cX12_width 151 = .ok (.iload 5, 2) := by decide +kernel
theorem dX12_width_153 : decode cX12_width 153 = .ok (.iaload, 1) := by decide +kernel
theorem dX12_width_154 : decode cX12_width 154 = .ok (.iload 9, 2) := by decide +kernel
theorem dX12_width_156 : decode cX12_width 156 = .ok (.if_icmp .le 13, 3) := by decide +kernel
theorem dX12_width_159 : decode cX12_width 159 = .ok (.aload_n 0, 1) := by decide +kernel
theorem dX12_width_160 : decode cX12_width 160 = .ok (.getfield 115, 3) := by decide +kernel
theorem dX12_width_163 : decode cX12_width 163 = .ok (.iload 5, 2) := by decide +kernel
theorem dX12_width_165 : decode cX12_width 165 = .ok (.iaload, 1) := by decide +kernel
theorem dX12_width_166 : decode cX12_width 166 = .ok (.goto 5, 3) := by decide +kernel
theorem dX12_width_169 : decode cX12_width 169 = .ok (.iload 9, 2) := by decide +kernel
theorem dX12_width_171 : decode cX12_width 171 = .ok (.istore 9, 2) := by decide +kernel
theorem dX12_width_173 : decode cX12_width 173 = .ok (.aload_n 0, 1) := by decide +kernel
theorem dX12_width_174 : decode cX12_width 174 = .ok (.getfield 115, 3) := by decide +kernel
theorem dX12_width_177 : decode cX12_width 177 = .ok (.iload_n 3, 1) := by decide +kernel
theorem dX12_width_178 : decode cX12_width 178 = .ok (.iload 9, 2) := by decide +kernel
theorem dX12_width_180 : decode cX12_width 180 = .ok (.aload_n 0, 1) := by decide +kernel
theorem dX12_width_181 : decode cX12_width 181 = .ok (.getfield 115, 3) := by decide +kernel
theorem dX12_width_184 : decode cX12_width 184 = .ok (.iload_n 3, 1) := by decide +kernel
theorem dX12_width_185 : decode cX12_width 185 = .ok (.iaload, 1) := by decide +kernel
theorem dX12_width_186 : decode cX12_width 186 = .ok (.if_icmp .ge 8, 3) := by decide +kernel
theorem dX12_width_189 : decode cX12_width 189 = .ok (.iload 9, 2) := by decide +kernel
theorem dX12_width_191 : decode cX12_width 191 = .ok (.goto 9, 3) := by decide +kernel
theorem dX12_width_194 : decode cX12_width 194 = .ok (.aload_n 0, 1) := by decide +kernel
theorem dX12_width_195 : decode cX12_width 195 = .ok (.getfield 115, 3) := by decide +kernel
theorem dX12_width_198 : decode cX12_width 198 = .ok (.iload_n 3, 1) := by decide +kernel
theorem dX12_width_199 : decode cX12_width 199 = .ok (.iaload, 1) := by decide +kernel
theorem dX12_width_200 : decode cX12_width 200 = .ok (.iastore, 1) := by decide +kernel
theorem dX12_width_201 : decode cX12_width 201 = .ok (.iinc 4 1, 3) := by decide +kernel
theorem dX12_width_204 : decode cX12_width 204 = .ok (.goto (-173), 3) := by decide +kernel
theorem dX12_width_207 : decode cX12_width 207 = .ok (.iinc 3 1, 3) := by decide +kernel
theorem dX12_width_210 : decode cX12_width 210 = .ok (.goto (-195), 3) := by decide +kernel
theorem dX12_width_213 : decode cX12_width 213 = .ok (.aload_n 0, 1) := by decide +kernel
theorem dX12_width_214 : decode cX12_width 214 = .ok (.getfield 115, 3) := by decide +kernel
theorem dX12_width_217 : decode cX12_width 217 = .ok (.iload_n 2, 1) := by decide +kernel
theorem dX12_width_218 : decode cX12_width 218 = .ok (.iaload, 1) := by decide +kernel
theorem dX12_width_219 : decode cX12_width 219 = .ok (.i2l, 1) := by decide +kernel
theorem dX12_width_220 : decode cX12_width 220 = .ok (.lreturn, 1) := by decide +kernel
theorem dX12_pairs_0 : decode cX12_pairs 0 = .ok (.iconst 0, 1) := by decide +kernel
theorem dX12_pairs_1 : decode cX12_pairs 1 = .ok (.istore_n 3, 1) := by decide +kernel
theorem dX12_pairs_2 : decode cX12_pairs 2 = .ok (.iload_n 3, 1) := by decide +kernel
theorem dX12_pairs_3 : decode cX12_pairs 3 = .ok (.iload_n 1, 1) := by decide +kernel
theorem dX12_pairs_4 : decode cX12_pairs 4 = .ok (.if_icmp .gt 161, 3) := by decide +kernel
theorem dX12_pairs_7 : decode cX12_pairs 7 = .ok (.aload_n 0, 1) := by decide +kernel
theorem dX12_pairs_8 : decode cX12_pairs 8 = .ok (.getfield 115, 3) := by decide +kernel
theorem dX12_pairs_11 : decode cX12_pairs 11 = .ok (.iload_n 3, 1) := by decide +kernel
theorem dX12_pairs_12 : decode cX12_pairs 12 = .ok (.iconst 0, 1) := by decide +kernel
theorem dX12_pairs_13 : decode cX12_pairs 13 = .ok (.iastore, 1) := by decide +kernel
theorem dX12_pairs_14 : decode cX12_pairs 14 = .ok (.iconst 0, 1) := by decide +kernel
theorem dX12_pairs_15 : decode cX12_pairs 15 = .ok (.istore 4, 2) := by decide +kernel
theorem dX12_pairs_17 : decode cX12_pairs 17 = .ok (.iload 4, 2) := by decide +kernel
theorem dX12_pairs_19 : decode cX12_pairs 19 = .ok (.iload_n 2, 1) := by decide +kernel
theorem dX12_pairs_20 : decode cX12_pairs 20 = .ok (.if_icmp .ge 18, 3) := by decide +kernel
theorem dX12_pairs_23 : decode cX12_pairs 23 = .ok (.iload_n 3, 1) := by decide +kernel
theorem dX12_pairs_24 : decode cX12_pairs 24 = .ok (.iload 4, 2) := by decide +kernel
theorem dX12_pairs_26 : decode cX12_pairs 26 = .ok (.ishr, 1) := by decide +kernel
theorem dX12_pairs_27 : decode cX12_pairs 27 = .ok (.iconst 1, 1) := by decide +kernel
theorem dX12_pairs_28 : decode cX12_pairs 28 = .ok (.iand, 1) := by decide +kernel
theorem dX12_pairs_29 : decode cX12_pairs 29 = .ok (.ifCond .ne 9, 3) := by decide +kernel
theorem dX12_pairs_32 : decode cX12_pairs 32 = .ok (.iinc 4 1, 3) := by decide +kernel
theorem dX12_pairs_35 : decode cX12_pairs 35 = .ok (.goto (-18), 3) := by decide +kernel
theorem dX12_pairs_38 : decode cX12_pairs 38 = .ok (.iload 4, 2) := by decide +kernel
theorem dX12_pairs_40 : decode cX12_pairs 40 = .ok (.iload_n 2, 1) := by decide +kernel
theorem dX12_pairs_41 : decode cX12_pairs 41 = .ok (.if_icmp .ge 118, 3) := by decide +kernel
theorem dX12_pairs_44 : decode cX12_pairs 44 = .ok (.iload_n 3, 1) := by decide +kernel
theorem dX12_pairs_45 : decode cX12_pairs 45 = .ok (.iconst 1, 1) := by decide +kernel
theorem dX12_pairs_46 : decode cX12_pairs 46 = .ok (.iload 4, 2) := by decide +kernel
theorem dX12_pairs_48 : decode cX12_pairs 48 = .ok (.ishl, 1) := by decide +kernel
theorem dX12_pairs_49 : decode cX12_pairs 49 = .ok (.iconst (-1), 1) := by decide +kernel
theorem dX12_pairs_50 : decode cX12_pairs 50 = .ok (.ixor, 1) := by decide +kernel
theorem dX12_pairs_51 : decode cX12_pairs 51 = .ok (.iand, 1) := by decide +kernel
theorem dX12_pairs_52 : decode cX12_pairs 52 = .ok (.istore 5, 2) := by decide +kernel
theorem dX12_pairs_54 : decode cX12_pairs 54 = .ok (.aload_n 0, 1) := by decide +kernel
theorem dX12_pairs_55 : decode cX12_pairs 55 = .ok (.getfield 115, 3) := by decide +kernel
theorem dX12_pairs_58 : decode cX12_pairs 58 = .ok (.iload_n 3, 1) := by decide +kernel
theorem dX12_pairs_59 : decode cX12_pairs 59 = .ok (.aload_n 0, 1) := by decide +kernel
theorem dX12_pairs_60 : decode cX12_pairs 60 = .ok (.getfield 115, 3) := by decide +kernel
theorem dX12_pairs_63 : decode cX12_pairs 63 = .ok (.iload 5, 2) := by decide +kernel
theorem dX12_pairs_65 : decode cX12_pairs 65 = .ok (.iaload, 1) := by decide +kernel
theorem dX12_pairs_66 : decode cX12_pairs 66 = .ok (.iastore, 1) := by decide +kernel
theorem dX12_pairs_67 : decode cX12_pairs 67 = .ok (.iload 4, 2) := by decide +kernel
theorem dX12_pairs_69 : decode cX12_pairs 69 = .ok (.iconst 1, 1) := by decide +kernel
theorem dX12_pairs_70 : decode cX12_pairs 70 = .ok (.iadd, 1) := by decide +kernel
theorem dX12_pairs_71 : decode cX12_pairs 71 = .ok (.istore 6, 2) := by decide +kernel
theorem dX12_pairs_73 : decode cX12_pairs 73 = .ok (.iload 6, 2) := by decide +kernel
theorem dX12_pairs_75 : decode cX12_pairs 75 = .ok (.iload_n 2, 1) := by decide +kernel
theorem dX12_pairs_76 : decode cX12_pairs 76 = .ok (.if_icmp .ge 83, 3) := by decide +kernel
theorem dX12_pairs_79 : decode cX12_pairs 79 = .ok (.iload 5, 2) := by decide +kernel
theorem dX12_pairs_81 : decode cX12_pairs 81 = .ok (.iload 6, 2) := by decide +kernel
theorem dX12_pairs_83 : decode cX12_pairs 83 = .ok (.ishr, 1) := by decide +kernel
theorem dX12_pairs_84 : decode cX12_pairs 84 = .ok (.iconst 1, 1) := by decide +kernel
theorem dX12_pairs_85 : decode cX12_pairs 85 = .ok (.iand, 1) := by decide +kernel
theorem dX12_pairs_86 : decode cX12_pairs 86 = .ok (.iconst 1, 1) := by decide +kernel
theorem dX12_pairs_87 : decode cX12_pairs 87 = .ok (.if_icmp .ne 66, 3) := by decide +kernel
theorem dX12_pairs_90 : decode cX12_pairs 90 = .ok (.aload_n 0, 1) := by decide +kernel
theorem dX12_pairs_91 : decode cX12_pairs 91 = .ok (.getfield 81, 3) := by decide +kernel
theorem dX12_pairs_94 : decode cX12_pairs 94 = .ok (.iload 4, 2) := by decide +kernel
theorem dX12_pairs_96 : decode cX12_pairs 96 = .ok (.iaload, 1) := by decide +kernel
theorem dX12_pairs_97 : decode cX12_pairs 97 = .ok (.iload 6, 2) := by decide +kernel
theorem dX12_pairs_99 : decode cX12_pairs 99 = .ok (.ishr, 1) := by decide +kernel
theorem dX12_pairs_100 : decode cX12_pairs 100 = .ok (.iconst 1, 1) := by decide +kernel
theorem dX12_pairs_101 : decode cX12_pairs 101 = .ok (.iand, 1) := by decide +kernel
theorem dX12_pairs_102 : decode cX12_pairs 102 = .ok (.iconst 1, 1) := by decide +kernel
theorem dX12_pairs_103 : decode cX12_pairs 103 = .ok (.if_icmp .ne 50, 3) := by decide +kernel
theorem dX12_pairs_106 : decode cX12_pairs 106 = .ok (.aload_n 0, 1) := by decide +kernel
theorem dX12_pairs_107 : decode cX12_pairs 107 = .ok (.getfield 115, 3) := by decide +kernel
theorem dX12_pairs_110 : decode cX12_pairs 110 = .ok (.iload 5, 2) := by decide +kernel
theorem dX12_pairs_112 : decode cX12_pairs 112 = .ok (.iconst 1, 1) := by decide +kernel
theorem dX12_pairs_113 : decode cX12_pairs 113 = .ok (.iload 6, 2) := by decide +kernel
theorem dX12_pairs_115 : decode cX12_pairs 115 = .ok (.ishl, 1) := by decide +kernel
theorem dX12_pairs_116 : decode cX12_pairs 116 = .ok (.iconst (-1), 1) := by decide +kernel
theorem dX12_pairs_117 : decode cX12_pairs 117 = .ok (.ixor, 1) := by decide +kernel
theorem dX12_pairs_118 : decode cX12_pairs 118 = .ok (.iand, 1) := by decide +kernel
theorem dX12_pairs_119 : decode cX12_pairs 119 = .ok (.iaload, 1) := by decide +kernel
theorem dX12_pairs_120 : decode cX12_pairs 120 = .ok (.iconst 1, 1) := by decide +kernel
theorem dX12_pairs_121 : decode cX12_pairs 121 = .ok (.iadd, 1) := by decide +kernel
theorem dX12_pairs_122 : decode cX12_pairs 122 = .ok (.aload_n 0, 1) := by decide +kernel
theorem dX12_pairs_123 : decode cX12_pairs 123 = .ok (.getfield 115, 3) := by decide +kernel
theorem dX12_pairs_126 : decode cX12_pairs 126 = .ok (.iload_n 3, 1) := by decide +kernel
theorem dX12_pairs_127 : decode cX12_pairs 127 = .ok (.iaload, 1) := by decide +kernel
theorem dX12_pairs_128 : decode cX12_pairs 128 = .ok (.if_icmp .le 25, 3) := by decide +kernel
theorem dX12_pairs_131 : decode cX12_pairs 131 = .ok (.aload_n 0, 1) := by decide +kernel
theorem dX12_pairs_132 : decode cX12_pairs 132 = .ok (.getfield 115, 3) := by decide +kernel
theorem dX12_pairs_135 : decode cX12_pairs 135 = .ok (.iload_n 3, 1) := by decide +kernel
theorem dX12_pairs_136 : decode cX12_pairs 136 = .ok (.aload_n 0, 1) := by decide +kernel
theorem dX12_pairs_137 : decode cX12_pairs 137 = .ok (.getfield 115, 3) := by decide +kernel
theorem dX12_pairs_140 : decode cX12_pairs 140 = .ok (.iload 5, 2) := by decide +kernel
theorem dX12_pairs_142 : decode cX12_pairs 142 = .ok (.iconst 1, 1) := by decide +kernel
theorem dX12_pairs_143 : decode cX12_pairs 143 = .ok (.iload 6, 2) := by decide +kernel
theorem dX12_pairs_145 : decode cX12_pairs 145 = .ok (.ishl, 1) := by decide +kernel
theorem dX12_pairs_146 : decode cX12_pairs 146 = .ok (.iconst (-1), 1) := by decide +kernel
theorem dX12_pairs_147 : decode cX12_pairs 147 = .ok (.ixor, 1) := by decide +kernel
theorem dX12_pairs_148 : decode cX12_pairs 148 = .ok (.iand, 1) := by decide +kernel
theorem dX12_pairs_149 : decode cX12_pairs 149 = .ok (.iaload, 1) := by decide +kernel
theorem dX12_pairs_150 : decode cX12_pairs 150 = .ok (.iconst 1, 1) := by decide +kernel
theorem dX12_pairs_151 : decode cX12_pairs 151 = .ok (.iadd, 1) := by decide +kernel
theorem dX12_pairs_152 : decode cX12_pairs 152 = .ok (.iastore, 1) := by decide +kernel
theorem dX12_pairs_153 : decode cX12_pairs 153 = .ok (.iinc 6 1, 3) := by decide +kernel
theorem dX12_pairs_156 : decode cX12_pairs 156 = .ok (.goto (-83), 3) := by decide +kernel
theorem dX12_pairs_159 : decode cX12_pairs 159 = .ok (.iinc 3 1, 3) := by decide +kernel
theorem dX12_pairs_162 : decode cX12_pairs 162 = .ok (.goto (-160), 3) := by decide +kernel
theorem dX12_pairs_165 : decode cX12_pairs 165 = .ok (.aload_n 0, 1) := by decide +kernel
theorem dX12_pairs_166 : decode cX12_pairs 166 = .ok (.getfield 115, 3) := by decide +kernel
theorem dX12_pairs_169 : decode cX12_pairs 169 = .ok (.iload_n 1, 1) := by decide +kernel
theorem dX12_pairs_170 : decode cX12_pairs 170 = .ok (.iaload, 1) := by decide +kernel
theorem dX12_pairs_171 : decode cX12_pairs 171 = .ok (.i2l, 1) := by decide +kernel
theorem dX12_pairs_172 : decode cX12_pairs 172 = .ok (.lreturn, 1) := by decide +kernel
theorem dX12_missed_0 : decode cX12_missed 0 = .ok (.iconst 1, 1) := by decide +kernel
theorem dX12_missed_1 : decode cX12_missed 1 = .ok (.iload_n 1, 1) := by decide +kernel
theorem dX12_missed_2 : decode cX12_missed 2 = .ok (.ishl, 1) := by decide +kernel
theorem dX12_missed_3 : decode cX12_missed 3 = .ok (.iconst 1, 1) := by decide +kernel
theorem dX12_missed_4 : decode cX12_missed 4 = .ok (.isub, 1) := by decide +kernel
theorem dX12_missed_5 : decode cX12_missed 5 = .ok (.istore_n 2, 1) := by decide +kernel
theorem dX12_missed_6 : decode cX12_missed 6 = .ok (.aload_n 0, 1) := by decide +kernel
theorem dX12_missed_7 : decode cX12_missed 7 = .ok (.iload_n 2, 1) := by decide +kernel
theorem dX12_missed_8 : decode cX12_missed 8 = .ok (.iload_n 1, 1) := by decide +kernel
theorem dX12_missed_9 : decode cX12_missed 9 = .ok (.invokevirtual 331, 3) := by decide +kernel
theorem dX12_missed_12 : decode cX12_missed 12 = .ok (.lstore_n 3, 1) := by decide +kernel
theorem dX12_missed_13 : decode cX12_missed 13 = .ok (.iconst 0, 1) := by decide +kernel
theorem dX12_missed_14 : decode cX12_missed 14 = .ok (.istore 5, 2) := by decide +kernel
theorem dX12_missed_16 : decode cX12_missed 16 = .ok (.iconst 0, 1) := by decide +kernel
theorem dX12_missed_17 : decode cX12_missed 17 = .ok (.istore 6, 2) := by decide +kernel
theorem dX12_missed_19 : decode cX12_missed 19 = .ok (.iload 6, 2) := by decide +kernel
theorem dX12_missed_21 : decode cX12_missed 21 = .ok (.iload_n 1, 1) := by decide +kernel
theorem dX12_missed_22 : decode cX12_missed 22 = .ok (.if_icmp .ge 41, 3) := by decide +kernel
theorem dX12_missed_25 : decode cX12_missed 25 = .ok (.iload 5, 2) := by decide +kernel
theorem dX12_missed_27 : decode cX12_missed 27 = .ok (.aload_n 0, 1) := by decide +kernel
theorem dX12_missed_28 : decode cX12_missed 28 = .ok (.getfield 115, 3) := by decide +kernel
theorem dX12_missed_31 : decode cX12_missed 31 = .ok (.iload_n 2, 1) := by decide +kernel
theorem dX12_missed_32 : decode cX12_missed 32 = .ok (.iconst 1, 1) := by decide +kernel
theorem dX12_missed_33 : decode cX12_missed 33 = .ok (.iload 6, 2) := by decide +kernel
theorem dX12_missed_35 : decode cX12_missed 35 = .ok (.ishl, 1) := by decide +kernel
theorem dX12_missed_36 : decode cX12_missed 36 = .ok (.iconst (-1), 1) := by decide +kernel
theorem dX12_missed_37 : decode cX12_missed 37 = .ok (.ixor, 1) := by decide +kernel
theorem dX12_missed_38 : decode cX12_missed 38 = .ok (.iand, 1) := by decide +kernel
theorem dX12_missed_39 : decode cX12_missed 39 = .ok (.iaload, 1) := by decide +kernel
theorem dX12_missed_40 : decode cX12_missed 40 = .ok (.i2l, 1) := by decide +kernel
theorem dX12_missed_41 : decode cX12_missed 41 = .ok (.lload_n 3, 1) := by decide +kernel
theorem dX12_missed_42 : decode cX12_missed 42 = .ok (.lcmp, 1) := by decide +kernel
theorem dX12_missed_43 : decode cX12_missed 43 = .ok (.ifCond .ne 10, 3) := by decide +kernel
theorem dX12_missed_46 : decode cX12_missed 46 = .ok (.iconst 1, 1) := by decide +kernel
theorem dX12_missed_47 : decode cX12_missed 47 = .ok (.iload 6, 2) := by decide +kernel
theorem dX12_missed_49 : decode cX12_missed 49 = .ok (.ishl, 1) := by decide +kernel
theorem dX12_missed_50 : decode cX12_missed 50 = .ok (.goto 4, 3) := by decide +kernel
theorem dX12_missed_53 : decode cX12_missed 53 = .ok (.iconst 0, 1) := by decide +kernel
theorem dX12_missed_54 : decode cX12_missed 54 = .ok (.ior, 1) := by decide +kernel
theorem dX12_missed_55 : decode cX12_missed 55 = .ok (.istore 5, 2) := by decide +kernel
theorem dX12_missed_57 : decode cX12_missed 57 = .ok (.iinc 6 1, 3) := by decide +kernel
theorem dX12_missed_60 : decode cX12_missed 60 = .ok (.goto (-41), 3) := by decide +kernel
theorem dX12_missed_63 : decode cX12_missed 63 = .ok (.iload 5, 2) := by decide +kernel
theorem dX12_missed_65 : decode cX12_missed 65 = .ok (.i2l, 1) := by decide +kernel
theorem dX12_missed_66 : decode cX12_missed 66 = .ok (.lreturn, 1) := by decide +kernel
theorem dX12_trees_0 : decode cX12_trees 0 = .ok (.aload_n 0, 1) := by decide +kernel
theorem dX12_trees_1 : decode cX12_trees 1 = .ok (.getfield 13, 3) := by decide +kernel
theorem dX12_trees_4 : decode cX12_trees 4 = .ok (.iload_n 1, 1) := by decide +kernel
theorem dX12_trees_5 : decode cX12_trees 5 = .ok (.iaload, 1) := by decide +kernel
theorem dX12_trees_6 : decode cX12_trees 6 = .ok (.istore_n 2, 1) := by decide +kernel
theorem dX12_trees_7 : decode cX12_trees 7 = .ok (.aload_n 0, 1) := by decide +kernel
theorem dX12_trees_8 : decode cX12_trees 8 = .ok (.getfield 118, 3) := by decide +kernel
theorem dX12_trees_11 : decode cX12_trees 11 = .ok (.iconst 0, 1) := by decide +kernel
theorem dX12_trees_12 : decode cX12_trees 12 = .ok (.lconst 0, 1) := by decide +kernel
theorem dX12_trees_13 : decode cX12_trees 13 = .ok (.lastore, 1) := by decide +kernel
theorem dX12_trees_14 : decode cX12_trees 14 = .ok (.iconst 1, 1) := by decide +kernel
theorem dX12_trees_15 : decode cX12_trees 15 = .ok (.istore_n 3, 1) := by decide +kernel
theorem dX12_trees_16 : decode cX12_trees 16 = .ok (.iload_n 3, 1) := by decide +kernel
theorem dX12_trees_17 : decode cX12_trees 17 = .ok (.iconst 1, 1) := by decide +kernel
theorem dX12_trees_18 : decode cX12_trees 18 = .ok (.iload_n 2, 1) := by decide +kernel
theorem dX12_trees_19 : decode cX12_trees 19 = .ok (.ishl, 1) := by decide +kernel
theorem dX12_trees_20 : decode cX12_trees 20 = .ok (.if_icmp .ge 255, 3) := by decide +kernel
theorem dX12_trees_23 : decode cX12_trees 23 = .ok (.iconst 0, 1) := by decide +kernel
theorem dX12_trees_24 : decode cX12_trees 24 = .ok (.istore 4, 2) := by decide +kernel
theorem dX12_trees_26 : decode cX12_trees 26 = .ok (.iload_n 3, 1) := by decide +kernel
theorem dX12_trees_27 : decode cX12_trees 27 = .ok (.iload 4, 2) := by decide +kernel
theorem dX12_trees_29 : decode cX12_trees 29 = .ok (.ishr, 1) := by decide +kernel
theorem dX12_trees_30 : decode cX12_trees 30 = .ok (.iconst 1, 1) := by decide +kernel
theorem dX12_trees_31 : decode cX12_trees 31 = .ok (.iand, 1) := by decide +kernel
theorem dX12_trees_32 : decode cX12_trees 32 = .ok (.ifCond .ne 9, 3) := by decide +kernel
theorem dX12_trees_35 : decode cX12_trees 35 = .ok (.iinc 4 1, 3) := by decide +kernel
theorem dX12_trees_38 : decode cX12_trees 38 = .ok (.goto (-12), 3) := by decide +kernel
theorem dX12_trees_41 : decode cX12_trees 41 = .ok (.iload_n 3, 1) := by decide +kernel
theorem dX12_trees_42 : decode cX12_trees 42 = .ok (.iconst 1, 1) := by decide +kernel
theorem dX12_trees_43 : decode cX12_trees 43 = .ok (.iload 4, 2) := by decide +kernel
theorem dX12_trees_45 : decode cX12_trees 45 = .ok (.ishl, 1) := by decide +kernel
theorem dX12_trees_46 : decode cX12_trees 46 = .ok (.iconst (-1), 1) := by decide +kernel
theorem dX12_trees_47 : decode cX12_trees 47 = .ok (.ixor, 1) := by decide +kernel
theorem dX12_trees_48 : decode cX12_trees 48 = .ok (.iand, 1) := by decide +kernel
theorem dX12_trees_49 : decode cX12_trees 49 = .ok (.istore 5, 2) := by decide +kernel
theorem dX12_trees_51 : decode cX12_trees 51 = .ok (.iload 5, 2) := by decide +kernel
theorem dX12_trees_53 : decode cX12_trees 53 = .ok (.ifCond .ne 7, 3) := by decide +kernel
theorem dX12_trees_56 : decode cX12_trees 56 = .ok (.lconst 1, 1) := by decide +kernel
theorem dX12_trees_57 : decode cX12_trees 57 = .ok (.goto 4, 3) := by decide +kernel
theorem dX12_trees_60 : decode cX12_trees 60 = .ok (.lconst 0, 1) := by decide +kernel
theorem dX12_trees_61 : decode cX12_trees 61 = .ok (.lstore 6, 2) := by decide +kernel
theorem dX12_trees_63 : decode cX12_trees 63 = .ok (.iload 5, 2) := by decide +kernel
theorem dX12_trees_65 : decode cX12_trees 65 = .ok (.iload 5, 2) := by decide +kernel
theorem dX12_trees_67 : decode cX12_trees 67 = .ok (.ineg, 1) := by decide +kernel
theorem dX12_trees_68 : decode cX12_trees 68 = .ok (.iand, 1) := by decide +kernel
theorem dX12_trees_69 : decode cX12_trees 69 = .ok (.istore 8, 2) := by decide +kernel
theorem dX12_trees_71 : decode cX12_trees 71 = .ok (.iload 5, 2) := by decide +kernel
theorem dX12_trees_73 : decode cX12_trees 73 = .ok (.istore 9, 2) := by decide +kernel
theorem dX12_trees_75 : decode cX12_trees 75 = .ok (.iload 9, 2) := by decide +kernel
theorem dX12_trees_77 : decode cX12_trees 77 = .ok (.ifCond .le 184, 3) := by decide +kernel
theorem dX12_trees_80 : decode cX12_trees 80 = .ok (.iload 9, 2) := by decide +kernel
theorem dX12_trees_82 : decode cX12_trees 82 = .ok (.iload 8, 2) := by decide +kernel
theorem dX12_trees_84 : decode cX12_trees 84 = .ok (.iand, 1) := by decide +kernel
theorem dX12_trees_85 : decode cX12_trees 85 = .ok (.ifCond .eq 164, 3) := by decide +kernel
theorem dX12_trees_88 : decode cX12_trees 88 = .ok (.aload_n 0, 1) := by decide +kernel
theorem dX12_trees_89 : decode cX12_trees 89 = .ok (.getfield 118, 3) := by decide +kernel
theorem dX12_trees_92 : decode cX12_trees 92 = .ok (.iload 9, 2) := by decide +kernel
theorem dX12_trees_94 : decode cX12_trees 94 = .ok (.laload, 1) := by decide +kernel
theorem dX12_trees_95 : decode cX12_trees 95 = .ok (.lconst 0, 1) := by decide +kernel
theorem dX12_trees_96 : decode cX12_trees 96 = .ok (.lcmp, 1) := by decide +kernel
theorem dX12_trees_97 : decode cX12_trees 97 = .ok (.ifCond .eq 152, 3) := by decide +kernel
theorem dX12_trees_100 : decode cX12_trees 100 = .ok (.aload_n 0, 1) := by decide +kernel
theorem dX12_trees_101 : decode cX12_trees 101 = .ok (.getfield 118, 3) := by decide +kernel
theorem dX12_trees_104 : decode cX12_trees 104 = .ok (.iload_n 3, 1) := by decide +kernel
theorem dX12_trees_105 : decode cX12_trees 105 = .ok (.iload 9, 2) := by decide +kernel
theorem dX12_trees_107 : decode cX12_trees 107 = .ok (.iconst (-1), 1) := by decide +kernel
theorem dX12_trees_108 : decode cX12_trees 108 = .ok (.ixor, 1) := by decide +kernel
theorem dX12_trees_109 : decode cX12_trees 109 = .ok (.iand, 1) := by decide +kernel
theorem dX12_trees_110 : decode cX12_trees 110 = .ok (.laload, 1) := by decide +kernel
theorem dX12_trees_111 : decode cX12_trees 111 = .ok (.lconst 0, 1) := by decide +kernel
theorem dX12_trees_112 : decode cX12_trees 112 = .ok (.lcmp, 1) := by decide +kernel
theorem dX12_trees_113 : decode cX12_trees 113 = .ok (.ifCond .eq 136, 3) := by decide +kernel
theorem dX12_trees_116 : decode cX12_trees 116 = .ok (.iconst 0, 1) := by decide +kernel
theorem dX12_trees_117 : decode cX12_trees 117 = .ok (.istore 10, 2) := by decide +kernel
theorem dX12_trees_119 : decode cX12_trees 119 = .ok (.iconst 0, 1) := by decide +kernel
theorem dX12_trees_120 : decode cX12_trees 120 = .ok (.istore 11, 2) := by decide +kernel
theorem dX12_trees_122 : decode cX12_trees 122 = .ok (.iload 11, 2) := by decide +kernel
theorem dX12_trees_124 : decode cX12_trees 124 = .ok (.aload_n 0, 1) := by decide +kernel
theorem dX12_trees_125 : decode cX12_trees 125 = .ok (.getfield 20, 3) := by decide +kernel
theorem dX12_trees_128 : decode cX12_trees 128 = .ok (.iload_n 1, 1) := by decide +kernel
theorem dX12_trees_129 : decode cX12_trees 129 = .ok (.iaload, 1) := by decide +kernel
theorem dX12_trees_130 : decode cX12_trees 130 = .ok (.if_icmp .ge 83, 3) := by decide +kernel
theorem dX12_trees_133 : decode cX12_trees 133 = .ok (.iload_n 1, 1) := by decide +kernel
theorem dX12_trees_134 : decode cX12_trees 134 = .ok (.iload 11, 2) := by decide +kernel
theorem dX12_trees_136 : decode cX12_trees 136 = .ok (.invokestatic 157, 3) := by decide +kernel
theorem dX12_trees_139 : decode cX12_trees 139 = .ok (.istore 12, 2) := by decide +kernel
theorem dX12_trees_141 : decode cX12_trees 141 = .ok (.iload 10, 2) := by decide +kernel
theorem dX12_trees_143 : decode cX12_trees 143 = .ok (.aload_n 0, 1) := by decide +kernel
theorem dX12_trees_144 : decode cX12_trees 144 = .ok (.getfield 23, 3) := by decide +kernel
theorem dX12_trees_147 : decode cX12_trees 147 = .ok (.iload 12, 2) := by decide +kernel
theorem dX12_trees_149 : decode cX12_trees 149 = .ok (.iaload, 1) := by decide +kernel
theorem dX12_trees_150 : decode cX12_trees 150 = .ok (.iload 4, 2) := by decide +kernel
theorem dX12_trees_152 : decode cX12_trees 152 = .ok (.if_icmp .ne 19, 3) := by decide +kernel
theorem dX12_trees_155 : decode cX12_trees 155 = .ok (.iload 9, 2) := by decide +kernel
theorem dX12_trees_157 : decode cX12_trees 157 = .ok (.aload_n 0, 1) := by decide +kernel
theorem dX12_trees_158 : decode cX12_trees 158 = .ok (.getfield 26, 3) := by decide +kernel
theorem dX12_trees_161 : decode cX12_trees 161 = .ok (.iload 12, 2) := by decide +kernel
theorem dX12_trees_163 : decode cX12_trees 163 = .ok (.iaload, 1) := by decide +kernel
theorem dX12_trees_164 : decode cX12_trees 164 = .ok (.ishr, 1) := by decide +kernel
theorem dX12_trees_165 : decode cX12_trees 165 = .ok (.iconst 1, 1) := by decide +kernel
theorem dX12_trees_166 : decode cX12_trees 166 = .ok (.iand, 1) := by decide +kernel
theorem dX12_trees_167 : decode cX12_trees 167 = .ok (.iconst 1, 1) := by decide +kernel
theorem dX12_trees_168 : decode cX12_trees 168 = .ok (.if_icmp .eq 31, 3) := by decide +kernel
theorem dX12_trees_171 : decode cX12_trees 171 = .ok (.aload_n 0, 1) := by decide +kernel
theorem dX12_trees_172 : decode cX12_trees 172 = .ok (.getfield 26, 3) := by decide +kernel
theorem dX12_trees_175 : decode cX12_trees 175 = .ok (.iload 12, 2) := by decide +kernel
theorem dX12_trees_177 : decode cX12_trees 177 = .ok (.iaload, 1) := by decide +kernel
theorem dX12_trees_178 : decode cX12_trees 178 = .ok (.iload 4, 2) := by decide +kernel
theorem dX12_trees_180 : decode cX12_trees 180 = .ok (.if_icmp .ne 23, 3) := by decide +kernel
theorem dX12_trees_183 : decode cX12_trees 183 = .ok (.iload 9, 2) := by decide +kernel
theorem dX12_trees_185 : decode cX12_trees 185 = .ok (.aload_n 0, 1) := by decide +kernel
theorem dX12_trees_186 : decode cX12_trees 186 = .ok (.getfield 23, 3) := by decide +kernel
theorem dX12_trees_189 : decode cX12_trees 189 = .ok (.iload 12, 2) := by decide +kernel
theorem dX12_trees_191 : decode cX12_trees 191 = .ok (.iaload, 1) := by decide +kernel
theorem dX12_trees_192 : decode cX12_trees 192 = .ok (.ishr, 1) := by decide +kernel
theorem dX12_trees_193 : decode cX12_trees 193 = .ok (.iconst 1, 1) := by decide +kernel
theorem dX12_trees_194 : decode cX12_trees 194 = .ok (.iand, 1) := by decide +kernel
theorem dX12_trees_195 : decode cX12_trees 195 = .ok (.iconst 1, 1) := by decide +kernel
theorem dX12_trees_196 : decode cX12_trees 196 = .ok (.if_icmp .ne 7, 3) := by decide +kernel
theorem dX12_trees_199 : decode cX12_trees 199 = .ok (.iconst 1, 1) := by decide +kernel
theorem dX12_trees_200 : decode cX12_trees 200 = .ok (.goto 4, 3) := by decide +kernel
theorem dX12_trees_203 : decode cX12_trees 203 = .ok (.iconst 0, 1) := by decide +kernel
theorem dX12_trees_204 : decode cX12_trees 204 = .ok (.iadd, 1) := by decide +kernel
theorem dX12_trees_205 : decode cX12_trees 205 = .ok (.istore 10, 2) := by decide +kernel
theorem dX12_trees_207 : decode cX12_trees 207 = .ok (.iinc 11 1, 3) := by decide +kernel
theorem dX12_trees_210 : decode cX12_trees 210 = .ok (.goto (-88), 3) := by decide +kernel
theorem dX12_trees_213 : decode cX12_trees 213 = .ok (.lload 6, 2) := by decide +kernel
theorem dX12_trees_215 : decode cX12_trees 215 = .ok (.aload_n 0, 1) := by decide +kernel
theorem dX12_trees_216 : decode cX12_trees 216 = .ok (.getfield 118, 3) := by decide +kernel
theorem dX12_trees_219 : decode cX12_trees 219 = .ok (.iload 9, 2) := by decide +kernel
theorem dX12_trees_221 : decode cX12_trees 221 = .ok (.laload, 1) := by decide +kernel
theorem dX12_trees_222 : decode cX12_trees 222 = .ok (.aload_n 0, 1) := by decide +kernel
theorem dX12_trees_223 : decode cX12_trees 223 = .ok (.getfield 118, 3) := by decide +kernel
theorem dX12_trees_226 : decode cX12_trees 226 = .ok (.iload_n 3, 1) := by decide +kernel
theorem dX12_trees_227 : decode cX12_trees 227 = .ok (.iload 9, 2) := by decide +kernel
theorem dX12_trees_229 : decode cX12_trees 229 = .ok (.iconst (-1), 1) := by decide +kernel
theorem dX12_trees_230 : decode cX12_trees 230 = .ok (.ixor, 1) := by decide +kernel
theorem dX12_trees_231 : decode cX12_trees 231 = .ok (.iand, 1) := by decide +kernel
theorem dX12_trees_232 : decode cX12_trees 232 = .ok (.laload, 1) := by decide +kernel
theorem dX12_trees_233 : decode cX12_trees 233 = .ok (.lmul, 1) := by decide +kernel
theorem dX12_trees_234 : decode cX12_trees 234 = .ok (.ldc2_w 366, 3) := by decide +kernel
theorem dX12_trees_237 : decode cX12_trees 237 = .ok (.lrem, 1) := by decide +kernel
theorem dX12_trees_238 : decode cX12_trees 238 = .ok (.iload 10, 2) := by decide +kernel
theorem dX12_trees_240 : decode cX12_trees 240 = .ok (.i2l, 1) := by decide +kernel
theorem dX12_trees_241 : decode cX12_trees 241 = .ok (.lmul, 1) := by decide +kernel
theorem dX12_trees_242 : decode cX12_trees 242 = .ok (.ladd, 1) := by decide +kernel
theorem dX12_trees_243 : decode cX12_trees 243 = .ok (.ldc2_w 366, 3) := by decide +kernel
theorem dX12_trees_246 : decode cX12_trees 246 = .ok (.lrem, 1) := by decide +kernel
theorem dX12_trees_247 : decode cX12_trees 247 = .ok (.lstore 6, 2) := by decide +kernel
theorem dX12_trees_249 : decode cX12_trees 249 = .ok (.iload 9, 2) := by decide +kernel
theorem dX12_trees_251 : decode cX12_trees 251 = .ok (.iconst 1, 1) := by decide +kernel
theorem dX12_trees_252 : decode cX12_trees 252 = .ok (.isub, 1) := by decide +kernel
theorem dX12_trees_253 : decode cX12_trees 253 = .ok (.iload 5, 2) := by decide +kernel
theorem dX12_trees_255 : decode cX12_trees 255 = .ok (.iand, 1) := by decide +kernel
theorem dX12_trees_256 : decode cX12_trees 256 = .ok (.istore 9, 2) := by decide +kernel
theorem dX12_trees_258 : decode cX12_trees 258 = .ok (.goto (-183), 3) := by decide +kernel
theorem dX12_trees_261 : decode cX12_trees 261 = .ok (.aload_n 0, 1) := by decide +kernel
theorem dX12_trees_262 : decode cX12_trees 262 = .ok (.getfield 118, 3) := by decide +kernel
theorem dX12_trees_265 : decode cX12_trees 265 = .ok (.iload_n 3, 1) := by decide +kernel
theorem dX12_trees_266 : decode cX12_trees 266 = .ok (.lload 6, 2) := by decide +kernel
theorem dX12_trees_268 : decode cX12_trees 268 = .ok (.lastore, 1) := by decide +kernel
theorem dX12_trees_269 : decode cX12_trees 269 = .ok (.iinc 3 1, 3) := by decide +kernel
theorem dX12_trees_272 : decode cX12_trees 272 = .ok (.goto (-256), 3) := by decide +kernel
theorem dX12_trees_275 : decode cX12_trees 275 = .ok (.aload_n 0, 1) := by decide +kernel
theorem dX12_trees_276 : decode cX12_trees 276 = .ok (.getfield 118, 3) := by decide +kernel
theorem dX12_trees_279 : decode cX12_trees 279 = .ok (.iconst 1, 1) := by decide +kernel
theorem dX12_trees_280 : decode cX12_trees 280 = .ok (.iload_n 2, 1) := by decide +kernel
theorem dX12_trees_281 : decode cX12_trees 281 = .ok (.ishl, 1) := by decide +kernel
theorem dX12_trees_282 : decode cX12_trees 282 = .ok (.iconst 1, 1) := by decide +kernel
theorem dX12_trees_283 : decode cX12_trees 283 = .ok (.isub, 1) := by decide +kernel
theorem dX12_trees_284 : decode cX12_trees 284 = .ok (.laload, 1) := by decide +kernel
theorem dX12_trees_285 : decode cX12_trees 285 = .ok (.lreturn, 1) := by decide +kernel
theorem kX12_366 : Cond.constantLong RX12 366 1000000007 ∈ g_ws (gS, X) := (tb_t (k := 1584) (w := Cond.constantLong RX12 366 1000000007) (by decide +kernel))
theorem dX12_light_0 : decode cX12_light 0 = .ok (.aload_n 0, 1) := by decide +kernel
theorem dX12_light_1 : decode cX12_light 1 = .ok (.getfield 13, 3) := by decide +kernel
theorem dX12_light_4 : decode cX12_light 4 = .ok (.iload_n 1, 1) := by decide +kernel
theorem dX12_light_5 : decode cX12_light 5 = .ok (.iaload, 1) := by decide +kernel
theorem dX12_light_6 : decode cX12_light 6 = .ok (.istore_n 3, 1) := by decide +kernel
theorem dX12_light_7 : decode cX12_light 7 = .ok (.iconst 0, 1) := by decide +kernel
theorem dX12_light_8 : decode cX12_light 8 = .ok (.istore 4, 2) := by decide +kernel
theorem dX12_light_10 : decode cX12_light 10 = .ok (.iload 4, 2) := by decide +kernel
theorem dX12_light_12 : decode cX12_light 12 = .ok (.iload_n 3, 1) := by decide +kernel
theorem dX12_light_13 : decode cX12_light 13 = .ok (.if_icmp .ge 18, 3) := by decide +kernel
theorem dX12_light_16 : decode cX12_light 16 = .ok (.aload_n 0, 1) := by decide +kernel
theorem dX12_light_17 : decode cX12_light 17 = .ok (.getfield 121, 3) := by decide +kernel
theorem dX12_light_20 : decode cX12_light 20 = .ok (.iload 4, 2) := by decide +kernel
theorem dX12_light_22 : decode cX12_light 22 = .ok (.iload 4, 2) := by decide +kernel
theorem dX12_light_24 : decode cX12_light 24 = .ok (.iastore, 1) := by decide +kernel
theorem dX12_light_25 : decode cX12_light 25 = .ok (.iinc 4 1, 3) := by decide +kernel
theorem dX12_light_28 : decode cX12_light 28 = .ok (.goto (-18), 3) := by decide +kernel
theorem dX12_light_31 : decode cX12_light 31 = .ok (.lconst 0, 1) := by decide +kernel
theorem dX12_light_32 : decode cX12_light 32 = .ok (.lstore 4, 2) := by decide +kernel
theorem dX12_light_34 : decode cX12_light 34 = .ok (.iconst 0, 1) := by decide +kernel
theorem dX12_light_35 : decode cX12_light 35 = .ok (.istore 6, 2) := by decide +kernel
theorem dX12_light_37 : decode cX12_light 37 = .ok (.sipush (-1000), 3) := by decide +kernel
theorem dX12_light_40 : decode cX12_light 40 = .ok (.istore 7, 2) := by decide +kernel
theorem dX12_light_42 : decode cX12_light 42 = .ok (.iload 7, 2) := by decide +kernel
theorem dX12_light_44 : decode cX12_light 44 = .ok (.sipush 1000, 3) := by decide +kernel
theorem dX12_light_47 : decode cX12_light 47 = .ok (.if_icmp .gt 156, 3) := by decide +kernel
theorem dX12_light_50 : decode cX12_light 50 = .ok (.iconst 0, 1) := by decide +kernel
theorem dX12_light_51 : decode cX12_light 51 = .ok (.istore 8, 2) := by decide +kernel
theorem dX12_light_53 : decode cX12_light 53 = .ok (.iload 8, 2) := by decide +kernel
theorem dX12_light_55 : decode cX12_light 55 = .ok (.aload_n 0, 1) := by decide +kernel
theorem dX12_light_56 : decode cX12_light 56 = .ok (.getfield 20, 3) := by decide +kernel
theorem dX12_light_59 : decode cX12_light 59 = .ok (.iload_n 1, 1) := by decide +kernel
theorem dX12_light_60 : decode cX12_light 60 = .ok (.iaload, 1) := by decide +kernel
theorem dX12_light_61 : decode cX12_light 61 = .ok (.if_icmp .ge 136, 3) := by decide +kernel
theorem dX12_light_64 : decode cX12_light 64 = .ok (.iload_n 1, 1) := by decide +kernel
theorem dX12_light_65 : decode cX12_light 65 = .ok (.iload 8, 2) := by decide +kernel
theorem dX12_light_67 : decode cX12_light 67 = .ok (.invokestatic 157, 3) := by decide +kernel
theorem dX12_light_70 : decode cX12_light 70 = .ok (.istore 9, 2) := by decide +kernel
theorem dX12_light_72 : decode cX12_light 72 = .ok (.aload_n 0, 1) := by decide +kernel
theorem dX12_light_73 : decode cX12_light 73 = .ok (.getfield 121, 3) := by decide +kernel
theorem dX12_light_76 : decode cX12_light 76 = .ok (.aload_n 0, 1) := by decide +kernel
theorem dX12_light_77 : decode cX12_light 77 = .ok (.getfield 23, 3) := by decide +kernel
theorem dX12_light_80 : decode cX12_light 80 = .ok (.iload 9, 2) := by decide +kernel
theorem dX12_light_82 : decode cX12_light 82 = .ok (.iaload, 1) := by decide +kernel
theorem dX12_light_83 : decode cX12_light 83 = .ok (.iaload, 1) := by decide +kernel
theorem dX12_light_84 : decode cX12_light 84 = .ok (.istore 10, 2) := by decide +kernel
theorem dX12_light_86 : decode cX12_light 86 = .ok (.aload_n 0, 1) := by decide +kernel
theorem dX12_light_87 : decode cX12_light 87 = .ok (.getfield 121, 3) := by decide +kernel
theorem dX12_light_90 : decode cX12_light 90 = .ok (.aload_n 0, 1) := by decide +kernel
theorem dX12_light_91 : decode cX12_light 91 = .ok (.getfield 26, 3) := by decide +kernel
theorem dX12_light_94 : decode cX12_light 94 = .ok (.iload 9, 2) := by decide +kernel
theorem dX12_light_96 : decode cX12_light 96 = .ok (.iaload, 1) := by decide +kernel
theorem dX12_light_97 : decode cX12_light 97 = .ok (.iaload, 1) := by decide +kernel
theorem dX12_light_98 : decode cX12_light 98 = .ok (.istore 11, 2) := by decide +kernel
theorem dX12_light_100 : decode cX12_light 100 = .ok (.aload_n 0, 1) := by decide +kernel
theorem dX12_light_101 : decode cX12_light 101 = .ok (.getfield 29, 3) := by decide +kernel
theorem dX12_light_104 : decode cX12_light 104 = .ok (.iload 9, 2) := by decide +kernel
theorem dX12_light_106 : decode cX12_light 106 = .ok (.iaload, 1) := by decide +kernel
theorem dX12_light_107 : decode cX12_light 107 = .ok (.iload 7, 2) := by decide +kernel
theorem dX12_light_109 : decode cX12_light 109 = .ok (.if_icmp .ne 82, 3) := by decide +kernel
theorem dX12_light_112 : decode cX12_light 112 = .ok (.iload 10, 2) := by decide +kernel
theorem dX12_light_114 : decode cX12_light 114 = .ok (.iload 11, 2) := by decide +kernel
theorem dX12_light_116 : decode cX12_light 116 = .ok (.if_icmp .eq 75, 3) := by decide +kernel
theorem dX12_light_119 : decode cX12_light 119 = .ok (.lload 4, 2) := by decide +kernel
theorem dX12_light_121 : decode cX12_light 121 = .ok (.iload 7, 2) := by decide +kernel
theorem dX12_light_123 : decode cX12_light 123 = .ok (.i2l, 1) := by decide +kernel
theorem dX12_light_124 : decode cX12_light 124 = .ok (.ladd, 1) := by decide +kernel
theorem dX12_light_125 : decode cX12_light 125 = .ok (.lstore 4, 2) := by decide +kernel
theorem dX12_light_127 : decode cX12_light 127 = .ok (.iload 6, 2) := by decide +kernel
theorem dX12_light_129 : decode cX12_light 129 = .ok (.ifCond .ne 9, 3) := by decide +kernel
theorem dX12_light_132 : decode cX12_light 132 = .ok (.iload 8, 2) := by decide +kernel
theorem dX12_light_134 : decode cX12_light 134 = .ok (.iload_n 2, 1) := by decide +kernel
theorem dX12_light_135 : decode cX12_light 135 = .ok (.if_icmp .ne 7, 3) := by decide +kernel
theorem dX12_light_138 : decode cX12_light 138 = .ok (.iconst 1, 1) := by decide +kernel
theorem dX12_light_139 : decode cX12_light 139 = .ok (.goto 4, 3) := by decide +kernel
theorem dX12_light_142 : decode cX12_light 142 = .ok (.iconst 0, 1) := by decide +kernel
theorem dX12_light_143 : decode cX12_light 143 = .ok (.istore 6, 2) := by decide +kernel
theorem dX12_light_145 : decode cX12_light 145 = .ok (.iconst 0, 1) := by decide +kernel
theorem dX12_light_146 : decode cX12_light 146 = .ok (.istore 12, 2) := by decide +kernel
theorem dX12_light_148 : decode cX12_light 148 = .ok (.iload 12, 2) := by decide +kernel
theorem dX12_light_150 : decode cX12_light 150 = .ok (.iload_n 3, 1) := by decide +kernel
theorem dX12_light_151 : decode cX12_light 151 = .ok (.if_icmp .ge 40, 3) := by decide +kernel
theorem dX12_light_154 : decode cX12_light 154 = .ok (.aload_n 0, 1) := by decide +kernel
theorem dX12_light_155 : decode cX12_light 155 = .ok (.getfield 121, 3) := by decide +kernel
theorem dX12_light_158 : decode cX12_light 158 = .ok (.iload 12, 2) := by decide +kernel
theorem dX12_light_160 : decode cX12_light 160 = .ok (.aload_n 0, 1) := by decide +kernel
theorem dX12_light_161 : decode cX12_light 161 = .ok (.getfield 121, 3) := by decide +kernel
theorem dX12_light_164 : decode cX12_light 164 = .ok (.iload 12, 2) := by decide +kernel
theorem dX12_light_166 : decode cX12_light 166 = .ok (.iaload, 1) := by decide +kernel
theorem dX12_light_167 : decode cX12_light 167 = .ok (.iload 11, 2) := by decide +kernel
theorem dX12_light_169 : decode cX12_light 169 = .ok (.if_icmp .ne 8, 3) := by decide +kernel
theorem dX12_light_172 : decode cX12_light 172 = .ok (.iload 10, 2) := by decide +kernel
theorem dX12_light_174 : decode cX12_light 174 = .ok (.goto 10, 3) := by decide +kernel
theorem dX12_light_177 : decode cX12_light 177 = .ok (.aload_n 0, 1) := by decide +kernel
theorem dX12_light_178 : decode cX12_light 178 = .ok (.getfield 121, 3) := by decide +kernel
theorem dX12_light_181 : decode cX12_light 181 = .ok (.iload 12, 2) := by decide +kernel
theorem dX12_light_183 : decode cX12_light 183 = .ok (.iaload, 1) := by decide +kernel
theorem dX12_light_184 : decode cX12_light 184 = .ok (.iastore, 1) := by decide +kernel
theorem dX12_light_185 : decode cX12_light 185 = .ok (.iinc 12 1, 3) := by decide +kernel
theorem dX12_light_188 : decode cX12_light 188 = .ok (.goto (-40), 3) := by decide +kernel
theorem dX12_light_191 : decode cX12_light 191 = .ok (.iinc 8 1, 3) := by decide +kernel
theorem dX12_light_194 : decode cX12_light 194 = .ok (.goto (-141), 3) := by decide +kernel
theorem dX12_light_197 : decode cX12_light 197 = .ok (.iinc 7 1, 3) := by decide +kernel
theorem dX12_light_200 : decode cX12_light 200 = .ok (.goto (-158), 3) := by decide +kernel
theorem dX12_light_203 : decode cX12_light 203 = .ok (.iload_n 2, 1) := by decide +kernel
theorem dX12_light_204 : decode cX12_light 204 = .ok (.ifCond .ge 8, 3) := by decide +kernel
theorem dX12_light_207 : decode cX12_light 207 = .ok (.lload 4, 2) := by decide +kernel
theorem dX12_light_209 : decode cX12_light 209 = .ok (.goto 13, 3) := by decide +kernel
theorem dX12_light_212 : decode cX12_light 212 = .ok (.iload 6, 2) := by decide +kernel
theorem dX12_light_214 : decode cX12_light 214 = .ok (.ifCond .eq 7, 3) := by decide +kernel
theorem dX12_light_217 : decode cX12_light 217 = .ok (.lconst 1, 1) := by decide +kernel
theorem dX12_light_218 : decode cX12_light 218 = .ok (.goto 4, 3) := by decide +kernel
theorem dX12_light_221 : decode cX12_light 221 = .ok (.lconst 0, 1) := by decide +kernel
theorem dX12_light_222 : decode cX12_light 222 = .ok (.lreturn, 1) := by decide +kernel
theorem dX12_out_0 : decode cX12_out 0 = .ok (.lconst 0, 1) := by decide +kernel
theorem dX12_out_1 : decode cX12_out 1 = .ok (.lstore 4, 2) := by decide +kernel
theorem dX12_out_3 : decode cX12_out 3 = .ok (.iconst 0, 1) := by decide +kernel
theorem dX12_out_4 : decode cX12_out 4 = .ok (.istore 6, 2) := by decide +kernel
theorem dX12_out_6 : decode cX12_out 6 = .ok (.iload 6, 2) := by decide +kernel
theorem dX12_out_8 : decode cX12_out 8 = .ok (.aload_n 0, 1) := by decide +kernel
theorem dX12_out_9 : decode cX12_out 9 = .ok (.getfield 20, 3) := by decide +kernel
theorem dX12_out_12 : decode cX12_out 12 = .ok (.iload_n 1, 1) := by decide +kernel
theorem dX12_out_13 : decode cX12_out 13 = .ok (.iaload, 1) := by decide +kernel
theorem dX12_out_14 : decode cX12_out 14 = .ok (.if_icmp .ge 125, 3) := by decide +kernel
theorem dX12_out_17 : decode cX12_out 17 = .ok (.iload_n 1, 1) := by decide +kernel
theorem dX12_out_18 : decode cX12_out 18 = .ok (.iload 6, 2) := by decide +kernel
theorem dX12_out_20 : decode cX12_out 20 = .ok (.invokestatic 157, 3) := by decide +kernel
theorem dX12_out_23 : decode cX12_out 23 = .ok (.istore 7, 2) := by decide +kernel
theorem dX12_out_25 : decode cX12_out 25 = .ok (.iload_n 2, 1) := by decide +kernel
theorem dX12_out_26 : decode cX12_out 26 = .ok (.aload_n 0, 1) := by decide +kernel
theorem dX12_out_27 : decode cX12_out 27 = .ok (.getfield 23, 3) := by decide +kernel
theorem dX12_out_30 : decode cX12_out 30 = .ok (.iload 7, 2) := by decide +kernel
theorem dX12_out_32 : decode cX12_out 32 = .ok (.iaload, 1) := by decide +kernel
theorem dX12_out_33 : decode cX12_out 33 = .ok (.ishr, 1) := by decide +kernel
theorem dX12_out_34 : decode cX12_out 34 = .ok (.iconst 1, 1) := by decide +kernel
theorem dX12_out_35 : decode cX12_out 35 = .ok (.iand, 1) := by decide +kernel
theorem dX12_out_36 : decode cX12_out 36 = .ok (.iconst 1, 1) := by decide +kernel
theorem dX12_out_37 : decode cX12_out 37 = .ok (.if_icmp .ne 7, 3) := by decide +kernel
theorem dX12_out_40 : decode cX12_out 40 = .ok (.iconst 1, 1) := by decide +kernel
theorem dX12_out_41 : decode cX12_out 41 = .ok (.goto 4, 3) := by decide +kernel
theorem dX12_out_44 : decode cX12_out 44 = .ok (.iconst 0, 1) := by decide +kernel
theorem dX12_out_45 : decode cX12_out 45 = .ok (.istore 8, 2) := by decide +kernel
theorem dX12_out_47 : decode cX12_out 47 = .ok (.iload_n 2, 1) := by decide +kernel
theorem dX12_out_48 : decode cX12_out 48 = .ok (.aload_n 0, 1) := by decide +kernel
theorem dX12_out_49 : decode cX12_out 49 = .ok (.getfield 26, 3) := by decide +kernel
theorem dX12_out_52 : decode cX12_out 52 = .ok (.iload 7, 2) := by decide +kernel
theorem dX12_out_54 : decode cX12_out 54 = .ok (.iaload, 1) := by decide +kernel
theorem dX12_out_55 : decode cX12_out 55 = .ok (.ishr, 1) := by decide +kernel
theorem dX12_out_56 : decode cX12_out 56 = .ok (.iconst 1, 1) := by decide +kernel
theorem dX12_out_57 : decode cX12_out 57 = .ok (.iand, 1) := by decide +kernel
theorem dX12_out_58 : decode cX12_out 58 = .ok (.iconst 1, 1) := by decide +kernel
theorem dX12_out_59 : decode cX12_out 59 = .ok (.if_icmp .ne 7, 3) := by decide +kernel
theorem dX12_out_62 : decode cX12_out 62 = .ok (.iconst 1, 1) := by decide +kernel
theorem dX12_out_63 : decode cX12_out 63 = .ok (.goto 4, 3) := by decide +kernel
theorem dX12_out_66 : decode cX12_out 66 = .ok (.iconst 0, 1) := by decide +kernel
theorem dX12_out_67 : decode cX12_out 67 = .ok (.istore 9, 2) := by decide +kernel
theorem dX12_out_69 : decode cX12_out 69 = .ok (.iload 8, 2) := by decide +kernel
theorem dX12_out_71 : decode cX12_out 71 = .ok (.ifCond .eq 8, 3) := by decide +kernel
theorem dX12_out_74 : decode cX12_out 74 = .ok (.iload 9, 2) := by decide +kernel
theorem dX12_out_76 : decode cX12_out 76 = .ok (.ifCond .eq 22, 3) := by decide +kernel
theorem dX12_out_79 : decode cX12_out 79 = .ok (.aload_n 0, 1) := by decide +kernel
theorem dX12_out_80 : decode cX12_out 80 = .ok (.getfield 16, 3) := by decide +kernel
theorem dX12_out_83 : decode cX12_out 83 = .ok (.iload_n 1, 1) := by decide +kernel
theorem dX12_out_84 : decode cX12_out 84 = .ok (.baload, 1) := by decide +kernel
theorem dX12_out_85 : decode cX12_out 85 = .ok (.ifCond .ne 48, 3) := by decide +kernel
theorem dX12_out_88 : decode cX12_out 88 = .ok (.iload 9, 2) := by decide +kernel
theorem dX12_out_90 : decode cX12_out 90 = .ok (.ifCond .eq 43, 3) := by decide +kernel
theorem dX12_out_93 : decode cX12_out 93 = .ok (.iload 8, 2) := by decide +kernel
theorem dX12_out_95 : decode cX12_out 95 = .ok (.ifCond .ne 38, 3) := by decide +kernel
theorem dX12_out_98 : decode cX12_out 98 = .ok (.lload 4, 2) := by decide +kernel
theorem dX12_out_100 : decode cX12_out 100 = .ok (.iload_n 3, 1) := by decide +kernel
theorem dX12_out_101 : decode cX12_out 101 = .ok (.ifCond .eq 7, 3) := by decide +kernel
theorem dX12_out_104 : decode cX12_out 104 = .ok (.lconst 1, 1) := by decide +kernel
theorem dX12_out_105 : decode cX12_out 105 = .ok (.goto 25, 3) := by decide +kernel
theorem dX12_out_108 : decode cX12_out 108 = .ok (.aload_n 0, 1) := by decide +kernel
theorem dX12_out_109 : decode cX12_out 109 = .ok (.getfield 29, 3) := by decide +kernel
theorem dX12_out_112 : decode cX12_out 112 = .ok (.iload 7, 2) := by decide +kernel
theorem dX12_out_114 : decode cX12_out 114 = .ok (.iaload, 1) := by decide +kernel
theorem dX12_out_115 : decode cX12_out 115 = .ok (.ifCond .le 14, 3) := by decide +kernel
theorem dX12_out_118 : decode cX12_out 118 = .ok (.aload_n 0, 1) := by decide +kernel
theorem dX12_out_119 : decode cX12_out 119 = .ok (.getfield 29, 3) := by decide +kernel
theorem dX12_out_122 : decode cX12_out 122 = .ok (.iload 7, 2) := by decide +kernel
theorem dX12_out_124 : decode cX12_out 124 = .ok (.iaload, 1) := by decide +kernel
theorem dX12_out_125 : decode cX12_out 125 = .ok (.i2l, 1) := by decide +kernel
theorem dX12_out_126 : decode cX12_out 126 = .ok (.goto 4, 3) := by decide +kernel
theorem dX12_out_129 : decode cX12_out 129 = .ok (.lconst 0, 1) := by decide +kernel
theorem dX12_out_130 : decode cX12_out 130 = .ok (.ladd, 1) := by decide +kernel
theorem dX12_out_131 : decode cX12_out 131 = .ok (.lstore 4, 2) := by decide +kernel
theorem dX12_out_133 : decode cX12_out 133 = .ok (.iinc 6 1, 3) := by decide +kernel
theorem dX12_out_136 : decode cX12_out 136 = .ok (.goto (-130), 3) := by decide +kernel
theorem dX12_out_139 : decode cX12_out 139 = .ok (.lload 4, 2) := by decide +kernel
theorem dX12_out_141 : decode cX12_out 141 = .ok (.lreturn, 1) := by decide +kernel
theorem dX12_cut_0 : decode cX12_cut 0 = .ok (.ldc2_w 251, 3) := by decide +kernel
theorem dX12_cut_3 : decode cX12_cut 3 = .ok (.lstore 5, 2) := by decide +kernel
theorem dX12_cut_5 : decode cX12_cut 5 = .ok (.iconst 0, 1) := by decide +kernel
theorem dX12_cut_6 : decode cX12_cut 6 = .ok (.istore 7, 2) := by decide +kernel
theorem dX12_cut_8 : decode cX12_cut 8 = .ok (.iload 7, 2) := by decide +kernel
theorem dX12_cut_10 : decode cX12_cut 10 = .ok (.iconst 1, 1) := by decide +kernel
theorem dX12_cut_11 : decode cX12_cut 11 = .ok (.aload_n 0, 1) := by decide +kernel
theorem dX12_cut_12 : decode cX12_cut 12 = .ok (.getfield 13, 3) := by decide +kernel
theorem dX12_cut_15 : decode cX12_cut 15 = .ok (.iload_n 1, 1) := by decide +kernel
theorem dX12_cut_16 : decode cX12_cut 16 = .ok (.iaload, 1) := by decide +kernel
theorem dX12_cut_17 : decode cX12_cut 17 = .ok (.ishl, 1) := by decide +kernel
theorem dX12_cut_18 : decode cX12_cut 18 = .ok (.if_icmp .ge 56, 3) := by decide +kernel
theorem dX12_cut_21 : decode cX12_cut 21 = .ok (.iload 7, 2) := by decide +kernel
theorem dX12_cut_23 : decode cX12_cut 23 = .ok (.iload_n 2, 1) := by decide +kernel
theorem dX12_cut_24 : decode cX12_cut 24 = .ok (.ishr, 1) := by decide +kernel
theorem dX12_cut_25 : decode cX12_cut 25 = .ok (.iconst 1, 1) := by decide +kernel
theorem dX12_cut_26 : decode cX12_cut 26 = .ok (.iand, 1) := by decide +kernel
theorem dX12_cut_27 : decode cX12_cut 27 = .ok (.iconst 1, 1) := by decide +kernel
theorem dX12_cut_28 : decode cX12_cut 28 = .ok (.if_icmp .ne 40, 3) := by decide +kernel
theorem dX12_cut_31 : decode cX12_cut 31 = .ok (.iload 7, 2) := by decide +kernel
theorem dX12_cut_33 : decode cX12_cut 33 = .ok (.iload_n 3, 1) := by decide +kernel
theorem dX12_cut_34 : decode cX12_cut 34 = .ok (.ishr, 1) := by decide +kernel
theorem dX12_cut_35 : decode cX12_cut 35 = .ok (.iconst 1, 1) := by decide +kernel
theorem dX12_cut_36 : decode cX12_cut 36 = .ok (.iand, 1) := by decide +kernel
theorem dX12_cut_37 : decode cX12_cut 37 = .ok (.ifCond .ne 31, 3) := by decide +kernel
theorem dX12_cut_40 : decode cX12_cut 40 = .ok (.aload_n 0, 1) := by decide +kernel
theorem dX12_cut_41 : decode cX12_cut 41 = .ok (.iload_n 1, 1) := by decide +kernel
theorem dX12_cut_42 : decode cX12_cut 42 = .ok (.iload 7, 2) := by decide +kernel
theorem dX12_cut_44 : decode cX12_cut 44 = .ok (.iload 4, 2) := by decide +kernel
theorem dX12_cut_46 : decode cX12_cut 46 = .ok (.invokevirtual 368, 3) := by decide +kernel
theorem dX12_cut_49 : decode cX12_cut 49 = .ok (.lstore 8, 2) := by decide +kernel
theorem dX12_cut_51 : decode cX12_cut 51 = .ok (.lload 8, 2) := by decide +kernel
theorem dX12_cut_53 : decode cX12_cut 53 = .ok (.lload 5, 2) := by decide +kernel
theorem dX12_cut_55 : decode cX12_cut 55 = .ok (.lcmp, 1) := by decide +kernel
theorem dX12_cut_56 : decode cX12_cut 56 = .ok (.ifCond .ge 8, 3) := by decide +kernel
theorem dX12_cut_59 : decode cX12_cut 59 = .ok (.lload 8, 2) := by decide +kernel
theorem dX12_cut_61 : decode cX12_cut 61 = .ok (.goto 5, 3) := by decide +kernel
theorem dX12_cut_64 : decode cX12_cut 64 = .ok (.lload 5, 2) := by decide +kernel
theorem dX12_cut_66 : decode cX12_cut 66 = .ok (.lstore 5, 2) := by decide +kernel
theorem dX12_cut_68 : decode cX12_cut 68 = .ok (.iinc 7 1, 3) := by decide +kernel
theorem dX12_cut_71 : decode cX12_cut 71 = .ok (.goto (-63), 3) := by decide +kernel
theorem dX12_cut_74 : decode cX12_cut 74 = .ok (.lload 5, 2) := by decide +kernel
theorem dX12_cut_76 : decode cX12_cut 76 = .ok (.lreturn, 1) := by decide +kernel
theorem kX12_368 : lkK (gS, X) RX12 368 mX12_out 3 ∧ Cond.instanceMethod yX12_out ∈ g_ws (gS, X) ∧ Cond.selects RX12 yX12_out yX12_out ∈ g_ws (gS, X) ∧ yX12_out.cls = RX12 := ⟨⟨tb_good, (tb_t (k := 1593) (w := Cond.methodLink RX12 368 yX12_out) (by decide +kernel)), (tb_t (k := 8) (w := Cond.initialized RX12) (by decide +kernel)), (tb_t (k := 1596) (w := Cond.code yX12_out cX12_out 10 (some .long)) (by decide +kernel)), by decide +kernel, by decide⟩, (tb_t (k := 1595) (w := Cond.instanceMethod yX12_out) (by decide +kernel)), (tb_p (k := 128) (q := (yX12_out, 45)) (by decide +kernel)), rfl⟩
theorem dX12_cutSet_0 : decode cX12_cutSet 0 = .ok (.aload_n 0, 1) := by decide +kernel
theorem dX12_cutSet_1 : decode cX12_cutSet 1 = .ok (.iload_n 1, 1) := by decide +kernel
theorem dX12_cutSet_2 : decode cX12_cutSet 2 = .ok (.iload_n 2, 1) := by decide +kernel
theorem dX12_cutSet_3 : decode cX12_cutSet 3 = .ok (.iload_n 3, 1) := by decide +kernel
theorem dX12_cutSet_4 : decode cX12_cutSet 4 = .ok (.iconst 0, 1) := by decide +kernel
theorem dX12_cutSet_5 : decode cX12_cutSet 5 = .ok (.invokevirtual 343, 3) := by decide +kernel
theorem dX12_cutSet_8 : decode cX12_cutSet 8 = .ok (.lstore 4, 2) := by decide +kernel
theorem dX12_cutSet_10 : decode cX12_cutSet 10 = .ok (.iconst 0, 1) := by decide +kernel
theorem dX12_cutSet_11 : decode cX12_cutSet 11 = .ok (.istore 6, 2) := by decide +kernel
theorem dX12_cutSet_13 : decode cX12_cutSet 13 = .ok (.iload 6, 2) := by decide +kernel
theorem dX12_cutSet_15 : decode cX12_cutSet 15 = .ok (.iconst 1, 1) := by decide +kernel
theorem dX12_cutSet_16 : decode cX12_cutSet 16 = .ok (.aload_n 0, 1) := by decide +kernel
theorem dX12_cutSet_17 : decode cX12_cutSet 17 = .ok (.getfield 13, 3) := by decide +kernel
theorem dX12_cutSet_20 : decode cX12_cutSet 20 = .ok (.iload_n 1, 1) := by decide +kernel
theorem dX12_cutSet_21 : decode cX12_cutSet 21 = .ok (.iaload, 1) := by decide +kernel
theorem dX12_cutSet_22 : decode cX12_cutSet 22 = .ok (.ishl, 1) := by decide +kernel
theorem dX12_cutSet_23 : decode cX12_cutSet 23 = .ok (.if_icmp .ge 46, 3) := by decide +kernel
theorem dX12_cutSet_26 : decode cX12_cutSet 26 = .ok (.iload 6, 2) := by decide +kernel
theorem dX12_cutSet_28 : decode cX12_cutSet 28 = .ok (.iload_n 2, 1) := by decide +kernel
theorem dX12_cutSet_29 : decode cX12_cutSet 29 = .ok (.ishr, 1) := by decide +kernel
theorem dX12_cutSet_30 : decode cX12_cutSet 30 = .ok (.iconst 1, 1) := by decide +kernel
theorem dX12_cutSet_31 : decode cX12_cutSet 31 = .ok (.iand, 1) := by decide +kernel
theorem dX12_cutSet_32 : decode cX12_cutSet 32 = .ok (.iconst 1, 1) := by decide +kernel
theorem dX12_cutSet_33 : decode cX12_cutSet 33 = .ok (.if_icmp .ne 30, 3) := by decide +kernel
theorem dX12_cutSet_36 : decode cX12_cutSet 36 = .ok (.iload 6, 2) := by decide +kernel
theorem dX12_cutSet_38 : decode cX12_cutSet 38 = .ok (.iload_n 3, 1) := by decide +kernel
theorem dX12_cutSet_39 : decode cX12_cutSet 39 = .ok (.ishr, 1) := by decide +kernel
theorem dX12_cutSet_40 : decode cX12_cutSet 40 = .ok (.iconst 1, 1) := by decide +kernel
theorem dX12_cutSet_41 : decode cX12_cutSet 41 = .ok (.iand, 1) := by decide +kernel
theorem dX12_cutSet_42 : decode cX12_cutSet 42 = .ok (.ifCond .ne 21, 3) := by decide +kernel
theorem dX12_cutSet_45 : decode cX12_cutSet 45 = .ok (.aload_n 0, 1) := by decide +kernel
theorem dX12_cutSet_46 : decode cX12_cutSet 46 = .ok (.iload_n 1, 1) := by decide +kernel
theorem dX12_cutSet_47 : decode cX12_cutSet 47 = .ok (.iload 6, 2) := by decide +kernel
theorem dX12_cutSet_49 : decode cX12_cutSet 49 = .ok (.iconst 0, 1) := by decide +kernel
theorem dX12_cutSet_50 : decode cX12_cutSet 50 = .ok (.invokevirtual 368, 3) := by decide +kernel
theorem dX12_cutSet_53 : decode cX12_cutSet 53 = .ok (.lload 4, 2) := by decide +kernel
theorem dX12_cutSet_55 : decode cX12_cutSet 55 = .ok (.lcmp, 1) := by decide +kernel
theorem dX12_cutSet_56 : decode cX12_cutSet 56 = .ok (.ifCond .ne 7, 3) := by decide +kernel
theorem dX12_cutSet_59 : decode cX12_cutSet 59 = .ok (.iload 6, 2) := by decide +kernel
theorem dX12_cutSet_61 : decode cX12_cutSet 61 = .ok (.i2l, 1) := by decide +kernel
theorem dX12_cutSet_62 : decode cX12_cutSet 62 = .ok (.lreturn, 1) := by decide +kernel
theorem dX12_cutSet_63 : decode cX12_cutSet 63 = .ok (.iinc 6 1, 3) := by decide +kernel
theorem dX12_cutSet_66 : decode cX12_cutSet 66 = .ok (.goto (-53), 3) := by decide +kernel
theorem dX12_cutSet_69 : decode cX12_cutSet 69 = .ok (.lconst 0, 1) := by decide +kernel
theorem dX12_cutSet_70 : decode cX12_cutSet 70 = .ok (.lreturn, 1) := by decide +kernel
theorem dX12_roomOf_0 : decode cX12_roomOf 0 = .ok (.aload_n 0, 1) := by decide +kernel
theorem dX12_roomOf_1 : decode cX12_roomOf 1 = .ok (.getfield 29, 3) := by decide +kernel
theorem dX12_roomOf_4 : decode cX12_roomOf 4 = .ok (.iload_n 1, 1) := by decide +kernel
theorem dX12_roomOf_5 : decode cX12_roomOf 5 = .ok (.iload_n 2, 1) := by decide +kernel
theorem dX12_roomOf_6 : decode cX12_roomOf 6 = .ok (.invokestatic 157, 3) := by decide +kernel
theorem dX12_roomOf_9 : decode cX12_roomOf 9 = .ok (.iaload, 1) := by decide +kernel
theorem dX12_roomOf_10 : decode cX12_roomOf 10 = .ok (.ifCond .le 16, 3) := by decide +kernel
theorem dX12_roomOf_13 : decode cX12_roomOf 13 = .ok (.aload_n 0, 1) := by decide +kernel
theorem dX12_roomOf_14 : decode cX12_roomOf 14 = .ok (.getfield 29, 3) := by decide +kernel
theorem dX12_roomOf_17 : decode cX12_roomOf 17 = .ok (.iload_n 1, 1) := by decide +kernel
theorem dX12_roomOf_18 : decode cX12_roomOf 18 = .ok (.iload_n 2, 1) := by decide +kernel
theorem dX12_roomOf_19 : decode cX12_roomOf 19 = .ok (.invokestatic 157, 3) := by decide +kernel
theorem dX12_roomOf_22 : decode cX12_roomOf 22 = .ok (.iaload, 1) := by decide +kernel
theorem dX12_roomOf_23 : decode cX12_roomOf 23 = .ok (.goto 4, 3) := by decide +kernel
theorem dX12_roomOf_26 : decode cX12_roomOf 26 = .ok (.iconst 0, 1) := by decide +kernel
theorem dX12_roomOf_27 : decode cX12_roomOf 27 = .ok (.istore 4, 2) := by decide +kernel
theorem dX12_roomOf_29 : decode cX12_roomOf 29 = .ok (.iload_n 3, 1) := by decide +kernel
theorem dX12_roomOf_30 : decode cX12_roomOf 30 = .ok (.ifCond .eq 32, 3) := by decide +kernel
theorem dX12_roomOf_33 : decode cX12_roomOf 33 = .ok (.aload_n 0, 1) := by decide +kernel
theorem dX12_roomOf_34 : decode cX12_roomOf 34 = .ok (.getfield 124, 3) := by decide +kernel
theorem dX12_roomOf_37 : decode cX12_roomOf 37 = .ok (.iload_n 2, 1) := by decide +kernel
theorem dX12_roomOf_38 : decode cX12_roomOf 38 = .ok (.iaload, 1) := by decide +kernel
theorem dX12_roomOf_39 : decode cX12_roomOf 39 = .ok (.ifCond .ge 13, 3) := by decide +kernel
theorem dX12_roomOf_42 : decode cX12_roomOf 42 = .ok (.aload_n 0, 1) := by decide +kernel
theorem dX12_roomOf_43 : decode cX12_roomOf 43 = .ok (.getfield 124, 3) := by decide +kernel
theorem dX12_roomOf_46 : decode cX12_roomOf 46 = .ok (.iload_n 2, 1) := by decide +kernel
theorem dX12_roomOf_47 : decode cX12_roomOf 47 = .ok (.iaload, 1) := by decide +kernel
theorem dX12_roomOf_48 : decode cX12_roomOf 48 = .ok (.ineg, 1) := by decide +kernel
theorem dX12_roomOf_49 : decode cX12_roomOf 49 = .ok (.goto 12, 3) := by decide +kernel
theorem dX12_roomOf_52 : decode cX12_roomOf 52 = .ok (.iload 4, 2) := by decide +kernel
theorem dX12_roomOf_54 : decode cX12_roomOf 54 = .ok (.aload_n 0, 1) := by decide +kernel
theorem dX12_roomOf_55 : decode cX12_roomOf 55 = .ok (.getfield 124, 3) := by decide +kernel
theorem dX12_roomOf_58 : decode cX12_roomOf 58 = .ok (.iload_n 2, 1) := by decide +kernel
theorem dX12_roomOf_59 : decode cX12_roomOf 59 = .ok (.iaload, 1) := by decide +kernel
theorem dX12_roomOf_60 : decode cX12_roomOf 60 = .ok (.isub, 1) := by decide +kernel
theorem dX12_roomOf_61 : decode cX12_roomOf 61 = .ok (.ireturn, 1) := by decide +kernel
theorem dX12_roomOf_62 : decode cX12_roomOf 62 = .ok (.aload_n 0, 1) := by decide +kernel
theorem dX12_roomOf_63 : decode cX12_roomOf 63 = .ok (.getfield 124, 3) := by decide +kernel
theorem dX12_roomOf_66 : decode cX12_roomOf 66 = .ok (.iload_n 2, 1) := by decide +kernel
theorem dX12_roomOf_67 : decode cX12_roomOf 67 = .ok (.iaload, 1) := by decide +kernel
theorem dX12_roomOf_68 : decode cX12_roomOf 68 = .ok (.ifCond .le 12, 3) := by decide +kernel
theorem dX12_roomOf_71 : decode cX12_roomOf 71 = .ok (.aload_n 0, 1) := by decide +kernel
theorem dX12_roomOf_72 : decode cX12_roomOf 72 = .ok (.getfield 124, 3) := by decide +kernel
theorem dX12_roomOf_75 : decode cX12_roomOf 75 = .ok (.iload_n 2, 1) := by decide +kernel
theorem dX12_roomOf_76 : decode cX12_roomOf 76 = .ok (.iaload, 1) := by decide +kernel
theorem dX12_roomOf_77 : decode cX12_roomOf 77 = .ok (.goto 25, 3) := by decide +kernel
theorem dX12_roomOf_80 : decode cX12_roomOf 80 = .ok (.aload_n 0, 1) := by decide +kernel
theorem dX12_roomOf_81 : decode cX12_roomOf 81 = .ok (.getfield 16, 3) := by decide +kernel
theorem dX12_roomOf_84 : decode cX12_roomOf 84 = .ok (.iload_n 1, 1) := by decide +kernel
theorem dX12_roomOf_85 : decode cX12_roomOf 85 = .ok (.baload, 1) := by decide +kernel
theorem dX12_roomOf_86 : decode cX12_roomOf 86 = .ok (.ifCond .eq 7, 3) := by decide +kernel
theorem dX12_roomOf_89 : decode cX12_roomOf 89 = .ok (.iconst 0, 1) := by decide +kernel
theorem dX12_roomOf_90 : decode cX12_roomOf 90 = .ok (.goto 12, 3) := by decide +kernel
theorem dX12_roomOf_93 : decode cX12_roomOf 93 = .ok (.iload 4, 2) := by decide +kernel
theorem dX12_roomOf_95 : decode cX12_roomOf 95 = .ok (.aload_n 0, 1) := by decide +kernel
theorem dX12_roomOf_96 : decode cX12_roomOf 96 = .ok (.getfield 124, 3) := by decide +kernel
theorem dX12_roomOf_99 : decode cX12_roomOf 99 = .ok (.iload_n 2, 1) := by decide +kernel
theorem dX12_roomOf_100 : decode cX12_roomOf 100 = .ok (.iaload, 1) := by decide +kernel
theorem dX12_roomOf_101 : decode cX12_roomOf 101 = .ok (.iadd, 1) := by decide +kernel
theorem dX12_roomOf_102 : decode cX12_roomOf 102 = .ok (.ireturn, 1) := by decide +kernel
theorem dX12_costOf_0 : decode cX12_costOf 0 = .ok (.aload_n 0, 1) := by decide +kernel
theorem dX12_costOf_1 : decode cX12_costOf 1 = .ok (.getfield 32, 3) := by decide +kernel
theorem dX12_costOf_4 : decode cX12_costOf 4 = .ok (.iload_n 1, 1) := by decide +kernel
theorem dX12_costOf_5 : decode cX12_costOf 5 = .ok (.iload_n 2, 1) := by decide +kernel
theorem dX12_costOf_6 : decode cX12_costOf 6 = .ok (.invokestatic 157, 3) := by decide +kernel
theorem dX12_costOf_9 : decode cX12_costOf 9 = .ok (.iaload, 1) := by decide +kernel
theorem dX12_costOf_10 : decode cX12_costOf 10 = .ok (.ifCond .le 17, 3) := by decide +kernel
theorem dX12_costOf_13 : decode cX12_costOf 13 = .ok (.aload_n 0, 1) := by decide +kernel
theorem dX12_costOf_14 : decode cX12_costOf 14 = .ok (.getfield 32, 3) := by decide +kernel
theorem dX12_costOf_17 : decode cX12_costOf 17 = .ok (.iload_n 1, 1) := by decide +kernel
theorem dX12_costOf_18 : decode cX12_costOf 18 = .ok (.iload_n 2, 1) := by decide +kernel
theorem dX12_costOf_19 : decode cX12_costOf 19 = .ok (.invokestatic 157, 3) := by decide +kernel
theorem dX12_costOf_22 : decode cX12_costOf 22 = .ok (.iaload, 1) := by decide +kernel
theorem dX12_costOf_23 : decode cX12_costOf 23 = .ok (.i2l, 1) := by decide +kernel
theorem dX12_costOf_24 : decode cX12_costOf 24 = .ok (.goto 4, 3) := by decide +kernel
theorem dX12_costOf_27 : decode cX12_costOf 27 = .ok (.lconst 0, 1) := by decide +kernel
theorem dX12_costOf_28 : decode cX12_costOf 28 = .ok (.lstore 4, 2) := by decide +kernel
theorem dX12_costOf_30 : decode cX12_costOf 30 = .ok (.iload_n 3, 1) := by decide +kernel
theorem dX12_costOf_31 : decode cX12_costOf 31 = .ok (.ifCond .eq 20, 3) := by decide +kernel
theorem dX12_costOf_34 : decode cX12_costOf 34 = .ok (.aload_n 0, 1) := by decide +kernel
theorem dX12_costOf_35 : decode cX12_costOf 35 = .ok (.getfield 124, 3) := by decide +kernel
theorem dX12_costOf_38 : decode cX12_costOf 38 = .ok (.iload_n 2, 1) := by decide +kernel
theorem dX12_costOf_39 : decode cX12_costOf 39 = .ok (.iaload, 1) := by decide +kernel
theorem dX12_costOf_40 : decode cX12_costOf 40 = .ok (.ifCond .ge 7, 3) := by decide +kernel
theorem dX12_costOf_43 : decode cX12_costOf 43 = .ok (.iconst 1, 1) := by decide +kernel
theorem dX12_costOf_44 : decode cX12_costOf 44 = .ok (.goto 21, 3) := by decide +kernel
theorem dX12_costOf_47 : decode cX12_costOf 47 = .ok (.iconst 0, 1) := by decide +kernel
theorem dX12_costOf_48 : decode cX12_costOf 48 = .ok (.goto 17, 3) := by decide +kernel
theorem dX12_costOf_51 : decode cX12_costOf 51 = .ok (.aload_n 0, 1) := by decide +kernel
theorem dX12_costOf_52 : decode cX12_costOf 52 = .ok (.getfield 124, 3) := by decide +kernel
theorem dX12_costOf_55 : decode cX12_costOf 55 = .ok (.iload_n 2, 1) := by decide +kernel
theorem dX12_costOf_56 : decode cX12_costOf 56 = .ok (.iaload, 1) := by decide +kernel
theorem dX12_costOf_57 : decode cX12_costOf 57 = .ok (.ifCond .le 7, 3) := by decide +kernel
theorem dX12_costOf_60 : decode cX12_costOf 60 = .ok (.iconst 1, 1) := by decide +kernel
theorem dX12_costOf_61 : decode cX12_costOf 61 = .ok (.goto 4, 3) := by decide +kernel
theorem dX12_costOf_64 : decode cX12_costOf 64 = .ok (.iconst 0, 1) := by decide +kernel
theorem dX12_costOf_65 : decode cX12_costOf 65 = .ok (.istore 6, 2) := by decide +kernel
theorem dX12_costOf_67 : decode cX12_costOf 67 = .ok (.iload 6, 2) := by decide +kernel
theorem dX12_costOf_69 : decode cX12_costOf 69 = .ok (.ifCond .eq 9, 3) := by decide +kernel
theorem dX12_costOf_72 : decode cX12_costOf 72 = .ok (.lload 4, 2) := by decide +kernel
theorem dX12_costOf_74 : decode cX12_costOf 74 = .ok (.lneg, 1) := by decide +kernel
theorem dX12_costOf_75 : decode cX12_costOf 75 = .ok (.goto 5, 3) := by decide +kernel
theorem dX12_costOf_78 : decode cX12_costOf 78 = .ok (.lload 4, 2) := by decide +kernel
theorem dX12_costOf_80 : decode cX12_costOf 80 = .ok (.lreturn, 1) := by decide +kernel
theorem dX12_price_0 : decode cX12_price 0 = .ok (.aload_n 0, 1) := by decide +kernel
theorem dX12_price_1 : decode cX12_price 1 = .ok (.getfield 13, 3) := by decide +kernel
theorem dX12_price_4 : decode cX12_price 4 = .ok (.iload_n 1, 1) := by decide +kernel
theorem dX12_price_5 : decode cX12_price 5 = .ok (.iaload, 1) := by decide +kernel
theorem dX12_price_6 : decode cX12_price 6 = .ok (.istore 4, 2) := by decide +kernel
theorem dX12_price_8 : decode cX12_price 8 = .ok (.iconst 0, 1) := by decide +kernel
theorem dX12_price_9 : decode cX12_price 9 = .ok (.istore 5, 2) := by decide +kernel
theorem dX12_price_11 : decode cX12_price 11 = .ok (.iload 5, 2) := by decide +kernel
theorem dX12_price_13 : decode cX12_price 13 = .ok (.aload_n 0, 1) := by decide +kernel
theorem dX12_price_14 : decode cX12_price 14 = .ok (.getfield 20, 3) := by decide +kernel
theorem dX12_price_17 : decode cX12_price 17 = .ok (.iload_n 1, 1) := by decide +kernel
theorem dX12_price_18 : decode cX12_price 18 = .ok (.iaload, 1) := by decide +kernel
theorem dX12_price_19 : decode cX12_price 19 = .ok (.if_icmp .ge 17, 3) := by decide +kernel
theorem dX12_price_22 : decode cX12_price 22 = .ok (.aload_n 0, 1) := by decide +kernel
theorem dX12_price_23 : decode cX12_price 23 = .ok (.getfield 124, 3) := by decide +kernel
theorem dX12_price_26 : decode cX12_price 26 = .ok (.iload 5, 2) := by decide +kernel
theorem dX12_price_28 : decode cX12_price 28 = .ok (.iconst 0, 1) := by decide +kernel
theorem dX12_price_29 : decode cX12_price 29 = .ok (.iastore, 1) := by decide +kernel
theorem dX12_price_30 : decode cX12_price 30 = .ok (.iinc 5 1, 3) := by decide +kernel
theorem dX12_price_33 : decode cX12_price 33 = .ok (.goto (-22), 3) := by decide +kernel
theorem dX12_price_36 : decode cX12_price 36 = .ok (.iconst 1, 1) := by decide +kernel
theorem dX12_price_37 : decode cX12_price 37 = .ok (.istore 5, 2) := by decide +kernel
theorem dX12_price_39 : decode cX12_price 39 = .ok (.iload 5, 2) := by decide +kernel
theorem dX12_price_41 : decode cX12_price 41 = .ok (.ifCond .eq 128, 3) := by decide +kernel
theorem dX12_price_44 : decode cX12_price 44 = .ok (.iconst 0, 1) := by decide +kernel
theorem dX12_price_45 : decode cX12_price 45 = .ok (.istore 6, 2) := by decide +kernel
theorem dX12_price_47 : decode cX12_price 47 = .ok (.iload 6, 2) := by decide +kernel
theorem dX12_price_49 : decode cX12_price 49 = .ok (.iload 4, 2) := by decide +kernel
theorem dX12_price_51 : decode cX12_price 51 = .ok (.if_icmp .ge 29, 3) := by decide +kernel
theorem dX12_price_54 : decode cX12_price 54 = .ok (.aload_n 0, 1) := by decide +kernel
theorem dX12_price_55 : decode cX12_price 55 = .ok (.getfield 127, 3) := by decide +kernel
theorem dX12_price_58 : decode cX12_price 58 = .ok (.iload 6, 2) := by decide +kernel
theorem dX12_price_60 : decode cX12_price 60 = .ok (.iload 6, 2) := by decide +kernel
theorem dX12_price_62 : decode cX12_price 62 = .ok (.iload_n 2, 1) := by decide +kernel
theorem dX12_price_63 : decode cX12_price 63 = .ok (.if_icmp .ne 7, 3) := by decide +kernel
theorem dX12_price_66 : decode cX12_price 66 = .ok (.lconst 0, 1) := by decide +kernel
theorem dX12_price_67 : decode cX12_price 67 = .ok (.goto 6, 3) := by decide +kernel
theorem dX12_price_70 : decode cX12_price 70 = .ok (.ldc2_w 251, 3) := by decide +kernel
theorem dX12_price_73 : decode cX12_price 73 = .ok (.lastore, 1) := by decide +kernel
theorem dX12_price_74 : decode cX12_price 74 = .ok (.iinc 6 1, 3) := by decide +kernel
theorem dX12_price_77 : decode cX12_price 77 = .ok (.goto (-30), 3) := by decide +kernel
theorem dX12_price_80 : decode cX12_price 80 = .ok (.iconst 0, 1) := by decide +kernel
theorem dX12_price_81 : decode cX12_price 81 = .ok (.istore 6, 2) := by decide +kernel
theorem dX12_price_83 : decode cX12_price 83 = .ok (.iload 6, 2) := by decide +kernel
theorem dX12_price_85 : decode cX12_price 85 = .ok (.iload 4, 2) := by decide +kernel
theorem dX12_price_87 : decode cX12_price 87 = .ok (.iconst 1, 1) := by decide +kernel
theorem dX12_price_88 : decode cX12_price 88 = .ok (.iadd, 1) := by decide +kernel
theorem dX12_price_89 : decode cX12_price 89 = .ok (.if_icmp .ge 45, 3) := by decide +kernel
theorem dX12_price_92 : decode cX12_price 92 = .ok (.iconst 0, 1) := by decide +kernel
theorem dX12_price_93 : decode cX12_price 93 = .ok (.istore 7, 2) := by decide +kernel
theorem dX12_price_95 : decode cX12_price 95 = .ok (.iload 7, 2) := by decide +kernel
theorem dX12_price_97 : decode cX12_price 97 = .ok (.aload_n 0, 1) := by decide +kernel
theorem dX12_price_98 : decode cX12_price 98 = .ok (.getfield 20, 3) := by decide +kernel
theorem dX12_price_101 : decode cX12_price 101 = .ok (.iload_n 1, 1) := by decide +kernel
theorem dX12_price_102 : decode cX12_price 102 = .ok (.iaload, 1) := by decide +kernel
theorem dX12_price_103 : decode cX12_price 103 = .ok (.if_icmp .ge 25, 3) := by decide +kernel
theorem dX12_price_106 : decode cX12_price 106 = .ok (.aload_n 0, 1) := by decide +kernel
theorem dX12_price_107 : decode cX12_price 107 = .ok (.iload_n 1, 1) := by decide +kernel
theorem dX12_price_108 : decode cX12_price 108 = .ok (.iload 7, 2) := by decide +kernel
theorem dX12_price_110 : decode cX12_price 110 = .ok (.iconst 1, 1) := by decide +kernel
theorem dX12_price_111 : decode cX12_price 111 = .ok (.invokevirtual 372, 3) := by decide +kernel
theorem dX12_price_114 : decode cX12_price 114 = .ok (.aload_n 0, 1) := by decide +kernel
theorem dX12_price_115 : decode cX12_price 115 = .ok (.iload_n 1, 1) := by decide +kernel
theorem dX12_price_116 : decode cX12_price 116 = .ok (.iload 7, 2) := by decide +kernel
theorem dX12_price_118 : decode cX12_price 118 = .ok (.iconst 0, 1) := by decide +kernel
theorem dX12_price_119 : decode cX12_price 119 = .ok (.invokevirtual 372, 3) := by decide +kernel
theorem dX12_price_122 : decode cX12_price 122 = .ok (.iinc 7 1, 3) := by decide +kernel
theorem dX12_price_125 : decode cX12_price 125 = .ok (.goto (-30), 3) := by decide +kernel
theorem dX12_price_128 : decode cX12_price 128 = .ok (.iinc 6 1, 3) := by decide +kernel
theorem dX12_price_131 : decode cX12_price 131 = .ok (.goto (-48), 3) := by decide +kernel
theorem dX12_price_134 : decode cX12_price 134 = .ok (.aload_n 0, 1) := by decide +kernel
theorem dX12_price_135 : decode cX12_price 135 = .ok (.getfield 127, 3) := by decide +kernel
theorem dX12_price_138 : decode cX12_price 138 = .ok (.iload_n 3, 1) := by decide +kernel
theorem dX12_price_139 : decode cX12_price 139 = .ok (.laload, 1) := by decide +kernel
theorem dX12_price_140 : decode cX12_price 140 = .ok (.ldc2_w 251, 3) := by decide +kernel
theorem dX12_price_143 : decode cX12_price 143 = .ok (.lcmp, 1) := by decide +kernel
theorem dX12_price_144 : decode cX12_price 144 = .ok (.ifCond .ge 7, 3) := by decide +kernel
theorem dX12_price_147 : decode cX12_price 147 = .ok (.iconst 1, 1) := by decide +kernel
theorem dX12_price_148 : decode cX12_price 148 = .ok (.goto 4, 3) := by decide +kernel
theorem dX12_price_151 : decode cX12_price 151 = .ok (.iconst 0, 1) := by decide +kernel
theorem dX12_price_152 : decode cX12_price 152 = .ok (.istore 5, 2) := by decide +kernel
theorem dX12_price_154 : decode cX12_price 154 = .ok (.iload 5, 2) := by decide +kernel
theorem dX12_price_156 : decode cX12_price 156 = .ok (.ifCond .eq (-117), 3) := by decide +kernel
theorem dX12_price_159 : decode cX12_price 159 = .ok (.aload_n 0, 1) := by decide +kernel
theorem dX12_price_160 : decode cX12_price 160 = .ok (.iload_n 1, 1) := by decide +kernel
theorem dX12_price_161 : decode cX12_price 161 = .ok (.iload_n 2, 1) := by decide +kernel
theorem dX12_price_162 : decode cX12_price 162 = .ok (.iload_n 3, 1) := by decide +kernel
theorem dX12_price_163 : decode cX12_price 163 = .ok (.invokevirtual 376, 3) := by decide +kernel
theorem dX12_price_166 : decode cX12_price 166 = .ok (.goto (-127), 3) := by decide +kernel
theorem dX12_price_169 : decode cX12_price 169 = .ok (.lconst 0, 1) := by decide +kernel
theorem dX12_price_170 : decode cX12_price 170 = .ok (.lstore 6, 2) := by decide +kernel
theorem dX12_price_172 : decode cX12_price 172 = .ok (.iconst 0, 1) := by decide +kernel
theorem dX12_price_173 : decode cX12_price 173 = .ok (.istore 8, 2) := by decide +kernel
theorem dX12_price_175 : decode cX12_price 175 = .ok (.iload 8, 2) := by decide +kernel
theorem dX12_price_177 : decode cX12_price 177 = .ok (.aload_n 0, 1) := by decide +kernel
theorem dX12_price_178 : decode cX12_price 178 = .ok (.getfield 20, 3) := by decide +kernel
theorem dX12_price_181 : decode cX12_price 181 = .ok (.iload_n 1, 1) := by decide +kernel
theorem dX12_price_182 : decode cX12_price 182 = .ok (.iaload, 1) := by decide +kernel
theorem dX12_price_183 : decode cX12_price 183 = .ok (.if_icmp .ge 78, 3) := by decide +kernel
theorem dX12_price_186 : decode cX12_price 186 = .ok (.aload_n 0, 1) := by decide +kernel
theorem dX12_price_187 : decode cX12_price 187 = .ok (.getfield 32, 3) := by decide +kernel
theorem dX12_price_190 : decode cX12_price 190 = .ok (.iload_n 1, 1) := by decide +kernel
theorem dX12_price_191 : decode cX12_price 191 = .ok (.iload 8, 2) := by decide +kernel
theorem dX12_price_193 : decode cX12_price 193 = .ok (.invokestatic 157, 3) := by decide +kernel
theorem dX12_price_196 : decode cX12_price 196 = .ok (.iaload, 1) := by decide +kernel
theorem dX12_price_197 : decode cX12_price 197 = .ok (.ifCond .le 18, 3) := by decide +kernel
theorem dX12_price_200 : decode cX12_price 200 = .ok (.aload_n 0, 1) := by decide +kernel
theorem dX12_price_201 : decode cX12_price 201 = .ok (.getfield 32, 3) := by decide +kernel
theorem dX12_price_204 : decode cX12_price 204 = .ok (.iload_n 1, 1) := by decide +kernel
theorem dX12_price_205 : decode cX12_price 205 = .ok (.iload 8, 2) := by decide +kernel
theorem dX12_price_207 : decode cX12_price 207 = .ok (.invokestatic 157, 3) := by decide +kernel
theorem dX12_price_210 : decode cX12_price 210 = .ok (.iaload, 1) := by decide +kernel
theorem dX12_price_211 : decode cX12_price 211 = .ok (.i2l, 1) := by decide +kernel
theorem dX12_price_212 : decode cX12_price 212 = .ok (.goto 4, 3) := by decide +kernel
theorem dX12_price_215 : decode cX12_price 215 = .ok (.lconst 0, 1) := by decide +kernel
theorem dX12_price_216 : decode cX12_price 216 = .ok (.lstore 9, 2) := by decide +kernel
theorem dX12_price_218 : decode cX12_price 218 = .ok (.lload 6, 2) := by decide +kernel
theorem dX12_price_220 : decode cX12_price 220 = .ok (.lload 9, 2) := by decide +kernel
theorem dX12_price_222 : decode cX12_price 222 = .ok (.aload_n 0, 1) := by decide +kernel
theorem dX12_price_223 : decode cX12_price 223 = .ok (.getfield 124, 3) := by decide +kernel
theorem dX12_price_226 : decode cX12_price 226 = .ok (.iload 8, 2) := by decide +kernel
theorem dX12_price_228 : decode cX12_price 228 = .ok (.iaload, 1) := by decide +kernel
theorem dX12_price_229 : decode cX12_price 229 = .ok (.ifCond .ge 14, 3) := by decide +kernel
theorem dX12_price_232 : decode cX12_price 232 = .ok (.aload_n 0, 1) := by decide +kernel
theorem dX12_price_233 : decode cX12_price 233 = .ok (.getfield 124, 3) := by decide +kernel
theorem dX12_price_236 : decode cX12_price 236 = .ok (.iload 8, 2) := by decide +kernel
theorem dX12_price_238 : decode cX12_price 238 = .ok (.iaload, 1) := by decide +kernel
theorem dX12_price_239 : decode cX12_price 239 = .ok (.ineg, 1) := by decide +kernel
theorem dX12_price_240 : decode cX12_price 240 = .ok (.goto 10, 3) := by decide +kernel
theorem dX12_price_243 : decode cX12_price 243 = .ok (.aload_n 0, 1) := by decide +kernel
theorem dX12_price_244 : decode cX12_price 244 = .ok (.getfield 124, 3) := by decide +kernel
theorem dX12_price_247 : decode cX12_price 247 = .ok (.iload 8, 2) := by decide +kernel
theorem dX12_price_249 : decode cX12_price 249 = .ok (.iaload, 1) := by decide +kernel
theorem dX12_price_250 : decode cX12_price 250 = .ok (.i2l, 1) := by decide +kernel
theorem dX12_price_251 : decode cX12_price 251 = .ok (.lmul, 1) := by decide +kernel
theorem dX12_price_252 : decode cX12_price 252 = .ok (.ladd, 1) := by decide +kernel
theorem dX12_price_253 : decode cX12_price 253 = .ok (.lstore 6, 2) := by decide +kernel
theorem dX12_price_255 : decode cX12_price 255 = .ok (.iinc 8 1, 3) := by decide +kernel
theorem dX12_price_258 : decode cX12_price 258 = .ok (.goto (-83), 3) := by decide +kernel
theorem dX12_price_261 : decode cX12_price 261 = .ok (.lload 6, 2) := by decide +kernel
theorem dX12_price_263 : decode cX12_price 263 = .ok (.lreturn, 1) := by decide +kernel
theorem kX12_372 : lkK (gS, X) RX12 372 mX12_relax 3 ∧ Cond.instanceMethod yX12_relax ∈ g_ws (gS, X) ∧ Cond.selects RX12 yX12_relax yX12_relax ∈ g_ws (gS, X) ∧ yX12_relax.cls = RX12 := ⟨⟨tb_good, (tb_t (k := 1605) (w := Cond.methodLink RX12 372 yX12_relax) (by decide +kernel)), (tb_t (k := 8) (w := Cond.initialized RX12) (by decide +kernel)), (tb_t (k := 1608) (w := Cond.code yX12_relax cX12_relax 7 none) (by decide +kernel)), by decide +kernel, by decide⟩, (tb_t (k := 1607) (w := Cond.instanceMethod yX12_relax) (by decide +kernel)), (tb_p (k := 131) (q := (yX12_relax, 45)) (by decide +kernel)), rfl⟩
theorem kX12_376 : lkK (gS, X) RX12 376 mX12_push 3 ∧ Cond.instanceMethod yX12_push ∈ g_ws (gS, X) ∧ Cond.selects RX12 yX12_push yX12_push ∈ g_ws (gS, X) ∧ yX12_push.cls = RX12 := ⟨⟨tb_good, (tb_t (k := 1617) (w := Cond.methodLink RX12 376 yX12_push) (by decide +kernel)), (tb_t (k := 8) (w := Cond.initialized RX12) (by decide +kernel)), (tb_t (k := 1620) (w := Cond.code yX12_push cX12_push 7 none) (by decide +kernel)), by decide +kernel, by decide⟩, (tb_t (k := 1619) (w := Cond.instanceMethod yX12_push) (by decide +kernel)), (tb_p (k := 134) (q := (yX12_push, 45)) (by decide +kernel)), rfl⟩
theorem dX12_relax_0 : decode cX12_relax 0 = .ok (.iload_n 1, 1) := by decide +kernel
theorem dX12_relax_1 : decode cX12_relax 1 = .ok (.iload_n 2, 1) := by decide +kernel
theorem dX12_relax_2 : decode cX12_relax 2 = .ok (.invokestatic 157, 3) := by decide +kernel
theorem dX12_relax_5 : decode cX12_relax 5 = .ok (.istore 4, 2) := by decide +kernel
theorem dX12_relax_7 : decode cX12_relax 7 = .ok (.iload_n 3, 1) := by decide +kernel
theorem dX12_relax_8 : decode cX12_relax 8 = .ok (.ifCond .eq 13, 3) := by decide +kernel
theorem dX12_relax_11 : decode cX12_relax 11 = .ok (.aload_n 0, 1) := by decide +kernel
theorem dX12_relax_12 : decode cX12_relax 12 = .ok (.getfield 23, 3) := by decide +kernel
theorem dX12_relax_15 : decode cX12_relax 15 = .ok (.iload 4, 2) := by decide +kernel
theorem dX12_relax_17 : decode cX12_relax 17 = .ok (.iaload, 1) := by decide +kernel
theorem dX12_relax_18 : decode cX12_relax 18 = .ok (.goto 10, 3) := by decide +kernel
theorem dX12_relax_21 : decode cX12_relax 21 = .ok (.aload_n 0, 1) := by decide +kernel
theorem dX12_relax_22 : decode cX12_relax 22 = .ok (.getfield 26, 3) := by decide +kernel
theorem dX12_relax_25 : decode cX12_relax 25 = .ok (.iload 4, 2) := by decide +kernel
theorem dX12_relax_27 : decode cX12_relax 27 = .ok (.iaload, 1) := by decide +kernel
theorem dX12_relax_28 : decode cX12_relax 28 = .ok (.istore 5, 2) := by decide +kernel
theorem dX12_relax_30 : decode cX12_relax 30 = .ok (.iload_n 3, 1) := by decide +kernel
theorem dX12_relax_31 : decode cX12_relax 31 = .ok (.ifCond .eq 13, 3) := by decide +kernel
theorem dX12_relax_34 : decode cX12_relax 34 = .ok (.aload_n 0, 1) := by decide +kernel
theorem dX12_relax_35 : decode cX12_relax 35 = .ok (.getfield 26, 3) := by decide +kernel
theorem dX12_relax_38 : decode cX12_relax 38 = .ok (.iload 4, 2) := by decide +kernel
theorem dX12_relax_40 : decode cX12_relax 40 = .ok (.iaload, 1) := by decide +kernel
theorem dX12_relax_41 : decode cX12_relax 41 = .ok (.goto 10, 3) := by decide +kernel
theorem dX12_relax_44 : decode cX12_relax 44 = .ok (.aload_n 0, 1) := by decide +kernel
theorem dX12_relax_45 : decode cX12_relax 45 = .ok (.getfield 23, 3) := by decide +kernel
theorem dX12_relax_48 : decode cX12_relax 48 = .ok (.iload 4, 2) := by decide +kernel
theorem dX12_relax_50 : decode cX12_relax 50 = .ok (.iaload, 1) := by decide +kernel
theorem dX12_relax_51 : decode cX12_relax 51 = .ok (.istore 6, 2) := by decide +kernel
theorem dX12_relax_53 : decode cX12_relax 53 = .ok (.iload 5, 2) := by decide +kernel
theorem dX12_relax_55 : decode cX12_relax 55 = .ok (.iload 6, 2) := by decide +kernel
theorem dX12_relax_57 : decode cX12_relax 57 = .ok (.if_icmp .eq 91, 3) := by decide +kernel
theorem dX12_relax_60 : decode cX12_relax 60 = .ok (.aload_n 0, 1) := by decide +kernel
theorem dX12_relax_61 : decode cX12_relax 61 = .ok (.getfield 127, 3) := by decide +kernel
theorem dX12_relax_64 : decode cX12_relax 64 = .ok (.iload 5, 2) := by decide +kernel
theorem dX12_relax_66 : decode cX12_relax 66 = .ok (.laload, 1) := by decide +kernel
theorem dX12_relax_67 : decode cX12_relax 67 = .ok (.ldc2_w 251, 3) := by decide +kernel
theorem dX12_relax_70 : decode cX12_relax 70 = .ok (.lcmp, 1) := by decide +kernel
theorem dX12_relax_71 : decode cX12_relax 71 = .ok (.ifCond .ge 77, 3) := by decide +kernel
theorem dX12_relax_74 : decode cX12_relax 74 = .ok (.aload_n 0, 1) := by decide +kernel
theorem dX12_relax_75 : decode cX12_relax 75 = .ok (.iload_n 1, 1) := by decide +kernel
theorem dX12_relax_76 : decode cX12_relax 76 = .ok (.iload_n 2, 1) := by decide +kernel
theorem dX12_relax_77 : decode cX12_relax 77 = .ok (.iload_n 3, 1) := by decide +kernel
theorem dX12_relax_78 : decode cX12_relax 78 = .ok (.invokevirtual 380, 3) := by decide +kernel
theorem dX12_relax_81 : decode cX12_relax 81 = .ok (.ifCond .le 67, 3) := by decide +kernel
theorem dX12_relax_84 : decode cX12_relax 84 = .ok (.aload_n 0, 1) := by decide +kernel
theorem dX12_relax_85 : decode cX12_relax 85 = .ok (.getfield 127, 3) := by decide +kernel
theorem dX12_relax_88 : decode cX12_relax 88 = .ok (.iload 5, 2) := by decide +kernel
theorem dX12_relax_90 : decode cX12_relax 90 = .ok (.laload, 1) := by decide +kernel
theorem dX12_relax_91 : decode cX12_relax 91 = .ok (.aload_n 0, 1) := by decide +kernel
theorem dX12_relax_92 : decode cX12_relax 92 = .ok (.iload_n 1, 1) := by decide +kernel
theorem dX12_relax_93 : decode cX12_relax 93 = .ok (.iload_n 2, 1) := by decide +kernel
theorem dX12_relax_94 : decode cX12_relax 94 = .ok (.iload_n 3, 1) := by decide +kernel
theorem dX12_relax_95 : decode cX12_relax 95 = .ok (.invokevirtual 384, 3) := by decide +kernel
theorem dX12_relax_98 : decode cX12_relax 98 = .ok (.ladd, 1) := by decide +kernel
theorem dX12_relax_99 : decode cX12_relax 99 = .ok (.aload_n 0, 1) := by decide +kernel
theorem dX12_relax_100 : decode cX12_relax 100 = .ok (.getfield 127, 3) := by decide +kernel
theorem dX12_relax_103 : decode cX12_relax 103 = .ok (.iload 6, 2) := by decide +kernel
theorem dX12_relax_105 : decode cX12_relax 105 = .ok (.laload, 1) := by decide +kernel
theorem dX12_relax_106 : decode cX12_relax 106 = .ok (.lcmp, 1) := by decide +kernel
theorem dX12_relax_107 : decode cX12_relax 107 = .ok (.ifCond .ge 41, 3) := by decide +kernel
theorem dX12_relax_110 : decode cX12_relax 110 = .ok (.aload_n 0, 1) := by decide +kernel
theorem dX12_relax_111 : decode cX12_relax 111 = .ok (.getfield 127, 3) := by decide +kernel
theorem dX12_relax_114 : decode cX12_relax 114 = .ok (.iload 6, 2) := by decide +kernel
theorem dX12_relax_116 : decode cX12_relax 116 = .ok (.aload_n 0, 1) := by decide +kernel
theorem dX12_relax_117 : decode cX12_relax 117 = .ok (.getfield 127, 3) := by decide +kernel
theorem dX12_relax_120 : decode cX12_relax 120 = .ok (.iload 5, 2) := by decide +kernel
theorem dX12_relax_122 : decode cX12_relax 122 = .ok (.laload, 1) := by decide +kernel
theorem dX12_relax_123 : decode cX12_relax 123 = .ok (.aload_n 0, 1) := by decide +kernel
theorem dX12_relax_124 : decode cX12_relax 124 = .ok (.iload_n 1, 1) := by decide +kernel
theorem dX12_relax_125 : decode cX12_relax 125 = .ok (.iload_n 2, 1) := by decide +kernel
theorem dX12_relax_126 : decode cX12_relax 126 = .ok (.iload_n 3, 1) := by decide +kernel
theorem dX12_relax_127 : decode cX12_relax 127 = .ok (.invokevirtual 384, 3) := by decide +kernel
theorem dX12_relax_130 : decode cX12_relax 130 = .ok (.ladd, 1) := by decide +kernel
theorem dX12_relax_131 : decode cX12_relax 131 = .ok (.lastore, 1) := by decide +kernel
theorem dX12_relax_132 : decode cX12_relax 132 = .ok (.aload_n 0, 1) := by decide +kernel
theorem dX12_relax_133 : decode cX12_relax 133 = .ok (.getfield 130, 3) := by decide +kernel
theorem dX12_relax_136 : decode cX12_relax 136 = .ok (.iload 6, 2) := by decide +kernel
theorem dX12_relax_138 : decode cX12_relax 138 = .ok (.iload_n 2, 1) := by decide +kernel
theorem dX12_relax_139 : decode cX12_relax 139 = .ok (.iastore, 1) := by decide +kernel
theorem dX12_relax_140 : decode cX12_relax 140 = .ok (.aload_n 0, 1) := by decide +kernel
theorem dX12_relax_141 : decode cX12_relax 141 = .ok (.getfield 133, 3) := by decide +kernel
theorem dX12_relax_144 : decode cX12_relax 144 = .ok (.iload 6, 2) := by decide +kernel
theorem dX12_relax_146 : decode cX12_relax 146 = .ok (.iload_n 3, 1) := by decide +kernel
theorem dX12_relax_147 : decode cX12_relax 147 = .ok (.bastore, 1) := by decide +kernel
theorem dX12_relax_148 : decode cX12_relax 148 = .ok (.return_, 1) := by decide +kernel
theorem kX12_380 : lkK (gS, X) RX12 380 mX12_roomOf 3 ∧ Cond.instanceMethod yX12_roomOf ∈ g_ws (gS, X) ∧ Cond.selects RX12 yX12_roomOf yX12_roomOf ∈ g_ws (gS, X) ∧ yX12_roomOf.cls = RX12 := ⟨⟨tb_good, (tb_t (k := 1609) (w := Cond.methodLink RX12 380 yX12_roomOf) (by decide +kernel)), (tb_t (k := 8) (w := Cond.initialized RX12) (by decide +kernel)), (tb_t (k := 1612) (w := Cond.code yX12_roomOf cX12_roomOf 5 (some .int)) (by decide +kernel)), by decide +kernel, by decide⟩, (tb_t (k := 1611) (w := Cond.instanceMethod yX12_roomOf) (by decide +kernel)), (tb_p (k := 132) (q := (yX12_roomOf, 45)) (by decide +kernel)), rfl⟩
theorem kX12_384 : lkK (gS, X) RX12 384 mX12_costOf 3 ∧ Cond.instanceMethod yX12_costOf ∈ g_ws (gS, X) ∧ Cond.selects RX12 yX12_costOf yX12_costOf ∈ g_ws (gS, X) ∧ yX12_costOf.cls = RX12 := ⟨⟨tb_good, (tb_t (k := 1613) (w := Cond.methodLink RX12 384 yX12_costOf) (by decide +kernel)), (tb_t (k := 8) (w := Cond.initialized RX12) (by decide +kernel)), (tb_t (k := 1616) (w := Cond.code yX12_costOf cX12_costOf 7 (some .long)) (by decide +kernel)), by decide +kernel, by decide⟩, (tb_t (k := 1615) (w := Cond.instanceMethod yX12_costOf) (by decide +kernel)), (tb_p (k := 133) (q := (yX12_costOf, 45)) (by decide +kernel)), rfl⟩
theorem dX12_push_0 : decode cX12_push 0 = .ok (.ldc_w 387, 3) := by decide +kernel
theorem dX12_push_3 : decode cX12_push 3 = .ok (.istore 4, 2) := by decide +kernel
theorem dX12_push_5 : decode cX12_push 5 = .ok (.iload_n 3, 1) := by decide +kernel
theorem dX12_push_6 : decode cX12_push 6 = .ok (.istore 5, 2) := by decide +kernel
theorem dX12_push_8 : decode cX12_push 8 = .ok (.iload 5, 2) := by decide +kernel
theorem dX12_push_10 : decode cX12_push 10 = .ok (.iload_n 2, 1) := by decide +kernel
theorem dX12_push_11 : decode cX12_push 11 = .ok (.if_icmp .eq 90, 3) := by decide +kernel
theorem dX12_push_14 : decode cX12_push 14 = .ok (.aload_n 0, 1) := by decide +kernel
theorem dX12_push_15 : decode cX12_push 15 = .ok (.iload_n 1, 1) := by decide +kernel
theorem dX12_push_16 : decode cX12_push 16 = .ok (.aload_n 0, 1) := by decide +kernel
theorem dX12_push_17 : decode cX12_push 17 = .ok (.getfield 130, 3) := by decide +kernel
theorem dX12_push_20 : decode cX12_push 20 = .ok (.iload 5, 2) := by decide +kernel
theorem dX12_push_22 : decode cX12_push 22 = .ok (.iaload, 1) := by decide +kernel
theorem dX12_push_23 : decode cX12_push 23 = .ok (.aload_n 0, 1) := by decide +kernel
theorem dX12_push_24 : decode cX12_push 24 = .ok (.getfield 133, 3) := by decide +kernel
theorem dX12_push_27 : decode cX12_push 27 = .ok (.iload 5, 2) := by decide +kernel
theorem dX12_push_29 : decode cX12_push 29 = .ok (.baload, 1) := by decide +kernel
theorem dX12_push_30 : decode cX12_push 30 = .ok (.invokevirtual 380, 3) := by decide +kernel
theorem dX12_push_33 : decode cX12_push 33 = .ok (.istore 6, 2) := by decide +kernel
theorem dX12_push_35 : decode cX12_push 35 = .ok (.iload 6, 2) := by decide +kernel
theorem dX12_push_37 : decode cX12_push 37 = .ok (.iload 4, 2) := by decide +kernel
theorem dX12_push_39 : decode cX12_push 39 = .ok (.if_icmp .ge 8, 3) := by decide +kernel
theorem dX12_push_42 : decode cX12_push 42 = .ok (.iload 6, 2) := by decide +kernel
theorem dX12_push_44 : decode cX12_push 44 = .ok (.goto 5, 3) := by decide +kernel
theorem dX12_push_47 : decode cX12_push 47 = .ok (.iload 4, 2) := by decide +kernel
theorem dX12_push_49 : decode cX12_push 49 = .ok (.istore 4, 2) := by decide +kernel
theorem dX12_push_51 : decode cX12_push 51 = .ok (.aload_n 0, 1) := by decide +kernel
theorem dX12_push_52 : decode cX12_push 52 = .ok (.getfield 133, 3) := by decide +kernel
theorem dX12_push_55 : decode cX12_push 55 = .ok (.iload 5, 2) := by decide +kernel
theorem dX12_push_57 : decode cX12_push 57 = .ok (.baload, 1) := by decide +kernel
theorem dX12_push_58 : decode cX12_push 58 = .ok (.ifCond .eq 22, 3) := by decide +kernel
theorem dX12_push_61 : decode cX12_push 61 = .ok (.aload_n 0, 1) := by decide +kernel
theorem dX12_push_62 : decode cX12_push 62 = .ok (.getfield 23, 3) := by decide +kernel
theorem dX12_push_65 : decode cX12_push 65 = .ok (.iload_n 1, 1) := by decide +kernel
theorem dX12_push_66 : decode cX12_push 66 = .ok (.aload_n 0, 1) := by decide +kernel
theorem dX12_push_67 : decode cX12_push 67 = .ok (.getfield 130, 3) := by decide +kernel
theorem dX12_push_70 : decode cX12_push 70 = .ok (.iload 5, 2) := by decide +kernel
theorem dX12_push_72 : decode cX12_push 72 = .ok (.iaload, 1) := by decide +kernel
theorem dX12_push_73 : decode cX12_push 73 = .ok (.invokestatic 157, 3) := by decide +kernel
theorem dX12_push_76 : decode cX12_push 76 = .ok (.iaload, 1) := by decide +kernel
theorem dX12_push_77 : decode cX12_push 77 = .ok (.goto 19, 3) := by decide +kernel
theorem dX12_push_80 : decode cX12_push 80 = .ok (.aload_n 0, 1) := by decide +kernel
theorem dX12_push_81 : decode cX12_push 81 = .ok (.getfield 26, 3) := by decide +kernel
theorem dX12_push_84 : decode cX12_push 84 = .ok (.iload_n 1, 1) := by decide +kernel
theorem dX12_push_85 : decode cX12_push 85 = .ok (.aload_n 0, 1) := by decide +kernel
theorem dX12_push_86 : decode cX12_push 86 = .ok (.getfield 130, 3) := by decide +kernel
theorem dX12_push_89 : decode cX12_push 89 = .ok (.iload 5, 2) := by decide +kernel
theorem dX12_push_91 : decode cX12_push 91 = .ok (.iaload, 1) := by decide +kernel
theorem dX12_push_92 : decode cX12_push 92 = .ok (.invokestatic 157, 3) := by decide +kernel
theorem dX12_push_95 : decode cX12_push 95 = .ok (.iaload, 1) := by decide +kernel
theorem dX12_push_96 : decode cX12_push 96 = .ok (.istore 5, 2) := by decide +kernel
theorem dX12_push_98 : decode cX12_push 98 = .ok (.goto (-90), 3) := by decide +kernel
theorem dX12_push_101 : decode cX12_push 101 = .ok (.iload_n 3, 1) := by decide +kernel
theorem dX12_push_102 : decode cX12_push 102 = .ok (.istore 5, 2) := by decide +kernel
theorem dX12_push_104 : decode cX12_push 104 = .ok (.iload 5, 2) := by decide +kernel
theorem dX12_push_106 : decode cX12_push 106 = .ok (.iload_n 2, 1) := by decide +kernel
theorem dX12_push_107 : decode cX12_push 107 = .ok (.if_icmp .eq 86, 3) := by decide +kernel
theorem dX12_push_110 : decode cX12_push 110 = .ok (.aload_n 0, 1) := by decide +kernel
theorem dX12_push_111 : decode cX12_push 111 = .ok (.getfield 124, 3) := by decide +kernel
theorem dX12_push_114 : decode cX12_push 114 = .ok (.aload_n 0, 1) := by decide +kernel
theorem dX12_push_115 : decode cX12_push 115 = .ok (.getfield 130, 3) := by decide +kernel
theorem dX12_push_118 : decode cX12_push 118 = .ok (.iload 5, 2) := by decide +kernel
theorem dX12_push_120 : decode cX12_push 120 = .ok (.iaload, 1) := by decide +kernel
theorem dX12_push_121 : decode cX12_push 121 = .ok (.dup2, 1) := by decide +kernel
theorem dX12_push_122 : decode cX12_push 122 = .ok (.iaload, 1) := by decide +kernel
theorem dX12_push_123 : decode cX12_push 123 = .ok (.aload_n 0, 1) := by decide +kernel
theorem dX12_push_124 : decode cX12_push 124 = .ok (.getfield 133, 3) := by decide +kernel
theorem dX12_push_127 : decode cX12_push 127 = .ok (.iload 5, 2) := by decide +kernel
theorem dX12_push_129 : decode cX12_push 129 = .ok (.baload, 1) := by decide +kernel
theorem dX12_push_130 : decode cX12_push 130 = .ok (.ifCond .eq 8, 3) := by decide +kernel
theorem dX12_push_133 : decode cX12_push 133 = .ok (.iload 4, 2) := by decide +kernel
theorem dX12_push_135 : decode cX12_push 135 = .ok (.goto 6, 3) := by decide +kernel
theorem dX12_push_138 : decode cX12_push 138 = .ok (.iload 4, 2) := by decide +kernel
theorem dX12_push_140 : decode cX12_push 140 = .ok (.ineg, 1) := by decide +kernel
theorem dX12_push_141 : decode cX12_push 141 = .ok (.iadd, 1) := by decide +kernel
theorem dX12_push_142 : decode cX12_push 142 = .ok (.iastore, 1) := by decide +kernel
theorem dX12_push_143 : decode cX12_push 143 = .ok (.aload_n 0, 1) := by decide +kernel
theorem dX12_push_144 : decode cX12_push 144 = .ok (.getfield 133, 3) := by decide +kernel
theorem dX12_push_147 : decode cX12_push 147 = .ok (.iload 5, 2) := by decide +kernel
theorem dX12_push_149 : decode cX12_push 149 = .ok (.baload, 1) := by decide +kernel
theorem dX12_push_150 : decode cX12_push 150 = .ok (.ifCond .eq 22, 3) := by decide +kernel
theorem dX12_push_153 : decode cX12_push 153 = .ok (.aload_n 0, 1) := by decide +kernel
theorem dX12_push_154 : decode cX12_push 154 = .ok (.getfield 23, 3) := by decide +kernel
theorem dX12_push_157 : decode cX12_push 157 = .ok (.iload_n 1, 1) := by decide +kernel
theorem dX12_push_158 : decode cX12_push 158 = .ok (.aload_n 0, 1) := by decide +kernel
theorem dX12_push_159 : decode cX12_push 159 = .ok (.getfield 130, 3) := by decide +kernel
theorem dX12_push_162 : decode cX12_push 162 = .ok (.iload 5, 2) := by decide +kernel
theorem dX12_push_164 : decode cX12_push 164 = .ok (.iaload, 1) := by decide +kernel
theorem dX12_push_165 : decode cX12_push 165 = .ok (.invokestatic 157, 3) := by decide +kernel
theorem dX12_push_168 : decode cX12_push 168 = .ok (.iaload, 1) := by decide +kernel
theorem dX12_push_169 : decode cX12_push 169 = .ok (.goto 19, 3) := by decide +kernel
theorem dX12_push_172 : decode cX12_push 172 = .ok (.aload_n 0, 1) := by decide +kernel
theorem dX12_push_173 : decode cX12_push 173 = .ok (.getfield 26, 3) := by decide +kernel
theorem dX12_push_176 : decode cX12_push 176 = .ok (.iload_n 1, 1) := by decide +kernel
theorem dX12_push_177 : decode cX12_push 177 = .ok (.aload_n 0, 1) := by decide +kernel
theorem dX12_push_178 : decode cX12_push 178 = .ok (.getfield 130, 3) := by decide +kernel
theorem dX12_push_181 : decode cX12_push 181 = .ok (.iload 5, 2) := by decide +kernel
theorem dX12_push_183 : decode cX12_push 183 = .ok (.iaload, 1) := by decide +kernel
theorem dX12_push_184 : decode cX12_push 184 = .ok (.invokestatic 157, 3) := by decide +kernel
theorem dX12_push_187 : decode cX12_push 187 = .ok (.iaload, 1) := by decide +kernel
theorem dX12_push_188 : decode cX12_push 188 = .ok (.istore 5, 2) := by decide +kernel
theorem dX12_push_190 : decode cX12_push 190 = .ok (.goto (-86), 3) := by decide +kernel
theorem dX12_push_193 : decode cX12_push 193 = .ok (.return_, 1) := by decide +kernel
theorem kX12_387 : Cond.constant RX12 387 1000000 ∈ g_ws (gS, X) := (tb_t (k := 1621) (w := Cond.constant RX12 387 1000000) (by decide +kernel))
theorem dX12_alike_0 : decode cX12_alike 0 = .ok (.aload_n 0, 1) := by decide +kernel
theorem dX12_alike_1 : decode cX12_alike 1 = .ok (.getfield 13, 3) := by decide +kernel
theorem dX12_alike_4 : decode cX12_alike 4 = .ok (.iload_n 1, 1) := by decide +kernel
theorem dX12_alike_5 : decode cX12_alike 5 = .ok (.iaload, 1) := by decide +kernel
theorem dX12_alike_6 : decode cX12_alike 6 = .ok (.aload_n 0, 1) := by decide +kernel
theorem dX12_alike_7 : decode cX12_alike 7 = .ok (.getfield 13, 3) := by decide +kernel
theorem dX12_alike_10 : decode cX12_alike 10 = .ok (.iload_n 2, 1) := by decide +kernel
theorem dX12_alike_11 : decode cX12_alike 11 = .ok (.iaload, 1) := by decide +kernel
theorem dX12_alike_12 : decode cX12_alike 12 = .ok (.if_icmp .ne 46, 3) := by decide +kernel
theorem dX12_alike_15 : decode cX12_alike 15 = .ok (.aload_n 0, 1) := by decide +kernel
theorem dX12_alike_16 : decode cX12_alike 16 = .ok (.getfield 16, 3) := by decide +kernel
theorem dX12_alike_19 : decode cX12_alike 19 = .ok (.iload_n 1, 1) := by decide +kernel
theorem dX12_alike_20 : decode cX12_alike 20 = .ok (.baload, 1) := by decide +kernel
theorem dX12_alike_21 : decode cX12_alike 21 = .ok (.aload_n 0, 1) := by decide +kernel
theorem dX12_alike_22 : decode cX12_alike 22 = .ok (.getfield 16, 3) := by decide +kernel
theorem dX12_alike_25 : decode cX12_alike 25 = .ok (.iload_n 2, 1) := by decide +kernel
theorem dX12_alike_26 : decode cX12_alike 26 = .ok (.baload, 1) := by decide +kernel
theorem dX12_alike_27 : decode cX12_alike 27 = .ok (.if_icmp .ne 31, 3) := by decide +kernel
theorem dX12_alike_30 : decode cX12_alike 30 = .ok (.aload_n 0, 1) := by decide +kernel
theorem dX12_alike_31 : decode cX12_alike 31 = .ok (.getfield 20, 3) := by decide +kernel
theorem dX12_alike_34 : decode cX12_alike 34 = .ok (.iload_n 1, 1) := by decide +kernel
theorem dX12_alike_35 : decode cX12_alike 35 = .ok (.iaload, 1) := by decide +kernel
theorem dX12_alike_36 : decode cX12_alike 36 = .ok (.aload_n 0, 1) := by decide +kernel
theorem dX12_alike_37 : decode cX12_alike 37 = .ok (.getfield 20, 3) := by decide +kernel
theorem dX12_alike_40 : decode cX12_alike 40 = .ok (.iload_n 2, 1) := by decide +kernel
theorem dX12_alike_41 : decode cX12_alike 41 = .ok (.iaload, 1) := by decide +kernel
theorem dX12_alike_42 : decode cX12_alike 42 = .ok (.if_icmp .ne 16, 3) := by decide +kernel
theorem dX12_alike_45 : decode cX12_alike 45 = .ok (.aload_n 0, 1) := by decide +kernel
theorem dX12_alike_46 : decode cX12_alike 46 = .ok (.iload_n 1, 1) := by decide +kernel
theorem dX12_alike_47 : decode cX12_alike 47 = .ok (.iload_n 2, 1) := by decide +kernel
theorem dX12_alike_48 : decode cX12_alike 48 = .ok (.invokevirtual 388, 3) := by decide +kernel
theorem dX12_alike_51 : decode cX12_alike 51 = .ok (.ifCond .eq 7, 3) := by decide +kernel
theorem dX12_alike_54 : decode cX12_alike 54 = .ok (.iconst 1, 1) := by decide +kernel
theorem dX12_alike_55 : decode cX12_alike 55 = .ok (.goto 4, 3) := by decide +kernel
theorem dX12_alike_58 : decode cX12_alike 58 = .ok (.iconst 0, 1) := by decide +kernel
theorem dX12_alike_59 : decode cX12_alike 59 = .ok (.istore 5, 2) := by decide +kernel
theorem dX12_alike_61 : decode cX12_alike 61 = .ok (.iload_n 3, 1) := by decide +kernel
theorem dX12_alike_62 : decode cX12_alike 62 = .ok (.ifCond .eq 16, 3) := by decide +kernel
theorem dX12_alike_65 : decode cX12_alike 65 = .ok (.iload 5, 2) := by decide +kernel
theorem dX12_alike_67 : decode cX12_alike 67 = .ok (.ifCond .eq 7, 3) := by decide +kernel
theorem dX12_alike_70 : decode cX12_alike 70 = .ok (.lconst 1, 1) := by decide +kernel
theorem dX12_alike_71 : decode cX12_alike 71 = .ok (.goto 26, 3) := by decide +kernel
theorem dX12_alike_74 : decode cX12_alike 74 = .ok (.lconst 0, 1) := by decide +kernel
theorem dX12_alike_75 : decode cX12_alike 75 = .ok (.goto 22, 3) := by decide +kernel
theorem dX12_alike_78 : decode cX12_alike 78 = .ok (.iload 5, 2) := by decide +kernel
theorem dX12_alike_80 : decode cX12_alike 80 = .ok (.ifCond .eq 14, 3) := by decide +kernel
theorem dX12_alike_83 : decode cX12_alike 83 = .ok (.aload_n 0, 1) := by decide +kernel
theorem dX12_alike_84 : decode cX12_alike 84 = .ok (.getfield 136, 3) := by decide +kernel
theorem dX12_alike_87 : decode cX12_alike 87 = .ok (.iload 4, 2) := by decide +kernel
theorem dX12_alike_89 : decode cX12_alike 89 = .ok (.iaload, 1) := by decide +kernel
theorem dX12_alike_90 : decode cX12_alike 90 = .ok (.i2l, 1) := by decide +kernel
theorem dX12_alike_91 : decode cX12_alike 91 = .ok (.goto 6, 3) := by decide +kernel
theorem dX12_alike_94 : decode cX12_alike 94 = .ok (.ldc2_w 357, 3) := by decide +kernel
theorem dX12_alike_97 : decode cX12_alike 97 = .ok (.lreturn, 1) := by decide +kernel
theorem kX12_388 : lkK (gS, X) RX12 388 mX12_place 2 ∧ Cond.instanceMethod yX12_place ∈ g_ws (gS, X) ∧ Cond.selects RX12 yX12_place yX12_place ∈ g_ws (gS, X) ∧ yX12_place.cls = RX12 := ⟨⟨tb_good, (tb_t (k := 1626) (w := Cond.methodLink RX12 388 yX12_place) (by decide +kernel)), (tb_t (k := 8) (w := Cond.initialized RX12) (by decide +kernel)), (tb_t (k := 1629) (w := Cond.code yX12_place cX12_place 8 (some .boolean)) (by decide +kernel)), by decide +kernel, by decide⟩, (tb_t (k := 1628) (w := Cond.instanceMethod yX12_place) (by decide +kernel)), (tb_p (k := 136) (q := (yX12_place, 45)) (by decide +kernel)), rfl⟩
theorem dX12_place_0 : decode cX12_place 0 = .ok (.aload_n 0, 1) := by decide +kernel
theorem dX12_place_1 : decode cX12_place 1 = .ok (.getfield 13, 3) := by decide +kernel
theorem dX12_place_4 : decode cX12_place 4 = .ok (.iload_n 1, 1) := by decide +kernel
theorem dX12_place_5 : decode cX12_place 5 = .ok (.iaload, 1) := by decide +kernel
theorem dX12_place_6 : decode cX12_place 6 = .ok (.istore_n 3, 1) := by decide +kernel
theorem dX12_place_7 : decode cX12_place 7 = .ok (.iconst 0, 1) := by decide +kernel
theorem dX12_place_8 : decode cX12_place 8 = .ok (.istore 4, 2) := by decide +kernel
theorem dX12_place_10 : decode cX12_place 10 = .ok (.iconst 0, 1) := by decide +kernel
theorem dX12_place_11 : decode cX12_place 11 = .ok (.istore 5, 2) := by decide +kernel
theorem dX12_place_13 : decode cX12_place 13 = .ok (.aload_n 0, 1) := by decide +kernel
theorem dX12_place_14 : decode cX12_place 14 = .ok (.getfield 136, 3) := by decide +kernel
theorem dX12_place_17 : decode cX12_place 17 = .ok (.iconst 0, 1) := by decide +kernel
theorem dX12_place_18 : decode cX12_place 18 = .ok (.iconst (-1), 1) := by decide +kernel
theorem dX12_place_19 : decode cX12_place 19 = .ok (.iastore, 1) := by decide +kernel
theorem dX12_place_20 : decode cX12_place 20 = .ok (.iload 5, 2) := by decide +kernel
theorem dX12_place_22 : decode cX12_place 22 = .ok (.ifCond .lt 152, 3) := by decide +kernel
theorem dX12_place_25 : decode cX12_place 25 = .ok (.iload 5, 2) := by decide +kernel
theorem dX12_place_27 : decode cX12_place 27 = .ok (.iload_n 3, 1) := by decide +kernel
theorem dX12_place_28 : decode cX12_place 28 = .ok (.if_icmp .ge 146, 3) := by decide +kernel
theorem dX12_place_31 : decode cX12_place 31 = .ok (.iload 4, 2) := by decide +kernel
theorem dX12_place_33 : decode cX12_place 33 = .ok (.aload_n 0, 1) := by decide +kernel
theorem dX12_place_34 : decode cX12_place 34 = .ok (.getfield 136, 3) := by decide +kernel
theorem dX12_place_37 : decode cX12_place 37 = .ok (.iload 5, 2) := by decide +kernel
theorem dX12_place_39 : decode cX12_place 39 = .ok (.iaload, 1) := by decide +kernel
theorem dX12_place_40 : decode cX12_place 40 = .ok (.ifCond .ge 7, 3) := by decide +kernel
theorem dX12_place_43 : decode cX12_place 43 = .ok (.iconst (-1), 1) := by decide +kernel
theorem dX12_place_44 : decode cX12_place 44 = .ok (.goto 14, 3) := by decide +kernel
theorem dX12_place_47 : decode cX12_place 47 = .ok (.iconst 1, 1) := by decide +kernel
theorem dX12_place_48 : decode cX12_place 48 = .ok (.aload_n 0, 1) := by decide +kernel
theorem dX12_place_49 : decode cX12_place 49 = .ok (.getfield 136, 3) := by decide +kernel
theorem dX12_place_52 : decode cX12_place 52 = .ok (.iload 5, 2) := by decide +kernel
theorem dX12_place_54 : decode cX12_place 54 = .ok (.iaload, 1) := by decide +kernel
theorem dX12_place_55 : decode cX12_place 55 = .ok (.ishl, 1) := by decide +kernel
theorem dX12_place_56 : decode cX12_place 56 = .ok (.iconst (-1), 1) := by decide +kernel
theorem dX12_place_57 : decode cX12_place 57 = .ok (.ixor, 1) := by decide +kernel
theorem dX12_place_58 : decode cX12_place 58 = .ok (.iand, 1) := by decide +kernel
theorem dX12_place_59 : decode cX12_place 59 = .ok (.istore 4, 2) := by decide +kernel
theorem dX12_place_61 : decode cX12_place 61 = .ok (.aload_n 0, 1) := by decide +kernel
theorem dX12_place_62 : decode cX12_place 62 = .ok (.getfield 136, 3) := by decide +kernel
theorem dX12_place_65 : decode cX12_place 65 = .ok (.iload 5, 2) := by decide +kernel
theorem dX12_place_67 : decode cX12_place 67 = .ok (.iaload, 1) := by decide +kernel
theorem dX12_place_68 : decode cX12_place 68 = .ok (.iconst 1, 1) := by decide +kernel
theorem dX12_place_69 : decode cX12_place 69 = .ok (.iadd, 1) := by decide +kernel
theorem dX12_place_70 : decode cX12_place 70 = .ok (.istore 6, 2) := by decide +kernel
theorem dX12_place_72 : decode cX12_place 72 = .ok (.iconst 0, 1) := by decide +kernel
theorem dX12_place_73 : decode cX12_place 73 = .ok (.istore 7, 2) := by decide +kernel
theorem dX12_place_75 : decode cX12_place 75 = .ok (.iload 6, 2) := by decide +kernel
theorem dX12_place_77 : decode cX12_place 77 = .ok (.iload_n 3, 1) := by decide +kernel
theorem dX12_place_78 : decode cX12_place 78 = .ok (.if_icmp .ge 51, 3) := by decide +kernel
theorem dX12_place_81 : decode cX12_place 81 = .ok (.iload 7, 2) := by decide +kernel
theorem dX12_place_83 : decode cX12_place 83 = .ok (.ifCond .ne 46, 3) := by decide +kernel
theorem dX12_place_86 : decode cX12_place 86 = .ok (.aload_n 0, 1) := by decide +kernel
theorem dX12_place_87 : decode cX12_place 87 = .ok (.getfield 136, 3) := by decide +kernel
theorem dX12_place_90 : decode cX12_place 90 = .ok (.iload 5, 2) := by decide +kernel
theorem dX12_place_92 : decode cX12_place 92 = .ok (.iload 6, 2) := by decide +kernel
theorem dX12_place_94 : decode cX12_place 94 = .ok (.iastore, 1) := by decide +kernel
theorem dX12_place_95 : decode cX12_place 95 = .ok (.iload 4, 2) := by decide +kernel
theorem dX12_place_97 : decode cX12_place 97 = .ok (.iload 6, 2) := by decide +kernel
theorem dX12_place_99 : decode cX12_place 99 = .ok (.ishr, 1) := by decide +kernel
theorem dX12_place_100 : decode cX12_place 100 = .ok (.iconst 1, 1) := by decide +kernel
theorem dX12_place_101 : decode cX12_place 101 = .ok (.iand, 1) := by decide +kernel
theorem dX12_place_102 : decode cX12_place 102 = .ok (.ifCond .ne 18, 3) := by decide +kernel
theorem dX12_place_105 : decode cX12_place 105 = .ok (.aload_n 0, 1) := by decide +kernel
theorem dX12_place_106 : decode cX12_place 106 = .ok (.iload_n 1, 1) := by decide +kernel
theorem dX12_place_107 : decode cX12_place 107 = .ok (.iload_n 2, 1) := by decide +kernel
theorem dX12_place_108 : decode cX12_place 108 = .ok (.iload 5, 2) := by decide +kernel
theorem dX12_place_110 : decode cX12_place 110 = .ok (.invokevirtual 391, 3) := by decide +kernel
theorem dX12_place_113 : decode cX12_place 113 = .ok (.ifCond .eq 7, 3) := by decide +kernel
theorem dX12_place_116 : decode cX12_place 116 = .ok (.iconst 1, 1) := by decide +kernel
theorem dX12_place_117 : decode cX12_place 117 = .ok (.goto 4, 3) := by decide +kernel
theorem dX12_place_120 : decode cX12_place 120 = .ok (.iconst 0, 1) := by decide +kernel
theorem dX12_place_121 : decode cX12_place 121 = .ok (.istore 7, 2) := by decide +kernel
theorem dX12_place_123 : decode cX12_place 123 = .ok (.iinc 6 1, 3) := by decide +kernel
theorem dX12_place_126 : decode cX12_place 126 = .ok (.goto (-51), 3) := by decide +kernel
theorem dX12_place_129 : decode cX12_place 129 = .ok (.iload 7, 2) := by decide +kernel
theorem dX12_place_131 : decode cX12_place 131 = .ok (.ifCond .eq 37, 3) := by decide +kernel
theorem dX12_place_134 : decode cX12_place 134 = .ok (.iload 4, 2) := by decide +kernel
theorem dX12_place_136 : decode cX12_place 136 = .ok (.iconst 1, 1) := by decide +kernel
theorem dX12_place_137 : decode cX12_place 137 = .ok (.aload_n 0, 1) := by decide +kernel
theorem dX12_place_138 : decode cX12_place 138 = .ok (.getfield 136, 3) := by decide +kernel
theorem dX12_place_141 : decode cX12_place 141 = .ok (.iload 5, 2) := by decide +kernel
theorem dX12_place_143 : decode cX12_place 143 = .ok (.iaload, 1) := by decide +kernel
theorem dX12_place_144 : decode cX12_place 144 = .ok (.ishl, 1) := by decide +kernel
theorem dX12_place_145 : decode cX12_place 145 = .ok (.ior, 1) := by decide +kernel
theorem dX12_place_146 : decode cX12_place 146 = .ok (.istore 4, 2) := by decide +kernel
theorem dX12_place_148 : decode cX12_place 148 = .ok (.iinc 5 1, 3) := by decide +kernel
theorem dX12_place_151 : decode cX12_place 151 = .ok (.iload 5, 2) := by decide +kernel
theorem dX12_place_153 : decode cX12_place 153 = .ok (.iload_n 3, 1) := by decide +kernel
theorem dX12_place_154 : decode cX12_place 154 = .ok (.if_icmp .ge 17, 3) := by decide +kernel
theorem dX12_place_157 : decode cX12_place 157 = .ok (.aload_n 0, 1) := by decide +kernel
theorem dX12_place_158 : decode cX12_place 158 = .ok (.getfield 136, 3) := by decide +kernel
theorem dX12_place_161 : decode cX12_place 161 = .ok (.iload 5, 2) := by decide +kernel
theorem dX12_place_163 : decode cX12_place 163 = .ok (.iconst (-1), 1) := by decide +kernel
theorem dX12_place_164 : decode cX12_place 164 = .ok (.iastore, 1) := by decide +kernel
theorem dX12_place_165 : decode cX12_place 165 = .ok (.goto 6, 3) := by decide +kernel
theorem dX12_place_168 : decode cX12_place 168 = .ok (.iinc 5 (-1), 3) := by decide +kernel
theorem dX12_place_171 : decode cX12_place 171 = .ok (.goto (-151), 3) := by decide +kernel
theorem dX12_place_174 : decode cX12_place 174 = .ok (.iload 5, 2) := by decide +kernel
theorem dX12_place_176 : decode cX12_place 176 = .ok (.iload_n 3, 1) := by decide +kernel
theorem dX12_place_177 : decode cX12_place 177 = .ok (.if_icmp .ne 7, 3) := by decide +kernel
theorem dX12_place_180 : decode cX12_place 180 = .ok (.iconst 1, 1) := by decide +kernel
theorem dX12_place_181 : decode cX12_place 181 = .ok (.goto 4, 3) := by decide +kernel
theorem dX12_place_184 : decode cX12_place 184 = .ok (.iconst 0, 1) := by decide +kernel
theorem dX12_place_185 : decode cX12_place 185 = .ok (.ireturn, 1) := by decide +kernel
theorem kX12_391 : lkK (gS, X) RX12 391 mX12_fits 3 ∧ Cond.instanceMethod yX12_fits ∈ g_ws (gS, X) ∧ Cond.selects RX12 yX12_fits yX12_fits ∈ g_ws (gS, X) ∧ yX12_fits.cls = RX12 := ⟨⟨tb_good, (tb_t (k := 1630) (w := Cond.methodLink RX12 391 yX12_fits) (by decide +kernel)), (tb_t (k := 8) (w := Cond.initialized RX12) (by decide +kernel)), (tb_t (k := 1633) (w := Cond.code yX12_fits cX12_fits 10 (some .boolean)) (by decide +kernel)), by decide +kernel, by decide⟩, (tb_t (k := 1632) (w := Cond.instanceMethod yX12_fits) (by decide +kernel)), (tb_p (k := 137) (q := (yX12_fits, 45)) (by decide +kernel)), rfl⟩
theorem dX12_fits_0 : decode cX12_fits 0 = .ok (.aload_n 0, 1) := by decide +kernel
theorem dX12_fits_1 : decode cX12_fits 1 = .ok (.iload_n 1, 1) := by decide +kernel
theorem dX12_fits_2 : decode cX12_fits 2 = .ok (.iload_n 3, 1) := by decide +kernel
theorem dX12_fits_3 : decode cX12_fits 3 = .ok (.invokevirtual 394, 3) := by decide +kernel
theorem dX12_fits_6 : decode cX12_fits 6 = .ok (.aload_n 0, 1) := by decide +kernel
theorem dX12_fits_7 : decode cX12_fits 7 = .ok (.iload_n 2, 1) := by decide +kernel
theorem dX12_fits_8 : decode cX12_fits 8 = .ok (.aload_n 0, 1) := by decide +kernel
theorem dX12_fits_9 : decode cX12_fits 9 = .ok (.getfield 136, 3) := by decide +kernel
theorem dX12_fits_12 : decode cX12_fits 12 = .ok (.iload_n 3, 1) := by decide +kernel
theorem dX12_fits_13 : decode cX12_fits 13 = .ok (.iaload, 1) := by decide +kernel
theorem dX12_fits_14 : decode cX12_fits 14 = .ok (.invokevirtual 394, 3) := by decide +kernel
theorem dX12_fits_17 : decode cX12_fits 17 = .ok (.if_icmp .eq 5, 3) := by decide +kernel
theorem dX12_fits_20 : decode cX12_fits 20 = .ok (.iconst 0, 1) := by decide +kernel
theorem dX12_fits_21 : decode cX12_fits 21 = .ok (.ireturn, 1) := by decide +kernel
theorem dX12_fits_22 : decode cX12_fits 22 = .ok (.iconst 0, 1) := by decide +kernel
theorem dX12_fits_23 : decode cX12_fits 23 = .ok (.istore 4, 2) := by decide +kernel
theorem dX12_fits_25 : decode cX12_fits 25 = .ok (.iload 4, 2) := by decide +kernel
theorem dX12_fits_27 : decode cX12_fits 27 = .ok (.iload_n 3, 1) := by decide +kernel
theorem dX12_fits_28 : decode cX12_fits 28 = .ok (.if_icmp .gt 359, 3) := by decide +kernel
theorem dX12_fits_31 : decode cX12_fits 31 = .ok (.iconst 0, 1) := by decide +kernel
theorem dX12_fits_32 : decode cX12_fits 32 = .ok (.istore 5, 2) := by decide +kernel
theorem dX12_fits_34 : decode cX12_fits 34 = .ok (.iload 5, 2) := by decide +kernel
theorem dX12_fits_36 : decode cX12_fits 36 = .ok (.aload_n 0, 1) := by decide +kernel
theorem dX12_fits_37 : decode cX12_fits 37 = .ok (.getfield 20, 3) := by decide +kernel
theorem dX12_fits_40 : decode cX12_fits 40 = .ok (.iload_n 1, 1) := by decide +kernel
theorem dX12_fits_41 : decode cX12_fits 41 = .ok (.iaload, 1) := by decide +kernel
theorem dX12_fits_42 : decode cX12_fits 42 = .ok (.if_icmp .ge 156, 3) := by decide +kernel
theorem dX12_fits_45 : decode cX12_fits 45 = .ok (.iload_n 1, 1) := by decide +kernel
theorem dX12_fits_46 : decode cX12_fits 46 = .ok (.iload 5, 2) := by decide +kernel
theorem dX12_fits_48 : decode cX12_fits 48 = .ok (.invokestatic 157, 3) := by decide +kernel
theorem dX12_fits_51 : decode cX12_fits 51 = .ok (.istore 6, 2) := by decide +kernel
theorem dX12_fits_53 : decode cX12_fits 53 = .ok (.aload_n 0, 1) := by decide +kernel
theorem dX12_fits_54 : decode cX12_fits 54 = .ok (.getfield 23, 3) := by decide +kernel
theorem dX12_fits_57 : decode cX12_fits 57 = .ok (.iload 6, 2) := by decide +kernel
theorem dX12_fits_59 : decode cX12_fits 59 = .ok (.iaload, 1) := by decide +kernel
theorem dX12_fits_60 : decode cX12_fits 60 = .ok (.iload 4, 2) := by decide +kernel
theorem dX12_fits_62 : decode cX12_fits 62 = .ok (.if_icmp .ne 14, 3) := by decide +kernel
theorem dX12_fits_65 : decode cX12_fits 65 = .ok (.aload_n 0, 1) := by decide +kernel
theorem dX12_fits_66 : decode cX12_fits 66 = .ok (.getfield 26, 3) := by decide +kernel
theorem dX12_fits_69 : decode cX12_fits 69 = .ok (.iload 6, 2) := by decide +kernel
theorem dX12_fits_71 : decode cX12_fits 71 = .ok (.iaload, 1) := by decide +kernel
theorem dX12_fits_72 : decode cX12_fits 72 = .ok (.iload_n 3, 1) := by decide +kernel
theorem dX12_fits_73 : decode cX12_fits 73 = .ok (.if_icmp .eq 26, 3) := by decide +kernel
theorem dX12_fits_76 : decode cX12_fits 76 = .ok (.aload_n 0, 1) := by decide +kernel
theorem dX12_fits_77 : decode cX12_fits 77 = .ok (.getfield 23, 3) := by decide +kernel
theorem dX12_fits_80 : decode cX12_fits 80 = .ok (.iload 6, 2) := by decide +kernel
theorem dX12_fits_82 : decode cX12_fits 82 = .ok (.iaload, 1) := by decide +kernel
theorem dX12_fits_83 : decode cX12_fits 83 = .ok (.iload_n 3, 1) := by decide +kernel
theorem dX12_fits_84 : decode cX12_fits 84 = .ok (.if_icmp .ne 19, 3) := by decide +kernel
theorem dX12_fits_87 : decode cX12_fits 87 = .ok (.aload_n 0, 1) := by decide +kernel
theorem dX12_fits_88 : decode cX12_fits 88 = .ok (.getfield 26, 3) := by decide +kernel
theorem dX12_fits_91 : decode cX12_fits 91 = .ok (.iload 6, 2) := by decide +kernel
theorem dX12_fits_93 : decode cX12_fits 93 = .ok (.iaload, 1) := by decide +kernel
theorem dX12_fits_94 : decode cX12_fits 94 = .ok (.iload 4, 2) := by decide +kernel
theorem dX12_fits_96 : decode cX12_fits 96 = .ok (.if_icmp .ne 7, 3) := by decide +kernel
theorem dX12_fits_99 : decode cX12_fits 99 = .ok (.iconst 1, 1) := by decide +kernel
theorem dX12_fits_100 : decode cX12_fits 100 = .ok (.goto 4, 3) := by decide +kernel
theorem dX12_fits_103 : decode cX12_fits 103 = .ok (.iconst 0, 1) := by decide +kernel
theorem dX12_fits_104 : decode cX12_fits 104 = .ok (.istore 7, 2) := by decide +kernel
theorem dX12_fits_106 : decode cX12_fits 106 = .ok (.iload 7, 2) := by decide +kernel
theorem dX12_fits_108 : decode cX12_fits 108 = .ok (.ifCond .eq 84, 3) := by decide +kernel
theorem dX12_fits_111 : decode cX12_fits 111 = .ok (.aload_n 0, 1) := by decide +kernel
theorem dX12_fits_112 : decode cX12_fits 112 = .ok (.iload_n 1, 1) := by decide +kernel
theorem dX12_fits_113 : decode cX12_fits 113 = .ok (.aload_n 0, 1) := by decide +kernel
theorem dX12_fits_114 : decode cX12_fits 114 = .ok (.getfield 23, 3) := by decide +kernel
theorem dX12_fits_117 : decode cX12_fits 117 = .ok (.iload 6, 2) := by decide +kernel
theorem dX12_fits_119 : decode cX12_fits 119 = .ok (.iaload, 1) := by decide +kernel
theorem dX12_fits_120 : decode cX12_fits 120 = .ok (.aload_n 0, 1) := by decide +kernel
theorem dX12_fits_121 : decode cX12_fits 121 = .ok (.getfield 26, 3) := by decide +kernel
theorem dX12_fits_124 : decode cX12_fits 124 = .ok (.iload 6, 2) := by decide +kernel
theorem dX12_fits_126 : decode cX12_fits 126 = .ok (.iaload, 1) := by decide +kernel
theorem dX12_fits_127 : decode cX12_fits 127 = .ok (.aload_n 0, 1) := by decide +kernel
theorem dX12_fits_128 : decode cX12_fits 128 = .ok (.getfield 29, 3) := by decide +kernel
theorem dX12_fits_131 : decode cX12_fits 131 = .ok (.iload 6, 2) := by decide +kernel
theorem dX12_fits_133 : decode cX12_fits 133 = .ok (.iaload, 1) := by decide +kernel
theorem dX12_fits_134 : decode cX12_fits 134 = .ok (.aload_n 0, 1) := by decide +kernel
theorem dX12_fits_135 : decode cX12_fits 135 = .ok (.getfield 32, 3) := by decide +kernel
theorem dX12_fits_138 : decode cX12_fits 138 = .ok (.iload 6, 2) := by decide +kernel
theorem dX12_fits_140 : decode cX12_fits 140 = .ok (.iaload, 1) := by decide +kernel
theorem dX12_fits_141 : decode cX12_fits 141 = .ok (.invokevirtual 397, 3) := by decide +kernel
theorem dX12_fits_144 : decode cX12_fits 144 = .ok (.aload_n 0, 1) := by decide +kernel
theorem dX12_fits_145 : decode cX12_fits 145 = .ok (.iload_n 2, 1) := by decide +kernel
theorem dX12_fits_146 : decode cX12_fits 146 = .ok (.aload_n 0, 1) := by decide +kernel
theorem dX12_fits_147 : decode cX12_fits 147 = .ok (.getfield 136, 3) := by decide +kernel
theorem dX12_fits_150 : decode cX12_fits 150 = .ok (.aload_n 0, 1) := by decide +kernel
theorem dX12_fits_151 : decode cX12_fits 151 = .ok (.getfield 23, 3) := by decide +kernel
theorem dX12_fits_154 : decode cX12_fits 154 = .ok (.iload 6, 2) := by decide +kernel
theorem dX12_fits_156 : decode cX12_fits 156 = .ok (.iaload, 1) := by decide +kernel
theorem dX12_fits_157 : decode cX12_fits 157 = .ok (.iaload, 1) := by decide +kernel
theorem dX12_fits_158 : decode cX12_fits 158 = .ok (.aload_n 0, 1) := by decide +kernel
theorem dX12_fits_159 : decode cX12_fits 159 = .ok (.getfield 136, 3) := by decide +kernel
theorem dX12_fits_162 : decode cX12_fits 162 = .ok (.aload_n 0, 1) := by decide +kernel
theorem dX12_fits_163 : decode cX12_fits 163 = .ok (.getfield 26, 3) := by decide +kernel
theorem dX12_fits_166 : decode cX12_fits 166 = .ok (.iload 6, 2) := by decide +kernel
theorem dX12_fits_168 : decode cX12_fits 168 = .ok (.iaload, 1) := by decide +kernel
theorem dX12_fits_169 : decode cX12_fits 169 = .ok (.iaload, 1) := by decide +kernel
theorem dX12_fits_170 : decode cX12_fits 170 = .ok (.aload_n 0, 1) := by decide +kernel
theorem dX12_fits_171 : decode cX12_fits 171 = .ok (.getfield 29, 3) := by decide +kernel
theorem dX12_fits_174 : decode cX12_fits 174 = .ok (.iload 6, 2) := by decide +kernel
theorem dX12_fits_176 : decode cX12_fits 176 = .ok (.iaload, 1) := by decide +kernel
theorem dX12_fits_177 : decode cX12_fits 177 = .ok (.aload_n 0, 1) := by decide +kernel
theorem dX12_fits_178 : decode cX12_fits 178 = .ok (.getfield 32, 3) := by decide +kernel
theorem dX12_fits_181 : decode cX12_fits 181 = .ok (.iload 6, 2) := by decide +kernel
theorem dX12_fits_183 : decode cX12_fits 183 = .ok (.iaload, 1) := by decide +kernel
theorem dX12_fits_184 : decode cX12_fits 184 = .ok (.invokevirtual 397, 3) := by decide +kernel
theorem dX12_fits_187 : decode cX12_fits 187 = .ok (.if_icmp .eq 5, 3) := by decide +kernel
theorem dX12_fits_190 : decode cX12_fits 190 = .ok (.iconst 0, 1) := by decide +kernel
theorem dX12_fits_191 : decode cX12_fits 191 = .ok (.ireturn, 1) := by decide +kernel
theorem dX12_fits_192 : decode cX12_fits 192 = .ok (.iinc 5 1, 3) := by decide +kernel
theorem dX12_fits_195 : decode cX12_fits 195 = .ok (.goto (-161), 3) := by decide +kernel
theorem dX12_fits_198 : decode cX12_fits 198 = .ok (.iconst 0, 1) := by decide +kernel
theorem dX12_fits_199 : decode cX12_fits 199 = .ok (.istore 5, 2) := by decide +kernel
theorem dX12_fits_201 : decode cX12_fits 201 = .ok (.iconst 0, 1) := by decide +kernel
theorem dX12_fits_202 : decode cX12_fits 202 = .ok (.istore 6, 2) := by decide +kernel
theorem dX12_fits_204 : decode cX12_fits 204 = .ok (.iconst 0, 1) := by decide +kernel
theorem dX12_fits_205 : decode cX12_fits 205 = .ok (.istore 7, 2) := by decide +kernel
theorem dX12_fits_207 : decode cX12_fits 207 = .ok (.iload 7, 2) := by decide +kernel
theorem dX12_fits_209 : decode cX12_fits 209 = .ok (.aload_n 0, 1) := by decide +kernel
theorem dX12_fits_210 : decode cX12_fits 210 = .ok (.getfield 20, 3) := by decide +kernel
theorem dX12_fits_213 : decode cX12_fits 213 = .ok (.iload_n 1, 1) := by decide +kernel
theorem dX12_fits_214 : decode cX12_fits 214 = .ok (.iaload, 1) := by decide +kernel
theorem dX12_fits_215 : decode cX12_fits 215 = .ok (.if_icmp .ge 157, 3) := by decide +kernel
theorem dX12_fits_218 : decode cX12_fits 218 = .ok (.iload_n 1, 1) := by decide +kernel
theorem dX12_fits_219 : decode cX12_fits 219 = .ok (.iload 7, 2) := by decide +kernel
theorem dX12_fits_221 : decode cX12_fits 221 = .ok (.invokestatic 157, 3) := by decide +kernel
theorem dX12_fits_224 : decode cX12_fits 224 = .ok (.istore 8, 2) := by decide +kernel
theorem dX12_fits_226 : decode cX12_fits 226 = .ok (.iload 5, 2) := by decide +kernel
theorem dX12_fits_228 : decode cX12_fits 228 = .ok (.aload_n 0, 1) := by decide +kernel
theorem dX12_fits_229 : decode cX12_fits 229 = .ok (.getfield 23, 3) := by decide +kernel
theorem dX12_fits_232 : decode cX12_fits 232 = .ok (.iload 8, 2) := by decide +kernel
theorem dX12_fits_234 : decode cX12_fits 234 = .ok (.iaload, 1) := by decide +kernel
theorem dX12_fits_235 : decode cX12_fits 235 = .ok (.iload 4, 2) := by decide +kernel
theorem dX12_fits_237 : decode cX12_fits 237 = .ok (.if_icmp .ne 14, 3) := by decide +kernel
theorem dX12_fits_240 : decode cX12_fits 240 = .ok (.aload_n 0, 1) := by decide +kernel
theorem dX12_fits_241 : decode cX12_fits 241 = .ok (.getfield 26, 3) := by decide +kernel
theorem dX12_fits_244 : decode cX12_fits 244 = .ok (.iload 8, 2) := by decide +kernel
theorem dX12_fits_246 : decode cX12_fits 246 = .ok (.iaload, 1) := by decide +kernel
theorem dX12_fits_247 : decode cX12_fits 247 = .ok (.iload_n 3, 1) := by decide +kernel
theorem dX12_fits_248 : decode cX12_fits 248 = .ok (.if_icmp .eq 26, 3) := by decide +kernel
theorem dX12_fits_251 : decode cX12_fits 251 = .ok (.aload_n 0, 1) := by decide +kernel
theorem dX12_fits_252 : decode cX12_fits 252 = .ok (.getfield 23, 3) := by decide +kernel
theorem dX12_fits_255 : decode cX12_fits 255 = .ok (.iload 8, 2) := by decide +kernel
theorem dX12_fits_257 : decode cX12_fits 257 = .ok (.iaload, 1) := by decide +kernel
theorem dX12_fits_258 : decode cX12_fits 258 = .ok (.iload_n 3, 1) := by decide +kernel
theorem dX12_fits_259 : decode cX12_fits 259 = .ok (.if_icmp .ne 19, 3) := by decide +kernel
theorem dX12_fits_262 : decode cX12_fits 262 = .ok (.aload_n 0, 1) := by decide +kernel
theorem dX12_fits_263 : decode cX12_fits 263 = .ok (.getfield 26, 3) := by decide +kernel
theorem dX12_fits_266 : decode cX12_fits 266 = .ok (.iload 8, 2) := by decide +kernel
theorem dX12_fits_268 : decode cX12_fits 268 = .ok (.iaload, 1) := by decide +kernel
theorem dX12_fits_269 : decode cX12_fits 269 = .ok (.iload 4, 2) := by decide +kernel
theorem dX12_fits_271 : decode cX12_fits 271 = .ok (.if_icmp .ne 7, 3) := by decide +kernel
theorem dX12_fits_274 : decode cX12_fits 274 = .ok (.iconst 1, 1) := by decide +kernel
theorem dX12_fits_275 : decode cX12_fits 275 = .ok (.goto 4, 3) := by decide +kernel
theorem dX12_fits_278 : decode cX12_fits 278 = .ok (.iconst 0, 1) := by decide +kernel
theorem dX12_fits_279 : decode cX12_fits 279 = .ok (.iadd, 1) := by decide +kernel
theorem dX12_fits_280 : decode cX12_fits 280 = .ok (.istore 5, 2) := by decide +kernel
theorem dX12_fits_282 : decode cX12_fits 282 = .ok (.iload_n 2, 1) := by decide +kernel
theorem dX12_fits_283 : decode cX12_fits 283 = .ok (.iload 7, 2) := by decide +kernel
theorem dX12_fits_285 : decode cX12_fits 285 = .ok (.invokestatic 157, 3) := by decide +kernel
theorem dX12_fits_288 : decode cX12_fits 288 = .ok (.istore 9, 2) := by decide +kernel
theorem dX12_fits_290 : decode cX12_fits 290 = .ok (.iload 6, 2) := by decide +kernel
theorem dX12_fits_292 : decode cX12_fits 292 = .ok (.aload_n 0, 1) := by decide +kernel
theorem dX12_fits_293 : decode cX12_fits 293 = .ok (.getfield 23, 3) := by decide +kernel
theorem dX12_fits_296 : decode cX12_fits 296 = .ok (.iload 9, 2) := by decide +kernel
theorem dX12_fits_298 : decode cX12_fits 298 = .ok (.iaload, 1) := by decide +kernel
theorem dX12_fits_299 : decode cX12_fits 299 = .ok (.aload_n 0, 1) := by decide +kernel
theorem dX12_fits_300 : decode cX12_fits 300 = .ok (.getfield 136, 3) := by decide +kernel
theorem dX12_fits_303 : decode cX12_fits 303 = .ok (.iload 4, 2) := by decide +kernel
theorem dX12_fits_305 : decode cX12_fits 305 = .ok (.iaload, 1) := by decide +kernel
theorem dX12_fits_306 : decode cX12_fits 306 = .ok (.if_icmp .ne 19, 3) := by decide +kernel
theorem dX12_fits_309 : decode cX12_fits 309 = .ok (.aload_n 0, 1) := by decide +kernel
theorem dX12_fits_310 : decode cX12_fits 310 = .ok (.getfield 26, 3) := by decide +kernel
theorem dX12_fits_313 : decode cX12_fits 313 = .ok (.iload 9, 2) := by decide +kernel
theorem dX12_fits_315 : decode cX12_fits 315 = .ok (.iaload, 1) := by decide +kernel
theorem dX12_fits_316 : decode cX12_fits 316 = .ok (.aload_n 0, 1) := by decide +kernel
theorem dX12_fits_317 : decode cX12_fits 317 = .ok (.getfield 136, 3) := by decide +kernel
theorem dX12_fits_320 : decode cX12_fits 320 = .ok (.iload_n 3, 1) := by decide +kernel
theorem dX12_fits_321 : decode cX12_fits 321 = .ok (.iaload, 1) := by decide +kernel
theorem dX12_fits_322 : decode cX12_fits 322 = .ok (.if_icmp .eq 36, 3) := by decide +kernel
theorem dX12_fits_325 : decode cX12_fits 325 = .ok (.aload_n 0, 1) := by decide +kernel
theorem dX12_fits_326 : decode cX12_fits 326 = .ok (.getfield 23, 3) := by decide +kernel
theorem dX12_fits_329 : decode cX12_fits 329 = .ok (.iload 9, 2) := by decide +kernel
theorem dX12_fits_331 : decode cX12_fits 331 = .ok (.iaload, 1) := by decide +kernel
theorem dX12_fits_332 : decode cX12_fits 332 = .ok (.aload_n 0, 1) := by decide +kernel
theorem dX12_fits_333 : decode cX12_fits 333 = .ok (.getfield 136, 3) := by decide +kernel
theorem dX12_fits_336 : decode cX12_fits 336 = .ok (.iload_n 3, 1) := by decide +kernel
theorem dX12_fits_337 : decode cX12_fits 337 = .ok (.iaload, 1) := by decide +kernel
theorem dX12_fits_338 : decode cX12_fits 338 = .ok (.if_icmp .ne 24, 3) := by decide +kernel
theorem dX12_fits_341 : decode cX12_fits 341 = .ok (.aload_n 0, 1) := by decide +kernel
theorem dX12_fits_342 : decode cX12_fits 342 = .ok (.getfield 26, 3) := by decide +kernel
theorem dX12_fits_345 : decode cX12_fits 345 = .ok (.iload 9, 2) := by decide +kernel
theorem dX12_fits_347 : decode cX12_fits 347 = .ok (.iaload, 1) := by decide +kernel
theorem dX12_fits_348 : decode cX12_fits 348 = .ok (.aload_n 0, 1) := by decide +kernel
theorem dX12_fits_349 : decode cX12_fits 349 = .ok (.getfield 136, 3) := by decide +kernel
theorem dX12_fits_352 : decode cX12_fits 352 = .ok (.iload 4, 2) := by decide +kernel
theorem dX12_fits_354 : decode cX12_fits 354 = .ok (.iaload, 1) := by decide +kernel
theorem dX12_fits_355 : decode cX12_fits 355 = .ok (.if_icmp .ne 7, 3) := by decide +kernel
theorem dX12_fits_358 : decode cX12_fits 358 = .ok (.iconst 1, 1) := by decide +kernel
theorem dX12_fits_359 : decode cX12_fits 359 = .ok (.goto 4, 3) := by decide +kernel
theorem dX12_fits_362 : decode cX12_fits 362 = .ok (.iconst 0, 1) := by decide +kernel
theorem dX12_fits_363 : decode cX12_fits 363 = .ok (.iadd, 1) := by decide +kernel
theorem dX12_fits_364 : decode cX12_fits 364 = .ok (.istore 6, 2) := by decide +kernel
theorem dX12_fits_366 : decode cX12_fits 366 = .ok (.iinc 7 1, 3) := by decide +kernel
theorem dX12_fits_369 : decode cX12_fits 369 = .ok (.goto (-162), 3) := by decide +kernel
theorem dX12_fits_372 : decode cX12_fits 372 = .ok (.iload 5, 2) := by decide +kernel
theorem dX12_fits_374 : decode cX12_fits 374 = .ok (.iload 6, 2) := by decide +kernel
theorem dX12_fits_376 : decode cX12_fits 376 = .ok (.if_icmp .eq 5, 3) := by decide +kernel
theorem dX12_fits_379 : decode cX12_fits 379 = .ok (.iconst 0, 1) := by decide +kernel
theorem dX12_fits_380 : decode cX12_fits 380 = .ok (.ireturn, 1) := by decide +kernel
theorem dX12_fits_381 : decode cX12_fits 381 = .ok (.iinc 4 1, 3) := by decide +kernel
theorem dX12_fits_384 : decode cX12_fits 384 = .ok (.goto (-359), 3) := by decide +kernel
theorem dX12_fits_387 : decode cX12_fits 387 = .ok (.iconst 1, 1) := by decide +kernel
theorem dX12_fits_388 : decode cX12_fits 388 = .ok (.ireturn, 1) := by decide +kernel
theorem kX12_394 : lkK (gS, X) RX12 394 mX12_ends 2 ∧ Cond.instanceMethod yX12_ends ∈ g_ws (gS, X) ∧ Cond.selects RX12 yX12_ends yX12_ends ∈ g_ws (gS, X) ∧ yX12_ends.cls = RX12 := ⟨⟨tb_good, (tb_t (k := 1634) (w := Cond.methodLink RX12 394 yX12_ends) (by decide +kernel)), (tb_t (k := 8) (w := Cond.initialized RX12) (by decide +kernel)), (tb_t (k := 1637) (w := Cond.code yX12_ends cX12_ends 6 (some .int)) (by decide +kernel)), by decide +kernel, by decide⟩, (tb_t (k := 1636) (w := Cond.instanceMethod yX12_ends) (by decide +kernel)), (tb_p (k := 138) (q := (yX12_ends, 45)) (by decide +kernel)), rfl⟩
theorem kX12_397 : lkK (gS, X) RX12 397 mX12_times 5 ∧ Cond.instanceMethod yX12_times ∈ g_ws (gS, X) ∧ Cond.selects RX12 yX12_times yX12_times ∈ g_ws (gS, X) ∧ yX12_times.cls = RX12 := ⟨⟨tb_good, (tb_t (k := 1638) (w := Cond.methodLink RX12 397 yX12_times) (by decide +kernel)), (tb_t (k := 8) (w := Cond.initialized RX12) (by decide +kernel)), (tb_t (k := 1641) (w := Cond.code yX12_times cX12_times 10 (some .int)) (by decide +kernel)), by decide +kernel, by decide⟩, (tb_t (k := 1640) (w := Cond.instanceMethod yX12_times) (by decide +kernel)), (tb_p (k := 139) (q := (yX12_times, 45)) (by decide +kernel)), rfl⟩
theorem dX12_ends_0 : decode cX12_ends 0 = .ok (.iconst 0, 1) := by decide +kernel
theorem dX12_ends_1 : decode cX12_ends 1 = .ok (.istore_n 3, 1) := by decide +kernel
theorem dX12_ends_2 : decode cX12_ends 2 = .ok (.iconst 0, 1) := by decide +kernel
theorem dX12_ends_3 : decode cX12_ends 3 = .ok (.istore 4, 2) := by decide +kernel
theorem dX12_ends_5 : decode cX12_ends 5 = .ok (.iload 4, 2) := by decide +kernel
theorem dX12_ends_7 : decode cX12_ends 7 = .ok (.aload_n 0, 1) := by decide +kernel
theorem dX12_ends_8 : decode cX12_ends 8 = .ok (.getfield 20, 3) := by decide +kernel
theorem dX12_ends_11 : decode cX12_ends 11 = .ok (.iload_n 1, 1) := by decide +kernel
theorem dX12_ends_12 : decode cX12_ends 12 = .ok (.iaload, 1) := by decide +kernel
theorem dX12_ends_13 : decode cX12_ends 13 = .ok (.if_icmp .ge 68, 3) := by decide +kernel
theorem dX12_ends_16 : decode cX12_ends 16 = .ok (.iload_n 1, 1) := by decide +kernel
theorem dX12_ends_17 : decode cX12_ends 17 = .ok (.iload 4, 2) := by decide +kernel
theorem dX12_ends_19 : decode cX12_ends 19 = .ok (.invokestatic 157, 3) := by decide +kernel
theorem dX12_ends_22 : decode cX12_ends 22 = .ok (.istore 5, 2) := by decide +kernel
theorem dX12_ends_24 : decode cX12_ends 24 = .ok (.iload_n 3, 1) := by decide +kernel
theorem dX12_ends_25 : decode cX12_ends 25 = .ok (.aload_n 0, 1) := by decide +kernel
theorem dX12_ends_26 : decode cX12_ends 26 = .ok (.getfield 23, 3) := by decide +kernel
theorem dX12_ends_29 : decode cX12_ends 29 = .ok (.iload 5, 2) := by decide +kernel
theorem dX12_ends_31 : decode cX12_ends 31 = .ok (.iaload, 1) := by decide +kernel
theorem dX12_ends_32 : decode cX12_ends 32 = .ok (.iload_n 2, 1) := by decide +kernel
theorem dX12_ends_33 : decode cX12_ends 33 = .ok (.if_icmp .ne 7, 3) := by decide +kernel
theorem dX12_ends_36 : decode cX12_ends 36 = .ok (.iconst 1, 1) := by decide +kernel
theorem dX12_ends_37 : decode cX12_ends 37 = .ok (.goto 4, 3) := by decide +kernel
theorem dX12_ends_40 : decode cX12_ends 40 = .ok (.iconst 0, 1) := by decide +kernel
theorem dX12_ends_41 : decode cX12_ends 41 = .ok (.aload_n 0, 1) := by decide +kernel
theorem dX12_ends_42 : decode cX12_ends 42 = .ok (.getfield 26, 3) := by decide +kernel
theorem dX12_ends_45 : decode cX12_ends 45 = .ok (.iload 5, 2) := by decide +kernel
theorem dX12_ends_47 : decode cX12_ends 47 = .ok (.iaload, 1) := by decide +kernel
theorem dX12_ends_48 : decode cX12_ends 48 = .ok (.iload_n 2, 1) := by decide +kernel
theorem dX12_ends_49 : decode cX12_ends 49 = .ok (.if_icmp .ne 22, 3) := by decide +kernel
theorem dX12_ends_52 : decode cX12_ends 52 = .ok (.aload_n 0, 1) := by decide +kernel
theorem dX12_ends_53 : decode cX12_ends 53 = .ok (.getfield 16, 3) := by decide +kernel
theorem dX12_ends_56 : decode cX12_ends 56 = .ok (.iload_n 1, 1) := by decide +kernel
theorem dX12_ends_57 : decode cX12_ends 57 = .ok (.baload, 1) := by decide +kernel
theorem dX12_ends_58 : decode cX12_ends 58 = .ok (.ifCond .eq 9, 3) := by decide +kernel
theorem dX12_ends_61 : decode cX12_ends 61 = .ok (.sipush 1000, 3) := by decide +kernel
theorem dX12_ends_64 : decode cX12_ends 64 = .ok (.goto 8, 3) := by decide +kernel
theorem dX12_ends_67 : decode cX12_ends 67 = .ok (.iconst 1, 1) := by decide +kernel
theorem dX12_ends_68 : decode cX12_ends 68 = .ok (.goto 4, 3) := by decide +kernel
theorem dX12_ends_71 : decode cX12_ends 71 = .ok (.iconst 0, 1) := by decide +kernel
theorem dX12_ends_72 : decode cX12_ends 72 = .ok (.iadd, 1) := by decide +kernel
theorem dX12_ends_73 : decode cX12_ends 73 = .ok (.iadd, 1) := by decide +kernel
theorem dX12_ends_74 : decode cX12_ends 74 = .ok (.istore_n 3, 1) := by decide +kernel
theorem dX12_ends_75 : decode cX12_ends 75 = .ok (.iinc 4 1, 3) := by decide +kernel
theorem dX12_ends_78 : decode cX12_ends 78 = .ok (.goto (-73), 3) := by decide +kernel
theorem dX12_ends_81 : decode cX12_ends 81 = .ok (.iload_n 3, 1) := by decide +kernel
theorem dX12_ends_82 : decode cX12_ends 82 = .ok (.ireturn, 1) := by decide +kernel
theorem dX12_times_0 : decode cX12_times 0 = .ok (.iconst 0, 1) := by decide +kernel
theorem dX12_times_1 : decode cX12_times 1 = .ok (.istore 6, 2) := by decide +kernel
theorem dX12_times_3 : decode cX12_times 3 = .ok (.iconst 0, 1) := by decide +kernel
theorem dX12_times_4 : decode cX12_times 4 = .ok (.istore 7, 2) := by decide +kernel
theorem dX12_times_6 : decode cX12_times 6 = .ok (.iload 7, 2) := by decide +kernel
theorem dX12_times_8 : decode cX12_times 8 = .ok (.aload_n 0, 1) := by decide +kernel
theorem dX12_times_9 : decode cX12_times 9 = .ok (.getfield 20, 3) := by decide +kernel
theorem dX12_times_12 : decode cX12_times 12 = .ok (.iload_n 1, 1) := by decide +kernel
theorem dX12_times_13 : decode cX12_times 13 = .ok (.iaload, 1) := by decide +kernel
theorem dX12_times_14 : decode cX12_times 14 = .ok (.if_icmp .ge 116, 3) := by decide +kernel
theorem dX12_times_17 : decode cX12_times 17 = .ok (.iload_n 1, 1) := by decide +kernel
theorem dX12_times_18 : decode cX12_times 18 = .ok (.iload 7, 2) := by decide +kernel
theorem dX12_times_20 : decode cX12_times 20 = .ok (.invokestatic 157, 3) := by decide +kernel
theorem dX12_times_23 : decode cX12_times 23 = .ok (.istore 8, 2) := by decide +kernel
theorem dX12_times_25 : decode cX12_times 25 = .ok (.aload_n 0, 1) := by decide +kernel
theorem dX12_times_26 : decode cX12_times 26 = .ok (.getfield 23, 3) := by decide +kernel
theorem dX12_times_29 : decode cX12_times 29 = .ok (.iload 8, 2) := by decide +kernel
theorem dX12_times_31 : decode cX12_times 31 = .ok (.iaload, 1) := by decide +kernel
theorem dX12_times_32 : decode cX12_times 32 = .ok (.iload_n 2, 1) := by decide +kernel
theorem dX12_times_33 : decode cX12_times 33 = .ok (.if_icmp .ne 14, 3) := by decide +kernel
theorem dX12_times_36 : decode cX12_times 36 = .ok (.aload_n 0, 1) := by decide +kernel
theorem dX12_times_37 : decode cX12_times 37 = .ok (.getfield 26, 3) := by decide +kernel
theorem dX12_times_40 : decode cX12_times 40 = .ok (.iload 8, 2) := by decide +kernel
theorem dX12_times_42 : decode cX12_times 42 = .ok (.iaload, 1) := by decide +kernel
theorem dX12_times_43 : decode cX12_times 43 = .ok (.iload_n 3, 1) := by decide +kernel
theorem dX12_times_44 : decode cX12_times 44 = .ok (.if_icmp .eq 34, 3) := by decide +kernel
theorem dX12_times_47 : decode cX12_times 47 = .ok (.aload_n 0, 1) := by decide +kernel
theorem dX12_times_48 : decode cX12_times 48 = .ok (.getfield 16, 3) := by decide +kernel
theorem dX12_times_51 : decode cX12_times 51 = .ok (.iload_n 1, 1) := by decide +kernel
theorem dX12_times_52 : decode cX12_times 52 = .ok (.baload, 1) := by decide +kernel
theorem dX12_times_53 : decode cX12_times 53 = .ok (.ifCond .ne 29, 3) := by decide +kernel
theorem dX12_times_56 : decode cX12_times 56 = .ok (.aload_n 0, 1) := by decide +kernel
theorem dX12_times_57 : decode cX12_times 57 = .ok (.getfield 23, 3) := by decide +kernel
theorem dX12_times_60 : decode cX12_times 60 = .ok (.iload 8, 2) := by decide +kernel
theorem dX12_times_62 : decode cX12_times 62 = .ok (.iaload, 1) := by decide +kernel
theorem dX12_times_63 : decode cX12_times 63 = .ok (.iload_n 3, 1) := by decide +kernel
theorem dX12_times_64 : decode cX12_times 64 = .ok (.if_icmp .ne 18, 3) := by decide +kernel
theorem dX12_times_67 : decode cX12_times 67 = .ok (.aload_n 0, 1) := by decide +kernel
theorem dX12_times_68 : decode cX12_times 68 = .ok (.getfield 26, 3) := by decide +kernel
theorem dX12_times_71 : decode cX12_times 71 = .ok (.iload 8, 2) := by decide +kernel
theorem dX12_times_73 : decode cX12_times 73 = .ok (.iaload, 1) := by decide +kernel
theorem dX12_times_74 : decode cX12_times 74 = .ok (.iload_n 2, 1) := by decide +kernel
theorem dX12_times_75 : decode cX12_times 75 = .ok (.if_icmp .ne 7, 3) := by decide +kernel
theorem dX12_times_78 : decode cX12_times 78 = .ok (.iconst 1, 1) := by decide +kernel
theorem dX12_times_79 : decode cX12_times 79 = .ok (.goto 4, 3) := by decide +kernel
theorem dX12_times_82 : decode cX12_times 82 = .ok (.iconst 0, 1) := by decide +kernel
theorem dX12_times_83 : decode cX12_times 83 = .ok (.istore 9, 2) := by decide +kernel
theorem dX12_times_85 : decode cX12_times 85 = .ok (.iload 6, 2) := by decide +kernel
theorem dX12_times_87 : decode cX12_times 87 = .ok (.iload 9, 2) := by decide +kernel
theorem dX12_times_89 : decode cX12_times 89 = .ok (.ifCond .eq 31, 3) := by decide +kernel
theorem dX12_times_92 : decode cX12_times 92 = .ok (.aload_n 0, 1) := by decide +kernel
theorem dX12_times_93 : decode cX12_times 93 = .ok (.getfield 29, 3) := by decide +kernel
theorem dX12_times_96 : decode cX12_times 96 = .ok (.iload 8, 2) := by decide +kernel
theorem dX12_times_98 : decode cX12_times 98 = .ok (.iaload, 1) := by decide +kernel
theorem dX12_times_99 : decode cX12_times 99 = .ok (.iload 4, 2) := by decide +kernel
theorem dX12_times_101 : decode cX12_times 101 = .ok (.if_icmp .ne 19, 3) := by decide +kernel
theorem dX12_times_104 : decode cX12_times 104 = .ok (.aload_n 0, 1) := by decide +kernel
theorem dX12_times_105 : decode cX12_times 105 = .ok (.getfield 32, 3) := by decide +kernel
theorem dX12_times_108 : decode cX12_times 108 = .ok (.iload 8, 2) := by decide +kernel
theorem dX12_times_110 : decode cX12_times 110 = .ok (.iaload, 1) := by decide +kernel
theorem dX12_times_111 : decode cX12_times 111 = .ok (.iload 5, 2) := by decide +kernel
theorem dX12_times_113 : decode cX12_times 113 = .ok (.if_icmp .ne 7, 3) := by decide +kernel
theorem dX12_times_116 : decode cX12_times 116 = .ok (.iconst 1, 1) := by decide +kernel
theorem dX12_times_117 : decode cX12_times 117 = .ok (.goto 4, 3) := by decide +kernel
theorem dX12_times_120 : decode cX12_times 120 = .ok (.iconst 0, 1) := by decide +kernel
theorem dX12_times_121 : decode cX12_times 121 = .ok (.iadd, 1) := by decide +kernel
theorem dX12_times_122 : decode cX12_times 122 = .ok (.istore 6, 2) := by decide +kernel
theorem dX12_times_124 : decode cX12_times 124 = .ok (.iinc 7 1, 3) := by decide +kernel
theorem dX12_times_127 : decode cX12_times 127 = .ok (.goto (-121), 3) := by decide +kernel
theorem dX12_times_130 : decode cX12_times 130 = .ok (.iload 6, 2) := by decide +kernel
theorem dX12_times_132 : decode cX12_times 132 = .ok (.ireturn, 1) := by decide +kernel
end NM
