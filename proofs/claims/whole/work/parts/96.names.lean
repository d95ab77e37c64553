section NM
variable {X : va_G × List (ClassId × FieldType) × (Nat × Nat × Nat × (Nat → Int32))}
theorem dX3_sortNumber_0 : decode cX3_sortNumber 0 = .ok (.iconst 1, 1) := by decide +kernel
theorem dX3_sortNumber_1 : decode cX3_sortNumber 1 = .ok (.ireturn, 1) := by decide +kernel
theorem dX3_allNodes_0 : decode cX3_allNodes 0 = .ok (.iconst 1, 1) := by decide +kernel
theorem dX3_allNodes_1 : decode cX3_allNodes 1 = .ok (.aload_n 0, 1) := by decide +kernel
theorem dX3_allNodes_2 : decode cX3_allNodes 2 = .ok (.getfield 49, 3) := by decide +kernel
theorem dX3_allNodes_5 : decode cX3_allNodes 5 = .ok (.ishl, 1) := by decide +kernel
theorem dX3_allNodes_6 : decode cX3_allNodes 6 = .ok (.iconst 1, 1) := by decide +kernel
theorem dX3_allNodes_7 : decode cX3_allNodes 7 = .ok (.isub, 1) := by decide +kernel
theorem dX3_allNodes_8 : decode cX3_allNodes 8 = .ok (.ireturn, 1) := by decide +kernel
theorem dX3_detail_0 : decode cX3_detail 0 = .ok (.iload_n 1, 1) := by decide +kernel
theorem dX3_detail_1 : decode cX3_detail 1 = .ok (.tableswitch 83 0 5 #[39, 44, 49, 62, 69, 76], 39) := by decide +kernel
theorem dX3_detail_40 : decode cX3_detail 40 = .ok (.aload_n 0, 1) := by decide +kernel
theorem dX3_detail_41 : decode cX3_detail 41 = .ok (.getfield 49, 3) := by decide +kernel
theorem dX3_detail_44 : decode cX3_detail 44 = .ok (.ireturn, 1) := by decide +kernel
theorem dX3_detail_45 : decode cX3_detail 45 = .ok (.aload_n 0, 1) := by decide +kernel
theorem dX3_detail_46 : decode cX3_detail 46 = .ok (.getfield 25, 3) := by decide +kernel
theorem dX3_detail_49 : decode cX3_detail 49 = .ok (.ireturn, 1) := by decide +kernel
theorem dX3_detail_50 : decode cX3_detail 50 = .ok (.aload_n 0, 1) := by decide +kernel
theorem dX3_detail_51 : decode cX3_detail 51 = .ok (.getfield 19, 3) := by decide +kernel
theorem dX3_detail_54 : decode cX3_detail 54 = .ok (.ifCond .eq 7, 3) := by decide +kernel
theorem dX3_detail_57 : decode cX3_detail 57 = .ok (.iconst 1, 1) := by decide +kernel
theorem dX3_detail_58 : decode cX3_detail 58 = .ok (.goto 4, 3) := by decide +kernel
theorem dX3_detail_61 : decode cX3_detail 61 = .ok (.iconst 0, 1) := by decide +kernel
theorem dX3_detail_62 : decode cX3_detail 62 = .ok (.ireturn, 1) := by decide +kernel
theorem dX3_detail_63 : decode cX3_detail 63 = .ok (.aload_n 0, 1) := by decide +kernel
theorem dX3_detail_64 : decode cX3_detail 64 = .ok (.getfield 36, 3) := by decide +kernel
theorem dX3_detail_67 : decode cX3_detail 67 = .ok (.iload_n 2, 1) := by decide +kernel
theorem dX3_detail_68 : decode cX3_detail 68 = .ok (.iaload, 1) := by decide +kernel
theorem dX3_detail_69 : decode cX3_detail 69 = .ok (.ireturn, 1) := by decide +kernel
theorem dX3_detail_70 : decode cX3_detail 70 = .ok (.aload_n 0, 1) := by decide +kernel
theorem dX3_detail_71 : decode cX3_detail 71 = .ok (.getfield 40, 3) := by decide +kernel
theorem dX3_detail_74 : decode cX3_detail 74 = .ok (.iload_n 2, 1) := by decide +kernel
theorem dX3_detail_75 : decode cX3_detail 75 = .ok (.iaload, 1) := by decide +kernel
theorem dX3_detail_76 : decode cX3_detail 76 = .ok (.ireturn, 1) := by decide +kernel
theorem dX3_detail_77 : decode cX3_detail 77 = .ok (.aload_n 0, 1) := by decide +kernel
theorem dX3_detail_78 : decode cX3_detail 78 = .ok (.getfield 44, 3) := by decide +kernel
theorem dX3_detail_81 : decode cX3_detail 81 = .ok (.iload_n 2, 1) := by decide +kernel
theorem dX3_detail_82 : decode cX3_detail 82 = .ok (.iaload, 1) := by decide +kernel
theorem dX3_detail_83 : decode cX3_detail 83 = .ok (.ireturn, 1) := by decide +kernel
theorem dX3_detail_84 : decode cX3_detail 84 = .ok (.aload_n 0, 1) := by decide +kernel
theorem dX3_detail_85 : decode cX3_detail 85 = .ok (.getfield 48, 3) := by decide +kernel
theorem dX3_detail_88 : decode cX3_detail 88 = .ok (.iload_n 2, 1) := by decide +kernel
theorem dX3_detail_89 : decode cX3_detail 89 = .ok (.iaload, 1) := by decide +kernel
theorem dX3_detail_90 : decode cX3_detail 90 = .ok (.ireturn, 1) := by decide +kernel
theorem dX3_haveSameEnds_0 : decode cX3_haveSameEnds 0 = .ok (.aload_n 0, 1) := by decide +kernel
theorem dX3_haveSameEnds_1 : decode cX3_haveSameEnds 1 = .ok (.getfield 36, 3) := by decide +kernel
theorem dX3_haveSameEnds_4 : decode cX3_haveSameEnds 4 = .ok (.iload_n 1, 1) := by decide +kernel
theorem dX3_haveSameEnds_5 : decode cX3_haveSameEnds 5 = .ok (.iaload, 1) := by decide +kernel
theorem dX3_haveSameEnds_6 : decode cX3_haveSameEnds 6 = .ok (.aload_n 0, 1) := by decide +kernel
theorem dX3_haveSameEnds_7 : decode cX3_haveSameEnds 7 = .ok (.getfield 36, 3) := by decide +kernel
theorem dX3_haveSameEnds_10 : decode cX3_haveSameEnds 10 = .ok (.iload_n 2, 1) := by decide +kernel
theorem dX3_haveSameEnds_11 : decode cX3_haveSameEnds 11 = .ok (.iaload, 1) := by decide +kernel
theorem dX3_haveSameEnds_12 : decode cX3_haveSameEnds 12 = .ok (.if_icmp .ne 18, 3) := by decide +kernel
theorem dX3_haveSameEnds_15 : decode cX3_haveSameEnds 15 = .ok (.aload_n 0, 1) := by decide +kernel
theorem dX3_haveSameEnds_16 : decode cX3_haveSameEnds 16 = .ok (.getfield 40, 3) := by decide +kernel
theorem dX3_haveSameEnds_19 : decode cX3_haveSameEnds 19 = .ok (.iload_n 1, 1) := by decide +kernel
theorem dX3_haveSameEnds_20 : decode cX3_haveSameEnds 20 = .ok (.iaload, 1) := by decide +kernel
theorem dX3_haveSameEnds_21 : decode cX3_haveSameEnds 21 = .ok (.aload_n 0, 1) := by decide +kernel
theorem dX3_haveSameEnds_22 : decode cX3_haveSameEnds 22 = .ok (.getfield 40, 3) := by decide +kernel
theorem dX3_haveSameEnds_25 : decode cX3_haveSameEnds 25 = .ok (.iload_n 2, 1) := by decide +kernel
theorem dX3_haveSameEnds_26 : decode cX3_haveSameEnds 26 = .ok (.iaload, 1) := by decide +kernel
theorem dX3_haveSameEnds_27 : decode cX3_haveSameEnds 27 = .ok (.if_icmp .eq 40, 3) := by decide +kernel
theorem dX3_haveSameEnds_30 : decode cX3_haveSameEnds 30 = .ok (.aload_n 0, 1) := by decide +kernel
theorem dX3_haveSameEnds_31 : decode cX3_haveSameEnds 31 = .ok (.getfield 19, 3) := by decide +kernel
theorem dX3_haveSameEnds_34 : decode cX3_haveSameEnds 34 = .ok (.ifCond .ne 37, 3) := by decide +kernel
theorem dX3_haveSameEnds_37 : decode cX3_haveSameEnds 37 = .ok (.aload_n 0, 1) := by decide +kernel
theorem dX3_haveSameEnds_38 : decode cX3_haveSameEnds 38 = .ok (.getfield 36, 3) := by decide +kernel
theorem dX3_haveSameEnds_41 : decode cX3_haveSameEnds 41 = .ok (.iload_n 1, 1) := by decide +kernel
theorem dX3_haveSameEnds_42 : decode cX3_haveSameEnds 42 = .ok (.iaload, 1) := by decide +kernel
theorem dX3_haveSameEnds_43 : decode cX3_haveSameEnds 43 = .ok (.aload_n 0, 1) := by decide +kernel
theorem dX3_haveSameEnds_44 : decode cX3_haveSameEnds 44 = .ok (.getfield 40, 3) := by decide +kernel
theorem dX3_haveSameEnds_47 : decode cX3_haveSameEnds 47 = .ok (.iload_n 2, 1) := by decide +kernel
theorem dX3_haveSameEnds_48 : decode cX3_haveSameEnds 48 = .ok (.iaload, 1) := by decide +kernel
theorem dX3_haveSameEnds_49 : decode cX3_haveSameEnds 49 = .ok (.if_icmp .ne 22, 3) := by decide +kernel
theorem dX3_haveSameEnds_52 : decode cX3_haveSameEnds 52 = .ok (.aload_n 0, 1) := by decide +kernel
theorem dX3_haveSameEnds_53 : decode cX3_haveSameEnds 53 = .ok (.getfield 40, 3) := by decide +kernel
theorem dX3_haveSameEnds_56 : decode cX3_haveSameEnds 56 = .ok (.iload_n 1, 1) := by decide +kernel
theorem dX3_haveSameEnds_57 : decode cX3_haveSameEnds 57 = .ok (.iaload, 1) := by decide +kernel
theorem dX3_haveSameEnds_58 : decode cX3_haveSameEnds 58 = .ok (.aload_n 0, 1) := by decide +kernel
theorem dX3_haveSameEnds_59 : decode cX3_haveSameEnds 59 = .ok (.getfield 36, 3) := by decide +kernel
theorem dX3_haveSameEnds_62 : decode cX3_haveSameEnds 62 = .ok (.iload_n 2, 1) := by decide +kernel
theorem dX3_haveSameEnds_63 : decode cX3_haveSameEnds 63 = .ok (.iaload, 1) := by decide +kernel
theorem dX3_haveSameEnds_64 : decode cX3_haveSameEnds 64 = .ok (.if_icmp .ne 7, 3) := by decide +kernel
theorem dX3_haveSameEnds_67 : decode cX3_haveSameEnds 67 = .ok (.iconst 1, 1) := by decide +kernel
theorem dX3_haveSameEnds_68 : decode cX3_haveSameEnds 68 = .ok (.goto 4, 3) := by decide +kernel
theorem dX3_haveSameEnds_71 : decode cX3_haveSameEnds 71 = .ok (.iconst 0, 1) := by decide +kernel
theorem dX3_haveSameEnds_72 : decode cX3_haveSameEnds 72 = .ok (.ireturn, 1) := by decide +kernel
theorem dX3_shareNode_0 : decode cX3_shareNode 0 = .ok (.aload_n 0, 1) := by decide +kernel
theorem dX3_shareNode_1 : decode cX3_shareNode 1 = .ok (.getfield 36, 3) := by decide +kernel
theorem dX3_shareNode_4 : decode cX3_shareNode 4 = .ok (.iload_n 1, 1) := by decide +kernel
theorem dX3_shareNode_5 : decode cX3_shareNode 5 = .ok (.iaload, 1) := by decide +kernel
theorem dX3_shareNode_6 : decode cX3_shareNode 6 = .ok (.aload_n 0, 1) := by decide +kernel
theorem dX3_shareNode_7 : decode cX3_shareNode 7 = .ok (.getfield 36, 3) := by decide +kernel
theorem dX3_shareNode_10 : decode cX3_shareNode 10 = .ok (.iload_n 2, 1) := by decide +kernel
theorem dX3_shareNode_11 : decode cX3_shareNode 11 = .ok (.iaload, 1) := by decide +kernel
theorem dX3_shareNode_12 : decode cX3_shareNode 12 = .ok (.if_icmp .eq 48, 3) := by decide +kernel
theorem dX3_shareNode_15 : decode cX3_shareNode 15 = .ok (.aload_n 0, 1) := by decide +kernel
theorem dX3_shareNode_16 : decode cX3_shareNode 16 = .ok (.getfield 36, 3) := by decide +kernel
theorem dX3_shareNode_19 : decode cX3_shareNode 19 = .ok (.iload_n 1, 1) := by decide +kernel
theorem dX3_shareNode_20 : decode cX3_shareNode 20 = .ok (.iaload, 1) := by decide +kernel
theorem dX3_shareNode_21 : decode cX3_shareNode 21 = .ok (.aload_n 0, 1) := by decide +kernel
theorem dX3_shareNode_22 : decode cX3_shareNode 22 = .ok (.getfield 40, 3) := by decide +kernel
theorem dX3_shareNode_25 : decode cX3_shareNode 25 = .ok (.iload_n 2, 1) := by decide +kernel
theorem dX3_shareNode_26 : decode cX3_shareNode 26 = .ok (.iaload, 1) := by decide +kernel
theorem dX3_shareNode_27 : decode cX3_shareNode 27 = .ok (.if_icmp .eq 33, 3) := by decide +kernel
theorem dX3_shareNode_30 : decode cX3_shareNode 30 = .ok (.aload_n 0, 1) := by decide +kernel
theorem dX3_shareNode_31 : decode cX3_shareNode 31 = .ok (.getfield 40, 3) := by decide +kernel
theorem dX3_shareNode_34 : decode cX3_shareNode 34 = .ok (.iload_n 1, 1) := by decide +kernel
theorem dX3_shareNode_35 : decode cX3_shareNode 35 = .ok (.iaload, 1) := by decide +kernel
theorem dX3_shareNode_36 : decode cX3_shareNode 36 = .ok (.aload_n 0, 1) := by decide +kernel
theorem dX3_shareNode_37 : decode cX3_shareNode 37 = .ok (.getfield 36, 3) := by decide +kernel
theorem dX3_shareNode_40 : decode cX3_shareNode 40 = .ok (.iload_n 2, 1) := by decide +kernel
theorem dX3_shareNode_41 : decode cX3_shareNode 41 = .ok (.iaload, 1) := by decide +kernel
theorem dX3_shareNode_42 : decode cX3_shareNode 42 = .ok (.if_icmp .eq 18, 3) := by decide +kernel
theorem dX3_shareNode_45 : decode cX3_shareNode 45 = .ok (.aload_n 0, 1) := by decide +kernel
theorem dX3_shareNode_46 : decode cX3_shareNode 46 = .ok (.getfield 40, 3) := by decide +kernel
theorem dX3_shareNode_49 : decode cX3_shareNode 49 = .ok (.iload_n 1, 1) := by decide +kernel
theorem dX3_shareNode_50 : decode cX3_shareNode 50 = .ok (.iaload, 1) := by decide +kernel
theorem dX3_shareNode_51 : decode cX3_shareNode 51 = .ok (.aload_n 0, 1) := by decide +kernel
theorem dX3_shareNode_52 : decode cX3_shareNode 52 = .ok (.getfield 40, 3) := by decide +kernel
theorem dX3_shareNode_55 : decode cX3_shareNode 55 = .ok (.iload_n 2, 1) := by decide +kernel
theorem dX3_shareNode_56 : decode cX3_shareNode 56 = .ok (.iaload, 1) := by decide +kernel
theorem dX3_shareNode_57 : decode cX3_shareNode 57 = .ok (.if_icmp .ne 7, 3) := by decide +kernel
theorem dX3_shareNode_60 : decode cX3_shareNode 60 = .ok (.iconst 1, 1) := by decide +kernel
theorem dX3_shareNode_61 : decode cX3_shareNode 61 = .ok (.goto 4, 3) := by decide +kernel
theorem dX3_shareNode_64 : decode cX3_shareNode 64 = .ok (.iconst 0, 1) := by decide +kernel
theorem dX3_shareNode_65 : decode cX3_shareNode 65 = .ok (.ireturn, 1) := by decide +kernel
theorem dX3_hasTwin_0 : decode cX3_hasTwin 0 = .ok (.iconst 0, 1) := by decide +kernel
theorem dX3_hasTwin_1 : decode cX3_hasTwin 1 = .ok (.istore_n 2, 1) := by decide +kernel
theorem dX3_hasTwin_2 : decode cX3_hasTwin 2 = .ok (.iload_n 2, 1) := by decide +kernel
theorem dX3_hasTwin_3 : decode cX3_hasTwin 3 = .ok (.aload_n 0, 1) := by decide +kernel
theorem dX3_hasTwin_4 : decode cX3_hasTwin 4 = .ok (.getfield 25, 3) := by decide +kernel
theorem dX3_hasTwin_7 : decode cX3_hasTwin 7 = .ok (.if_icmp .ge 98, 3) := by decide +kernel
theorem dX3_hasTwin_10 : decode cX3_hasTwin 10 = .ok (.aload_n 0, 1) := by decide +kernel
theorem dX3_hasTwin_11 : decode cX3_hasTwin 11 = .ok (.getfield 36, 3) := by decide +kernel
theorem dX3_hasTwin_14 : decode cX3_hasTwin 14 = .ok (.iload_n 1, 1) := by decide +kernel
theorem dX3_hasTwin_15 : decode cX3_hasTwin 15 = .ok (.iaload, 1) := by decide +kernel
theorem dX3_hasTwin_16 : decode cX3_hasTwin 16 = .ok (.aload_n 0, 1) := by decide +kernel
theorem dX3_hasTwin_17 : decode cX3_hasTwin 17 = .ok (.getfield 36, 3) := by decide +kernel
theorem dX3_hasTwin_20 : decode cX3_hasTwin 20 = .ok (.iload_n 2, 1) := by decide +kernel
theorem dX3_hasTwin_21 : decode cX3_hasTwin 21 = .ok (.iaload, 1) := by decide +kernel
theorem dX3_hasTwin_22 : decode cX3_hasTwin 22 = .ok (.if_icmp .ne 22, 3) := by decide +kernel
theorem dX3_hasTwin_25 : decode cX3_hasTwin 25 = .ok (.aload_n 0, 1) := by decide +kernel
theorem dX3_hasTwin_26 : decode cX3_hasTwin 26 = .ok (.getfield 40, 3) := by decide +kernel
theorem dX3_hasTwin_29 : decode cX3_hasTwin 29 = .ok (.iload_n 1, 1) := by decide +kernel
theorem dX3_hasTwin_30 : decode cX3_hasTwin 30 = .ok (.iaload, 1) := by decide +kernel
theorem dX3_hasTwin_31 : decode cX3_hasTwin 31 = .ok (.aload_n 0, 1) := by decide +kernel
theorem dX3_hasTwin_32 : decode cX3_hasTwin 32 = .ok (.getfield 40, 3) := by decide +kernel
theorem dX3_hasTwin_35 : decode cX3_hasTwin 35 = .ok (.iload_n 2, 1) := by decide +kernel
theorem dX3_hasTwin_36 : decode cX3_hasTwin 36 = .ok (.iaload, 1) := by decide +kernel
theorem dX3_hasTwin_37 : decode cX3_hasTwin 37 = .ok (.if_icmp .ne 7, 3) := by decide +kernel
theorem dX3_hasTwin_40 : decode cX3_hasTwin 40 = .ok (.iconst 1, 1) := by decide +kernel
theorem dX3_hasTwin_41 : decode cX3_hasTwin 41 = .ok (.goto 4, 3) := by decide +kernel
theorem dX3_hasTwin_44 : decode cX3_hasTwin 44 = .ok (.iconst 0, 1) := by decide +kernel
theorem dX3_hasTwin_45 : decode cX3_hasTwin 45 = .ok (.istore_n 3, 1) := by decide +kernel
theorem dX3_hasTwin_46 : decode cX3_hasTwin 46 = .ok (.aload_n 0, 1) := by decide +kernel
theorem dX3_hasTwin_47 : decode cX3_hasTwin 47 = .ok (.getfield 36, 3) := by decide +kernel
theorem dX3_hasTwin_50 : decode cX3_hasTwin 50 = .ok (.iload_n 1, 1) := by decide +kernel
theorem dX3_hasTwin_51 : decode cX3_hasTwin 51 = .ok (.iaload, 1) := by decide +kernel
theorem dX3_hasTwin_52 : decode cX3_hasTwin 52 = .ok (.aload_n 0, 1) := by decide +kernel
theorem dX3_hasTwin_53 : decode cX3_hasTwin 53 = .ok (.getfield 40, 3) := by decide +kernel
theorem dX3_hasTwin_56 : decode cX3_hasTwin 56 = .ok (.iload_n 2, 1) := by decide +kernel
theorem dX3_hasTwin_57 : decode cX3_hasTwin 57 = .ok (.iaload, 1) := by decide +kernel
theorem dX3_hasTwin_58 : decode cX3_hasTwin 58 = .ok (.if_icmp .ne 22, 3) := by decide +kernel
theorem dX3_hasTwin_61 : decode cX3_hasTwin 61 = .ok (.aload_n 0, 1) := by decide +kernel
theorem dX3_hasTwin_62 : decode cX3_hasTwin 62 = .ok (.getfield 40, 3) := by decide +kernel
theorem dX3_hasTwin_65 : decode cX3_hasTwin 65 = .ok (.iload_n 1, 1) := by decide +kernel
theorem dX3_hasTwin_66 : decode cX3_hasTwin 66 = .ok (.iaload, 1) := by decide +kernel
theorem dX3_hasTwin_67 : decode cX3_hasTwin 67 = .ok (.aload_n 0, 1) := by decide +kernel
theorem dX3_hasTwin_68 : decode cX3_hasTwin 68 = .ok (.getfield 36, 3) := by decide +kernel
theorem dX3_hasTwin_71 : decode cX3_hasTwin 71 = .ok (.iload_n 2, 1) := by decide +kernel
theorem dX3_hasTwin_72 : decode cX3_hasTwin 72 = .ok (.iaload, 1) := by decide +kernel
theorem dX3_hasTwin_73 : decode cX3_hasTwin 73 = .ok (.if_icmp .ne 7, 3) := by decide +kernel
theorem dX3_hasTwin_76 : decode cX3_hasTwin 76 = .ok (.iconst 1, 1) := by decide +kernel
theorem dX3_hasTwin_77 : decode cX3_hasTwin 77 = .ok (.goto 4, 3) := by decide +kernel
theorem dX3_hasTwin_80 : decode cX3_hasTwin 80 = .ok (.iconst 0, 1) := by decide +kernel
theorem dX3_hasTwin_81 : decode cX3_hasTwin 81 = .ok (.istore 4, 2) := by decide +kernel
theorem dX3_hasTwin_83 : decode cX3_hasTwin 83 = .ok (.iload_n 2, 1) := by decide +kernel
theorem dX3_hasTwin_84 : decode cX3_hasTwin 84 = .ok (.iload_n 1, 1) := by decide +kernel
theorem dX3_hasTwin_85 : decode cX3_hasTwin 85 = .ok (.if_icmp .eq 14, 3) := by decide +kernel
theorem dX3_hasTwin_88 : decode cX3_hasTwin 88 = .ok (.iload_n 3, 1) := by decide +kernel
theorem dX3_hasTwin_89 : decode cX3_hasTwin 89 = .ok (.ifCond .ne 8, 3) := by decide +kernel
theorem dX3_hasTwin_92 : decode cX3_hasTwin 92 = .ok (.iload 4, 2) := by decide +kernel
theorem dX3_hasTwin_94 : decode cX3_hasTwin 94 = .ok (.ifCond .eq 5, 3) := by decide +kernel
theorem dX3_hasTwin_97 : decode cX3_hasTwin 97 = .ok (.iconst 1, 1) := by decide +kernel
theorem dX3_hasTwin_98 : decode cX3_hasTwin 98 = .ok (.ireturn, 1) := by decide +kernel
theorem dX3_hasTwin_99 : decode cX3_hasTwin 99 = .ok (.iinc 2 1, 3) := by decide +kernel
theorem dX3_hasTwin_102 : decode cX3_hasTwin 102 = .ok (.goto (-100), 3) := by decide +kernel
theorem dX3_hasTwin_105 : decode cX3_hasTwin 105 = .ok (.iconst 0, 1) := by decide +kernel
theorem dX3_hasTwin_106 : decode cX3_hasTwin 106 = .ok (.ireturn, 1) := by decide +kernel
theorem dX7_greatestJoined_0 : decode cX7_greatestJoined 0 = .ok (.aload_n 0, 1) := by decide +kernel
theorem dX7_greatestJoined_1 : decode cX7_greatestJoined 1 = .ok (.aload_n 1, 1) := by decide +kernel
theorem dX7_greatestJoined_2 : decode cX7_greatestJoined 2 = .ok (.invokevirtual 27, 3) := by decide +kernel
theorem dX7_greatestJoined_5 : decode cX7_greatestJoined 5 = .ok (.aload_n 0, 1) := by decide +kernel
theorem dX7_greatestJoined_6 : decode cX7_greatestJoined 6 = .ok (.getfield 9, 3) := by decide +kernel
theorem dX7_greatestJoined_9 : decode cX7_greatestJoined 9 = .ok (.aload_n 1, 1) := by decide +kernel
theorem dX7_greatestJoined_10 : decode cX7_greatestJoined 10 = .ok (.invokevirtual 31, 3) := by decide +kernel
theorem dX7_greatestJoined_13 : decode cX7_greatestJoined 13 = .ok (.invokestatic 37, 3) := by decide +kernel
theorem dX7_greatestJoined_16 : decode cX7_greatestJoined 16 = .ok (.ireturn, 1) := by decide +kernel
theorem kX7_27 : lkK (gS, X) RX7 27 mX7_fillStrangers 1 ∧ Cond.instanceMethod yX7_fillStrangers ∈ g_ws (gS, X) ∧ Cond.selects RX7 yX7_fillStrangers yX7_fillStrangers ∈ g_ws (gS, X) ∧ yX7_fillStrangers.cls = RX7 := ⟨⟨tb_good, (tb_t (k := 934) (w := Cond.methodLink RX7 27 yX7_fillStrangers) (by decide +kernel)), (tb_t (k := 4) (w := Cond.initialized RX7) (by decide +kernel)), (tb_t (k := 937) (w := Cond.code yX7_fillStrangers cX7_fillStrangers 3 none) (by decide +kernel)), by decide +kernel, by decide⟩, (tb_t (k := 936) (w := Cond.instanceMethod yX7_fillStrangers) (by decide +kernel)), (tb_p (k := 48) (q := (yX7_fillStrangers, 5)) (by decide +kernel)), rfl⟩
theorem kX7_31 : lkK (gS, X) RX7 31 mX3_allNodes 0 ∧ Cond.instanceMethod yX3_allNodes ∈ g_ws (gS, X) ∧ Cond.selects RX3 yX3_allNodes yX3_allNodes ∈ g_ws (gS, X) ∧ yX3_allNodes.cls = RX3 := ⟨⟨tb_good, (tb_t (k := 938) (w := Cond.methodLink RX7 31 yX3_allNodes) (by decide +kernel)), (tb_t (k := 10) (w := Cond.initialized RX3) (by decide +kernel)), (tb_t (k := 427) (w := Cond.code yX3_allNodes cX3_allNodes 1 (some .int)) (by decide +kernel)), by decide +kernel, by decide⟩, (tb_t (k := 425) (w := Cond.instanceMethod yX3_allNodes) (by decide +kernel)), (tb_t (k := 426) (w := Cond.selects RX3 yX3_allNodes yX3_allNodes) (by decide +kernel)), rfl⟩
theorem kX7_37 : lkK (gS, X) RX7 37 mX7_leastOfGreatest 2 ∧ Cond.static yX7_leastOfGreatest ∈ g_ws (gS, X) := ⟨⟨tb_good, (tb_t (k := 939) (w := Cond.methodLink RX7 37 yX7_leastOfGreatest) (by decide +kernel)), (tb_t (k := 4) (w := Cond.initialized RX7) (by decide +kernel)), (tb_t (k := 941) (w := Cond.code yX7_leastOfGreatest cX7_leastOfGreatest 7 (some .int)) (by decide +kernel)), by decide +kernel, by decide⟩, (tb_t (k := 940) (w := Cond.static yX7_leastOfGreatest) (by decide +kernel))⟩
theorem dX7_greatestApart_0 : decode cX7_greatestApart 0 = .ok (.aload_n 1, 1) := by decide +kernel
theorem dX7_greatestApart_1 : decode cX7_greatestApart 1 = .ok (.getfield 41, 3) := by decide +kernel
theorem dX7_greatestApart_4 : decode cX7_greatestApart 4 = .ok (.aload_n 1, 1) := by decide +kernel
theorem dX7_greatestApart_5 : decode cX7_greatestApart 5 = .ok (.invokevirtual 31, 3) := by decide +kernel
theorem dX7_greatestApart_8 : decode cX7_greatestApart 8 = .ok (.invokestatic 37, 3) := by decide +kernel
theorem dX7_greatestApart_11 : decode cX7_greatestApart 11 = .ok (.ireturn, 1) := by decide +kernel
theorem fX7_41 : lkF (gS, X) RX7 41 3 13 "GraphEngine$Graph" RX3 TX3 14 := ⟨rfl, inX3, by decide, (tb_t (k := 348) (w := Cond.fieldLink RX7 41 "GraphEngine$Graph" "joined" "[I") (by decide +kernel)), Or.inl rfl⟩
theorem dX7_fillStrangers_0 : decode cX7_fillStrangers 0 = .ok (.iconst 0, 1) := by decide +kernel
theorem dX7_fillStrangers_1 : decode cX7_fillStrangers 1 = .ok (.istore_n 2, 1) := by decide +kernel
theorem dX7_fillStrangers_2 : decode cX7_fillStrangers 2 = .ok (.iload_n 2, 1) := by decide +kernel
theorem dX7_fillStrangers_3 : decode cX7_fillStrangers 3 = .ok (.aload_n 1, 1) := by decide +kernel
theorem dX7_fillStrangers_4 : decode cX7_fillStrangers 4 = .ok (.getfield 44, 3) := by decide +kernel
theorem dX7_fillStrangers_7 : decode cX7_fillStrangers 7 = .ok (.if_icmp .ge 34, 3) := by decide +kernel
theorem dX7_fillStrangers_10 : decode cX7_fillStrangers 10 = .ok (.aload_n 0, 1) := by decide +kernel
theorem dX7_fillStrangers_11 : decode cX7_fillStrangers 11 = .ok (.getfield 9, 3) := by decide +kernel
theorem dX7_fillStrangers_14 : decode cX7_fillStrangers 14 = .ok (.iload_n 2, 1) := by decide +kernel
theorem dX7_fillStrangers_15 : decode cX7_fillStrangers 15 = .ok (.aload_n 1, 1) := by decide +kernel
theorem dX7_fillStrangers_16 : decode cX7_fillStrangers 16 = .ok (.invokevirtual 31, 3) := by decide +kernel
theorem dX7_fillStrangers_19 : decode cX7_fillStrangers 19 = .ok (.aload_n 1, 1) := by decide +kernel
theorem dX7_fillStrangers_20 : decode cX7_fillStrangers 20 = .ok (.getfield 41, 3) := by decide +kernel
theorem dX7_fillStrangers_23 : decode cX7_fillStrangers 23 = .ok (.iload_n 2, 1) := by decide +kernel
theorem dX7_fillStrangers_24 : decode cX7_fillStrangers 24 = .ok (.iaload, 1) := by decide +kernel
theorem dX7_fillStrangers_25 : decode cX7_fillStrangers 25 = .ok (.iconst (-1), 1) := by decide +kernel
theorem dX7_fillStrangers_26 : decode cX7_fillStrangers 26 = .ok (.ixor, 1) := by decide +kernel
theorem dX7_fillStrangers_27 : decode cX7_fillStrangers 27 = .ok (.iand, 1) := by decide +kernel
theorem dX7_fillStrangers_28 : decode cX7_fillStrangers 28 = .ok (.iconst 1, 1) := by decide +kernel
theorem dX7_fillStrangers_29 : decode cX7_fillStrangers 29 = .ok (.iload_n 2, 1) := by decide +kernel
theorem dX7_fillStrangers_30 : decode cX7_fillStrangers 30 = .ok (.ishl, 1) := by decide +kernel
theorem dX7_fillStrangers_31 : decode cX7_fillStrangers 31 = .ok (.iconst (-1), 1) := by decide +kernel
theorem dX7_fillStrangers_32 : decode cX7_fillStrangers 32 = .ok (.ixor, 1) := by decide +kernel
theorem dX7_fillStrangers_33 : decode cX7_fillStrangers 33 = .ok (.iand, 1) := by decide +kernel
theorem dX7_fillStrangers_34 : decode cX7_fillStrangers 34 = .ok (.iastore, 1) := by decide +kernel
theorem dX7_fillStrangers_35 : decode cX7_fillStrangers 35 = .ok (.iinc 2 1, 3) := by decide +kernel
theorem dX7_fillStrangers_38 : decode cX7_fillStrangers 38 = .ok (.goto (-36), 3) := by decide +kernel
theorem dX7_fillStrangers_41 : decode cX7_fillStrangers 41 = .ok (.return_, 1) := by decide +kernel
theorem fX7_44 : lkF (gS, X) RX7 44 3 0 "GraphEngine$Graph" RX3 TX3 14 := ⟨rfl, inX3, by decide, (tb_t (k := 364) (w := Cond.fieldLink RX7 44 "GraphEngine$Graph" "nodes" "I") (by decide +kernel)), Or.inr (tb_t (k := 351) (w := Cond.sameField "GraphEngine$Graph" "GraphEngine$Thing" "nodes" "I") (by decide +kernel))⟩
theorem dX7_leastOfGreatest_0 : decode cX7_leastOfGreatest 0 = .ok (.aload_n 0, 1) := by decide +kernel
theorem dX7_leastOfGreatest_1 : decode cX7_leastOfGreatest 1 = .ok (.iload_n 1, 1) := by decide +kernel
theorem dX7_leastOfGreatest_2 : decode cX7_leastOfGreatest 2 = .ok (.iconst 0, 1) := by decide +kernel
theorem dX7_leastOfGreatest_3 : decode cX7_leastOfGreatest 3 = .ok (.invokestatic 48, 3) := by decide +kernel
theorem dX7_leastOfGreatest_6 : decode cX7_leastOfGreatest 6 = .ok (.istore_n 2, 1) := by decide +kernel
theorem dX7_leastOfGreatest_7 : decode cX7_leastOfGreatest 7 = .ok (.iconst 0, 1) := by decide +kernel
theorem dX7_leastOfGreatest_8 : decode cX7_leastOfGreatest 8 = .ok (.istore_n 3, 1) := by decide +kernel
theorem dX7_leastOfGreatest_9 : decode cX7_leastOfGreatest 9 = .ok (.iload_n 1, 1) := by decide +kernel
theorem dX7_leastOfGreatest_10 : decode cX7_leastOfGreatest 10 = .ok (.istore 4, 2) := by decide +kernel
theorem dX7_leastOfGreatest_12 : decode cX7_leastOfGreatest 12 = .ok (.aload_n 0, 1) := by decide +kernel
theorem dX7_leastOfGreatest_13 : decode cX7_leastOfGreatest 13 = .ok (.arraylength, 1) := by decide +kernel
theorem dX7_leastOfGreatest_14 : decode cX7_leastOfGreatest 14 = .ok (.iconst 1, 1) := by decide +kernel
theorem dX7_leastOfGreatest_15 : decode cX7_leastOfGreatest 15 = .ok (.isub, 1) := by decide +kernel
theorem dX7_leastOfGreatest_16 : decode cX7_leastOfGreatest 16 = .ok (.istore 5, 2) := by decide +kernel
theorem dX7_leastOfGreatest_18 : decode cX7_leastOfGreatest 18 = .ok (.iload 5, 2) := by decide +kernel
theorem dX7_leastOfGreatest_20 : decode cX7_leastOfGreatest 20 = .ok (.ifCond .lt 75, 3) := by decide +kernel
theorem dX7_leastOfGreatest_23 : decode cX7_leastOfGreatest 23 = .ok (.iconst 1, 1) := by decide +kernel
theorem dX7_leastOfGreatest_24 : decode cX7_leastOfGreatest 24 = .ok (.iload 5, 2) := by decide +kernel
theorem dX7_leastOfGreatest_26 : decode cX7_leastOfGreatest 26 = .ok (.ishl, 1) := by decide +kernel
theorem dX7_leastOfGreatest_27 : decode cX7_leastOfGreatest 27 = .ok (.istore 6, 2) := by decide +kernel
theorem dX7_leastOfGreatest_29 : decode cX7_leastOfGreatest 29 = .ok (.iload 4, 2) := by decide +kernel
theorem dX7_leastOfGreatest_31 : decode cX7_leastOfGreatest 31 = .ok (.iload 6, 2) := by decide +kernel
theorem dX7_leastOfGreatest_33 : decode cX7_leastOfGreatest 33 = .ok (.iand, 1) := by decide +kernel
theorem dX7_leastOfGreatest_34 : decode cX7_leastOfGreatest 34 = .ok (.ifCond .eq 55, 3) := by decide +kernel
theorem dX7_leastOfGreatest_37 : decode cX7_leastOfGreatest 37 = .ok (.iload_n 3, 1) := by decide +kernel
theorem dX7_leastOfGreatest_38 : decode cX7_leastOfGreatest 38 = .ok (.invokestatic 52, 3) := by decide +kernel
theorem dX7_leastOfGreatest_41 : decode cX7_leastOfGreatest 41 = .ok (.aload_n 0, 1) := by decide +kernel
theorem dX7_leastOfGreatest_42 : decode cX7_leastOfGreatest 42 = .ok (.iload 4, 2) := by decide +kernel
theorem dX7_leastOfGreatest_44 : decode cX7_leastOfGreatest 44 = .ok (.iload 6, 2) := by decide +kernel
theorem dX7_leastOfGreatest_46 : decode cX7_leastOfGreatest 46 = .ok (.iconst (-1), 1) := by decide +kernel
theorem dX7_leastOfGreatest_47 : decode cX7_leastOfGreatest 47 = .ok (.ixor, 1) := by decide +kernel
theorem dX7_leastOfGreatest_48 : decode cX7_leastOfGreatest 48 = .ok (.iand, 1) := by decide +kernel
theorem dX7_leastOfGreatest_49 : decode cX7_leastOfGreatest 49 = .ok (.iconst 0, 1) := by decide +kernel
theorem dX7_leastOfGreatest_50 : decode cX7_leastOfGreatest 50 = .ok (.invokestatic 48, 3) := by decide +kernel
theorem dX7_leastOfGreatest_53 : decode cX7_leastOfGreatest 53 = .ok (.iadd, 1) := by decide +kernel
theorem dX7_leastOfGreatest_54 : decode cX7_leastOfGreatest 54 = .ok (.iload_n 2, 1) := by decide +kernel
theorem dX7_leastOfGreatest_55 : decode cX7_leastOfGreatest 55 = .ok (.if_icmp .lt 15, 3) := by decide +kernel
theorem dX7_leastOfGreatest_58 : decode cX7_leastOfGreatest 58 = .ok (.iload 4, 2) := by decide +kernel
theorem dX7_leastOfGreatest_60 : decode cX7_leastOfGreatest 60 = .ok (.iload 6, 2) := by decide +kernel
theorem dX7_leastOfGreatest_62 : decode cX7_leastOfGreatest 62 = .ok (.iconst (-1), 1) := by decide +kernel
theorem dX7_leastOfGreatest_63 : decode cX7_leastOfGreatest 63 = .ok (.ixor, 1) := by decide +kernel
theorem dX7_leastOfGreatest_64 : decode cX7_leastOfGreatest 64 = .ok (.iand, 1) := by decide +kernel
theorem dX7_leastOfGreatest_65 : decode cX7_leastOfGreatest 65 = .ok (.istore 4, 2) := by decide +kernel
theorem dX7_leastOfGreatest_67 : decode cX7_leastOfGreatest 67 = .ok (.goto 22, 3) := by decide +kernel
theorem dX7_leastOfGreatest_70 : decode cX7_leastOfGreatest 70 = .ok (.iload_n 3, 1) := by decide +kernel
theorem dX7_leastOfGreatest_71 : decode cX7_leastOfGreatest 71 = .ok (.iload 6, 2) := by decide +kernel
theorem dX7_leastOfGreatest_73 : decode cX7_leastOfGreatest 73 = .ok (.ior, 1) := by decide +kernel
theorem dX7_leastOfGreatest_74 : decode cX7_leastOfGreatest 74 = .ok (.istore_n 3, 1) := by decide +kernel
theorem dX7_leastOfGreatest_75 : decode cX7_leastOfGreatest 75 = .ok (.iload 4, 2) := by decide +kernel
theorem dX7_leastOfGreatest_77 : decode cX7_leastOfGreatest 77 = .ok (.aload_n 0, 1) := by decide +kernel
theorem dX7_leastOfGreatest_78 : decode cX7_leastOfGreatest 78 = .ok (.iload 5, 2) := by decide +kernel
theorem dX7_leastOfGreatest_80 : decode cX7_leastOfGreatest 80 = .ok (.iaload, 1) := by decide +kernel
theorem dX7_leastOfGreatest_81 : decode cX7_leastOfGreatest 81 = .ok (.iload 6, 2) := by decide +kernel
theorem dX7_leastOfGreatest_83 : decode cX7_leastOfGreatest 83 = .ok (.ior, 1) := by decide +kernel
theorem dX7_leastOfGreatest_84 : decode cX7_leastOfGreatest 84 = .ok (.iconst (-1), 1) := by decide +kernel
theorem dX7_leastOfGreatest_85 : decode cX7_leastOfGreatest 85 = .ok (.ixor, 1) := by decide +kernel
theorem dX7_leastOfGreatest_86 : decode cX7_leastOfGreatest 86 = .ok (.iand, 1) := by decide +kernel
theorem dX7_leastOfGreatest_87 : decode cX7_leastOfGreatest 87 = .ok (.istore 4, 2) := by decide +kernel
theorem dX7_leastOfGreatest_89 : decode cX7_leastOfGreatest 89 = .ok (.iinc 5 (-1), 3) := by decide +kernel
theorem dX7_leastOfGreatest_92 : decode cX7_leastOfGreatest 92 = .ok (.goto (-74), 3) := by decide +kernel
theorem dX7_leastOfGreatest_95 : decode cX7_leastOfGreatest 95 = .ok (.iload_n 3, 1) := by decide +kernel
theorem dX7_leastOfGreatest_96 : decode cX7_leastOfGreatest 96 = .ok (.ireturn, 1) := by decide +kernel
theorem kX7_48 : lkK (gS, X) RX7 48 mX7_mostApart 3 ∧ Cond.static yX7_mostApart ∈ g_ws (gS, X) := ⟨⟨tb_good, (tb_t (k := 942) (w := Cond.methodLink RX7 48 yX7_mostApart) (by decide +kernel)), (tb_t (k := 4) (w := Cond.initialized RX7) (by decide +kernel)), (tb_t (k := 944) (w := Cond.code yX7_mostApart cX7_mostApart 7 (some .int)) (by decide +kernel)), by decide +kernel, by decide⟩, (tb_t (k := 943) (w := Cond.static yX7_mostApart) (by decide +kernel))⟩
theorem kX7_52 : lkK (gS, X) RX7 52 mJ6_bitCount_0f7a4 1 ∧ Cond.static yJ6_bitCount_0f7a4 ∈ g_ws (gS, X) := ⟨⟨tb_good, (tb_t (k := 945) (w := Cond.methodLink RX7 52 yJ6_bitCount_0f7a4) (by decide +kernel)), (tb_t (k := 14) (w := Cond.initialized RJ6) (by decide +kernel)), (tb_t (k := 438) (w := Cond.code yJ6_bitCount_0f7a4 cJ6_bitCount_0f7a4 1 (some .int)) (by decide +kernel)), by decide +kernel, by decide⟩, (tb_t (k := 437) (w := Cond.static yJ6_bitCount_0f7a4) (by decide +kernel))⟩
theorem dX7_mostApart_0 : decode cX7_mostApart 0 = .ok (.iload_n 2, 1) := by decide +kernel
theorem dX7_mostApart_1 : decode cX7_mostApart 1 = .ok (.bipush 16, 2) := by decide +kernel
theorem dX7_mostApart_3 : decode cX7_mostApart 3 = .ok (.if_icmp .le 5, 3) := by decide +kernel
theorem dX7_mostApart_6 : decode cX7_mostApart 6 = .ok (.iconst 0, 1) := by decide +kernel
theorem dX7_mostApart_7 : decode cX7_mostApart 7 = .ok (.ireturn, 1) := by decide +kernel
theorem dX7_mostApart_8 : decode cX7_mostApart 8 = .ok (.iconst (-1), 1) := by decide +kernel
theorem dX7_mostApart_9 : decode cX7_mostApart 9 = .ok (.istore_n 3, 1) := by decide +kernel
theorem dX7_mostApart_10 : decode cX7_mostApart 10 = .ok (.iconst (-1), 1) := by decide +kernel
theorem dX7_mostApart_11 : decode cX7_mostApart 11 = .ok (.istore 4, 2) := by decide +kernel
theorem dX7_mostApart_13 : decode cX7_mostApart 13 = .ok (.iconst 0, 1) := by decide +kernel
theorem dX7_mostApart_14 : decode cX7_mostApart 14 = .ok (.istore 5, 2) := by decide +kernel
theorem dX7_mostApart_16 : decode cX7_mostApart 16 = .ok (.iload 5, 2) := by decide +kernel
theorem dX7_mostApart_18 : decode cX7_mostApart 18 = .ok (.aload_n 0, 1) := by decide +kernel
theorem dX7_mostApart_19 : decode cX7_mostApart 19 = .ok (.arraylength, 1) := by decide +kernel
theorem dX7_mostApart_20 : decode cX7_mostApart 20 = .ok (.if_icmp .ge 81, 3) := by decide +kernel
theorem dX7_mostApart_23 : decode cX7_mostApart 23 = .ok (.iload_n 1, 1) := by decide +kernel
theorem dX7_mostApart_24 : decode cX7_mostApart 24 = .ok (.iload 5, 2) := by decide +kernel
theorem dX7_mostApart_26 : decode cX7_mostApart 26 = .ok (.ishr, 1) := by decide +kernel
theorem dX7_mostApart_27 : decode cX7_mostApart 27 = .ok (.iconst 1, 1) := by decide +kernel
theorem dX7_mostApart_28 : decode cX7_mostApart 28 = .ok (.iand, 1) := by decide +kernel
theorem dX7_mostApart_29 : decode cX7_mostApart 29 = .ok (.ifCond .eq 66, 3) := by decide +kernel
theorem dX7_mostApart_32 : decode cX7_mostApart 32 = .ok (.aload_n 0, 1) := by decide +kernel
theorem dX7_mostApart_33 : decode cX7_mostApart 33 = .ok (.iload 5, 2) := by decide +kernel
theorem dX7_mostApart_35 : decode cX7_mostApart 35 = .ok (.iaload, 1) := by decide +kernel
theorem dX7_mostApart_36 : decode cX7_mostApart 36 = .ok (.iload_n 1, 1) := by decide +kernel
theorem dX7_mostApart_37 : decode cX7_mostApart 37 = .ok (.iand, 1) := by decide +kernel
theorem dX7_mostApart_38 : decode cX7_mostApart 38 = .ok (.invokestatic 52, 3) := by decide +kernel
theorem dX7_mostApart_41 : decode cX7_mostApart 41 = .ok (.istore 6, 2) := by decide +kernel
theorem dX7_mostApart_43 : decode cX7_mostApart 43 = .ok (.iload 6, 2) := by decide +kernel
theorem dX7_mostApart_45 : decode cX7_mostApart 45 = .ok (.iconst 1, 1) := by decide +kernel
theorem dX7_mostApart_46 : decode cX7_mostApart 46 = .ok (.if_icmp .gt 26, 3) := by decide +kernel
theorem dX7_mostApart_49 : decode cX7_mostApart 49 = .ok (.iconst 1, 1) := by decide +kernel
theorem dX7_mostApart_50 : decode cX7_mostApart 50 = .ok (.aload_n 0, 1) := by decide +kernel
theorem dX7_mostApart_51 : decode cX7_mostApart 51 = .ok (.iload_n 1, 1) := by decide +kernel
theorem dX7_mostApart_52 : decode cX7_mostApart 52 = .ok (.aload_n 0, 1) := by decide +kernel
theorem dX7_mostApart_53 : decode cX7_mostApart 53 = .ok (.iload 5, 2) := by decide +kernel
theorem dX7_mostApart_55 : decode cX7_mostApart 55 = .ok (.iaload, 1) := by decide +kernel
theorem dX7_mostApart_56 : decode cX7_mostApart 56 = .ok (.iconst 1, 1) := by decide +kernel
theorem dX7_mostApart_57 : decode cX7_mostApart 57 = .ok (.iload 5, 2) := by decide +kernel
theorem dX7_mostApart_59 : decode cX7_mostApart 59 = .ok (.ishl, 1) := by decide +kernel
theorem dX7_mostApart_60 : decode cX7_mostApart 60 = .ok (.ior, 1) := by decide +kernel
theorem dX7_mostApart_61 : decode cX7_mostApart 61 = .ok (.iconst (-1), 1) := by decide +kernel
theorem dX7_mostApart_62 : decode cX7_mostApart 62 = .ok (.ixor, 1) := by decide +kernel
theorem dX7_mostApart_63 : decode cX7_mostApart 63 = .ok (.iand, 1) := by decide +kernel
theorem dX7_mostApart_64 : decode cX7_mostApart 64 = .ok (.iload_n 2, 1) := by decide +kernel
theorem dX7_mostApart_65 : decode cX7_mostApart 65 = .ok (.iconst 1, 1) := by decide +kernel
theorem dX7_mostApart_66 : decode cX7_mostApart 66 = .ok (.iadd, 1) := by decide +kernel
theorem dX7_mostApart_67 : decode cX7_mostApart 67 = .ok (.invokestatic 48, 3) := by decide +kernel
theorem dX7_mostApart_70 : decode cX7_mostApart 70 = .ok (.iadd, 1) := by decide +kernel
theorem dX7_mostApart_71 : decode cX7_mostApart 71 = .ok (.ireturn, 1) := by decide +kernel
theorem dX7_mostApart_72 : decode cX7_mostApart 72 = .ok (.iload 6, 2) := by decide +kernel
theorem dX7_mostApart_74 : decode cX7_mostApart 74 = .ok (.iload 4, 2) := by decide +kernel
theorem dX7_mostApart_76 : decode cX7_mostApart 76 = .ok (.if_icmp .le 8, 3) := by decide +kernel
theorem dX7_mostApart_79 : decode cX7_mostApart 79 = .ok (.iload 5, 2) := by decide +kernel
theorem dX7_mostApart_81 : decode cX7_mostApart 81 = .ok (.goto 4, 3) := by decide +kernel
theorem dX7_mostApart_84 : decode cX7_mostApart 84 = .ok (.iload_n 3, 1) := by decide +kernel
theorem dX7_mostApart_85 : decode cX7_mostApart 85 = .ok (.istore_n 3, 1) := by decide +kernel
theorem dX7_mostApart_86 : decode cX7_mostApart 86 = .ok (.iload 4, 2) := by decide +kernel
theorem dX7_mostApart_88 : decode cX7_mostApart 88 = .ok (.iload 6, 2) := by decide +kernel
theorem dX7_mostApart_90 : decode cX7_mostApart 90 = .ok (.invokestatic 58, 3) := by decide +kernel
theorem dX7_mostApart_93 : decode cX7_mostApart 93 = .ok (.istore 4, 2) := by decide +kernel
theorem dX7_mostApart_95 : decode cX7_mostApart 95 = .ok (.iinc 5 1, 3) := by decide +kernel
theorem dX7_mostApart_98 : decode cX7_mostApart 98 = .ok (.goto (-82), 3) := by decide +kernel
theorem dX7_mostApart_101 : decode cX7_mostApart 101 = .ok (.iload_n 3, 1) := by decide +kernel
theorem dX7_mostApart_102 : decode cX7_mostApart 102 = .ok (.ifCond .ge 5, 3) := by decide +kernel
theorem dX7_mostApart_105 : decode cX7_mostApart 105 = .ok (.iconst 0, 1) := by decide +kernel
theorem dX7_mostApart_106 : decode cX7_mostApart 106 = .ok (.ireturn, 1) := by decide +kernel
theorem dX7_mostApart_107 : decode cX7_mostApart 107 = .ok (.iconst 1, 1) := by decide +kernel
theorem dX7_mostApart_108 : decode cX7_mostApart 108 = .ok (.aload_n 0, 1) := by decide +kernel
theorem dX7_mostApart_109 : decode cX7_mostApart 109 = .ok (.iload_n 1, 1) := by decide +kernel
theorem dX7_mostApart_110 : decode cX7_mostApart 110 = .ok (.aload_n 0, 1) := by decide +kernel
theorem dX7_mostApart_111 : decode cX7_mostApart 111 = .ok (.iload_n 3, 1) := by decide +kernel
theorem dX7_mostApart_112 : decode cX7_mostApart 112 = .ok (.iaload, 1) := by decide +kernel
theorem dX7_mostApart_113 : decode cX7_mostApart 113 = .ok (.iconst 1, 1) := by decide +kernel
theorem dX7_mostApart_114 : decode cX7_mostApart 114 = .ok (.iload_n 3, 1) := by decide +kernel
theorem dX7_mostApart_115 : decode cX7_mostApart 115 = .ok (.ishl, 1) := by decide +kernel
theorem dX7_mostApart_116 : decode cX7_mostApart 116 = .ok (.ior, 1) := by decide +kernel
theorem dX7_mostApart_117 : decode cX7_mostApart 117 = .ok (.iconst (-1), 1) := by decide +kernel
theorem dX7_mostApart_118 : decode cX7_mostApart 118 = .ok (.ixor, 1) := by decide +kernel
theorem dX7_mostApart_119 : decode cX7_mostApart 119 = .ok (.iand, 1) := by decide +kernel
theorem dX7_mostApart_120 : decode cX7_mostApart 120 = .ok (.iload_n 2, 1) := by decide +kernel
theorem dX7_mostApart_121 : decode cX7_mostApart 121 = .ok (.iconst 1, 1) := by decide +kernel
theorem dX7_mostApart_122 : decode cX7_mostApart 122 = .ok (.iadd, 1) := by decide +kernel
theorem dX7_mostApart_123 : decode cX7_mostApart 123 = .ok (.invokestatic 48, 3) := by decide +kernel
theorem dX7_mostApart_126 : decode cX7_mostApart 126 = .ok (.iadd, 1) := by decide +kernel
theorem dX7_mostApart_127 : decode cX7_mostApart 127 = .ok (.istore 5, 2) := by decide +kernel
theorem dX7_mostApart_129 : decode cX7_mostApart 129 = .ok (.aload_n 0, 1) := by decide +kernel
theorem dX7_mostApart_130 : decode cX7_mostApart 130 = .ok (.iload_n 1, 1) := by decide +kernel
theorem dX7_mostApart_131 : decode cX7_mostApart 131 = .ok (.iconst 1, 1) := by decide +kernel
theorem dX7_mostApart_132 : decode cX7_mostApart 132 = .ok (.iload_n 3, 1) := by decide +kernel
theorem dX7_mostApart_133 : decode cX7_mostApart 133 = .ok (.ishl, 1) := by decide +kernel
theorem dX7_mostApart_134 : decode cX7_mostApart 134 = .ok (.iconst (-1), 1) := by decide +kernel
theorem dX7_mostApart_135 : decode cX7_mostApart 135 = .ok (.ixor, 1) := by decide +kernel
theorem dX7_mostApart_136 : decode cX7_mostApart 136 = .ok (.iand, 1) := by decide +kernel
theorem dX7_mostApart_137 : decode cX7_mostApart 137 = .ok (.iload_n 2, 1) := by decide +kernel
theorem dX7_mostApart_138 : decode cX7_mostApart 138 = .ok (.iconst 1, 1) := by decide +kernel
theorem dX7_mostApart_139 : decode cX7_mostApart 139 = .ok (.iadd, 1) := by decide +kernel
theorem dX7_mostApart_140 : decode cX7_mostApart 140 = .ok (.invokestatic 48, 3) := by decide +kernel
theorem dX7_mostApart_143 : decode cX7_mostApart 143 = .ok (.istore 6, 2) := by decide +kernel
theorem dX7_mostApart_145 : decode cX7_mostApart 145 = .ok (.iload 5, 2) := by decide +kernel
theorem dX7_mostApart_147 : decode cX7_mostApart 147 = .ok (.iload 6, 2) := by decide +kernel
theorem dX7_mostApart_149 : decode cX7_mostApart 149 = .ok (.invokestatic 58, 3) := by decide +kernel
theorem dX7_mostApart_152 : decode cX7_mostApart 152 = .ok (.ireturn, 1) := by decide +kernel
theorem kX7_58 : lkK (gS, X) RX7 58 mJ9_max_7cf53 2 ∧ Cond.static yJ9_max_7cf53 ∈ g_ws (gS, X) := ⟨⟨tb_good, (tb_t (k := 946) (w := Cond.methodLink RX7 58 yJ9_max_7cf53) (by decide +kernel)), (tb_t (k := 12) (w := Cond.initialized RJ9) (by decide +kernel)), (tb_t (k := 468) (w := Cond.code yJ9_max_7cf53 cJ9_max_7cf53 2 (some .int)) (by decide +kernel)), by decide +kernel, by decide⟩, (tb_t (k := 467) (w := Cond.static yJ9_max_7cf53) (by decide +kernel))⟩
theorem dX7_colours_0 : decode cX7_colours 0 = .ok (.aload_n 0, 1) := by decide +kernel
theorem dX7_colours_1 : decode cX7_colours 1 = .ok (.aload_n 1, 1) := by decide +kernel
theorem dX7_colours_2 : decode cX7_colours 2 = .ok (.invokevirtual 27, 3) := by decide +kernel
theorem dX7_colours_5 : decode cX7_colours 5 = .ok (.aload_n 0, 1) := by decide +kernel
theorem dX7_colours_6 : decode cX7_colours 6 = .ok (.getfield 9, 3) := by decide +kernel
theorem dX7_colours_9 : decode cX7_colours 9 = .ok (.aload_n 1, 1) := by decide +kernel
theorem dX7_colours_10 : decode cX7_colours 10 = .ok (.invokevirtual 31, 3) := by decide +kernel
theorem dX7_colours_13 : decode cX7_colours 13 = .ok (.iconst 0, 1) := by decide +kernel
theorem dX7_colours_14 : decode cX7_colours 14 = .ok (.invokestatic 48, 3) := by decide +kernel
theorem dX7_colours_17 : decode cX7_colours 17 = .ok (.istore_n 2, 1) := by decide +kernel
theorem dX7_colours_18 : decode cX7_colours 18 = .ok (.iload_n 2, 1) := by decide +kernel
theorem dX7_colours_19 : decode cX7_colours 19 = .ok (.istore_n 3, 1) := by decide +kernel
theorem dX7_colours_20 : decode cX7_colours 20 = .ok (.iload_n 3, 1) := by decide +kernel
theorem dX7_colours_21 : decode cX7_colours 21 = .ok (.aload_n 1, 1) := by decide +kernel
theorem dX7_colours_22 : decode cX7_colours 22 = .ok (.getfield 44, 3) := by decide +kernel
theorem dX7_colours_25 : decode cX7_colours 25 = .ok (.if_icmp .ge 38, 3) := by decide +kernel
theorem dX7_colours_28 : decode cX7_colours 28 = .ok (.aload_n 0, 1) := by decide +kernel
theorem dX7_colours_29 : decode cX7_colours 29 = .ok (.getfield 15, 3) := by decide +kernel
theorem dX7_colours_32 : decode cX7_colours 32 = .ok (.iconst 0, 1) := by decide +kernel
theorem dX7_colours_33 : decode cX7_colours 33 = .ok (.invokestatic 64, 3) := by decide +kernel
theorem dX7_colours_36 : decode cX7_colours 36 = .ok (.aload_n 0, 1) := by decide +kernel
theorem dX7_colours_37 : decode cX7_colours 37 = .ok (.aload_n 1, 1) := by decide +kernel
theorem dX7_colours_38 : decode cX7_colours 38 = .ok (.getfield 41, 3) := by decide +kernel
theorem dX7_colours_41 : decode cX7_colours 41 = .ok (.aload_n 1, 1) := by decide +kernel
theorem dX7_colours_42 : decode cX7_colours 42 = .ok (.iload_n 3, 1) := by decide +kernel
theorem dX7_colours_43 : decode cX7_colours 43 = .ok (.invokestatic 70, 3) := by decide +kernel
theorem dX7_colours_46 : decode cX7_colours 46 = .ok (.iconst 0, 1) := by decide +kernel
theorem dX7_colours_47 : decode cX7_colours 47 = .ok (.iload_n 3, 1) := by decide +kernel
theorem dX7_colours_48 : decode cX7_colours 48 = .ok (.iconst 0, 1) := by decide +kernel
theorem dX7_colours_49 : decode cX7_colours 49 = .ok (.invokevirtual 74, 3) := by decide +kernel
theorem dX7_colours_52 : decode cX7_colours 52 = .ok (.ifCond .eq 5, 3) := by decide +kernel
theorem dX7_colours_55 : decode cX7_colours 55 = .ok (.iload_n 3, 1) := by decide +kernel
theorem dX7_colours_56 : decode cX7_colours 56 = .ok (.ireturn, 1) := by decide +kernel
theorem dX7_colours_57 : decode cX7_colours 57 = .ok (.iinc 3 1, 3) := by decide +kernel
theorem dX7_colours_60 : decode cX7_colours 60 = .ok (.goto (-40), 3) := by decide +kernel
theorem dX7_colours_63 : decode cX7_colours 63 = .ok (.aload_n 1, 1) := by decide +kernel
theorem dX7_colours_64 : decode cX7_colours 64 = .ok (.getfield 44, 3) := by decide +kernel
theorem dX7_colours_67 : decode cX7_colours 67 = .ok (.ireturn, 1) := by decide +kernel
theorem kX7_64 : lkK (gS, X) RX7 64 mJ7_fill_53178 2 ∧ Cond.static yJ7_fill_53178 ∈ g_ws (gS, X) := ⟨⟨tb_good, (tb_t (k := 955) (w := Cond.methodLink RX7 64 yJ7_fill_53178) (by decide +kernel)), (tb_t (k := 11) (w := Cond.initialized RJ7) (by decide +kernel)), (tb_t (k := 457) (w := Cond.code yJ7_fill_53178 cJ7_fill_53178 4 none) (by decide +kernel)), by decide +kernel, by decide⟩, (tb_t (k := 456) (w := Cond.static yJ7_fill_53178) (by decide +kernel))⟩
theorem kX7_70 : lkK (gS, X) RX7 70 mX7_hardNodes 2 ∧ Cond.static yX7_hardNodes ∈ g_ws (gS, X) := ⟨⟨tb_good, (tb_t (k := 956) (w := Cond.methodLink RX7 70 yX7_hardNodes) (by decide +kernel)), (tb_t (k := 4) (w := Cond.initialized RX7) (by decide +kernel)), (tb_t (k := 958) (w := Cond.code yX7_hardNodes cX7_hardNodes 5 (some .int)) (by decide +kernel)), by decide +kernel, by decide⟩, (tb_t (k := 957) (w := Cond.static yX7_hardNodes) (by decide +kernel))⟩
theorem kX7_74 : lkK (gS, X) RX7 74 mX7_canColour 5 ∧ Cond.instanceMethod yX7_canColour ∈ g_ws (gS, X) ∧ Cond.selects RX7 yX7_canColour yX7_canColour ∈ g_ws (gS, X) ∧ yX7_canColour.cls = RX7 := ⟨⟨tb_good, (tb_t (k := 959) (w := Cond.methodLink RX7 74 yX7_canColour) (by decide +kernel)), (tb_t (k := 4) (w := Cond.initialized RX7) (by decide +kernel)), (tb_t (k := 962) (w := Cond.code yX7_canColour cX7_canColour 8 (some .boolean)) (by decide +kernel)), by decide +kernel, by decide⟩, (tb_t (k := 961) (w := Cond.instanceMethod yX7_canColour) (by decide +kernel)), (tb_p (k := 49) (q := (yX7_canColour, 5)) (by decide +kernel)), rfl⟩
theorem dX7_hardNodes_0 : decode cX7_hardNodes 0 = .ok (.aload_n 0, 1) := by decide +kernel
theorem dX7_hardNodes_1 : decode cX7_hardNodes 1 = .ok (.invokevirtual 31, 3) := by decide +kernel
theorem dX7_hardNodes_4 : decode cX7_hardNodes 4 = .ok (.istore_n 2, 1) := by decide +kernel
theorem dX7_hardNodes_5 : decode cX7_hardNodes 5 = .ok (.iconst 0, 1) := by decide +kernel
theorem dX7_hardNodes_6 : decode cX7_hardNodes 6 = .ok (.istore_n 3, 1) := by decide +kernel
theorem dX7_hardNodes_7 : decode cX7_hardNodes 7 = .ok (.iload_n 3, 1) := by decide +kernel
theorem dX7_hardNodes_8 : decode cX7_hardNodes 8 = .ok (.aload_n 0, 1) := by decide +kernel
theorem dX7_hardNodes_9 : decode cX7_hardNodes 9 = .ok (.getfield 44, 3) := by decide +kernel
theorem dX7_hardNodes_12 : decode cX7_hardNodes 12 = .ok (.if_icmp .ge 52, 3) := by decide +kernel
theorem dX7_hardNodes_15 : decode cX7_hardNodes 15 = .ok (.iconst 0, 1) := by decide +kernel
theorem dX7_hardNodes_16 : decode cX7_hardNodes 16 = .ok (.istore 4, 2) := by decide +kernel
theorem dX7_hardNodes_18 : decode cX7_hardNodes 18 = .ok (.iload 4, 2) := by decide +kernel
theorem dX7_hardNodes_20 : decode cX7_hardNodes 20 = .ok (.aload_n 0, 1) := by decide +kernel
theorem dX7_hardNodes_21 : decode cX7_hardNodes 21 = .ok (.getfield 44, 3) := by decide +kernel
theorem dX7_hardNodes_24 : decode cX7_hardNodes 24 = .ok (.if_icmp .ge 34, 3) := by decide +kernel
theorem dX7_hardNodes_27 : decode cX7_hardNodes 27 = .ok (.aload_n 0, 1) := by decide +kernel
theorem dX7_hardNodes_28 : decode cX7_hardNodes 28 = .ok (.getfield 41, 3) := by decide +kernel
theorem dX7_hardNodes_31 : decode cX7_hardNodes 31 = .ok (.iload 4, 2) := by decide +kernel
theorem dX7_hardNodes_33 : decode cX7_hardNodes 33 = .ok (.iaload, 1) := by decide +kernel
theorem dX7_hardNodes_34 : decode cX7_hardNodes 34 = .ok (.iload_n 2, 1) := by decide +kernel
theorem dX7_hardNodes_35 : decode cX7_hardNodes 35 = .ok (.iand, 1) := by decide +kernel
theorem dX7_hardNodes_36 : decode cX7_hardNodes 36 = .ok (.invokestatic 52, 3) := by decide +kernel
theorem dX7_hardNodes_39 : decode cX7_hardNodes 39 = .ok (.iload_n 1, 1) := by decide +kernel
theorem dX7_hardNodes_40 : decode cX7_hardNodes 40 = .ok (.if_icmp .ge 12, 3) := by decide +kernel
theorem dX7_hardNodes_43 : decode cX7_hardNodes 43 = .ok (.iload_n 2, 1) := by decide +kernel
theorem dX7_hardNodes_44 : decode cX7_hardNodes 44 = .ok (.iconst 1, 1) := by decide +kernel
theorem dX7_hardNodes_45 : decode cX7_hardNodes 45 = .ok (.iload 4, 2) := by decide +kernel
theorem dX7_hardNodes_47 : decode cX7_hardNodes 47 = .ok (.ishl, 1) := by decide +kernel
theorem dX7_hardNodes_48 : decode cX7_hardNodes 48 = .ok (.iconst (-1), 1) := by decide +kernel
theorem dX7_hardNodes_49 : decode cX7_hardNodes 49 = .ok (.ixor, 1) := by decide +kernel
theorem dX7_hardNodes_50 : decode cX7_hardNodes 50 = .ok (.iand, 1) := by decide +kernel
theorem dX7_hardNodes_51 : decode cX7_hardNodes 51 = .ok (.istore_n 2, 1) := by decide +kernel
theorem dX7_hardNodes_52 : decode cX7_hardNodes 52 = .ok (.iinc 4 1, 3) := by decide +kernel
theorem dX7_hardNodes_55 : decode cX7_hardNodes 55 = .ok (.goto (-37), 3) := by decide +kernel
theorem dX7_hardNodes_58 : decode cX7_hardNodes 58 = .ok (.iinc 3 1, 3) := by decide +kernel
theorem dX7_hardNodes_61 : decode cX7_hardNodes 61 = .ok (.goto (-54), 3) := by decide +kernel
theorem dX7_hardNodes_64 : decode cX7_hardNodes 64 = .ok (.iload_n 2, 1) := by decide +kernel
theorem dX7_hardNodes_65 : decode cX7_hardNodes 65 = .ok (.ireturn, 1) := by decide +kernel
theorem dX7_canColour_0 : decode cX7_canColour 0 = .ok (.iload_n 2, 1) := by decide +kernel
theorem dX7_canColour_1 : decode cX7_canColour 1 = .ok (.ifCond .ne 5, 3) := by decide +kernel
theorem dX7_canColour_4 : decode cX7_canColour 4 = .ok (.iconst 1, 1) := by decide +kernel
theorem dX7_canColour_5 : decode cX7_canColour 5 = .ok (.ireturn, 1) := by decide +kernel
theorem dX7_canColour_6 : decode cX7_canColour 6 = .ok (.aload_n 0, 1) := by decide +kernel
theorem dX7_canColour_7 : decode cX7_canColour 7 = .ok (.aload_n 1, 1) := by decide +kernel
theorem dX7_canColour_8 : decode cX7_canColour 8 = .ok (.iload_n 2, 1) := by decide +kernel
theorem dX7_canColour_9 : decode cX7_canColour 9 = .ok (.iload_n 3, 1) := by decide +kernel
theorem dX7_canColour_10 : decode cX7_canColour 10 = .ok (.invokevirtual 78, 3) := by decide +kernel
theorem dX7_canColour_13 : decode cX7_canColour 13 = .ok (.istore 6, 2) := by decide +kernel
theorem dX7_canColour_15 : decode cX7_canColour 15 = .ok (.iload 5, 2) := by decide +kernel
theorem dX7_canColour_17 : decode cX7_canColour 17 = .ok (.bipush 16, 2) := by decide +kernel
theorem dX7_canColour_19 : decode cX7_canColour 19 = .ok (.if_icmp .ge 8, 3) := by decide +kernel
theorem dX7_canColour_22 : decode cX7_canColour 22 = .ok (.iload 6, 2) := by decide +kernel
theorem dX7_canColour_24 : decode cX7_canColour 24 = .ok (.ifCond .ge 5, 3) := by decide +kernel
theorem dX7_canColour_27 : decode cX7_canColour 27 = .ok (.iconst 0, 1) := by decide +kernel
theorem dX7_canColour_28 : decode cX7_canColour 28 = .ok (.ireturn, 1) := by decide +kernel
theorem dX7_canColour_29 : decode cX7_canColour 29 = .ok (.iconst 0, 1) := by decide +kernel
theorem dX7_canColour_30 : decode cX7_canColour 30 = .ok (.istore 7, 2) := by decide +kernel
theorem dX7_canColour_32 : decode cX7_canColour 32 = .ok (.iload 7, 2) := by decide +kernel
theorem dX7_canColour_34 : decode cX7_canColour 34 = .ok (.iload_n 3, 1) := by decide +kernel
theorem dX7_canColour_35 : decode cX7_canColour 35 = .ok (.if_icmp .gt 100, 3) := by decide +kernel
theorem dX7_canColour_38 : decode cX7_canColour 38 = .ok (.iload 7, 2) := by decide +kernel
theorem dX7_canColour_40 : decode cX7_canColour 40 = .ok (.iload 4, 2) := by decide +kernel
theorem dX7_canColour_42 : decode cX7_canColour 42 = .ok (.if_icmp .ge 93, 3) := by decide +kernel
theorem dX7_canColour_45 : decode cX7_canColour 45 = .ok (.iload 7, 2) := by decide +kernel
theorem dX7_canColour_47 : decode cX7_canColour 47 = .ok (.bipush 16, 2) := by decide +kernel
theorem dX7_canColour_49 : decode cX7_canColour 49 = .ok (.if_icmp .ge 86, 3) := by decide +kernel
theorem dX7_canColour_52 : decode cX7_canColour 52 = .ok (.aload_n 0, 1) := by decide +kernel
theorem dX7_canColour_53 : decode cX7_canColour 53 = .ok (.getfield 15, 3) := by decide +kernel
theorem dX7_canColour_56 : decode cX7_canColour 56 = .ok (.iload 7, 2) := by decide +kernel
theorem dX7_canColour_58 : decode cX7_canColour 58 = .ok (.iaload, 1) := by decide +kernel
theorem dX7_canColour_59 : decode cX7_canColour 59 = .ok (.aload_n 1, 1) := by decide +kernel
theorem dX7_canColour_60 : decode cX7_canColour 60 = .ok (.iload 6, 2) := by decide +kernel
theorem dX7_canColour_62 : decode cX7_canColour 62 = .ok (.iaload, 1) := by decide +kernel
theorem dX7_canColour_63 : decode cX7_canColour 63 = .ok (.iand, 1) := by decide +kernel
theorem dX7_canColour_64 : decode cX7_canColour 64 = .ok (.ifCond .ne 65, 3) := by decide +kernel
theorem dX7_canColour_67 : decode cX7_canColour 67 = .ok (.aload_n 0, 1) := by decide +kernel
theorem dX7_canColour_68 : decode cX7_canColour 68 = .ok (.getfield 15, 3) := by decide +kernel
theorem dX7_canColour_71 : decode cX7_canColour 71 = .ok (.iload 7, 2) := by decide +kernel
theorem dX7_canColour_73 : decode cX7_canColour 73 = .ok (.dup2, 1) := by decide +kernel
theorem dX7_canColour_74 : decode cX7_canColour 74 = .ok (.iaload, 1) := by decide +kernel
theorem dX7_canColour_75 : decode cX7_canColour 75 = .ok (.iconst 1, 1) := by decide +kernel
theorem dX7_canColour_76 : decode cX7_canColour 76 = .ok (.iload 6, 2) := by decide +kernel
theorem dX7_canColour_78 : decode cX7_canColour 78 = .ok (.ishl, 1) := by decide +kernel
theorem dX7_canColour_79 : decode cX7_canColour 79 = .ok (.ior, 1) := by decide +kernel
theorem dX7_canColour_80 : decode cX7_canColour 80 = .ok (.iastore, 1) := by decide +kernel
theorem dX7_canColour_81 : decode cX7_canColour 81 = .ok (.aload_n 0, 1) := by decide +kernel
theorem dX7_canColour_82 : decode cX7_canColour 82 = .ok (.aload_n 1, 1) := by decide +kernel
theorem dX7_canColour_83 : decode cX7_canColour 83 = .ok (.iload_n 2, 1) := by decide +kernel
theorem dX7_canColour_84 : decode cX7_canColour 84 = .ok (.iconst 1, 1) := by decide +kernel
theorem dX7_canColour_85 : decode cX7_canColour 85 = .ok (.iload 6, 2) := by decide +kernel
theorem dX7_canColour_87 : decode cX7_canColour 87 = .ok (.ishl, 1) := by decide +kernel
theorem dX7_canColour_88 : decode cX7_canColour 88 = .ok (.iconst (-1), 1) := by decide +kernel
theorem dX7_canColour_89 : decode cX7_canColour 89 = .ok (.ixor, 1) := by decide +kernel
theorem dX7_canColour_90 : decode cX7_canColour 90 = .ok (.iand, 1) := by decide +kernel
theorem dX7_canColour_91 : decode cX7_canColour 91 = .ok (.iload_n 3, 1) := by decide +kernel
theorem dX7_canColour_92 : decode cX7_canColour 92 = .ok (.iload 7, 2) := by decide +kernel
theorem dX7_canColour_94 : decode cX7_canColour 94 = .ok (.iconst 1, 1) := by decide +kernel
theorem dX7_canColour_95 : decode cX7_canColour 95 = .ok (.iadd, 1) := by decide +kernel
theorem dX7_canColour_96 : decode cX7_canColour 96 = .ok (.invokestatic 58, 3) := by decide +kernel
theorem dX7_canColour_99 : decode cX7_canColour 99 = .ok (.iload 4, 2) := by decide +kernel
theorem dX7_canColour_101 : decode cX7_canColour 101 = .ok (.iload 5, 2) := by decide +kernel
theorem dX7_canColour_103 : decode cX7_canColour 103 = .ok (.iconst 1, 1) := by decide +kernel
theorem dX7_canColour_104 : decode cX7_canColour 104 = .ok (.iadd, 1) := by decide +kernel
theorem dX7_canColour_105 : decode cX7_canColour 105 = .ok (.invokevirtual 74, 3) := by decide +kernel
theorem dX7_canColour_108 : decode cX7_canColour 108 = .ok (.ifCond .eq 5, 3) := by decide +kernel
theorem dX7_canColour_111 : decode cX7_canColour 111 = .ok (.iconst 1, 1) := by decide +kernel
theorem dX7_canColour_112 : decode cX7_canColour 112 = .ok (.ireturn, 1) := by decide +kernel
theorem dX7_canColour_113 : decode cX7_canColour 113 = .ok (.aload_n 0, 1) := by decide +kernel
theorem dX7_canColour_114 : decode cX7_canColour 114 = .ok (.getfield 15, 3) := by decide +kernel
theorem dX7_canColour_117 : decode cX7_canColour 117 = .ok (.iload 7, 2) := by decide +kernel
theorem dX7_canColour_119 : decode cX7_canColour 119 = .ok (.dup2, 1) := by decide +kernel
theorem dX7_canColour_120 : decode cX7_canColour 120 = .ok (.iaload, 1) := by decide +kernel
theorem dX7_canColour_121 : decode cX7_canColour 121 = .ok (.iconst 1, 1) := by decide +kernel
theorem dX7_canColour_122 : decode cX7_canColour 122 = .ok (.iload 6, 2) := by decide +kernel
theorem dX7_canColour_124 : decode cX7_canColour 124 = .ok (.ishl, 1) := by decide +kernel
theorem dX7_canColour_125 : decode cX7_canColour 125 = .ok (.iconst (-1), 1) := by decide +kernel
theorem dX7_canColour_126 : decode cX7_canColour 126 = .ok (.ixor, 1) := by decide +kernel
theorem dX7_canColour_127 : decode cX7_canColour 127 = .ok (.iand, 1) := by decide +kernel
theorem dX7_canColour_128 : decode cX7_canColour 128 = .ok (.iastore, 1) := by decide +kernel
theorem dX7_canColour_129 : decode cX7_canColour 129 = .ok (.iinc 7 1, 3) := by decide +kernel
theorem dX7_canColour_132 : decode cX7_canColour 132 = .ok (.goto (-100), 3) := by decide +kernel
theorem dX7_canColour_135 : decode cX7_canColour 135 = .ok (.iconst 0, 1) := by decide +kernel
theorem dX7_canColour_136 : decode cX7_canColour 136 = .ok (.ireturn, 1) := by decide +kernel
theorem kX7_78 : lkK (gS, X) RX7 78 mX7_mostBound 3 ∧ Cond.instanceMethod yX7_mostBound ∈ g_ws (gS, X) ∧ Cond.selects RX7 yX7_mostBound yX7_mostBound ∈ g_ws (gS, X) ∧ yX7_mostBound.cls = RX7 := ⟨⟨tb_good, (tb_t (k := 963) (w := Cond.methodLink RX7 78 yX7_mostBound) (by decide +kernel)), (tb_t (k := 4) (w := Cond.initialized RX7) (by decide +kernel)), (tb_t (k := 966) (w := Cond.code yX7_mostBound cX7_mostBound 9 (some .int)) (by decide +kernel)), by decide +kernel, by decide⟩, (tb_t (k := 965) (w := Cond.instanceMethod yX7_mostBound) (by decide +kernel)), (tb_p (k := 50) (q := (yX7_mostBound, 5)) (by decide +kernel)), rfl⟩
theorem dX7_mostBound_0 : decode cX7_mostBound 0 = .ok (.iconst (-1), 1) := by decide +kernel
theorem dX7_mostBound_1 : decode cX7_mostBound 1 = .ok (.istore 4, 2) := by decide +kernel
theorem dX7_mostBound_3 : decode cX7_mostBound 3 = .ok (.iconst (-1), 1) := by decide +kernel
theorem dX7_mostBound_4 : decode cX7_mostBound 4 = .ok (.istore 5, 2) := by decide +kernel
theorem dX7_mostBound_6 : decode cX7_mostBound 6 = .ok (.iconst 0, 1) := by decide +kernel
theorem dX7_mostBound_7 : decode cX7_mostBound 7 = .ok (.istore 6, 2) := by decide +kernel
theorem dX7_mostBound_9 : decode cX7_mostBound 9 = .ok (.iload 6, 2) := by decide +kernel
theorem dX7_mostBound_11 : decode cX7_mostBound 11 = .ok (.aload_n 1, 1) := by decide +kernel
theorem dX7_mostBound_12 : decode cX7_mostBound 12 = .ok (.arraylength, 1) := by decide +kernel
theorem dX7_mostBound_13 : decode cX7_mostBound 13 = .ok (.if_icmp .ge 92, 3) := by decide +kernel
theorem dX7_mostBound_16 : decode cX7_mostBound 16 = .ok (.iload_n 2, 1) := by decide +kernel
theorem dX7_mostBound_17 : decode cX7_mostBound 17 = .ok (.iload 6, 2) := by decide +kernel
theorem dX7_mostBound_19 : decode cX7_mostBound 19 = .ok (.ishr, 1) := by decide +kernel
theorem dX7_mostBound_20 : decode cX7_mostBound 20 = .ok (.iconst 1, 1) := by decide +kernel
theorem dX7_mostBound_21 : decode cX7_mostBound 21 = .ok (.iand, 1) := by decide +kernel
theorem dX7_mostBound_22 : decode cX7_mostBound 22 = .ok (.ifCond .eq 77, 3) := by decide +kernel
theorem dX7_mostBound_25 : decode cX7_mostBound 25 = .ok (.aload_n 1, 1) := by decide +kernel
theorem dX7_mostBound_26 : decode cX7_mostBound 26 = .ok (.iload 6, 2) := by decide +kernel
theorem dX7_mostBound_28 : decode cX7_mostBound 28 = .ok (.iaload, 1) := by decide +kernel
theorem dX7_mostBound_29 : decode cX7_mostBound 29 = .ok (.iload_n 2, 1) := by decide +kernel
theorem dX7_mostBound_30 : decode cX7_mostBound 30 = .ok (.iand, 1) := by decide +kernel
theorem dX7_mostBound_31 : decode cX7_mostBound 31 = .ok (.invokestatic 52, 3) := by decide +kernel
theorem dX7_mostBound_34 : decode cX7_mostBound 34 = .ok (.istore 7, 2) := by decide +kernel
theorem dX7_mostBound_36 : decode cX7_mostBound 36 = .ok (.iconst 0, 1) := by decide +kernel
theorem dX7_mostBound_37 : decode cX7_mostBound 37 = .ok (.istore 8, 2) := by decide +kernel
theorem dX7_mostBound_39 : decode cX7_mostBound 39 = .ok (.iload 8, 2) := by decide +kernel
theorem dX7_mostBound_41 : decode cX7_mostBound 41 = .ok (.iload_n 3, 1) := by decide +kernel
theorem dX7_mostBound_42 : decode cX7_mostBound 42 = .ok (.if_icmp .ge 42, 3) := by decide +kernel
theorem dX7_mostBound_45 : decode cX7_mostBound 45 = .ok (.iload 8, 2) := by decide +kernel
theorem dX7_mostBound_47 : decode cX7_mostBound 47 = .ok (.bipush 16, 2) := by decide +kernel
theorem dX7_mostBound_49 : decode cX7_mostBound 49 = .ok (.if_icmp .ge 35, 3) := by decide +kernel
theorem dX7_mostBound_52 : decode cX7_mostBound 52 = .ok (.iload 7, 2) := by decide +kernel
theorem dX7_mostBound_54 : decode cX7_mostBound 54 = .ok (.aload_n 0, 1) := by decide +kernel
theorem dX7_mostBound_55 : decode cX7_mostBound 55 = .ok (.getfield 15, 3) := by decide +kernel
theorem dX7_mostBound_58 : decode cX7_mostBound 58 = .ok (.iload 8, 2) := by decide +kernel
theorem dX7_mostBound_60 : decode cX7_mostBound 60 = .ok (.iaload, 1) := by decide +kernel
theorem dX7_mostBound_61 : decode cX7_mostBound 61 = .ok (.aload_n 1, 1) := by decide +kernel
theorem dX7_mostBound_62 : decode cX7_mostBound 62 = .ok (.iload 6, 2) := by decide +kernel
theorem dX7_mostBound_64 : decode cX7_mostBound 64 = .ok (.iaload, 1) := by decide +kernel
theorem dX7_mostBound_65 : decode cX7_mostBound 65 = .ok (.iand, 1) := by decide +kernel
theorem dX7_mostBound_66 : decode cX7_mostBound 66 = .ok (.ifCond .ne 7, 3) := by decide +kernel
theorem dX7_mostBound_69 : decode cX7_mostBound 69 = .ok (.iconst 0, 1) := by decide +kernel
theorem dX7_mostBound_70 : decode cX7_mostBound 70 = .ok (.goto 5, 3) := by decide +kernel
theorem dX7_mostBound_73 : decode cX7_mostBound 73 = .ok (.bipush 16, 2) := by decide +kernel
theorem dX7_mostBound_75 : decode cX7_mostBound 75 = .ok (.iadd, 1) := by decide +kernel
theorem dX7_mostBound_76 : decode cX7_mostBound 76 = .ok (.istore 7, 2) := by decide +kernel
theorem dX7_mostBound_78 : decode cX7_mostBound 78 = .ok (.iinc 8 1, 3) := by decide +kernel
theorem dX7_mostBound_81 : decode cX7_mostBound 81 = .ok (.goto (-42), 3) := by decide +kernel
theorem dX7_mostBound_84 : decode cX7_mostBound 84 = .ok (.iload 7, 2) := by decide +kernel
theorem dX7_mostBound_86 : decode cX7_mostBound 86 = .ok (.iload 5, 2) := by decide +kernel
theorem dX7_mostBound_88 : decode cX7_mostBound 88 = .ok (.if_icmp .le 11, 3) := by decide +kernel
theorem dX7_mostBound_91 : decode cX7_mostBound 91 = .ok (.iload 6, 2) := by decide +kernel
theorem dX7_mostBound_93 : decode cX7_mostBound 93 = .ok (.istore 4, 2) := by decide +kernel
theorem dX7_mostBound_95 : decode cX7_mostBound 95 = .ok (.iload 7, 2) := by decide +kernel
theorem dX7_mostBound_97 : decode cX7_mostBound 97 = .ok (.istore 5, 2) := by decide +kernel
theorem dX7_mostBound_99 : decode cX7_mostBound 99 = .ok (.iinc 6 1, 3) := by decide +kernel
theorem dX7_mostBound_102 : decode cX7_mostBound 102 = .ok (.goto (-93), 3) := by decide +kernel
theorem dX7_mostBound_105 : decode cX7_mostBound 105 = .ok (.iload 4, 2) := by decide +kernel
theorem dX7_mostBound_107 : decode cX7_mostBound 107 = .ok (.ireturn, 1) := by decide +kernel
theorem dX7_width_0 : decode cX7_width 0 = .ok (.aload_n 1, 1) := by decide +kernel
theorem dX7_width_1 : decode cX7_width 1 = .ok (.invokevirtual 31, 3) := by decide +kernel
theorem dX7_width_4 : decode cX7_width 4 = .ok (.istore_n 2, 1) := by decide +kernel
theorem dX7_width_5 : decode cX7_width 5 = .ok (.iconst 0, 1) := by decide +kernel
theorem dX7_width_6 : decode cX7_width 6 = .ok (.istore_n 3, 1) := by decide +kernel
theorem dX7_width_7 : decode cX7_width 7 = .ok (.aload_n 0, 1) := by decide +kernel
theorem dX7_width_8 : decode cX7_width 8 = .ok (.aload_n 1, 1) := by decide +kernel
theorem dX7_width_9 : decode cX7_width 9 = .ok (.invokevirtual 27, 3) := by decide +kernel
theorem dX7_width_12 : decode cX7_width 12 = .ok (.iconst 0, 1) := by decide +kernel
theorem dX7_width_13 : decode cX7_width 13 = .ok (.istore 4, 2) := by decide +kernel
theorem dX7_width_15 : decode cX7_width 15 = .ok (.iload 4, 2) := by decide +kernel
theorem dX7_width_17 : decode cX7_width 17 = .ok (.bipush 16, 2) := by decide +kernel
theorem dX7_width_19 : decode cX7_width 19 = .ok (.if_icmp .ge 54, 3) := by decide +kernel
theorem dX7_width_22 : decode cX7_width 22 = .ok (.iload_n 2, 1) := by decide +kernel
theorem dX7_width_23 : decode cX7_width 23 = .ok (.ifCond .eq 50, 3) := by decide +kernel
theorem dX7_width_26 : decode cX7_width 26 = .ok (.aload_n 1, 1) := by decide +kernel
theorem dX7_width_27 : decode cX7_width 27 = .ok (.getfield 41, 3) := by decide +kernel
theorem dX7_width_30 : decode cX7_width 30 = .ok (.iload_n 2, 1) := by decide +kernel
theorem dX7_width_31 : decode cX7_width 31 = .ok (.iload_n 2, 1) := by decide +kernel
theorem dX7_width_32 : decode cX7_width 32 = .ok (.ineg, 1) := by decide +kernel
theorem dX7_width_33 : decode cX7_width 33 = .ok (.iand, 1) := by decide +kernel
theorem dX7_width_34 : decode cX7_width 34 = .ok (.iload_n 2, 1) := by decide +kernel
theorem dX7_width_35 : decode cX7_width 35 = .ok (.invokestatic 81, 3) := by decide +kernel
theorem dX7_width_38 : decode cX7_width 38 = .ok (.istore 5, 2) := by decide +kernel
theorem dX7_width_40 : decode cX7_width 40 = .ok (.iload_n 2, 1) := by decide +kernel
theorem dX7_width_41 : decode cX7_width 41 = .ok (.iload 5, 2) := by decide +kernel
theorem dX7_width_43 : decode cX7_width 43 = .ok (.iconst (-1), 1) := by decide +kernel
theorem dX7_width_44 : decode cX7_width 44 = .ok (.ixor, 1) := by decide +kernel
theorem dX7_width_45 : decode cX7_width 45 = .ok (.iand, 1) := by decide +kernel
theorem dX7_width_46 : decode cX7_width 46 = .ok (.istore_n 2, 1) := by decide +kernel
theorem dX7_width_47 : decode cX7_width 47 = .ok (.iload 5, 2) := by decide +kernel
theorem dX7_width_49 : decode cX7_width 49 = .ok (.invokestatic 52, 3) := by decide +kernel
theorem dX7_width_52 : decode cX7_width 52 = .ok (.iload_n 3, 1) := by decide +kernel
theorem dX7_width_53 : decode cX7_width 53 = .ok (.iconst 1, 1) := by decide +kernel
theorem dX7_width_54 : decode cX7_width 54 = .ok (.iadd, 1) := by decide +kernel
theorem dX7_width_55 : decode cX7_width 55 = .ok (.if_icmp .le 12, 3) := by decide +kernel
theorem dX7_width_58 : decode cX7_width 58 = .ok (.aload_n 0, 1) := by decide +kernel
theorem dX7_width_59 : decode cX7_width 59 = .ok (.aload_n 1, 1) := by decide +kernel
theorem dX7_width_60 : decode cX7_width 60 = .ok (.iload 5, 2) := by decide +kernel
theorem dX7_width_62 : decode cX7_width 62 = .ok (.iload_n 3, 1) := by decide +kernel
theorem dX7_width_63 : decode cX7_width 63 = .ok (.invokevirtual 86, 3) := by decide +kernel
theorem dX7_width_66 : decode cX7_width 66 = .ok (.istore_n 3, 1) := by decide +kernel
theorem dX7_width_67 : decode cX7_width 67 = .ok (.iinc 4 1, 3) := by decide +kernel
theorem dX7_width_70 : decode cX7_width 70 = .ok (.goto (-55), 3) := by decide +kernel
theorem dX7_width_73 : decode cX7_width 73 = .ok (.iload_n 3, 1) := by decide +kernel
theorem dX7_width_74 : decode cX7_width 74 = .ok (.ireturn, 1) := by decide +kernel
theorem kX7_81 : lkK (gS, X) RX7 81 mX8_reach 3 ∧ Cond.static yX8_reach ∈ g_ws (gS, X) := ⟨⟨tb_good, (tb_t (k := 971) (w := Cond.methodLink RX7 81 yX8_reach) (by decide +kernel)), (tb_t (k := 3) (w := Cond.initialized RX8) (by decide +kernel)), (tb_t (k := 579) (w := Cond.code yX8_reach cX8_reach 6 (some .int)) (by decide +kernel)), by decide +kernel, by decide⟩, (tb_t (k := 578) (w := Cond.static yX8_reach) (by decide +kernel))⟩
theorem kX7_86 : lkK (gS, X) RX7 86 mX7_widthOf 3 ∧ Cond.instanceMethod yX7_widthOf ∈ g_ws (gS, X) ∧ Cond.selects RX7 yX7_widthOf yX7_widthOf ∈ g_ws (gS, X) ∧ yX7_widthOf.cls = RX7 := ⟨⟨tb_good, (tb_t (k := 972) (w := Cond.methodLink RX7 86 yX7_widthOf) (by decide +kernel)), (tb_t (k := 4) (w := Cond.initialized RX7) (by decide +kernel)), (tb_t (k := 975) (w := Cond.code yX7_widthOf cX7_widthOf 7 (some .int)) (by decide +kernel)), by decide +kernel, by decide⟩, (tb_t (k := 974) (w := Cond.instanceMethod yX7_widthOf) (by decide +kernel)), (tb_p (k := 51) (q := (yX7_widthOf, 5)) (by decide +kernel)), rfl⟩
theorem dX7_widthOf_0 : decode cX7_widthOf 0 = .ok (.aload_n 1, 1) := by decide +kernel
theorem dX7_widthOf_1 : decode cX7_widthOf 1 = .ok (.getfield 41, 3) := by decide +kernel
theorem dX7_widthOf_4 : decode cX7_widthOf 4 = .ok (.iconst 0, 1) := by decide +kernel
theorem dX7_widthOf_5 : decode cX7_widthOf 5 = .ok (.aload_n 0, 1) := by decide +kernel
theorem dX7_widthOf_6 : decode cX7_widthOf 6 = .ok (.getfield 18, 3) := by decide +kernel
theorem dX7_widthOf_9 : decode cX7_widthOf 9 = .ok (.iconst 0, 1) := by decide +kernel
theorem dX7_widthOf_10 : decode cX7_widthOf 10 = .ok (.aload_n 1, 1) := by decide +kernel
theorem dX7_widthOf_11 : decode cX7_widthOf 11 = .ok (.getfield 44, 3) := by decide +kernel
theorem dX7_widthOf_14 : decode cX7_widthOf 14 = .ok (.invokestatic 90, 3) := by decide +kernel
theorem dX7_widthOf_17 : decode cX7_widthOf 17 = .ok (.iload_n 3, 1) := by decide +kernel
theorem dX7_widthOf_18 : decode cX7_widthOf 18 = .ok (.aload_n 0, 1) := by decide +kernel
theorem dX7_widthOf_19 : decode cX7_widthOf 19 = .ok (.aload_n 1, 1) := by decide +kernel
theorem dX7_widthOf_20 : decode cX7_widthOf 20 = .ok (.iload_n 2, 1) := by decide +kernel
theorem dX7_widthOf_21 : decode cX7_widthOf 21 = .ok (.invokevirtual 96, 3) := by decide +kernel
theorem dX7_widthOf_24 : decode cX7_widthOf 24 = .ok (.invokestatic 58, 3) := by decide +kernel
theorem dX7_widthOf_27 : decode cX7_widthOf 27 = .ok (.istore 4, 2) := by decide +kernel
theorem dX7_widthOf_29 : decode cX7_widthOf 29 = .ok (.aload_n 0, 1) := by decide +kernel
theorem dX7_widthOf_30 : decode cX7_widthOf 30 = .ok (.getfield 9, 3) := by decide +kernel
theorem dX7_widthOf_33 : decode cX7_widthOf 33 = .ok (.iload_n 2, 1) := by decide +kernel
theorem dX7_widthOf_34 : decode cX7_widthOf 34 = .ok (.invokestatic 37, 3) := by decide +kernel
theorem dX7_widthOf_37 : decode cX7_widthOf 37 = .ok (.istore 5, 2) := by decide +kernel
theorem dX7_widthOf_39 : decode cX7_widthOf 39 = .ok (.iload 4, 2) := by decide +kernel
theorem dX7_widthOf_41 : decode cX7_widthOf 41 = .ok (.istore 6, 2) := by decide +kernel
theorem dX7_widthOf_43 : decode cX7_widthOf 43 = .ok (.iload 6, 2) := by decide +kernel
theorem dX7_widthOf_45 : decode cX7_widthOf 45 = .ok (.bipush 16, 2) := by decide +kernel
theorem dX7_widthOf_47 : decode cX7_widthOf 47 = .ok (.if_icmp .ge 33, 3) := by decide +kernel
theorem dX7_widthOf_50 : decode cX7_widthOf 50 = .ok (.aload_n 0, 1) := by decide +kernel
theorem dX7_widthOf_51 : decode cX7_widthOf 51 = .ok (.getfield 24, 3) := by decide +kernel
theorem dX7_widthOf_54 : decode cX7_widthOf 54 = .ok (.iconst 0, 1) := by decide +kernel
theorem dX7_widthOf_55 : decode cX7_widthOf 55 = .ok (.invokestatic 64, 3) := by decide +kernel
theorem dX7_widthOf_58 : decode cX7_widthOf 58 = .ok (.aload_n 0, 1) := by decide +kernel
theorem dX7_widthOf_59 : decode cX7_widthOf 59 = .ok (.iload_n 2, 1) := by decide +kernel
theorem dX7_widthOf_60 : decode cX7_widthOf 60 = .ok (.iload 6, 2) := by decide +kernel
theorem dX7_widthOf_62 : decode cX7_widthOf 62 = .ok (.iload 5, 2) := by decide +kernel
theorem dX7_widthOf_64 : decode cX7_widthOf 64 = .ok (.iconst 0, 1) := by decide +kernel
theorem dX7_widthOf_65 : decode cX7_widthOf 65 = .ok (.invokevirtual 99, 3) := by decide +kernel
theorem dX7_widthOf_68 : decode cX7_widthOf 68 = .ok (.ifCond .eq 6, 3) := by decide +kernel
theorem dX7_widthOf_71 : decode cX7_widthOf 71 = .ok (.iload 6, 2) := by decide +kernel
theorem dX7_widthOf_73 : decode cX7_widthOf 73 = .ok (.ireturn, 1) := by decide +kernel
theorem dX7_widthOf_74 : decode cX7_widthOf 74 = .ok (.iinc 6 1, 3) := by decide +kernel
theorem dX7_widthOf_77 : decode cX7_widthOf 77 = .ok (.goto (-34), 3) := by decide +kernel
theorem dX7_widthOf_80 : decode cX7_widthOf 80 = .ok (.bipush 15, 2) := by decide +kernel
theorem dX7_widthOf_82 : decode cX7_widthOf 82 = .ok (.ireturn, 1) := by decide +kernel
theorem aX7_90 : lkA (gS, X) RX7 90 := ⟨(tb_t (k := 976) (w := Cond.methodLink RX7 90 arraycopyName) (by decide +kernel)), (tb_t (k := 272) (w := Cond.native arraycopyName) (by decide +kernel)), (tb_t (k := 271) (w := Cond.static arraycopyName) (by decide +kernel)), (tb_t (k := 13) (w := Cond.initialized "java/lang/System") (by decide +kernel))⟩
theorem kX7_96 : lkK (gS, X) RX7 96 mX7_lowWidth 2 ∧ Cond.instanceMethod yX7_lowWidth ∈ g_ws (gS, X) ∧ Cond.selects RX7 yX7_lowWidth yX7_lowWidth ∈ g_ws (gS, X) ∧ yX7_lowWidth.cls = RX7 := ⟨⟨tb_good, (tb_t (k := 977) (w := Cond.methodLink RX7 96 yX7_lowWidth) (by decide +kernel)), (tb_t (k := 4) (w := Cond.initialized RX7) (by decide +kernel)), (tb_t (k := 980) (w := Cond.code yX7_lowWidth cX7_lowWidth 7 (some .int)) (by decide +kernel)), by decide +kernel, by decide⟩, (tb_t (k := 979) (w := Cond.instanceMethod yX7_lowWidth) (by decide +kernel)), (tb_p (k := 52) (q := (yX7_lowWidth, 5)) (by decide +kernel)), rfl⟩
theorem kX7_99 : lkK (gS, X) RX7 99 mX7_canGo 4 ∧ Cond.instanceMethod yX7_canGo ∈ g_ws (gS, X) ∧ Cond.selects RX7 yX7_canGo yX7_canGo ∈ g_ws (gS, X) ∧ yX7_canGo.cls = RX7 := ⟨⟨tb_good, (tb_t (k := 994) (w := Cond.methodLink RX7 99 yX7_canGo) (by decide +kernel)), (tb_t (k := 4) (w := Cond.initialized RX7) (by decide +kernel)), (tb_t (k := 997) (w := Cond.code yX7_canGo cX7_canGo 8 (some .boolean)) (by decide +kernel)), by decide +kernel, by decide⟩, (tb_t (k := 996) (w := Cond.instanceMethod yX7_canGo) (by decide +kernel)), (tb_p (k := 56) (q := (yX7_canGo, 5)) (by decide +kernel)), rfl⟩
theorem dX7_lowWidth_0 : decode cX7_lowWidth 0 = .ok (.aload_n 1, 1) := by decide +kernel
theorem dX7_lowWidth_1 : decode cX7_lowWidth 1 = .ok (.getfield 41, 3) := by decide +kernel
theorem dX7_lowWidth_4 : decode cX7_lowWidth 4 = .ok (.iconst 0, 1) := by decide +kernel
theorem dX7_lowWidth_5 : decode cX7_lowWidth 5 = .ok (.aload_n 0, 1) := by decide +kernel
theorem dX7_lowWidth_6 : decode cX7_lowWidth 6 = .ok (.getfield 21, 3) := by decide +kernel
theorem dX7_lowWidth_9 : decode cX7_lowWidth 9 = .ok (.iconst 0, 1) := by decide +kernel
theorem dX7_lowWidth_10 : decode cX7_lowWidth 10 = .ok (.aload_n 1, 1) := by decide +kernel
theorem dX7_lowWidth_11 : decode cX7_lowWidth 11 = .ok (.getfield 44, 3) := by decide +kernel
theorem dX7_lowWidth_14 : decode cX7_lowWidth 14 = .ok (.invokestatic 90, 3) := by decide +kernel
theorem dX7_lowWidth_17 : decode cX7_lowWidth 17 = .ok (.iload_n 2, 1) := by decide +kernel
theorem dX7_lowWidth_18 : decode cX7_lowWidth 18 = .ok (.istore_n 3, 1) := by decide +kernel
theorem dX7_lowWidth_19 : decode cX7_lowWidth 19 = .ok (.iconst 0, 1) := by decide +kernel
theorem dX7_lowWidth_20 : decode cX7_lowWidth 20 = .ok (.istore 4, 2) := by decide +kernel
theorem dX7_lowWidth_22 : decode cX7_lowWidth 22 = .ok (.iconst 0, 1) := by decide +kernel
theorem dX7_lowWidth_23 : decode cX7_lowWidth 23 = .ok (.istore 5, 2) := by decide +kernel
theorem dX7_lowWidth_25 : decode cX7_lowWidth 25 = .ok (.iload 5, 2) := by decide +kernel
theorem dX7_lowWidth_27 : decode cX7_lowWidth 27 = .ok (.bipush 16, 2) := by decide +kernel
theorem dX7_lowWidth_29 : decode cX7_lowWidth 29 = .ok (.if_icmp .ge 65, 3) := by decide +kernel
theorem dX7_lowWidth_32 : decode cX7_lowWidth 32 = .ok (.iload_n 3, 1) := by decide +kernel
theorem dX7_lowWidth_33 : decode cX7_lowWidth 33 = .ok (.invokestatic 52, 3) := by decide +kernel
theorem dX7_lowWidth_36 : decode cX7_lowWidth 36 = .ok (.iload 4, 2) := by decide +kernel
theorem dX7_lowWidth_38 : decode cX7_lowWidth 38 = .ok (.iconst 1, 1) := by decide +kernel
theorem dX7_lowWidth_39 : decode cX7_lowWidth 39 = .ok (.iadd, 1) := by decide +kernel
theorem dX7_lowWidth_40 : decode cX7_lowWidth 40 = .ok (.if_icmp .le 54, 3) := by decide +kernel
theorem dX7_lowWidth_43 : decode cX7_lowWidth 43 = .ok (.aload_n 0, 1) := by decide +kernel
theorem dX7_lowWidth_44 : decode cX7_lowWidth 44 = .ok (.iload_n 3, 1) := by decide +kernel
theorem dX7_lowWidth_45 : decode cX7_lowWidth 45 = .ok (.invokevirtual 103, 3) := by decide +kernel
theorem dX7_lowWidth_48 : decode cX7_lowWidth 48 = .ok (.istore 6, 2) := by decide +kernel
theorem dX7_lowWidth_50 : decode cX7_lowWidth 50 = .ok (.iload 4, 2) := by decide +kernel
theorem dX7_lowWidth_52 : decode cX7_lowWidth 52 = .ok (.aload_n 0, 1) := by decide +kernel
theorem dX7_lowWidth_53 : decode cX7_lowWidth 53 = .ok (.getfield 21, 3) := by decide +kernel
theorem dX7_lowWidth_56 : decode cX7_lowWidth 56 = .ok (.iload 6, 2) := by decide +kernel
theorem dX7_lowWidth_58 : decode cX7_lowWidth 58 = .ok (.iaload, 1) := by decide +kernel
theorem dX7_lowWidth_59 : decode cX7_lowWidth 59 = .ok (.invokestatic 52, 3) := by decide +kernel
theorem dX7_lowWidth_62 : decode cX7_lowWidth 62 = .ok (.invokestatic 58, 3) := by decide +kernel
theorem dX7_lowWidth_65 : decode cX7_lowWidth 65 = .ok (.istore 4, 2) := by decide +kernel
theorem dX7_lowWidth_67 : decode cX7_lowWidth 67 = .ok (.iload_n 3, 1) := by decide +kernel
theorem dX7_lowWidth_68 : decode cX7_lowWidth 68 = .ok (.iconst 1, 1) := by decide +kernel
theorem dX7_lowWidth_69 : decode cX7_lowWidth 69 = .ok (.iload 6, 2) := by decide +kernel
theorem dX7_lowWidth_71 : decode cX7_lowWidth 71 = .ok (.ishl, 1) := by decide +kernel
theorem dX7_lowWidth_72 : decode cX7_lowWidth 72 = .ok (.iconst (-1), 1) := by decide +kernel
theorem dX7_lowWidth_73 : decode cX7_lowWidth 73 = .ok (.ixor, 1) := by decide +kernel
theorem dX7_lowWidth_74 : decode cX7_lowWidth 74 = .ok (.iand, 1) := by decide +kernel
theorem dX7_lowWidth_75 : decode cX7_lowWidth 75 = .ok (.istore_n 3, 1) := by decide +kernel
theorem dX7_lowWidth_76 : decode cX7_lowWidth 76 = .ok (.aload_n 0, 1) := by decide +kernel
theorem dX7_lowWidth_77 : decode cX7_lowWidth 77 = .ok (.iload 6, 2) := by decide +kernel
theorem dX7_lowWidth_79 : decode cX7_lowWidth 79 = .ok (.aload_n 0, 1) := by decide +kernel
theorem dX7_lowWidth_80 : decode cX7_lowWidth 80 = .ok (.iload 6, 2) := by decide +kernel
theorem dX7_lowWidth_82 : decode cX7_lowWidth 82 = .ok (.invokevirtual 106, 3) := by decide +kernel
theorem dX7_lowWidth_85 : decode cX7_lowWidth 85 = .ok (.invokevirtual 109, 3) := by decide +kernel
theorem dX7_lowWidth_88 : decode cX7_lowWidth 88 = .ok (.iinc 5 1, 3) := by decide +kernel
theorem dX7_lowWidth_91 : decode cX7_lowWidth 91 = .ok (.goto (-66), 3) := by decide +kernel
theorem dX7_lowWidth_94 : decode cX7_lowWidth 94 = .ok (.iload 4, 2) := by decide +kernel
theorem dX7_lowWidth_96 : decode cX7_lowWidth 96 = .ok (.ireturn, 1) := by decide +kernel
theorem kX7_103 : lkK (gS, X) RX7 103 mX7_leastDegree 1 ∧ Cond.instanceMethod yX7_leastDegree ∈ g_ws (gS, X) ∧ Cond.selects RX7 yX7_leastDegree yX7_leastDegree ∈ g_ws (gS, X) ∧ yX7_leastDegree.cls = RX7 := ⟨⟨tb_good, (tb_t (k := 981) (w := Cond.methodLink RX7 103 yX7_leastDegree) (by decide +kernel)), (tb_t (k := 4) (w := Cond.initialized RX7) (by decide +kernel)), (tb_t (k := 984) (w := Cond.code yX7_leastDegree cX7_leastDegree 6 (some .int)) (by decide +kernel)), by decide +kernel, by decide⟩, (tb_t (k := 983) (w := Cond.instanceMethod yX7_leastDegree) (by decide +kernel)), (tb_p (k := 53) (q := (yX7_leastDegree, 5)) (by decide +kernel)), rfl⟩
theorem kX7_106 : lkK (gS, X) RX7 106 mX7_leastShared 1 ∧ Cond.instanceMethod yX7_leastShared ∈ g_ws (gS, X) ∧ Cond.selects RX7 yX7_leastShared yX7_leastShared ∈ g_ws (gS, X) ∧ yX7_leastShared.cls = RX7 := ⟨⟨tb_good, (tb_t (k := 986) (w := Cond.methodLink RX7 106 yX7_leastShared) (by decide +kernel)), (tb_t (k := 4) (w := Cond.initialized RX7) (by decide +kernel)), (tb_t (k := 989) (w := Cond.code yX7_leastShared cX7_leastShared 6 (some .int)) (by decide +kernel)), by decide +kernel, by decide⟩, (tb_t (k := 988) (w := Cond.instanceMethod yX7_leastShared) (by decide +kernel)), (tb_p (k := 54) (q := (yX7_leastShared, 5)) (by decide +kernel)), rfl⟩
theorem kX7_109 : lkK (gS, X) RX7 109 mX7_meltInto 2 ∧ Cond.instanceMethod yX7_meltInto ∈ g_ws (gS, X) ∧ Cond.selects RX7 yX7_meltInto yX7_meltInto ∈ g_ws (gS, X) ∧ yX7_meltInto.cls = RX7 := ⟨⟨tb_good, (tb_t (k := 990) (w := Cond.methodLink RX7 109 yX7_meltInto) (by decide +kernel)), (tb_t (k := 4) (w := Cond.initialized RX7) (by decide +kernel)), (tb_t (k := 993) (w := Cond.code yX7_meltInto cX7_meltInto 5 none) (by decide +kernel)), by decide +kernel, by decide⟩, (tb_t (k := 992) (w := Cond.instanceMethod yX7_meltInto) (by decide +kernel)), (tb_p (k := 55) (q := (yX7_meltInto, 5)) (by decide +kernel)), rfl⟩
theorem dX7_leastDegree_0 : decode cX7_leastDegree 0 = .ok (.iconst 0, 1) := by decide +kernel
theorem dX7_leastDegree_1 : decode cX7_leastDegree 1 = .ok (.istore_n 2, 1) := by decide +kernel
theorem dX7_leastDegree_2 : decode cX7_leastDegree 2 = .ok (.bipush 16, 2) := by decide +kernel
theorem dX7_leastDegree_4 : decode cX7_leastDegree 4 = .ok (.istore_n 3, 1) := by decide +kernel
theorem dX7_leastDegree_5 : decode cX7_leastDegree 5 = .ok (.iconst 0, 1) := by decide +kernel
theorem dX7_leastDegree_6 : decode cX7_leastDegree 6 = .ok (.istore 4, 2) := by decide +kernel
theorem dX7_leastDegree_8 : decode cX7_leastDegree 8 = .ok (.iload 4, 2) := by decide +kernel
theorem dX7_leastDegree_10 : decode cX7_leastDegree 10 = .ok (.bipush 16, 2) := by decide +kernel
theorem dX7_leastDegree_12 : decode cX7_leastDegree 12 = .ok (.if_icmp .ge 50, 3) := by decide +kernel
theorem dX7_leastDegree_15 : decode cX7_leastDegree 15 = .ok (.iload_n 1, 1) := by decide +kernel
theorem dX7_leastDegree_16 : decode cX7_leastDegree 16 = .ok (.iload 4, 2) := by decide +kernel
theorem dX7_leastDegree_18 : decode cX7_leastDegree 18 = .ok (.ishr, 1) := by decide +kernel
theorem dX7_leastDegree_19 : decode cX7_leastDegree 19 = .ok (.iconst 1, 1) := by decide +kernel
theorem dX7_leastDegree_20 : decode cX7_leastDegree 20 = .ok (.iand, 1) := by decide +kernel
theorem dX7_leastDegree_21 : decode cX7_leastDegree 21 = .ok (.ifCond .eq 35, 3) := by decide +kernel
theorem dX7_leastDegree_24 : decode cX7_leastDegree 24 = .ok (.aload_n 0, 1) := by decide +kernel
theorem dX7_leastDegree_25 : decode cX7_leastDegree 25 = .ok (.getfield 21, 3) := by decide +kernel
theorem dX7_leastDegree_28 : decode cX7_leastDegree 28 = .ok (.iload 4, 2) := by decide +kernel
theorem dX7_leastDegree_30 : decode cX7_leastDegree 30 = .ok (.iaload, 1) := by decide +kernel
theorem dX7_leastDegree_31 : decode cX7_leastDegree 31 = .ok (.invokestatic 52, 3) := by decide +kernel
theorem dX7_leastDegree_34 : decode cX7_leastDegree 34 = .ok (.istore 5, 2) := by decide +kernel
theorem dX7_leastDegree_36 : decode cX7_leastDegree 36 = .ok (.iload 5, 2) := by decide +kernel
theorem dX7_leastDegree_38 : decode cX7_leastDegree 38 = .ok (.iload_n 3, 1) := by decide +kernel
theorem dX7_leastDegree_39 : decode cX7_leastDegree 39 = .ok (.if_icmp .ge 8, 3) := by decide +kernel
theorem dX7_leastDegree_42 : decode cX7_leastDegree 42 = .ok (.iload 4, 2) := by decide +kernel
theorem dX7_leastDegree_44 : decode cX7_leastDegree 44 = .ok (.goto 4, 3) := by decide +kernel
theorem dX7_leastDegree_47 : decode cX7_leastDegree 47 = .ok (.iload_n 2, 1) := by decide +kernel
theorem dX7_leastDegree_48 : decode cX7_leastDegree 48 = .ok (.istore_n 2, 1) := by decide +kernel
theorem dX7_leastDegree_49 : decode cX7_leastDegree 49 = .ok (.iload_n 3, 1) := by decide +kernel
theorem dX7_leastDegree_50 : decode cX7_leastDegree 50 = .ok (.iload 5, 2) := by decide +kernel
theorem dX7_leastDegree_52 : decode cX7_leastDegree 52 = .ok (.invokestatic 113, 3) := by decide +kernel
theorem dX7_leastDegree_55 : decode cX7_leastDegree 55 = .ok (.istore_n 3, 1) := by decide +kernel
theorem dX7_leastDegree_56 : decode cX7_leastDegree 56 = .ok (.iinc 4 1, 3) := by decide +kernel
theorem dX7_leastDegree_59 : decode cX7_leastDegree 59 = .ok (.goto (-51), 3) := by decide +kernel
theorem dX7_leastDegree_62 : decode cX7_leastDegree 62 = .ok (.iload_n 2, 1) := by decide +kernel
theorem dX7_leastDegree_63 : decode cX7_leastDegree 63 = .ok (.ireturn, 1) := by decide +kernel
theorem kX7_113 : lkK (gS, X) RX7 113 mJ9_min_7cf53 2 ∧ Cond.static yJ9_min_7cf53 ∈ g_ws (gS, X) := ⟨⟨tb_good, (tb_t (k := 985) (w := Cond.methodLink RX7 113 yJ9_min_7cf53) (by decide +kernel)), (tb_t (k := 12) (w := Cond.initialized RJ9) (by decide +kernel)), (tb_t (k := 269) (w := Cond.code yJ9_min_7cf53 cJ9_min_7cf53 2 (some .int)) (by decide +kernel)), by decide +kernel, by decide⟩, (tb_t (k := 268) (w := Cond.static yJ9_min_7cf53) (by decide +kernel))⟩
theorem dX7_leastShared_0 : decode cX7_leastShared 0 = .ok (.iconst (-1), 1) := by decide +kernel
theorem dX7_leastShared_1 : decode cX7_leastShared 1 = .ok (.istore_n 2, 1) := by decide +kernel
theorem dX7_leastShared_2 : decode cX7_leastShared 2 = .ok (.bipush 16, 2) := by decide +kernel
theorem dX7_leastShared_4 : decode cX7_leastShared 4 = .ok (.istore_n 3, 1) := by decide +kernel
theorem dX7_leastShared_5 : decode cX7_leastShared 5 = .ok (.iconst 0, 1) := by decide +kernel
theorem dX7_leastShared_6 : decode cX7_leastShared 6 = .ok (.istore 4, 2) := by decide +kernel
theorem dX7_leastShared_8 : decode cX7_leastShared 8 = .ok (.iload 4, 2) := by decide +kernel
theorem dX7_leastShared_10 : decode cX7_leastShared 10 = .ok (.bipush 16, 2) := by decide +kernel
theorem dX7_leastShared_12 : decode cX7_leastShared 12 = .ok (.if_icmp .ge 62, 3) := by decide +kernel
theorem dX7_leastShared_15 : decode cX7_leastShared 15 = .ok (.aload_n 0, 1) := by decide +kernel
theorem dX7_leastShared_16 : decode cX7_leastShared 16 = .ok (.getfield 21, 3) := by decide +kernel
theorem dX7_leastShared_19 : decode cX7_leastShared 19 = .ok (.iload_n 1, 1) := by decide +kernel
theorem dX7_leastShared_20 : decode cX7_leastShared 20 = .ok (.iaload, 1) := by decide +kernel
theorem dX7_leastShared_21 : decode cX7_leastShared 21 = .ok (.iload 4, 2) := by decide +kernel
theorem dX7_leastShared_23 : decode cX7_leastShared 23 = .ok (.ishr, 1) := by decide +kernel
theorem dX7_leastShared_24 : decode cX7_leastShared 24 = .ok (.iconst 1, 1) := by decide +kernel
theorem dX7_leastShared_25 : decode cX7_leastShared 25 = .ok (.iand, 1) := by decide +kernel
theorem dX7_leastShared_26 : decode cX7_leastShared 26 = .ok (.ifCond .eq 42, 3) := by decide +kernel
theorem dX7_leastShared_29 : decode cX7_leastShared 29 = .ok (.aload_n 0, 1) := by decide +kernel
theorem dX7_leastShared_30 : decode cX7_leastShared 30 = .ok (.getfield 21, 3) := by decide +kernel
theorem dX7_leastShared_33 : decode cX7_leastShared 33 = .ok (.iload 4, 2) := by decide +kernel
theorem dX7_leastShared_35 : decode cX7_leastShared 35 = .ok (.iaload, 1) := by decide +kernel
theorem dX7_leastShared_36 : decode cX7_leastShared 36 = .ok (.aload_n 0, 1) := by decide +kernel
theorem dX7_leastShared_37 : decode cX7_leastShared 37 = .ok (.getfield 21, 3) := by decide +kernel
theorem dX7_leastShared_40 : decode cX7_leastShared 40 = .ok (.iload_n 1, 1) := by decide +kernel
theorem dX7_leastShared_41 : decode cX7_leastShared 41 = .ok (.iaload, 1) := by decide +kernel
theorem dX7_leastShared_42 : decode cX7_leastShared 42 = .ok (.iand, 1) := by decide +kernel
theorem dX7_leastShared_43 : decode cX7_leastShared 43 = .ok (.invokestatic 52, 3) := by decide +kernel
theorem dX7_leastShared_46 : decode cX7_leastShared 46 = .ok (.istore 5, 2) := by decide +kernel
theorem dX7_leastShared_48 : decode cX7_leastShared 48 = .ok (.iload 5, 2) := by decide +kernel
theorem dX7_leastShared_50 : decode cX7_leastShared 50 = .ok (.iload_n 3, 1) := by decide +kernel
theorem dX7_leastShared_51 : decode cX7_leastShared 51 = .ok (.if_icmp .ge 8, 3) := by decide +kernel
theorem dX7_leastShared_54 : decode cX7_leastShared 54 = .ok (.iload 4, 2) := by decide +kernel
theorem dX7_leastShared_56 : decode cX7_leastShared 56 = .ok (.goto 4, 3) := by decide +kernel
theorem dX7_leastShared_59 : decode cX7_leastShared 59 = .ok (.iload_n 2, 1) := by decide +kernel
theorem dX7_leastShared_60 : decode cX7_leastShared 60 = .ok (.istore_n 2, 1) := by decide +kernel
theorem dX7_leastShared_61 : decode cX7_leastShared 61 = .ok (.iload_n 3, 1) := by decide +kernel
theorem dX7_leastShared_62 : decode cX7_leastShared 62 = .ok (.iload 5, 2) := by decide +kernel
theorem dX7_leastShared_64 : decode cX7_leastShared 64 = .ok (.invokestatic 113, 3) := by decide +kernel
theorem dX7_leastShared_67 : decode cX7_leastShared 67 = .ok (.istore_n 3, 1) := by decide +kernel
theorem dX7_leastShared_68 : decode cX7_leastShared 68 = .ok (.iinc 4 1, 3) := by decide +kernel
theorem dX7_leastShared_71 : decode cX7_leastShared 71 = .ok (.goto (-63), 3) := by decide +kernel
theorem dX7_leastShared_74 : decode cX7_leastShared 74 = .ok (.iload_n 2, 1) := by decide +kernel
theorem dX7_leastShared_75 : decode cX7_leastShared 75 = .ok (.ireturn, 1) := by decide +kernel
theorem dX7_meltInto_0 : decode cX7_meltInto 0 = .ok (.iload_n 2, 1) := by decide +kernel
theorem dX7_meltInto_1 : decode cX7_meltInto 1 = .ok (.ifCond .ge 4, 3) := by decide +kernel
theorem dX7_meltInto_4 : decode cX7_meltInto 4 = .ok (.return_, 1) := by decide +kernel
theorem dX7_meltInto_5 : decode cX7_meltInto 5 = .ok (.aload_n 0, 1) := by decide +kernel
theorem dX7_meltInto_6 : decode cX7_meltInto 6 = .ok (.getfield 21, 3) := by decide +kernel
theorem dX7_meltInto_9 : decode cX7_meltInto 9 = .ok (.iload_n 1, 1) := by decide +kernel
theorem dX7_meltInto_10 : decode cX7_meltInto 10 = .ok (.iaload, 1) := by decide +kernel
theorem dX7_meltInto_11 : decode cX7_meltInto 11 = .ok (.iconst 1, 1) := by decide +kernel
theorem dX7_meltInto_12 : decode cX7_meltInto 12 = .ok (.iload_n 2, 1) := by decide +kernel
theorem dX7_meltInto_13 : decode cX7_meltInto 13 = .ok (.ishl, 1) := by decide +kernel
theorem dX7_meltInto_14 : decode cX7_meltInto 14 = .ok (.iconst (-1), 1) := by decide +kernel
theorem dX7_meltInto_15 : decode cX7_meltInto 15 = .ok (.ixor, 1) := by decide +kernel
theorem dX7_meltInto_16 : decode cX7_meltInto 16 = .ok (.iand, 1) := by decide +kernel
theorem dX7_meltInto_17 : decode cX7_meltInto 17 = .ok (.istore_n 3, 1) := by decide +kernel
theorem dX7_meltInto_18 : decode cX7_meltInto 18 = .ok (.aload_n 0, 1) := by decide +kernel
theorem dX7_meltInto_19 : decode cX7_meltInto 19 = .ok (.getfield 21, 3) := by decide +kernel
theorem dX7_meltInto_22 : decode cX7_meltInto 22 = .ok (.iload_n 2, 1) := by decide +kernel
theorem dX7_meltInto_23 : decode cX7_meltInto 23 = .ok (.aload_n 0, 1) := by decide +kernel
theorem dX7_meltInto_24 : decode cX7_meltInto 24 = .ok (.getfield 21, 3) := by decide +kernel
theorem dX7_meltInto_27 : decode cX7_meltInto 27 = .ok (.iload_n 2, 1) := by decide +kernel
theorem dX7_meltInto_28 : decode cX7_meltInto 28 = .ok (.iaload, 1) := by decide +kernel
theorem dX7_meltInto_29 : decode cX7_meltInto 29 = .ok (.iload_n 3, 1) := by decide +kernel
theorem dX7_meltInto_30 : decode cX7_meltInto 30 = .ok (.ior, 1) := by decide +kernel
theorem dX7_meltInto_31 : decode cX7_meltInto 31 = .ok (.iconst 1, 1) := by decide +kernel
theorem dX7_meltInto_32 : decode cX7_meltInto 32 = .ok (.iload_n 1, 1) := by decide +kernel
theorem dX7_meltInto_33 : decode cX7_meltInto 33 = .ok (.ishl, 1) := by decide +kernel
theorem dX7_meltInto_34 : decode cX7_meltInto 34 = .ok (.iconst (-1), 1) := by decide +kernel
theorem dX7_meltInto_35 : decode cX7_meltInto 35 = .ok (.ixor, 1) := by decide +kernel
theorem dX7_meltInto_36 : decode cX7_meltInto 36 = .ok (.iand, 1) := by decide +kernel
theorem dX7_meltInto_37 : decode cX7_meltInto 37 = .ok (.iastore, 1) := by decide +kernel
theorem dX7_meltInto_38 : decode cX7_meltInto 38 = .ok (.iconst 0, 1) := by decide +kernel
theorem dX7_meltInto_39 : decode cX7_meltInto 39 = .ok (.istore 4, 2) := by decide +kernel
theorem dX7_meltInto_41 : decode cX7_meltInto 41 = .ok (.iload 4, 2) := by decide +kernel
theorem dX7_meltInto_43 : decode cX7_meltInto 43 = .ok (.bipush 16, 2) := by decide +kernel
theorem dX7_meltInto_45 : decode cX7_meltInto 45 = .ok (.if_icmp .ge 42, 3) := by decide +kernel
theorem dX7_meltInto_48 : decode cX7_meltInto 48 = .ok (.iload_n 3, 1) := by decide +kernel
theorem dX7_meltInto_49 : decode cX7_meltInto 49 = .ok (.iload 4, 2) := by decide +kernel
theorem dX7_meltInto_51 : decode cX7_meltInto 51 = .ok (.ishr, 1) := by decide +kernel
theorem dX7_meltInto_52 : decode cX7_meltInto 52 = .ok (.iconst 1, 1) := by decide +kernel
theorem dX7_meltInto_53 : decode cX7_meltInto 53 = .ok (.iand, 1) := by decide +kernel
theorem dX7_meltInto_54 : decode cX7_meltInto 54 = .ok (.ifCond .eq 27, 3) := by decide +kernel
theorem dX7_meltInto_57 : decode cX7_meltInto 57 = .ok (.aload_n 0, 1) := by decide +kernel
theorem dX7_meltInto_58 : decode cX7_meltInto 58 = .ok (.getfield 21, 3) := by decide +kernel
theorem dX7_meltInto_61 : decode cX7_meltInto 61 = .ok (.iload 4, 2) := by decide +kernel
theorem dX7_meltInto_63 : decode cX7_meltInto 63 = .ok (.aload_n 0, 1) := by decide +kernel
theorem dX7_meltInto_64 : decode cX7_meltInto 64 = .ok (.getfield 21, 3) := by decide +kernel
theorem dX7_meltInto_67 : decode cX7_meltInto 67 = .ok (.iload 4, 2) := by decide +kernel
theorem dX7_meltInto_69 : decode cX7_meltInto 69 = .ok (.iaload, 1) := by decide +kernel
theorem dX7_meltInto_70 : decode cX7_meltInto 70 = .ok (.iconst 1, 1) := by decide +kernel
theorem dX7_meltInto_71 : decode cX7_meltInto 71 = .ok (.iload_n 2, 1) := by decide +kernel
theorem dX7_meltInto_72 : decode cX7_meltInto 72 = .ok (.ishl, 1) := by decide +kernel
theorem dX7_meltInto_73 : decode cX7_meltInto 73 = .ok (.ior, 1) := by decide +kernel
theorem dX7_meltInto_74 : decode cX7_meltInto 74 = .ok (.iconst 1, 1) := by decide +kernel
theorem dX7_meltInto_75 : decode cX7_meltInto 75 = .ok (.iload_n 1, 1) := by decide +kernel
theorem dX7_meltInto_76 : decode cX7_meltInto 76 = .ok (.ishl, 1) := by decide +kernel
theorem dX7_meltInto_77 : decode cX7_meltInto 77 = .ok (.iconst (-1), 1) := by decide +kernel
theorem dX7_meltInto_78 : decode cX7_meltInto 78 = .ok (.ixor, 1) := by decide +kernel
theorem dX7_meltInto_79 : decode cX7_meltInto 79 = .ok (.iand, 1) := by decide +kernel
theorem dX7_meltInto_80 : decode cX7_meltInto 80 = .ok (.iastore, 1) := by decide +kernel
theorem dX7_meltInto_81 : decode cX7_meltInto 81 = .ok (.iinc 4 1, 3) := by decide +kernel
theorem dX7_meltInto_84 : decode cX7_meltInto 84 = .ok (.goto (-43), 3) := by decide +kernel
theorem dX7_meltInto_87 : decode cX7_meltInto 87 = .ok (.return_, 1) := by decide +kernel
theorem dX7_canGo_0 : decode cX7_canGo 0 = .ok (.iload_n 1, 1) := by decide +kernel
theorem dX7_canGo_1 : decode cX7_canGo 1 = .ok (.invokestatic 52, 3) := by decide +kernel
theorem dX7_canGo_4 : decode cX7_canGo 4 = .ok (.iload_n 2, 1) := by decide +kernel
theorem dX7_canGo_5 : decode cX7_canGo 5 = .ok (.iconst 1, 1) := by decide +kernel
theorem dX7_canGo_6 : decode cX7_canGo 6 = .ok (.iadd, 1) := by decide +kernel
theorem dX7_canGo_7 : decode cX7_canGo 7 = .ok (.if_icmp .gt 5, 3) := by decide +kernel
theorem dX7_canGo_10 : decode cX7_canGo 10 = .ok (.iconst 1, 1) := by decide +kernel
theorem dX7_canGo_11 : decode cX7_canGo 11 = .ok (.ireturn, 1) := by decide +kernel
theorem dX7_canGo_12 : decode cX7_canGo 12 = .ok (.iload 4, 2) := by decide +kernel
theorem dX7_canGo_14 : decode cX7_canGo 14 = .ok (.bipush 16, 2) := by decide +kernel
theorem dX7_canGo_16 : decode cX7_canGo 16 = .ok (.if_icmp .lt 5, 3) := by decide +kernel
theorem dX7_canGo_19 : decode cX7_canGo 19 = .ok (.iconst 0, 1) := by decide +kernel
theorem dX7_canGo_20 : decode cX7_canGo 20 = .ok (.ireturn, 1) := by decide +kernel
theorem dX7_canGo_21 : decode cX7_canGo 21 = .ok (.aload_n 0, 1) := by decide +kernel
theorem dX7_canGo_22 : decode cX7_canGo 22 = .ok (.iload_n 1, 1) := by decide +kernel
theorem dX7_canGo_23 : decode cX7_canGo 23 = .ok (.iload_n 2, 1) := by decide +kernel
theorem dX7_canGo_24 : decode cX7_canGo 24 = .ok (.iload_n 3, 1) := by decide +kernel
theorem dX7_canGo_25 : decode cX7_canGo 25 = .ok (.iload 4, 2) := by decide +kernel
theorem dX7_canGo_27 : decode cX7_canGo 27 = .ok (.invokevirtual 116, 3) := by decide +kernel
theorem dX7_canGo_30 : decode cX7_canGo 30 = .ok (.istore 5, 2) := by decide +kernel
theorem dX7_canGo_32 : decode cX7_canGo 32 = .ok (.iconst 0, 1) := by decide +kernel
theorem dX7_canGo_33 : decode cX7_canGo 33 = .ok (.istore 6, 2) := by decide +kernel
theorem dX7_canGo_35 : decode cX7_canGo 35 = .ok (.iload 6, 2) := by decide +kernel
theorem dX7_canGo_37 : decode cX7_canGo 37 = .ok (.bipush 16, 2) := by decide +kernel
theorem dX7_canGo_39 : decode cX7_canGo 39 = .ok (.if_icmp .ge 64, 3) := by decide +kernel
theorem dX7_canGo_42 : decode cX7_canGo 42 = .ok (.iload_n 1, 1) := by decide +kernel
theorem dX7_canGo_43 : decode cX7_canGo 43 = .ok (.iconst 1, 1) := by decide +kernel
theorem dX7_canGo_44 : decode cX7_canGo 44 = .ok (.iload 6, 2) := by decide +kernel
theorem dX7_canGo_46 : decode cX7_canGo 46 = .ok (.ishl, 1) := by decide +kernel
theorem dX7_canGo_47 : decode cX7_canGo 47 = .ok (.iconst (-1), 1) := by decide +kernel
theorem dX7_canGo_48 : decode cX7_canGo 48 = .ok (.ixor, 1) := by decide +kernel
theorem dX7_canGo_49 : decode cX7_canGo 49 = .ok (.iand, 1) := by decide +kernel
theorem dX7_canGo_50 : decode cX7_canGo 50 = .ok (.istore 7, 2) := by decide +kernel
theorem dX7_canGo_52 : decode cX7_canGo 52 = .ok (.iload 5, 2) := by decide +kernel
theorem dX7_canGo_54 : decode cX7_canGo 54 = .ok (.iload 6, 2) := by decide +kernel
theorem dX7_canGo_56 : decode cX7_canGo 56 = .ok (.ishr, 1) := by decide +kernel
theorem dX7_canGo_57 : decode cX7_canGo 57 = .ok (.iconst 1, 1) := by decide +kernel
theorem dX7_canGo_58 : decode cX7_canGo 58 = .ok (.iand, 1) := by decide +kernel
theorem dX7_canGo_59 : decode cX7_canGo 59 = .ok (.ifCond .eq 38, 3) := by decide +kernel
theorem dX7_canGo_62 : decode cX7_canGo 62 = .ok (.aload_n 0, 1) := by decide +kernel
theorem dX7_canGo_63 : decode cX7_canGo 63 = .ok (.iload 7, 2) := by decide +kernel
theorem dX7_canGo_65 : decode cX7_canGo 65 = .ok (.invokevirtual 120, 3) := by decide +kernel
theorem dX7_canGo_68 : decode cX7_canGo 68 = .ok (.ifCond .ne 29, 3) := by decide +kernel
theorem dX7_canGo_71 : decode cX7_canGo 71 = .ok (.aload_n 0, 1) := by decide +kernel
theorem dX7_canGo_72 : decode cX7_canGo 72 = .ok (.iload 6, 2) := by decide +kernel
theorem dX7_canGo_74 : decode cX7_canGo 74 = .ok (.iload_n 1, 1) := by decide +kernel
theorem dX7_canGo_75 : decode cX7_canGo 75 = .ok (.iload 4, 2) := by decide +kernel
theorem dX7_canGo_77 : decode cX7_canGo 77 = .ok (.invokevirtual 124, 3) := by decide +kernel
theorem dX7_canGo_80 : decode cX7_canGo 80 = .ok (.aload_n 0, 1) := by decide +kernel
theorem dX7_canGo_81 : decode cX7_canGo 81 = .ok (.iload 7, 2) := by decide +kernel
theorem dX7_canGo_83 : decode cX7_canGo 83 = .ok (.iload_n 2, 1) := by decide +kernel
theorem dX7_canGo_84 : decode cX7_canGo 84 = .ok (.iload_n 3, 1) := by decide +kernel
theorem dX7_canGo_85 : decode cX7_canGo 85 = .ok (.iload 4, 2) := by decide +kernel
theorem dX7_canGo_87 : decode cX7_canGo 87 = .ok (.iconst 1, 1) := by decide +kernel
theorem dX7_canGo_88 : decode cX7_canGo 88 = .ok (.iadd, 1) := by decide +kernel
theorem dX7_canGo_89 : decode cX7_canGo 89 = .ok (.invokevirtual 99, 3) := by decide +kernel
theorem dX7_canGo_92 : decode cX7_canGo 92 = .ok (.ifCond .eq 5, 3) := by decide +kernel
theorem dX7_canGo_95 : decode cX7_canGo 95 = .ok (.iconst 1, 1) := by decide +kernel
theorem dX7_canGo_96 : decode cX7_canGo 96 = .ok (.ireturn, 1) := by decide +kernel
theorem dX7_canGo_97 : decode cX7_canGo 97 = .ok (.iinc 6 1, 3) := by decide +kernel
theorem dX7_canGo_100 : decode cX7_canGo 100 = .ok (.goto (-65), 3) := by decide +kernel
theorem dX7_canGo_103 : decode cX7_canGo 103 = .ok (.aload_n 0, 1) := by decide +kernel
theorem dX7_canGo_104 : decode cX7_canGo 104 = .ok (.getfield 24, 3) := by decide +kernel
theorem dX7_canGo_107 : decode cX7_canGo 107 = .ok (.iload_n 1, 1) := by decide +kernel
theorem dX7_canGo_108 : decode cX7_canGo 108 = .ok (.iconst 5, 1) := by decide +kernel
theorem dX7_canGo_109 : decode cX7_canGo 109 = .ok (.iushr, 1) := by decide +kernel
theorem dX7_canGo_110 : decode cX7_canGo 110 = .ok (.sipush 2047, 3) := by decide +kernel
theorem dX7_canGo_113 : decode cX7_canGo 113 = .ok (.iand, 1) := by decide +kernel
theorem dX7_canGo_114 : decode cX7_canGo 114 = .ok (.dup2, 1) := by decide +kernel
theorem dX7_canGo_115 : decode cX7_canGo 115 = .ok (.iaload, 1) := by decide +kernel
theorem dX7_canGo_116 : decode cX7_canGo 116 = .ok (.iconst 1, 1) := by decide +kernel
theorem dX7_canGo_117 : decode cX7_canGo 117 = .ok (.iload_n 1, 1) := by decide +kernel
theorem dX7_canGo_118 : decode cX7_canGo 118 = .ok (.bipush 31, 2) := by decide +kernel
theorem dX7_canGo_120 : decode cX7_canGo 120 = .ok (.iand, 1) := by decide +kernel
theorem dX7_canGo_121 : decode cX7_canGo 121 = .ok (.ishl, 1) := by decide +kernel
theorem dX7_canGo_122 : decode cX7_canGo 122 = .ok (.ior, 1) := by decide +kernel
theorem dX7_canGo_123 : decode cX7_canGo 123 = .ok (.iastore, 1) := by decide +kernel
theorem dX7_canGo_124 : decode cX7_canGo 124 = .ok (.iconst 0, 1) := by decide +kernel
theorem dX7_canGo_125 : decode cX7_canGo 125 = .ok (.ireturn, 1) := by decide +kernel
theorem kX7_116 : lkK (gS, X) RX7 116 mX7_choices 4 ∧ Cond.instanceMethod yX7_choices ∈ g_ws (gS, X) ∧ Cond.selects RX7 yX7_choices yX7_choices ∈ g_ws (gS, X) ∧ yX7_choices.cls = RX7 := ⟨⟨tb_good, (tb_t (k := 998) (w := Cond.methodLink RX7 116 yX7_choices) (by decide +kernel)), (tb_t (k := 4) (w := Cond.initialized RX7) (by decide +kernel)), (tb_t (k := 1001) (w := Cond.code yX7_choices cX7_choices 9 (some .int)) (by decide +kernel)), by decide +kernel, by decide⟩, (tb_t (k := 1000) (w := Cond.instanceMethod yX7_choices) (by decide +kernel)), (tb_p (k := 57) (q := (yX7_choices, 5)) (by decide +kernel)), rfl⟩
theorem kX7_120 : lkK (gS, X) RX7 120 mX7_isHopeless 1 ∧ Cond.instanceMethod yX7_isHopeless ∈ g_ws (gS, X) ∧ Cond.selects RX7 yX7_isHopeless yX7_isHopeless ∈ g_ws (gS, X) ∧ yX7_isHopeless.cls = RX7 := ⟨⟨tb_good, (tb_t (k := 1006) (w := Cond.methodLink RX7 120 yX7_isHopeless) (by decide +kernel)), (tb_t (k := 4) (w := Cond.initialized RX7) (by decide +kernel)), (tb_t (k := 1009) (w := Cond.code yX7_isHopeless cX7_isHopeless 2 (some .boolean)) (by decide +kernel)), by decide +kernel, by decide⟩, (tb_t (k := 1008) (w := Cond.instanceMethod yX7_isHopeless) (by decide +kernel)), (tb_p (k := 59) (q := (yX7_isHopeless, 5)) (by decide +kernel)), rfl⟩
theorem kX7_124 : lkK (gS, X) RX7 124 mX7_takeOut 3 ∧ Cond.instanceMethod yX7_takeOut ∈ g_ws (gS, X) ∧ Cond.selects RX7 yX7_takeOut yX7_takeOut ∈ g_ws (gS, X) ∧ yX7_takeOut.cls = RX7 := ⟨⟨tb_good, (tb_t (k := 1010) (w := Cond.methodLink RX7 124 yX7_takeOut) (by decide +kernel)), (tb_t (k := 4) (w := Cond.initialized RX7) (by decide +kernel)), (tb_t (k := 1013) (w := Cond.code yX7_takeOut cX7_takeOut 9 none) (by decide +kernel)), by decide +kernel, by decide⟩, (tb_t (k := 1012) (w := Cond.instanceMethod yX7_takeOut) (by decide +kernel)), (tb_p (k := 60) (q := (yX7_takeOut, 5)) (by decide +kernel)), rfl⟩
theorem dX7_isHopeless_0 : decode cX7_isHopeless 0 = .ok (.aload_n 0, 1) := by decide +kernel
theorem dX7_isHopeless_1 : decode cX7_isHopeless 1 = .ok (.getfield 24, 3) := by decide +kernel
theorem dX7_isHopeless_4 : decode cX7_isHopeless 4 = .ok (.iload_n 1, 1) := by decide +kernel
theorem dX7_isHopeless_5 : decode cX7_isHopeless 5 = .ok (.iconst 5, 1) := by decide +kernel
theorem dX7_isHopeless_6 : decode cX7_isHopeless 6 = .ok (.iushr, 1) := by decide +kernel
theorem dX7_isHopeless_7 : decode cX7_isHopeless 7 = .ok (.sipush 2047, 3) := by decide +kernel
theorem dX7_isHopeless_10 : decode cX7_isHopeless 10 = .ok (.iand, 1) := by decide +kernel
theorem dX7_isHopeless_11 : decode cX7_isHopeless 11 = .ok (.iaload, 1) := by decide +kernel
theorem dX7_isHopeless_12 : decode cX7_isHopeless 12 = .ok (.iload_n 1, 1) := by decide +kernel
theorem dX7_isHopeless_13 : decode cX7_isHopeless 13 = .ok (.bipush 31, 2) := by decide +kernel
theorem dX7_isHopeless_15 : decode cX7_isHopeless 15 = .ok (.iand, 1) := by decide +kernel
theorem dX7_isHopeless_16 : decode cX7_isHopeless 16 = .ok (.ishr, 1) := by decide +kernel
theorem dX7_isHopeless_17 : decode cX7_isHopeless 17 = .ok (.iconst 1, 1) := by decide +kernel
theorem dX7_isHopeless_18 : decode cX7_isHopeless 18 = .ok (.iand, 1) := by decide +kernel
theorem dX7_isHopeless_19 : decode cX7_isHopeless 19 = .ok (.ifCond .eq 7, 3) := by decide +kernel
theorem dX7_isHopeless_22 : decode cX7_isHopeless 22 = .ok (.iconst 1, 1) := by decide +kernel
theorem dX7_isHopeless_23 : decode cX7_isHopeless 23 = .ok (.goto 4, 3) := by decide +kernel
theorem dX7_isHopeless_26 : decode cX7_isHopeless 26 = .ok (.iconst 0, 1) := by decide +kernel
theorem dX7_isHopeless_27 : decode cX7_isHopeless 27 = .ok (.ireturn, 1) := by decide +kernel
theorem dX7_choices_0 : decode cX7_choices 0 = .ok (.iconst 0, 1) := by decide +kernel
theorem dX7_choices_1 : decode cX7_choices 1 = .ok (.istore 5, 2) := by decide +kernel
theorem dX7_choices_3 : decode cX7_choices 3 = .ok (.iconst 0, 1) := by decide +kernel
theorem dX7_choices_4 : decode cX7_choices 4 = .ok (.istore 6, 2) := by decide +kernel
theorem dX7_choices_6 : decode cX7_choices 6 = .ok (.iconst 0, 1) := by decide +kernel
theorem dX7_choices_7 : decode cX7_choices 7 = .ok (.istore 7, 2) := by decide +kernel
theorem dX7_choices_9 : decode cX7_choices 9 = .ok (.iload 7, 2) := by decide +kernel
theorem dX7_choices_11 : decode cX7_choices 11 = .ok (.bipush 16, 2) := by decide +kernel
theorem dX7_choices_13 : decode cX7_choices 13 = .ok (.if_icmp .ge 74, 3) := by decide +kernel
theorem dX7_choices_16 : decode cX7_choices 16 = .ok (.iload_n 1, 1) := by decide +kernel
theorem dX7_choices_17 : decode cX7_choices 17 = .ok (.iload 7, 2) := by decide +kernel
theorem dX7_choices_19 : decode cX7_choices 19 = .ok (.ishr, 1) := by decide +kernel
theorem dX7_choices_20 : decode cX7_choices 20 = .ok (.iconst 1, 1) := by decide +kernel
theorem dX7_choices_21 : decode cX7_choices 21 = .ok (.iand, 1) := by decide +kernel
theorem dX7_choices_22 : decode cX7_choices 22 = .ok (.ifCond .eq 59, 3) := by decide +kernel
theorem dX7_choices_25 : decode cX7_choices 25 = .ok (.aload_n 0, 1) := by decide +kernel
theorem dX7_choices_26 : decode cX7_choices 26 = .ok (.getfield 18, 3) := by decide +kernel
theorem dX7_choices_29 : decode cX7_choices 29 = .ok (.iload 4, 2) := by decide +kernel
theorem dX7_choices_31 : decode cX7_choices 31 = .ok (.bipush 16, 2) := by decide +kernel
theorem dX7_choices_33 : decode cX7_choices 33 = .ok (.imul, 1) := by decide +kernel
theorem dX7_choices_34 : decode cX7_choices 34 = .ok (.iload 7, 2) := by decide +kernel
theorem dX7_choices_36 : decode cX7_choices 36 = .ok (.iadd, 1) := by decide +kernel
theorem dX7_choices_37 : decode cX7_choices 37 = .ok (.iaload, 1) := by decide +kernel
theorem dX7_choices_38 : decode cX7_choices 38 = .ok (.invokestatic 52, 3) := by decide +kernel
theorem dX7_choices_41 : decode cX7_choices 41 = .ok (.istore 8, 2) := by decide +kernel
theorem dX7_choices_43 : decode cX7_choices 43 = .ok (.iload 6, 2) := by decide +kernel
theorem dX7_choices_45 : decode cX7_choices 45 = .ok (.iload 8, 2) := by decide +kernel
theorem dX7_choices_47 : decode cX7_choices 47 = .ok (.iadd, 1) := by decide +kernel
theorem dX7_choices_48 : decode cX7_choices 48 = .ok (.istore 6, 2) := by decide +kernel
theorem dX7_choices_50 : decode cX7_choices 50 = .ok (.iload 8, 2) := by decide +kernel
theorem dX7_choices_52 : decode cX7_choices 52 = .ok (.iload_n 2, 1) := by decide +kernel
theorem dX7_choices_53 : decode cX7_choices 53 = .ok (.if_icmp .gt 28, 3) := by decide +kernel
theorem dX7_choices_56 : decode cX7_choices 56 = .ok (.aload_n 0, 1) := by decide +kernel
theorem dX7_choices_57 : decode cX7_choices 57 = .ok (.iload 7, 2) := by decide +kernel
theorem dX7_choices_59 : decode cX7_choices 59 = .ok (.iload 4, 2) := by decide +kernel
theorem dX7_choices_61 : decode cX7_choices 61 = .ok (.invokevirtual 128, 3) := by decide +kernel
theorem dX7_choices_64 : decode cX7_choices 64 = .ok (.ifCond .eq 8, 3) := by decide +kernel
theorem dX7_choices_67 : decode cX7_choices 67 = .ok (.iconst 1, 1) := by decide +kernel
theorem dX7_choices_68 : decode cX7_choices 68 = .ok (.iload 7, 2) := by decide +kernel
theorem dX7_choices_70 : decode cX7_choices 70 = .ok (.ishl, 1) := by decide +kernel
theorem dX7_choices_71 : decode cX7_choices 71 = .ok (.ireturn, 1) := by decide +kernel
theorem dX7_choices_72 : decode cX7_choices 72 = .ok (.iload 5, 2) := by decide +kernel
theorem dX7_choices_74 : decode cX7_choices 74 = .ok (.iconst 1, 1) := by decide +kernel
theorem dX7_choices_75 : decode cX7_choices 75 = .ok (.iload 7, 2) := by decide +kernel
theorem dX7_choices_77 : decode cX7_choices 77 = .ok (.ishl, 1) := by decide +kernel
theorem dX7_choices_78 : decode cX7_choices 78 = .ok (.ior, 1) := by decide +kernel
theorem dX7_choices_79 : decode cX7_choices 79 = .ok (.istore 5, 2) := by decide +kernel
theorem dX7_choices_81 : decode cX7_choices 81 = .ok (.iinc 7 1, 3) := by decide +kernel
theorem dX7_choices_84 : decode cX7_choices 84 = .ok (.goto (-75), 3) := by decide +kernel
theorem dX7_choices_87 : decode cX7_choices 87 = .ok (.iconst 2, 1) := by decide +kernel
theorem dX7_choices_88 : decode cX7_choices 88 = .ok (.iload_n 2, 1) := by decide +kernel
theorem dX7_choices_89 : decode cX7_choices 89 = .ok (.imul, 1) := by decide +kernel
theorem dX7_choices_90 : decode cX7_choices 90 = .ok (.iload_n 1, 1) := by decide +kernel
theorem dX7_choices_91 : decode cX7_choices 91 = .ok (.invokestatic 52, 3) := by decide +kernel
theorem dX7_choices_94 : decode cX7_choices 94 = .ok (.imul, 1) := by decide +kernel
theorem dX7_choices_95 : decode cX7_choices 95 = .ok (.iload_n 2, 1) := by decide +kernel
theorem dX7_choices_96 : decode cX7_choices 96 = .ok (.iload_n 2, 1) := by decide +kernel
theorem dX7_choices_97 : decode cX7_choices 97 = .ok (.iconst 1, 1) := by decide +kernel
theorem dX7_choices_98 : decode cX7_choices 98 = .ok (.iadd, 1) := by decide +kernel
theorem dX7_choices_99 : decode cX7_choices 99 = .ok (.imul, 1) := by decide +kernel
theorem dX7_choices_100 : decode cX7_choices 100 = .ok (.isub, 1) := by decide +kernel
theorem dX7_choices_101 : decode cX7_choices 101 = .ok (.istore 7, 2) := by decide +kernel
theorem dX7_choices_103 : decode cX7_choices 103 = .ok (.iload 6, 2) := by decide +kernel
theorem dX7_choices_105 : decode cX7_choices 105 = .ok (.iload 7, 2) := by decide +kernel
theorem dX7_choices_107 : decode cX7_choices 107 = .ok (.if_icmp .le 7, 3) := by decide +kernel
theorem dX7_choices_110 : decode cX7_choices 110 = .ok (.iconst 0, 1) := by decide +kernel
theorem dX7_choices_111 : decode cX7_choices 111 = .ok (.goto 9, 3) := by decide +kernel
theorem dX7_choices_114 : decode cX7_choices 114 = .ok (.iload 5, 2) := by decide +kernel
theorem dX7_choices_116 : decode cX7_choices 116 = .ok (.iload_n 3, 1) := by decide +kernel
theorem dX7_choices_117 : decode cX7_choices 117 = .ok (.iconst (-1), 1) := by decide +kernel
theorem dX7_choices_118 : decode cX7_choices 118 = .ok (.ixor, 1) := by decide +kernel
theorem dX7_choices_119 : decode cX7_choices 119 = .ok (.iand, 1) := by decide +kernel
theorem dX7_choices_120 : decode cX7_choices 120 = .ok (.ireturn, 1) := by decide +kernel
theorem kX7_128 : lkK (gS, X) RX7 128 mX7_isHarmless 2 ∧ Cond.instanceMethod yX7_isHarmless ∈ g_ws (gS, X) ∧ Cond.selects RX7 yX7_isHarmless yX7_isHarmless ∈ g_ws (gS, X) ∧ yX7_isHarmless.cls = RX7 := ⟨⟨tb_good, (tb_t (k := 1002) (w := Cond.methodLink RX7 128 yX7_isHarmless) (by decide +kernel)), (tb_t (k := 4) (w := Cond.initialized RX7) (by decide +kernel)), (tb_t (k := 1005) (w := Cond.code yX7_isHarmless cX7_isHarmless 9 (some .boolean)) (by decide +kernel)), by decide +kernel, by decide⟩, (tb_t (k := 1004) (w := Cond.instanceMethod yX7_isHarmless) (by decide +kernel)), (tb_p (k := 58) (q := (yX7_isHarmless, 5)) (by decide +kernel)), rfl⟩
theorem dX7_isHarmless_0 : decode cX7_isHarmless 0 = .ok (.iload_n 2, 1) := by decide +kernel
theorem dX7_isHarmless_1 : decode cX7_isHarmless 1 = .ok (.bipush 16, 2) := by decide +kernel
theorem dX7_isHarmless_3 : decode cX7_isHarmless 3 = .ok (.imul, 1) := by decide +kernel
theorem dX7_isHarmless_4 : decode cX7_isHarmless 4 = .ok (.istore_n 3, 1) := by decide +kernel
theorem dX7_isHarmless_5 : decode cX7_isHarmless 5 = .ok (.aload_n 0, 1) := by decide +kernel
theorem dX7_isHarmless_6 : decode cX7_isHarmless 6 = .ok (.getfield 18, 3) := by decide +kernel
theorem dX7_isHarmless_9 : decode cX7_isHarmless 9 = .ok (.iload_n 3, 1) := by decide +kernel
theorem dX7_isHarmless_10 : decode cX7_isHarmless 10 = .ok (.iload_n 1, 1) := by decide +kernel
theorem dX7_isHarmless_11 : decode cX7_isHarmless 11 = .ok (.iadd, 1) := by decide +kernel
theorem dX7_isHarmless_12 : decode cX7_isHarmless 12 = .ok (.iaload, 1) := by decide +kernel
theorem dX7_isHarmless_13 : decode cX7_isHarmless 13 = .ok (.istore 4, 2) := by decide +kernel
theorem dX7_isHarmless_15 : decode cX7_isHarmless 15 = .ok (.iconst 0, 1) := by decide +kernel
theorem dX7_isHarmless_16 : decode cX7_isHarmless 16 = .ok (.istore 5, 2) := by decide +kernel
theorem dX7_isHarmless_18 : decode cX7_isHarmless 18 = .ok (.iconst 0, 1) := by decide +kernel
theorem dX7_isHarmless_19 : decode cX7_isHarmless 19 = .ok (.istore 6, 2) := by decide +kernel
theorem dX7_isHarmless_21 : decode cX7_isHarmless 21 = .ok (.iconst 0, 1) := by decide +kernel
theorem dX7_isHarmless_22 : decode cX7_isHarmless 22 = .ok (.istore 7, 2) := by decide +kernel
theorem dX7_isHarmless_24 : decode cX7_isHarmless 24 = .ok (.iload 7, 2) := by decide +kernel
theorem dX7_isHarmless_26 : decode cX7_isHarmless 26 = .ok (.bipush 16, 2) := by decide +kernel
theorem dX7_isHarmless_28 : decode cX7_isHarmless 28 = .ok (.if_icmp .ge 56, 3) := by decide +kernel
theorem dX7_isHarmless_31 : decode cX7_isHarmless 31 = .ok (.iload 4, 2) := by decide +kernel
theorem dX7_isHarmless_33 : decode cX7_isHarmless 33 = .ok (.iload 7, 2) := by decide +kernel
theorem dX7_isHarmless_35 : decode cX7_isHarmless 35 = .ok (.ishr, 1) := by decide +kernel
theorem dX7_isHarmless_36 : decode cX7_isHarmless 36 = .ok (.iconst 1, 1) := by decide +kernel
theorem dX7_isHarmless_37 : decode cX7_isHarmless 37 = .ok (.iand, 1) := by decide +kernel
theorem dX7_isHarmless_38 : decode cX7_isHarmless 38 = .ok (.ifCond .eq 40, 3) := by decide +kernel
theorem dX7_isHarmless_41 : decode cX7_isHarmless 41 = .ok (.iload 4, 2) := by decide +kernel
theorem dX7_isHarmless_43 : decode cX7_isHarmless 43 = .ok (.aload_n 0, 1) := by decide +kernel
theorem dX7_isHarmless_44 : decode cX7_isHarmless 44 = .ok (.getfield 18, 3) := by decide +kernel
theorem dX7_isHarmless_47 : decode cX7_isHarmless 47 = .ok (.iload_n 3, 1) := by decide +kernel
theorem dX7_isHarmless_48 : decode cX7_isHarmless 48 = .ok (.iload 7, 2) := by decide +kernel
theorem dX7_isHarmless_50 : decode cX7_isHarmless 50 = .ok (.iadd, 1) := by decide +kernel
theorem dX7_isHarmless_51 : decode cX7_isHarmless 51 = .ok (.iaload, 1) := by decide +kernel
theorem dX7_isHarmless_52 : decode cX7_isHarmless 52 = .ok (.iconst (-1), 1) := by decide +kernel
theorem dX7_isHarmless_53 : decode cX7_isHarmless 53 = .ok (.ixor, 1) := by decide +kernel
theorem dX7_isHarmless_54 : decode cX7_isHarmless 54 = .ok (.iand, 1) := by decide +kernel
theorem dX7_isHarmless_55 : decode cX7_isHarmless 55 = .ok (.invokestatic 52, 3) := by decide +kernel
theorem dX7_isHarmless_58 : decode cX7_isHarmless 58 = .ok (.iconst 1, 1) := by decide +kernel
theorem dX7_isHarmless_59 : decode cX7_isHarmless 59 = .ok (.isub, 1) := by decide +kernel
theorem dX7_isHarmless_60 : decode cX7_isHarmless 60 = .ok (.istore 8, 2) := by decide +kernel
theorem dX7_isHarmless_62 : decode cX7_isHarmless 62 = .ok (.iload 5, 2) := by decide +kernel
theorem dX7_isHarmless_64 : decode cX7_isHarmless 64 = .ok (.iload 8, 2) := by decide +kernel
theorem dX7_isHarmless_66 : decode cX7_isHarmless 66 = .ok (.iadd, 1) := by decide +kernel
theorem dX7_isHarmless_67 : decode cX7_isHarmless 67 = .ok (.istore 5, 2) := by decide +kernel
theorem dX7_isHarmless_69 : decode cX7_isHarmless 69 = .ok (.iload 6, 2) := by decide +kernel
theorem dX7_isHarmless_71 : decode cX7_isHarmless 71 = .ok (.iload 8, 2) := by decide +kernel
theorem dX7_isHarmless_73 : decode cX7_isHarmless 73 = .ok (.invokestatic 58, 3) := by decide +kernel
theorem dX7_isHarmless_76 : decode cX7_isHarmless 76 = .ok (.istore 6, 2) := by decide +kernel
theorem dX7_isHarmless_78 : decode cX7_isHarmless 78 = .ok (.iinc 7 1, 3) := by decide +kernel
theorem dX7_isHarmless_81 : decode cX7_isHarmless 81 = .ok (.goto (-57), 3) := by decide +kernel
theorem dX7_isHarmless_84 : decode cX7_isHarmless 84 = .ok (.iload 5, 2) := by decide +kernel
theorem dX7_isHarmless_86 : decode cX7_isHarmless 86 = .ok (.iconst 2, 1) := by decide +kernel
theorem dX7_isHarmless_87 : decode cX7_isHarmless 87 = .ok (.iload 6, 2) := by decide +kernel
theorem dX7_isHarmless_89 : decode cX7_isHarmless 89 = .ok (.imul, 1) := by decide +kernel
theorem dX7_isHarmless_90 : decode cX7_isHarmless 90 = .ok (.if_icmp .ne 7, 3) := by decide +kernel
theorem dX7_isHarmless_93 : decode cX7_isHarmless 93 = .ok (.iconst 1, 1) := by decide +kernel
theorem dX7_isHarmless_94 : decode cX7_isHarmless 94 = .ok (.goto 4, 3) := by decide +kernel
theorem dX7_isHarmless_97 : decode cX7_isHarmless 97 = .ok (.iconst 0, 1) := by decide +kernel
theorem dX7_isHarmless_98 : decode cX7_isHarmless 98 = .ok (.ireturn, 1) := by decide +kernel
theorem dX7_takeOut_0 : decode cX7_takeOut 0 = .ok (.iload_n 3, 1) := by decide +kernel
theorem dX7_takeOut_1 : decode cX7_takeOut 1 = .ok (.bipush 16, 2) := by decide +kernel
theorem dX7_takeOut_3 : decode cX7_takeOut 3 = .ok (.imul, 1) := by decide +kernel
theorem dX7_takeOut_4 : decode cX7_takeOut 4 = .ok (.istore 4, 2) := by decide +kernel
theorem dX7_takeOut_6 : decode cX7_takeOut 6 = .ok (.iload 4, 2) := by decide +kernel
theorem dX7_takeOut_8 : decode cX7_takeOut 8 = .ok (.bipush 16, 2) := by decide +kernel
theorem dX7_takeOut_10 : decode cX7_takeOut 10 = .ok (.iadd, 1) := by decide +kernel
theorem dX7_takeOut_11 : decode cX7_takeOut 11 = .ok (.istore 5, 2) := by decide +kernel
theorem dX7_takeOut_13 : decode cX7_takeOut 13 = .ok (.aload_n 0, 1) := by decide +kernel
theorem dX7_takeOut_14 : decode cX7_takeOut 14 = .ok (.getfield 18, 3) := by decide +kernel
theorem dX7_takeOut_17 : decode cX7_takeOut 17 = .ok (.iload 4, 2) := by decide +kernel
theorem dX7_takeOut_19 : decode cX7_takeOut 19 = .ok (.iload_n 1, 1) := by decide +kernel
theorem dX7_takeOut_20 : decode cX7_takeOut 20 = .ok (.iadd, 1) := by decide +kernel
theorem dX7_takeOut_21 : decode cX7_takeOut 21 = .ok (.iaload, 1) := by decide +kernel
theorem dX7_takeOut_22 : decode cX7_takeOut 22 = .ok (.istore 6, 2) := by decide +kernel
theorem dX7_takeOut_24 : decode cX7_takeOut 24 = .ok (.iconst 0, 1) := by decide +kernel
theorem dX7_takeOut_25 : decode cX7_takeOut 25 = .ok (.istore 7, 2) := by decide +kernel
theorem dX7_takeOut_27 : decode cX7_takeOut 27 = .ok (.iload 7, 2) := by decide +kernel
theorem dX7_takeOut_29 : decode cX7_takeOut 29 = .ok (.bipush 16, 2) := by decide +kernel
theorem dX7_takeOut_31 : decode cX7_takeOut 31 = .ok (.if_icmp .ge 89, 3) := by decide +kernel
theorem dX7_takeOut_34 : decode cX7_takeOut 34 = .ok (.iload_n 2, 1) := by decide +kernel
theorem dX7_takeOut_35 : decode cX7_takeOut 35 = .ok (.iload 7, 2) := by decide +kernel
theorem dX7_takeOut_37 : decode cX7_takeOut 37 = .ok (.ishr, 1) := by decide +kernel
theorem dX7_takeOut_38 : decode cX7_takeOut 38 = .ok (.iconst 1, 1) := by decide +kernel
theorem dX7_takeOut_39 : decode cX7_takeOut 39 = .ok (.iand, 1) := by decide +kernel
theorem dX7_takeOut_40 : decode cX7_takeOut 40 = .ok (.ifCond .eq 74, 3) := by decide +kernel
theorem dX7_takeOut_43 : decode cX7_takeOut 43 = .ok (.iload 6, 2) := by decide +kernel
theorem dX7_takeOut_45 : decode cX7_takeOut 45 = .ok (.iload 7, 2) := by decide +kernel
theorem dX7_takeOut_47 : decode cX7_takeOut 47 = .ok (.ishr, 1) := by decide +kernel
theorem dX7_takeOut_48 : decode cX7_takeOut 48 = .ok (.iconst 1, 1) := by decide +kernel
theorem dX7_takeOut_49 : decode cX7_takeOut 49 = .ok (.iand, 1) := by decide +kernel
theorem dX7_takeOut_50 : decode cX7_takeOut 50 = .ok (.ifCond .eq 7, 3) := by decide +kernel
theorem dX7_takeOut_53 : decode cX7_takeOut 53 = .ok (.iconst 1, 1) := by decide +kernel
theorem dX7_takeOut_54 : decode cX7_takeOut 54 = .ok (.goto 4, 3) := by decide +kernel
theorem dX7_takeOut_57 : decode cX7_takeOut 57 = .ok (.iconst 0, 1) := by decide +kernel
theorem dX7_takeOut_58 : decode cX7_takeOut 58 = .ok (.istore 8, 2) := by decide +kernel
theorem dX7_takeOut_60 : decode cX7_takeOut 60 = .ok (.aload_n 0, 1) := by decide +kernel
theorem dX7_takeOut_61 : decode cX7_takeOut 61 = .ok (.getfield 18, 3) := by decide +kernel
theorem dX7_takeOut_64 : decode cX7_takeOut 64 = .ok (.iload 5, 2) := by decide +kernel
theorem dX7_takeOut_66 : decode cX7_takeOut 66 = .ok (.iload 7, 2) := by decide +kernel
theorem dX7_takeOut_68 : decode cX7_takeOut 68 = .ok (.iadd, 1) := by decide +kernel
theorem dX7_takeOut_69 : decode cX7_takeOut 69 = .ok (.iload 8, 2) := by decide +kernel
theorem dX7_takeOut_71 : decode cX7_takeOut 71 = .ok (.ifCond .eq 32, 3) := by decide +kernel
theorem dX7_takeOut_74 : decode cX7_takeOut 74 = .ok (.aload_n 0, 1) := by decide +kernel
theorem dX7_takeOut_75 : decode cX7_takeOut 75 = .ok (.getfield 18, 3) := by decide +kernel
theorem dX7_takeOut_78 : decode cX7_takeOut 78 = .ok (.iload 4, 2) := by decide +kernel
theorem dX7_takeOut_80 : decode cX7_takeOut 80 = .ok (.iload 7, 2) := by decide +kernel
theorem dX7_takeOut_82 : decode cX7_takeOut 82 = .ok (.iadd, 1) := by decide +kernel
theorem dX7_takeOut_83 : decode cX7_takeOut 83 = .ok (.iaload, 1) := by decide +kernel
theorem dX7_takeOut_84 : decode cX7_takeOut 84 = .ok (.iload 6, 2) := by decide +kernel
theorem dX7_takeOut_86 : decode cX7_takeOut 86 = .ok (.ior, 1) := by decide +kernel
theorem dX7_takeOut_87 : decode cX7_takeOut 87 = .ok (.iconst 1, 1) := by decide +kernel
theorem dX7_takeOut_88 : decode cX7_takeOut 88 = .ok (.iload 7, 2) := by decide +kernel
theorem dX7_takeOut_90 : decode cX7_takeOut 90 = .ok (.ishl, 1) := by decide +kernel
theorem dX7_takeOut_91 : decode cX7_takeOut 91 = .ok (.iconst (-1), 1) := by decide +kernel
theorem dX7_takeOut_92 : decode cX7_takeOut 92 = .ok (.ixor, 1) := by decide +kernel
theorem dX7_takeOut_93 : decode cX7_takeOut 93 = .ok (.iand, 1) := by decide +kernel
theorem dX7_takeOut_94 : decode cX7_takeOut 94 = .ok (.iconst 1, 1) := by decide +kernel
theorem dX7_takeOut_95 : decode cX7_takeOut 95 = .ok (.iload_n 1, 1) := by decide +kernel
theorem dX7_takeOut_96 : decode cX7_takeOut 96 = .ok (.ishl, 1) := by decide +kernel
theorem dX7_takeOut_97 : decode cX7_takeOut 97 = .ok (.iconst (-1), 1) := by decide +kernel
theorem dX7_takeOut_98 : decode cX7_takeOut 98 = .ok (.ixor, 1) := by decide +kernel
theorem dX7_takeOut_99 : decode cX7_takeOut 99 = .ok (.iand, 1) := by decide +kernel
theorem dX7_takeOut_100 : decode cX7_takeOut 100 = .ok (.goto 13, 3) := by decide +kernel
theorem dX7_takeOut_103 : decode cX7_takeOut 103 = .ok (.aload_n 0, 1) := by decide +kernel
theorem dX7_takeOut_104 : decode cX7_takeOut 104 = .ok (.getfield 18, 3) := by decide +kernel
theorem dX7_takeOut_107 : decode cX7_takeOut 107 = .ok (.iload 4, 2) := by decide +kernel
theorem dX7_takeOut_109 : decode cX7_takeOut 109 = .ok (.iload 7, 2) := by decide +kernel
theorem dX7_takeOut_111 : decode cX7_takeOut 111 = .ok (.iadd, 1) := by decide +kernel
theorem dX7_takeOut_112 : decode cX7_takeOut 112 = .ok (.iaload, 1) := by decide +kernel
theorem dX7_takeOut_113 : decode cX7_takeOut 113 = .ok (.iastore, 1) := by decide +kernel
theorem dX7_takeOut_114 : decode cX7_takeOut 114 = .ok (.iinc 7 1, 3) := by decide +kernel
theorem dX7_takeOut_117 : decode cX7_takeOut 117 = .ok (.goto (-90), 3) := by decide +kernel
theorem dX7_takeOut_120 : decode cX7_takeOut 120 = .ok (.return_, 1) := by decide +kernel
theorem dX8_lowest_0 : decode cX8_lowest 0 = .ok (.iload_n 0, 1) := by decide +kernel
theorem dX8_lowest_1 : decode cX8_lowest 1 = .ok (.iload_n 0, 1) := by decide +kernel
theorem dX8_lowest_2 : decode cX8_lowest 2 = .ok (.ineg, 1) := by decide +kernel
theorem dX8_lowest_3 : decode cX8_lowest 3 = .ok (.iand, 1) := by decide +kernel
theorem dX8_lowest_4 : decode cX8_lowest 4 = .ok (.iconst 1, 1) := by decide +kernel
theorem dX8_lowest_5 : decode cX8_lowest 5 = .ok (.isub, 1) := by decide +kernel
theorem dX8_lowest_6 : decode cX8_lowest 6 = .ok (.invokestatic 15, 3) := by decide +kernel
theorem dX8_lowest_9 : decode cX8_lowest 9 = .ok (.ireturn, 1) := by decide +kernel
theorem kX8_15 : lkK (gS, X) RX8 15 mJ6_bitCount_0f7a4 1 ∧ Cond.static yJ6_bitCount_0f7a4 ∈ g_ws (gS, X) := ⟨⟨tb_good, (tb_t (k := 730) (w := Cond.methodLink RX8 15 yJ6_bitCount_0f7a4) (by decide +kernel)), (tb_t (k := 14) (w := Cond.initialized RJ6) (by decide +kernel)), (tb_t (k := 438) (w := Cond.code yJ6_bitCount_0f7a4 cJ6_bitCount_0f7a4 1 (some .int)) (by decide +kernel)), by decide +kernel, by decide⟩, (tb_t (k := 437) (w := Cond.static yJ6_bitCount_0f7a4) (by decide +kernel))⟩
theorem dX8_spread_0 : decode cX8_spread 0 = .ok (.iconst 0, 1) := by decide +kernel
theorem dX8_spread_1 : decode cX8_spread 1 = .ok (.istore_n 2, 1) := by decide +kernel
theorem dX8_spread_2 : decode cX8_spread 2 = .ok (.iconst 0, 1) := by decide +kernel
theorem dX8_spread_3 : decode cX8_spread 3 = .ok (.istore_n 3, 1) := by decide +kernel
theorem dX8_spread_4 : decode cX8_spread 4 = .ok (.iload_n 3, 1) := by decide +kernel
theorem dX8_spread_5 : decode cX8_spread 5 = .ok (.aload_n 0, 1) := by decide +kernel
theorem dX8_spread_6 : decode cX8_spread 6 = .ok (.arraylength, 1) := by decide +kernel
theorem dX8_spread_7 : decode cX8_spread 7 = .ok (.if_icmp .ge 23, 3) := by decide +kernel
theorem dX8_spread_10 : decode cX8_spread 10 = .ok (.iload_n 1, 1) := by decide +kernel
theorem dX8_spread_11 : decode cX8_spread 11 = .ok (.iload_n 3, 1) := by decide +kernel
theorem dX8_spread_12 : decode cX8_spread 12 = .ok (.ishr, 1) := by decide +kernel
theorem dX8_spread_13 : decode cX8_spread 13 = .ok (.iconst 1, 1) := by decide +kernel
theorem dX8_spread_14 : decode cX8_spread 14 = .ok (.iand, 1) := by decide +kernel
theorem dX8_spread_15 : decode cX8_spread 15 = .ok (.ifCond .eq 9, 3) := by decide +kernel
theorem dX8_spread_18 : decode cX8_spread 18 = .ok (.iload_n 2, 1) := by decide +kernel
theorem dX8_spread_19 : decode cX8_spread 19 = .ok (.aload_n 0, 1) := by decide +kernel
theorem dX8_spread_20 : decode cX8_spread 20 = .ok (.iload_n 3, 1) := by decide +kernel
theorem dX8_spread_21 : decode cX8_spread 21 = .ok (.iaload, 1) := by decide +kernel
theorem dX8_spread_22 : decode cX8_spread 22 = .ok (.ior, 1) := by decide +kernel
theorem dX8_spread_23 : decode cX8_spread 23 = .ok (.istore_n 2, 1) := by decide +kernel
theorem dX8_spread_24 : decode cX8_spread 24 = .ok (.iinc 3 1, 3) := by decide +kernel
theorem dX8_spread_27 : decode cX8_spread 27 = .ok (.goto (-23), 3) := by decide +kernel
theorem dX8_spread_30 : decode cX8_spread 30 = .ok (.iload_n 2, 1) := by decide +kernel
theorem dX8_spread_31 : decode cX8_spread 31 = .ok (.ireturn, 1) := by decide +kernel
theorem dX8_reach_0 : decode cX8_reach 0 = .ok (.iload_n 1, 1) := by decide +kernel
theorem dX8_reach_1 : decode cX8_reach 1 = .ok (.iload_n 2, 1) := by decide +kernel
theorem dX8_reach_2 : decode cX8_reach 2 = .ok (.iand, 1) := by decide +kernel
theorem dX8_reach_3 : decode cX8_reach 3 = .ok (.istore_n 3, 1) := by decide +kernel
theorem dX8_reach_4 : decode cX8_reach 4 = .ok (.iload_n 3, 1) := by decide +kernel
theorem dX8_reach_5 : decode cX8_reach 5 = .ok (.istore 4, 2) := by decide +kernel
theorem dX8_reach_7 : decode cX8_reach 7 = .ok (.iconst 0, 1) := by decide +kernel
theorem dX8_reach_8 : decode cX8_reach 8 = .ok (.istore 5, 2) := by decide +kernel
theorem dX8_reach_10 : decode cX8_reach 10 = .ok (.iload 5, 2) := by decide +kernel
theorem dX8_reach_12 : decode cX8_reach 12 = .ok (.bipush 16, 2) := by decide +kernel
theorem dX8_reach_14 : decode cX8_reach 14 = .ok (.if_icmp .ge 33, 3) := by decide +kernel
theorem dX8_reach_17 : decode cX8_reach 17 = .ok (.iload 4, 2) := by decide +kernel
theorem dX8_reach_19 : decode cX8_reach 19 = .ok (.ifCond .eq 28, 3) := by decide +kernel
theorem dX8_reach_22 : decode cX8_reach 22 = .ok (.aload_n 0, 1) := by decide +kernel
theorem dX8_reach_23 : decode cX8_reach 23 = .ok (.iload 4, 2) := by decide +kernel
theorem dX8_reach_25 : decode cX8_reach 25 = .ok (.invokestatic 21, 3) := by decide +kernel
theorem dX8_reach_28 : decode cX8_reach 28 = .ok (.iload_n 2, 1) := by decide +kernel
theorem dX8_reach_29 : decode cX8_reach 29 = .ok (.iand, 1) := by decide +kernel
theorem dX8_reach_30 : decode cX8_reach 30 = .ok (.iload_n 3, 1) := by decide +kernel
theorem dX8_reach_31 : decode cX8_reach 31 = .ok (.iconst (-1), 1) := by decide +kernel
theorem dX8_reach_32 : decode cX8_reach 32 = .ok (.ixor, 1) := by decide +kernel
theorem dX8_reach_33 : decode cX8_reach 33 = .ok (.iand, 1) := by decide +kernel
theorem dX8_reach_34 : decode cX8_reach 34 = .ok (.istore 4, 2) := by decide +kernel
theorem dX8_reach_36 : decode cX8_reach 36 = .ok (.iload_n 3, 1) := by decide +kernel
theorem dX8_reach_37 : decode cX8_reach 37 = .ok (.iload 4, 2) := by decide +kernel
theorem dX8_reach_39 : decode cX8_reach 39 = .ok (.ior, 1) := by decide +kernel
theorem dX8_reach_40 : decode cX8_reach 40 = .ok (.istore_n 3, 1) := by decide +kernel
theorem dX8_reach_41 : decode cX8_reach 41 = .ok (.iinc 5 1, 3) := by decide +kernel
theorem dX8_reach_44 : decode cX8_reach 44 = .ok (.goto (-34), 3) := by decide +kernel
theorem dX8_reach_47 : decode cX8_reach 47 = .ok (.iload_n 3, 1) := by decide +kernel
theorem dX8_reach_48 : decode cX8_reach 48 = .ok (.ireturn, 1) := by decide +kernel
theorem kX8_21 : lkK (gS, X) RX8 21 mX8_spread 2 ∧ Cond.static yX8_spread ∈ g_ws (gS, X) := ⟨⟨tb_good, (tb_t (k := 570) (w := Cond.methodLink RX8 21 yX8_spread) (by decide +kernel)), (tb_t (k := 3) (w := Cond.initialized RX8) (by decide +kernel)), (tb_t (k := 572) (w := Cond.code yX8_spread cX8_spread 4 (some .int)) (by decide +kernel)), by decide +kernel, by decide⟩, (tb_t (k := 571) (w := Cond.static yX8_spread) (by decide +kernel))⟩
theorem dX8_far_0 : decode cX8_far 0 = .ok (.iconst 1, 1) := by decide +kernel
theorem dX8_far_1 : decode cX8_far 1 = .ok (.iload_n 1, 1) := by decide +kernel
theorem dX8_far_2 : decode cX8_far 2 = .ok (.ishl, 1) := by decide +kernel
theorem dX8_far_3 : decode cX8_far 3 = .ok (.istore_n 2, 1) := by decide +kernel
theorem dX8_far_4 : decode cX8_far 4 = .ok (.iload_n 2, 1) := by decide +kernel
theorem dX8_far_5 : decode cX8_far 5 = .ok (.istore_n 3, 1) := by decide +kernel
theorem dX8_far_6 : decode cX8_far 6 = .ok (.iconst 0, 1) := by decide +kernel
theorem dX8_far_7 : decode cX8_far 7 = .ok (.istore 4, 2) := by decide +kernel
theorem dX8_far_9 : decode cX8_far 9 = .ok (.iconst 0, 1) := by decide +kernel
theorem dX8_far_10 : decode cX8_far 10 = .ok (.istore 5, 2) := by decide +kernel
theorem dX8_far_12 : decode cX8_far 12 = .ok (.iload 5, 2) := by decide +kernel
theorem dX8_far_14 : decode cX8_far 14 = .ok (.bipush 16, 2) := by decide +kernel
theorem dX8_far_16 : decode cX8_far 16 = .ok (.if_icmp .ge 41, 3) := by decide +kernel
theorem dX8_far_19 : decode cX8_far 19 = .ok (.iload_n 3, 1) := by decide +kernel
theorem dX8_far_20 : decode cX8_far 20 = .ok (.ifCond .eq 37, 3) := by decide +kernel
theorem dX8_far_23 : decode cX8_far 23 = .ok (.aload_n 0, 1) := by decide +kernel
theorem dX8_far_24 : decode cX8_far 24 = .ok (.iload_n 3, 1) := by decide +kernel
theorem dX8_far_25 : decode cX8_far 25 = .ok (.invokestatic 21, 3) := by decide +kernel
theorem dX8_far_28 : decode cX8_far 28 = .ok (.iload_n 2, 1) := by decide +kernel
theorem dX8_far_29 : decode cX8_far 29 = .ok (.iconst (-1), 1) := by decide +kernel
theorem dX8_far_30 : decode cX8_far 30 = .ok (.ixor, 1) := by decide +kernel
theorem dX8_far_31 : decode cX8_far 31 = .ok (.iand, 1) := by decide +kernel
theorem dX8_far_32 : decode cX8_far 32 = .ok (.istore_n 3, 1) := by decide +kernel
theorem dX8_far_33 : decode cX8_far 33 = .ok (.iload_n 2, 1) := by decide +kernel
theorem dX8_far_34 : decode cX8_far 34 = .ok (.iload_n 3, 1) := by decide +kernel
theorem dX8_far_35 : decode cX8_far 35 = .ok (.ior, 1) := by decide +kernel
theorem dX8_far_36 : decode cX8_far 36 = .ok (.istore_n 2, 1) := by decide +kernel
theorem dX8_far_37 : decode cX8_far 37 = .ok (.iload 4, 2) := by decide +kernel
theorem dX8_far_39 : decode cX8_far 39 = .ok (.iload_n 3, 1) := by decide +kernel
theorem dX8_far_40 : decode cX8_far 40 = .ok (.ifCond .ne 7, 3) := by decide +kernel
theorem dX8_far_43 : decode cX8_far 43 = .ok (.iconst 0, 1) := by decide +kernel
theorem dX8_far_44 : decode cX8_far 44 = .ok (.goto 4, 3) := by decide +kernel
theorem dX8_far_47 : decode cX8_far 47 = .ok (.iconst 1, 1) := by decide +kernel
theorem dX8_far_48 : decode cX8_far 48 = .ok (.iadd, 1) := by decide +kernel
theorem dX8_far_49 : decode cX8_far 49 = .ok (.istore 4, 2) := by decide +kernel
theorem dX8_far_51 : decode cX8_far 51 = .ok (.iinc 5 1, 3) := by decide +kernel
theorem dX8_far_54 : decode cX8_far 54 = .ok (.goto (-42), 3) := by decide +kernel
theorem dX8_far_57 : decode cX8_far 57 = .ok (.iload 4, 2) := by decide +kernel
theorem dX8_far_59 : decode cX8_far 59 = .ok (.ireturn, 1) := by decide +kernel
theorem dX8_distance_0 : decode cX8_distance 0 = .ok (.iload_n 1, 1) := by decide +kernel
theorem dX8_distance_1 : decode cX8_distance 1 = .ok (.istore_n 3, 1) := by decide +kernel
theorem dX8_distance_2 : decode cX8_distance 2 = .ok (.iload_n 1, 1) := by decide +kernel
theorem dX8_distance_3 : decode cX8_distance 3 = .ok (.istore 4, 2) := by decide +kernel
theorem dX8_distance_5 : decode cX8_distance 5 = .ok (.iconst 0, 1) := by decide +kernel
theorem dX8_distance_6 : decode cX8_distance 6 = .ok (.istore 5, 2) := by decide +kernel
theorem dX8_distance_8 : decode cX8_distance 8 = .ok (.iload 5, 2) := by decide +kernel
theorem dX8_distance_10 : decode cX8_distance 10 = .ok (.bipush 16, 2) := by decide +kernel
theorem dX8_distance_12 : decode cX8_distance 12 = .ok (.if_icmp .gt 42, 3) := by decide +kernel
theorem dX8_distance_15 : decode cX8_distance 15 = .ok (.iload 4, 2) := by decide +kernel
theorem dX8_distance_17 : decode cX8_distance 17 = .ok (.ifCond .eq 37, 3) := by decide +kernel
theorem dX8_distance_20 : decode cX8_distance 20 = .ok (.iload_n 3, 1) := by decide +kernel
theorem dX8_distance_21 : decode cX8_distance 21 = .ok (.iload_n 2, 1) := by decide +kernel
theorem dX8_distance_22 : decode cX8_distance 22 = .ok (.ishr, 1) := by decide +kernel
theorem dX8_distance_23 : decode cX8_distance 23 = .ok (.iconst 1, 1) := by decide +kernel
theorem dX8_distance_24 : decode cX8_distance 24 = .ok (.iand, 1) := by decide +kernel
theorem dX8_distance_25 : decode cX8_distance 25 = .ok (.ifCond .eq 6, 3) := by decide +kernel
theorem dX8_distance_28 : decode cX8_distance 28 = .ok (.iload 5, 2) := by decide +kernel
theorem dX8_distance_30 : decode cX8_distance 30 = .ok (.ireturn, 1) := by decide +kernel
theorem dX8_distance_31 : decode cX8_distance 31 = .ok (.aload_n 0, 1) := by decide +kernel
theorem dX8_distance_32 : decode cX8_distance 32 = .ok (.iload 4, 2) := by decide +kernel
theorem dX8_distance_34 : decode cX8_distance 34 = .ok (.invokestatic 21, 3) := by decide +kernel
theorem dX8_distance_37 : decode cX8_distance 37 = .ok (.iload_n 3, 1) := by decide +kernel
theorem dX8_distance_38 : decode cX8_distance 38 = .ok (.iconst (-1), 1) := by decide +kernel
theorem dX8_distance_39 : decode cX8_distance 39 = .ok (.ixor, 1) := by decide +kernel
theorem dX8_distance_40 : decode cX8_distance 40 = .ok (.iand, 1) := by decide +kernel
theorem dX8_distance_41 : decode cX8_distance 41 = .ok (.istore 4, 2) := by decide +kernel
theorem dX8_distance_43 : decode cX8_distance 43 = .ok (.iload_n 3, 1) := by decide +kernel
theorem dX8_distance_44 : decode cX8_distance 44 = .ok (.iload 4, 2) := by decide +kernel
theorem dX8_distance_46 : decode cX8_distance 46 = .ok (.ior, 1) := by decide +kernel
theorem dX8_distance_47 : decode cX8_distance 47 = .ok (.istore_n 3, 1) := by decide +kernel
theorem dX8_distance_48 : decode cX8_distance 48 = .ok (.iinc 5 1, 3) := by decide +kernel
theorem dX8_distance_51 : decode cX8_distance 51 = .ok (.goto (-43), 3) := by decide +kernel
theorem dX8_distance_54 : decode cX8_distance 54 = .ok (.iconst (-1), 1) := by decide +kernel
theorem dX8_distance_55 : decode cX8_distance 55 = .ok (.ireturn, 1) := by decide +kernel
theorem dX8_order_0 : decode cX8_order 0 = .ok (.aload_n 0, 1) := by decide +kernel
theorem dX8_order_1 : decode cX8_order 1 = .ok (.getfield 25, 3) := by decide +kernel
theorem dX8_order_4 : decode cX8_order 4 = .ok (.ifCond .ne 12, 3) := by decide +kernel
theorem dX8_order_7 : decode cX8_order 7 = .ok (.aload_n 0, 1) := by decide +kernel
theorem dX8_order_8 : decode cX8_order 8 = .ok (.getfield 31, 3) := by decide +kernel
theorem dX8_order_11 : decode cX8_order 11 = .ok (.ifCond .le 5, 3) := by decide +kernel
theorem dX8_order_14 : decode cX8_order 14 = .ok (.iconst (-1), 1) := by decide +kernel
theorem dX8_order_15 : decode cX8_order 15 = .ok (.ireturn, 1) := by decide +kernel
theorem dX8_order_16 : decode cX8_order 16 = .ok (.iconst 0, 1) := by decide +kernel
theorem dX8_order_17 : decode cX8_order 17 = .ok (.istore_n 2, 1) := by decide +kernel
theorem dX8_order_18 : decode cX8_order 18 = .ok (.iconst (-1), 1) := by decide +kernel
theorem dX8_order_19 : decode cX8_order 19 = .ok (.istore_n 3, 1) := by decide +kernel
theorem dX8_order_20 : decode cX8_order 20 = .ok (.iconst 0, 1) := by decide +kernel
theorem dX8_order_21 : decode cX8_order 21 = .ok (.istore 4, 2) := by decide +kernel
theorem dX8_order_23 : decode cX8_order 23 = .ok (.iload 4, 2) := by decide +kernel
theorem dX8_order_25 : decode cX8_order 25 = .ok (.aload_n 0, 1) := by decide +kernel
theorem dX8_order_26 : decode cX8_order 26 = .ok (.getfield 35, 3) := by decide +kernel
theorem dX8_order_29 : decode cX8_order 29 = .ok (.if_icmp .ge 43, 3) := by decide +kernel
theorem dX8_order_32 : decode cX8_order 32 = .ok (.aload_n 0, 1) := by decide +kernel
theorem dX8_order_33 : decode cX8_order 33 = .ok (.iload_n 2, 1) := by decide +kernel
theorem dX8_order_34 : decode cX8_order 34 = .ok (.invokestatic 38, 3) := by decide +kernel
theorem dX8_order_37 : decode cX8_order 37 = .ok (.istore 5, 2) := by decide +kernel
theorem dX8_order_39 : decode cX8_order 39 = .ok (.iload 5, 2) := by decide +kernel
theorem dX8_order_41 : decode cX8_order 41 = .ok (.ifCond .ge 5, 3) := by decide +kernel
theorem dX8_order_44 : decode cX8_order 44 = .ok (.iconst (-1), 1) := by decide +kernel
theorem dX8_order_45 : decode cX8_order 45 = .ok (.ireturn, 1) := by decide +kernel
theorem dX8_order_46 : decode cX8_order 46 = .ok (.iload_n 2, 1) := by decide +kernel
theorem dX8_order_47 : decode cX8_order 47 = .ok (.iconst 1, 1) := by decide +kernel
theorem dX8_order_48 : decode cX8_order 48 = .ok (.iload 5, 2) := by decide +kernel
theorem dX8_order_50 : decode cX8_order 50 = .ok (.ishl, 1) := by decide +kernel
theorem dX8_order_51 : decode cX8_order 51 = .ok (.ior, 1) := by decide +kernel
theorem dX8_order_52 : decode cX8_order 52 = .ok (.istore_n 2, 1) := by decide +kernel
theorem dX8_order_53 : decode cX8_order 53 = .ok (.iload 4, 2) := by decide +kernel
theorem dX8_order_55 : decode cX8_order 55 = .ok (.iload_n 1, 1) := by decide +kernel
theorem dX8_order_56 : decode cX8_order 56 = .ok (.if_icmp .ne 8, 3) := by decide +kernel
theorem dX8_order_59 : decode cX8_order 59 = .ok (.iload 5, 2) := by decide +kernel
theorem dX8_order_61 : decode cX8_order 61 = .ok (.goto 4, 3) := by decide +kernel
theorem dX8_order_64 : decode cX8_order 64 = .ok (.iload_n 3, 1) := by decide +kernel
theorem dX8_order_65 : decode cX8_order 65 = .ok (.istore_n 3, 1) := by decide +kernel
theorem dX8_order_66 : decode cX8_order 66 = .ok (.iinc 4 1, 3) := by decide +kernel
theorem dX8_order_69 : decode cX8_order 69 = .ok (.goto (-46), 3) := by decide +kernel
theorem dX8_order_72 : decode cX8_order 72 = .ok (.iload_n 3, 1) := by decide +kernel
theorem dX8_order_73 : decode cX8_order 73 = .ok (.ireturn, 1) := by decide +kernel
theorem fX8_25 : lkF (gS, X) RX8 25 3 1 "GraphEngine$Graph" RX3 TX3 14 := ⟨rfl, inX3, by decide, (tb_t (k := 288) (w := Cond.fieldLink RX8 25 "GraphEngine$Graph" "directed" "Z") (by decide +kernel)), Or.inl rfl⟩
theorem fX8_31 : lkF (gS, X) RX8 31 3 2 "GraphEngine$Graph" RX3 TX3 14 := ⟨rfl, inX3, by decide, (tb_t (k := 294) (w := Cond.fieldLink RX8 31 "GraphEngine$Graph" "arcs" "I") (by decide +kernel)), Or.inl rfl⟩
theorem fX8_35 : lkF (gS, X) RX8 35 3 0 "GraphEngine$Graph" RX3 TX3 14 := ⟨rfl, inX3, by decide, (tb_t (k := 367) (w := Cond.fieldLink RX8 35 "GraphEngine$Graph" "nodes" "I") (by decide +kernel)), Or.inr (tb_t (k := 351) (w := Cond.sameField "GraphEngine$Graph" "GraphEngine$Thing" "nodes" "I") (by decide +kernel))⟩
theorem kX8_38 : lkK (gS, X) RX8 38 mX8_firstFree 2 ∧ Cond.static yX8_firstFree ∈ g_ws (gS, X) := ⟨⟨tb_good, (tb_t (k := 912) (w := Cond.methodLink RX8 38 yX8_firstFree) (by decide +kernel)), (tb_t (k := 3) (w := Cond.initialized RX8) (by decide +kernel)), (tb_t (k := 914) (w := Cond.code yX8_firstFree cX8_firstFree 3 (some .int)) (by decide +kernel)), by decide +kernel, by decide⟩, (tb_t (k := 913) (w := Cond.static yX8_firstFree) (by decide +kernel))⟩
theorem dX8_firstFree_0 : decode cX8_firstFree 0 = .ok (.iconst 0, 1) := by decide +kernel
theorem dX8_firstFree_1 : decode cX8_firstFree 1 = .ok (.istore_n 2, 1) := by decide +kernel
theorem dX8_firstFree_2 : decode cX8_firstFree 2 = .ok (.iload_n 2, 1) := by decide +kernel
theorem dX8_firstFree_3 : decode cX8_firstFree 3 = .ok (.aload_n 0, 1) := by decide +kernel
theorem dX8_firstFree_4 : decode cX8_firstFree 4 = .ok (.getfield 35, 3) := by decide +kernel
theorem dX8_firstFree_7 : decode cX8_firstFree 7 = .ok (.if_icmp .ge 32, 3) := by decide +kernel
theorem dX8_firstFree_10 : decode cX8_firstFree 10 = .ok (.iload_n 1, 1) := by decide +kernel
theorem dX8_firstFree_11 : decode cX8_firstFree 11 = .ok (.iload_n 2, 1) := by decide +kernel
theorem dX8_firstFree_12 : decode cX8_firstFree 12 = .ok (.ishr, 1) := by decide +kernel
theorem dX8_firstFree_13 : decode cX8_firstFree 13 = .ok (.iconst 1, 1) := by decide +kernel
theorem dX8_firstFree_14 : decode cX8_firstFree 14 = .ok (.iand, 1) := by decide +kernel
theorem dX8_firstFree_15 : decode cX8_firstFree 15 = .ok (.ifCond .ne 18, 3) := by decide +kernel
theorem dX8_firstFree_18 : decode cX8_firstFree 18 = .ok (.aload_n 0, 1) := by decide +kernel
theorem dX8_firstFree_19 : decode cX8_firstFree 19 = .ok (.getfield 42, 3) := by decide +kernel
theorem dX8_firstFree_22 : decode cX8_firstFree 22 = .ok (.iload_n 2, 1) := by decide +kernel
theorem dX8_firstFree_23 : decode cX8_firstFree 23 = .ok (.iaload, 1) := by decide +kernel
theorem dX8_firstFree_24 : decode cX8_firstFree 24 = .ok (.iload_n 1, 1) := by decide +kernel
theorem dX8_firstFree_25 : decode cX8_firstFree 25 = .ok (.iconst (-1), 1) := by decide +kernel
theorem dX8_firstFree_26 : decode cX8_firstFree 26 = .ok (.ixor, 1) := by decide +kernel
theorem dX8_firstFree_27 : decode cX8_firstFree 27 = .ok (.iand, 1) := by decide +kernel
theorem dX8_firstFree_28 : decode cX8_firstFree 28 = .ok (.ifCond .ne 5, 3) := by decide +kernel
theorem dX8_firstFree_31 : decode cX8_firstFree 31 = .ok (.iload_n 2, 1) := by decide +kernel
theorem dX8_firstFree_32 : decode cX8_firstFree 32 = .ok (.ireturn, 1) := by decide +kernel
theorem dX8_firstFree_33 : decode cX8_firstFree 33 = .ok (.iinc 2 1, 3) := by decide +kernel
theorem dX8_firstFree_36 : decode cX8_firstFree 36 = .ok (.goto (-34), 3) := by decide +kernel
theorem dX8_firstFree_39 : decode cX8_firstFree 39 = .ok (.iconst (-1), 1) := by decide +kernel
theorem dX8_firstFree_40 : decode cX8_firstFree 40 = .ok (.ireturn, 1) := by decide +kernel
theorem fX8_42 : lkF (gS, X) RX8 42 3 12 "GraphEngine$Graph" RX3 TX3 14 := ⟨rfl, inX3, by decide, (tb_t (k := 344) (w := Cond.fieldLink RX8 42 "GraphEngine$Graph" "in" "[I") (by decide +kernel)), Or.inl rfl⟩
theorem dX8_ring_0 : decode cX8_ring 0 = .ok (.aload_n 0, 1) := by decide +kernel
theorem dX8_ring_1 : decode cX8_ring 1 = .ok (.getfield 25, 3) := by decide +kernel
theorem dX8_ring_4 : decode cX8_ring 4 = .ok (.ifCond .eq 10, 3) := by decide +kernel
theorem dX8_ring_7 : decode cX8_ring 7 = .ok (.aload_n 0, 1) := by decide +kernel
theorem dX8_ring_8 : decode cX8_ring 8 = .ok (.invokestatic 46, 3) := by decide +kernel
theorem dX8_ring_11 : decode cX8_ring 11 = .ok (.goto 7, 3) := by decide +kernel
theorem dX8_ring_14 : decode cX8_ring 14 = .ok (.aload_n 0, 1) := by decide +kernel
theorem dX8_ring_15 : decode cX8_ring 15 = .ok (.invokestatic 50, 3) := by decide +kernel
theorem dX8_ring_18 : decode cX8_ring 18 = .ok (.ireturn, 1) := by decide +kernel
theorem kX8_46 : lkK (gS, X) RX8 46 mX8_directedRing 1 ∧ Cond.static yX8_directedRing ∈ g_ws (gS, X) := ⟨⟨tb_good, (tb_t (k := 918) (w := Cond.methodLink RX8 46 yX8_directedRing) (by decide +kernel)), (tb_t (k := 3) (w := Cond.initialized RX8) (by decide +kernel)), (tb_t (k := 920) (w := Cond.code yX8_directedRing cX8_directedRing 4 (some .int)) (by decide +kernel)), by decide +kernel, by decide⟩, (tb_t (k := 919) (w := Cond.static yX8_directedRing) (by decide +kernel))⟩
theorem kX8_50 : lkK (gS, X) RX8 50 mX8_undirectedRing 1 ∧ Cond.static yX8_undirectedRing ∈ g_ws (gS, X) := ⟨⟨tb_good, (tb_t (k := 921) (w := Cond.methodLink RX8 50 yX8_undirectedRing) (by decide +kernel)), (tb_t (k := 3) (w := Cond.initialized RX8) (by decide +kernel)), (tb_t (k := 923) (w := Cond.code yX8_undirectedRing cX8_undirectedRing 5 (some .int)) (by decide +kernel)), by decide +kernel, by decide⟩, (tb_t (k := 922) (w := Cond.static yX8_undirectedRing) (by decide +kernel))⟩
theorem dX8_directedRing_0 : decode cX8_directedRing 0 = .ok (.iconst 0, 1) := by decide +kernel
theorem dX8_directedRing_1 : decode cX8_directedRing 1 = .ok (.istore_n 1, 1) := by decide +kernel
theorem dX8_directedRing_2 : decode cX8_directedRing 2 = .ok (.iconst 0, 1) := by decide +kernel
theorem dX8_directedRing_3 : decode cX8_directedRing 3 = .ok (.istore_n 2, 1) := by decide +kernel
theorem dX8_directedRing_4 : decode cX8_directedRing 4 = .ok (.iload_n 2, 1) := by decide +kernel
theorem dX8_directedRing_5 : decode cX8_directedRing 5 = .ok (.aload_n 0, 1) := by decide +kernel
theorem dX8_directedRing_6 : decode cX8_directedRing 6 = .ok (.getfield 35, 3) := by decide +kernel
theorem dX8_directedRing_9 : decode cX8_directedRing 9 = .ok (.if_icmp .ge 43, 3) := by decide +kernel
theorem dX8_directedRing_12 : decode cX8_directedRing 12 = .ok (.aload_n 0, 1) := by decide +kernel
theorem dX8_directedRing_13 : decode cX8_directedRing 13 = .ok (.getfield 53, 3) := by decide +kernel
theorem dX8_directedRing_16 : decode cX8_directedRing 16 = .ok (.aload_n 0, 1) := by decide +kernel
theorem dX8_directedRing_17 : decode cX8_directedRing 17 = .ok (.getfield 53, 3) := by decide +kernel
theorem dX8_directedRing_20 : decode cX8_directedRing 20 = .ok (.iload_n 2, 1) := by decide +kernel
theorem dX8_directedRing_21 : decode cX8_directedRing 21 = .ok (.iaload, 1) := by decide +kernel
theorem dX8_directedRing_22 : decode cX8_directedRing 22 = .ok (.iload_n 2, 1) := by decide +kernel
theorem dX8_directedRing_23 : decode cX8_directedRing 23 = .ok (.invokestatic 56, 3) := by decide +kernel
theorem dX8_directedRing_26 : decode cX8_directedRing 26 = .ok (.istore_n 3, 1) := by decide +kernel
theorem dX8_directedRing_27 : decode cX8_directedRing 27 = .ok (.iload_n 3, 1) := by decide +kernel
theorem dX8_directedRing_28 : decode cX8_directedRing 28 = .ok (.ifCond .lt 18, 3) := by decide +kernel
theorem dX8_directedRing_31 : decode cX8_directedRing 31 = .ok (.iload_n 1, 1) := by decide +kernel
theorem dX8_directedRing_32 : decode cX8_directedRing 32 = .ok (.ifCond .eq 10, 3) := by decide +kernel
theorem dX8_directedRing_35 : decode cX8_directedRing 35 = .ok (.iload_n 3, 1) := by decide +kernel
theorem dX8_directedRing_36 : decode cX8_directedRing 36 = .ok (.iconst 1, 1) := by decide +kernel
theorem dX8_directedRing_37 : decode cX8_directedRing 37 = .ok (.iadd, 1) := by decide +kernel
theorem dX8_directedRing_38 : decode cX8_directedRing 38 = .ok (.iload_n 1, 1) := by decide +kernel
theorem dX8_directedRing_39 : decode cX8_directedRing 39 = .ok (.if_icmp .ge 7, 3) := by decide +kernel
theorem dX8_directedRing_42 : decode cX8_directedRing 42 = .ok (.iload_n 3, 1) := by decide +kernel
theorem dX8_directedRing_43 : decode cX8_directedRing 43 = .ok (.iconst 1, 1) := by decide +kernel
theorem dX8_directedRing_44 : decode cX8_directedRing 44 = .ok (.iadd, 1) := by decide +kernel
theorem dX8_directedRing_45 : decode cX8_directedRing 45 = .ok (.istore_n 1, 1) := by decide +kernel
theorem dX8_directedRing_46 : decode cX8_directedRing 46 = .ok (.iinc 2 1, 3) := by decide +kernel
theorem dX8_directedRing_49 : decode cX8_directedRing 49 = .ok (.goto (-45), 3) := by decide +kernel
theorem dX8_directedRing_52 : decode cX8_directedRing 52 = .ok (.iload_n 1, 1) := by decide +kernel
theorem dX8_directedRing_53 : decode cX8_directedRing 53 = .ok (.ireturn, 1) := by decide +kernel
theorem fX8_53 : lkF (gS, X) RX8 53 3 11 "GraphEngine$Graph" RX3 TX3 14 := ⟨rfl, inX3, by decide, (tb_t (k := 341) (w := Cond.fieldLink RX8 53 "GraphEngine$Graph" "out" "[I") (by decide +kernel)), Or.inl rfl⟩
theorem kX8_56 : lkK (gS, X) RX8 56 mX8_distance 3 ∧ Cond.static yX8_distance ∈ g_ws (gS, X) := ⟨⟨tb_good, (tb_t (k := 719) (w := Cond.methodLink RX8 56 yX8_distance) (by decide +kernel)), (tb_t (k := 3) (w := Cond.initialized RX8) (by decide +kernel)), (tb_t (k := 721) (w := Cond.code yX8_distance cX8_distance 6 (some .int)) (by decide +kernel)), by decide +kernel, by decide⟩, (tb_t (k := 720) (w := Cond.static yX8_distance) (by decide +kernel))⟩
theorem dX8_undirectedRing_0 : decode cX8_undirectedRing 0 = .ok (.iconst 0, 1) := by decide +kernel
theorem dX8_undirectedRing_1 : decode cX8_undirectedRing 1 = .ok (.istore_n 1, 1) := by decide +kernel
theorem dX8_undirectedRing_2 : decode cX8_undirectedRing 2 = .ok (.aload_n 0, 1) := by decide +kernel
theorem dX8_undirectedRing_3 : decode cX8_undirectedRing 3 = .ok (.getfield 60, 3) := by decide +kernel
theorem dX8_undirectedRing_6 : decode cX8_undirectedRing 6 = .ok (.invokevirtual 63, 3) := by decide +kernel
theorem dX8_undirectedRing_9 : decode cX8_undirectedRing 9 = .ok (.checkcast 64, 3) := by decide +kernel
theorem dX8_undirectedRing_12 : decode cX8_undirectedRing 12 = .ok (.astore_n 2, 1) := by decide +kernel
theorem dX8_undirectedRing_13 : decode cX8_undirectedRing 13 = .ok (.iconst 0, 1) := by decide +kernel
theorem dX8_undirectedRing_14 : decode cX8_undirectedRing 14 = .ok (.istore_n 3, 1) := by decide +kernel
theorem dX8_undirectedRing_15 : decode cX8_undirectedRing 15 = .ok (.iload_n 3, 1) := by decide +kernel
theorem dX8_undirectedRing_16 : decode cX8_undirectedRing 16 = .ok (.aload_n 0, 1) := by decide +kernel
theorem dX8_undirectedRing_17 : decode cX8_undirectedRing 17 = .ok (.getfield 31, 3) := by decide +kernel
theorem dX8_undirectedRing_20 : decode cX8_undirectedRing 20 = .ok (.if_icmp .ge 35, 3) := by decide +kernel
theorem dX8_undirectedRing_23 : decode cX8_undirectedRing 23 = .ok (.aload_n 0, 1) := by decide +kernel
theorem dX8_undirectedRing_24 : decode cX8_undirectedRing 24 = .ok (.aload_n 2, 1) := by decide +kernel
theorem dX8_undirectedRing_25 : decode cX8_undirectedRing 25 = .ok (.iload_n 3, 1) := by decide +kernel
theorem dX8_undirectedRing_26 : decode cX8_undirectedRing 26 = .ok (.invokestatic 68, 3) := by decide +kernel
theorem dX8_undirectedRing_29 : decode cX8_undirectedRing 29 = .ok (.istore 4, 2) := by decide +kernel
theorem dX8_undirectedRing_31 : decode cX8_undirectedRing 31 = .ok (.iload 4, 2) := by decide +kernel
theorem dX8_undirectedRing_33 : decode cX8_undirectedRing 33 = .ok (.ifCond .le 16, 3) := by decide +kernel
theorem dX8_undirectedRing_36 : decode cX8_undirectedRing 36 = .ok (.iload_n 1, 1) := by decide +kernel
theorem dX8_undirectedRing_37 : decode cX8_undirectedRing 37 = .ok (.ifCond .eq 9, 3) := by decide +kernel
theorem dX8_undirectedRing_40 : decode cX8_undirectedRing 40 = .ok (.iload 4, 2) := by decide +kernel
theorem dX8_undirectedRing_42 : decode cX8_undirectedRing 42 = .ok (.iload_n 1, 1) := by decide +kernel
theorem dX8_undirectedRing_43 : decode cX8_undirectedRing 43 = .ok (.if_icmp .ge 6, 3) := by decide +kernel
theorem dX8_undirectedRing_46 : decode cX8_undirectedRing 46 = .ok (.iload 4, 2) := by decide +kernel
theorem dX8_undirectedRing_48 : decode cX8_undirectedRing 48 = .ok (.istore_n 1, 1) := by decide +kernel
theorem dX8_undirectedRing_49 : decode cX8_undirectedRing 49 = .ok (.iinc 3 1, 3) := by decide +kernel
theorem dX8_undirectedRing_52 : decode cX8_undirectedRing 52 = .ok (.goto (-37), 3) := by decide +kernel
theorem dX8_undirectedRing_55 : decode cX8_undirectedRing 55 = .ok (.iload_n 1, 1) := by decide +kernel
theorem dX8_undirectedRing_56 : decode cX8_undirectedRing 56 = .ok (.ireturn, 1) := by decide +kernel
theorem fX8_60 : lkF (gS, X) RX8 60 3 13 "GraphEngine$Graph" RX3 TX3 14 := ⟨rfl, inX3, by decide, (tb_t (k := 349) (w := Cond.fieldLink RX8 60 "GraphEngine$Graph" "joined" "[I") (by decide +kernel)), Or.inl rfl⟩
theorem aX8_63 : lkC (gS, X) RX8 63 "[I" := ⟨(tb_t (k := 710) (w := Cond.methodLink RX8 63 ⟨"[I","clone","()Ljava/lang/Object;"⟩) (by decide +kernel)), (tb_t (k := 261) (w := Cond.sameMethod "[I" "java/lang/Object" "clone" "()Ljava/lang/Object;") (by decide +kernel)), (tb_t (k := 262) (w := Cond.native ⟨"java/lang/Object","clone","()Ljava/lang/Object;"⟩) (by decide +kernel)), (tb_t (k := 263) (w := Cond.instanceMethod ⟨"java/lang/Object","clone","()Ljava/lang/Object;"⟩) (by decide +kernel)), (tb_t (k := 264) (w := Cond.selects "[I" ⟨"[I","clone","()Ljava/lang/Object;"⟩ ⟨"java/lang/Object","clone","()Ljava/lang/Object;"⟩) (by decide +kernel)), (show ("[I", "java/lang/Cloneable") ∈ cas by decide)⟩
theorem kX8_68 : lkK (gS, X) RX8 68 mX8_ringOver 3 ∧ Cond.static yX8_ringOver ∈ g_ws (gS, X) := ⟨⟨tb_good, (tb_t (k := 924) (w := Cond.methodLink RX8 68 yX8_ringOver) (by decide +kernel)), (tb_t (k := 3) (w := Cond.initialized RX8) (by decide +kernel)), (tb_t (k := 926) (w := Cond.code yX8_ringOver cX8_ringOver 6 (some .int)) (by decide +kernel)), by decide +kernel, by decide⟩, (tb_t (k := 925) (w := Cond.static yX8_ringOver) (by decide +kernel))⟩
theorem dX8_ringOver_0 : decode cX8_ringOver 0 = .ok (.aload_n 0, 1) := by decide +kernel
theorem dX8_ringOver_1 : decode cX8_ringOver 1 = .ok (.getfield 72, 3) := by decide +kernel
theorem dX8_ringOver_4 : decode cX8_ringOver 4 = .ok (.iload_n 2, 1) := by decide +kernel
theorem dX8_ringOver_5 : decode cX8_ringOver 5 = .ok (.iaload, 1) := by decide +kernel
theorem dX8_ringOver_6 : decode cX8_ringOver 6 = .ok (.istore_n 3, 1) := by decide +kernel
theorem dX8_ringOver_7 : decode cX8_ringOver 7 = .ok (.aload_n 0, 1) := by decide +kernel
theorem dX8_ringOver_8 : decode cX8_ringOver 8 = .ok (.getfield 75, 3) := by decide +kernel
theorem dX8_ringOver_11 : decode cX8_ringOver 11 = .ok (.iload_n 2, 1) := by decide +kernel
theorem dX8_ringOver_12 : decode cX8_ringOver 12 = .ok (.iaload, 1) := by decide +kernel
theorem dX8_ringOver_13 : decode cX8_ringOver 13 = .ok (.istore 4, 2) := by decide +kernel
theorem dX8_ringOver_15 : decode cX8_ringOver 15 = .ok (.iload_n 3, 1) := by decide +kernel
theorem dX8_ringOver_16 : decode cX8_ringOver 16 = .ok (.iload 4, 2) := by decide +kernel
theorem dX8_ringOver_18 : decode cX8_ringOver 18 = .ok (.if_icmp .ne 5, 3) := by decide +kernel
theorem dX8_ringOver_21 : decode cX8_ringOver 21 = .ok (.iconst 1, 1) := by decide +kernel
theorem dX8_ringOver_22 : decode cX8_ringOver 22 = .ok (.ireturn, 1) := by decide +kernel
theorem dX8_ringOver_23 : decode cX8_ringOver 23 = .ok (.aload_n 0, 1) := by decide +kernel
theorem dX8_ringOver_24 : decode cX8_ringOver 24 = .ok (.iload_n 2, 1) := by decide +kernel
theorem dX8_ringOver_25 : decode cX8_ringOver 25 = .ok (.invokevirtual 78, 3) := by decide +kernel
theorem dX8_ringOver_28 : decode cX8_ringOver 28 = .ok (.ifCond .eq 5, 3) := by decide +kernel
theorem dX8_ringOver_31 : decode cX8_ringOver 31 = .ok (.iconst 2, 1) := by decide +kernel
theorem dX8_ringOver_32 : decode cX8_ringOver 32 = .ok (.ireturn, 1) := by decide +kernel
theorem dX8_ringOver_33 : decode cX8_ringOver 33 = .ok (.aload_n 1, 1) := by decide +kernel
theorem dX8_ringOver_34 : decode cX8_ringOver 34 = .ok (.iload_n 3, 1) := by decide +kernel
theorem dX8_ringOver_35 : decode cX8_ringOver 35 = .ok (.iload 4, 2) := by decide +kernel
theorem dX8_ringOver_37 : decode cX8_ringOver 37 = .ok (.invokestatic 82, 3) := by decide +kernel
theorem dX8_ringOver_40 : decode cX8_ringOver 40 = .ok (.aload_n 1, 1) := by decide +kernel
theorem dX8_ringOver_41 : decode cX8_ringOver 41 = .ok (.iconst 1, 1) := by decide +kernel
theorem dX8_ringOver_42 : decode cX8_ringOver 42 = .ok (.iload_n 3, 1) := by decide +kernel
theorem dX8_ringOver_43 : decode cX8_ringOver 43 = .ok (.ishl, 1) := by decide +kernel
theorem dX8_ringOver_44 : decode cX8_ringOver 44 = .ok (.iload 4, 2) := by decide +kernel
theorem dX8_ringOver_46 : decode cX8_ringOver 46 = .ok (.invokestatic 56, 3) := by decide +kernel
theorem dX8_ringOver_49 : decode cX8_ringOver 49 = .ok (.istore 5, 2) := by decide +kernel
theorem dX8_ringOver_51 : decode cX8_ringOver 51 = .ok (.aload_n 1, 1) := by decide +kernel
theorem dX8_ringOver_52 : decode cX8_ringOver 52 = .ok (.iload_n 3, 1) := by decide +kernel
theorem dX8_ringOver_53 : decode cX8_ringOver 53 = .ok (.dup2, 1) := by decide +kernel
theorem dX8_ringOver_54 : decode cX8_ringOver 54 = .ok (.iaload, 1) := by decide +kernel
theorem dX8_ringOver_55 : decode cX8_ringOver 55 = .ok (.iconst 1, 1) := by decide +kernel
theorem dX8_ringOver_56 : decode cX8_ringOver 56 = .ok (.iload 4, 2) := by decide +kernel
theorem dX8_ringOver_58 : decode cX8_ringOver 58 = .ok (.ishl, 1) := by decide +kernel
theorem dX8_ringOver_59 : decode cX8_ringOver 59 = .ok (.ior, 1) := by decide +kernel
theorem dX8_ringOver_60 : decode cX8_ringOver 60 = .ok (.iastore, 1) := by decide +kernel
theorem dX8_ringOver_61 : decode cX8_ringOver 61 = .ok (.aload_n 1, 1) := by decide +kernel
theorem dX8_ringOver_62 : decode cX8_ringOver 62 = .ok (.iload 4, 2) := by decide +kernel
theorem dX8_ringOver_64 : decode cX8_ringOver 64 = .ok (.dup2, 1) := by decide +kernel
theorem dX8_ringOver_65 : decode cX8_ringOver 65 = .ok (.iaload, 1) := by decide +kernel
theorem dX8_ringOver_66 : decode cX8_ringOver 66 = .ok (.iconst 1, 1) := by decide +kernel
theorem dX8_ringOver_67 : decode cX8_ringOver 67 = .ok (.iload_n 3, 1) := by decide +kernel
theorem dX8_ringOver_68 : decode cX8_ringOver 68 = .ok (.ishl, 1) := by decide +kernel
theorem dX8_ringOver_69 : decode cX8_ringOver 69 = .ok (.ior, 1) := by decide +kernel
theorem dX8_ringOver_70 : decode cX8_ringOver 70 = .ok (.iastore, 1) := by decide +kernel
theorem dX8_ringOver_71 : decode cX8_ringOver 71 = .ok (.iload 5, 2) := by decide +kernel
theorem dX8_ringOver_73 : decode cX8_ringOver 73 = .ok (.iconst 1, 1) := by decide +kernel
theorem dX8_ringOver_74 : decode cX8_ringOver 74 = .ok (.iadd, 1) := by decide +kernel
theorem dX8_ringOver_75 : decode cX8_ringOver 75 = .ok (.ireturn, 1) := by decide +kernel
theorem fX8_72 : lkF (gS, X) RX8 72 3 3 "GraphEngine$Graph" RX3 TX3 14 := ⟨rfl, inX3, by decide, (tb_t (k := 300) (w := Cond.fieldLink RX8 72 "GraphEngine$Graph" "from" "[I") (by decide +kernel)), Or.inl rfl⟩
theorem fX8_75 : lkF (gS, X) RX8 75 3 4 "GraphEngine$Graph" RX3 TX3 14 := ⟨rfl, inX3, by decide, (tb_t (k := 305) (w := Cond.fieldLink RX8 75 "GraphEngine$Graph" "to" "[I") (by decide +kernel)), Or.inl rfl⟩
theorem kX8_78 : lkK (gS, X) RX8 78 mX3_hasTwin 1 ∧ Cond.instanceMethod yX3_hasTwin ∈ g_ws (gS, X) ∧ Cond.selects RX3 yX3_hasTwin yX3_hasTwin ∈ g_ws (gS, X) ∧ yX3_hasTwin.cls = RX3 := ⟨⟨tb_good, (tb_t (k := 712) (w := Cond.methodLink RX8 78 yX3_hasTwin) (by decide +kernel)), (tb_t (k := 10) (w := Cond.initialized RX3) (by decide +kernel)), (tb_t (k := 715) (w := Cond.code yX3_hasTwin cX3_hasTwin 5 (some .boolean)) (by decide +kernel)), by decide +kernel, by decide⟩, (tb_t (k := 713) (w := Cond.instanceMethod yX3_hasTwin) (by decide +kernel)), (tb_t (k := 714) (w := Cond.selects RX3 yX3_hasTwin yX3_hasTwin) (by decide +kernel)), rfl⟩
theorem kX8_82 : lkK (gS, X) RX8 82 mX8_cut 3 ∧ Cond.static yX8_cut ∈ g_ws (gS, X) := ⟨⟨tb_good, (tb_t (k := 716) (w := Cond.methodLink RX8 82 yX8_cut) (by decide +kernel)), (tb_t (k := 3) (w := Cond.initialized RX8) (by decide +kernel)), (tb_t (k := 718) (w := Cond.code yX8_cut cX8_cut 3 none) (by decide +kernel)), by decide +kernel, by decide⟩, (tb_t (k := 717) (w := Cond.static yX8_cut) (by decide +kernel))⟩
theorem dX8_cut_0 : decode cX8_cut 0 = .ok (.aload_n 0, 1) := by decide +kernel
theorem dX8_cut_1 : decode cX8_cut 1 = .ok (.iload_n 1, 1) := by decide +kernel
theorem dX8_cut_2 : decode cX8_cut 2 = .ok (.dup2, 1) := by decide +kernel
theorem dX8_cut_3 : decode cX8_cut 3 = .ok (.iaload, 1) := by decide +kernel
theorem dX8_cut_4 : decode cX8_cut 4 = .ok (.iconst 1, 1) := by decide +kernel
theorem dX8_cut_5 : decode cX8_cut 5 = .ok (.iload_n 2, 1) := by decide +kernel
theorem dX8_cut_6 : decode cX8_cut 6 = .ok (.ishl, 1) := by decide +kernel
theorem dX8_cut_7 : decode cX8_cut 7 = .ok (.iconst (-1), 1) := by decide +kernel
theorem dX8_cut_8 : decode cX8_cut 8 = .ok (.ixor, 1) := by decide +kernel
theorem dX8_cut_9 : decode cX8_cut 9 = .ok (.iand, 1) := by decide +kernel
theorem dX8_cut_10 : decode cX8_cut 10 = .ok (.iastore, 1) := by decide +kernel
theorem dX8_cut_11 : decode cX8_cut 11 = .ok (.aload_n 0, 1) := by decide +kernel
theorem dX8_cut_12 : decode cX8_cut 12 = .ok (.iload_n 2, 1) := by decide +kernel
theorem dX8_cut_13 : decode cX8_cut 13 = .ok (.dup2, 1) := by decide +kernel
theorem dX8_cut_14 : decode cX8_cut 14 = .ok (.iaload, 1) := by decide +kernel
theorem dX8_cut_15 : decode cX8_cut 15 = .ok (.iconst 1, 1) := by decide +kernel
theorem dX8_cut_16 : decode cX8_cut 16 = .ok (.iload_n 1, 1) := by decide +kernel
theorem dX8_cut_17 : decode cX8_cut 17 = .ok (.ishl, 1) := by decide +kernel
theorem dX8_cut_18 : decode cX8_cut 18 = .ok (.iconst (-1), 1) := by decide +kernel
theorem dX8_cut_19 : decode cX8_cut 19 = .ok (.ixor, 1) := by decide +kernel
theorem dX8_cut_20 : decode cX8_cut 20 = .ok (.iand, 1) := by decide +kernel
theorem dX8_cut_21 : decode cX8_cut 21 = .ok (.iastore, 1) := by decide +kernel
theorem dX8_cut_22 : decode cX8_cut 22 = .ok (.return_, 1) := by decide +kernel
theorem dX8_side_0 : decode cX8_side 0 = .ok (.iconst 0, 1) := by decide +kernel
theorem dX8_side_1 : decode cX8_side 1 = .ok (.istore_n 2, 1) := by decide +kernel
theorem dX8_side_2 : decode cX8_side 2 = .ok (.iconst 0, 1) := by decide +kernel
theorem dX8_side_3 : decode cX8_side 3 = .ok (.istore_n 3, 1) := by decide +kernel
theorem dX8_side_4 : decode cX8_side 4 = .ok (.iconst 0, 1) := by decide +kernel
theorem dX8_side_5 : decode cX8_side 5 = .ok (.istore 4, 2) := by decide +kernel
theorem dX8_side_7 : decode cX8_side 7 = .ok (.iload 4, 2) := by decide +kernel
theorem dX8_side_9 : decode cX8_side 9 = .ok (.aload_n 0, 1) := by decide +kernel
theorem dX8_side_10 : decode cX8_side 10 = .ok (.getfield 35, 3) := by decide +kernel
theorem dX8_side_13 : decode cX8_side 13 = .ok (.if_icmp .ge 102, 3) := by decide +kernel
theorem dX8_side_16 : decode cX8_side 16 = .ok (.iload_n 2, 1) := by decide +kernel
theorem dX8_side_17 : decode cX8_side 17 = .ok (.iload_n 3, 1) := by decide +kernel
theorem dX8_side_18 : decode cX8_side 18 = .ok (.ior, 1) := by decide +kernel
theorem dX8_side_19 : decode cX8_side 19 = .ok (.iload 4, 2) := by decide +kernel
theorem dX8_side_21 : decode cX8_side 21 = .ok (.ishr, 1) := by decide +kernel
theorem dX8_side_22 : decode cX8_side 22 = .ok (.iconst 1, 1) := by decide +kernel
theorem dX8_side_23 : decode cX8_side 23 = .ok (.iand, 1) := by decide +kernel
theorem dX8_side_24 : decode cX8_side 24 = .ok (.ifCond .ne 10, 3) := by decide +kernel
theorem dX8_side_27 : decode cX8_side 27 = .ok (.iconst 1, 1) := by decide +kernel
theorem dX8_side_28 : decode cX8_side 28 = .ok (.iload 4, 2) := by decide +kernel
theorem dX8_side_30 : decode cX8_side 30 = .ok (.ishl, 1) := by decide +kernel
theorem dX8_side_31 : decode cX8_side 31 = .ok (.goto 4, 3) := by decide +kernel
theorem dX8_side_34 : decode cX8_side 34 = .ok (.iconst 0, 1) := by decide +kernel
theorem dX8_side_35 : decode cX8_side 35 = .ok (.istore 5, 2) := by decide +kernel
theorem dX8_side_37 : decode cX8_side 37 = .ok (.iconst 0, 1) := by decide +kernel
theorem dX8_side_38 : decode cX8_side 38 = .ok (.istore 6, 2) := by decide +kernel
theorem dX8_side_40 : decode cX8_side 40 = .ok (.iload 6, 2) := by decide +kernel
theorem dX8_side_42 : decode cX8_side 42 = .ok (.bipush 16, 2) := by decide +kernel
theorem dX8_side_44 : decode cX8_side 44 = .ok (.if_icmp .ge 65, 3) := by decide +kernel
theorem dX8_side_47 : decode cX8_side 47 = .ok (.iload 5, 2) := by decide +kernel
theorem dX8_side_49 : decode cX8_side 49 = .ok (.ifCond .eq 60, 3) := by decide +kernel
theorem dX8_side_52 : decode cX8_side 52 = .ok (.iload_n 2, 1) := by decide +kernel
theorem dX8_side_53 : decode cX8_side 53 = .ok (.iload 6, 2) := by decide +kernel
theorem dX8_side_55 : decode cX8_side 55 = .ok (.iconst 2, 1) := by decide +kernel
theorem dX8_side_56 : decode cX8_side 56 = .ok (.irem, 1) := by decide +kernel
theorem dX8_side_57 : decode cX8_side 57 = .ok (.ifCond .ne 8, 3) := by decide +kernel
theorem dX8_side_60 : decode cX8_side 60 = .ok (.iload 5, 2) := by decide +kernel
theorem dX8_side_62 : decode cX8_side 62 = .ok (.goto 4, 3) := by decide +kernel
theorem dX8_side_65 : decode cX8_side 65 = .ok (.iconst 0, 1) := by decide +kernel
theorem dX8_side_66 : decode cX8_side 66 = .ok (.ior, 1) := by decide +kernel
theorem dX8_side_67 : decode cX8_side 67 = .ok (.istore_n 2, 1) := by decide +kernel
theorem dX8_side_68 : decode cX8_side 68 = .ok (.iload_n 3, 1) := by decide +kernel
theorem dX8_side_69 : decode cX8_side 69 = .ok (.iload 6, 2) := by decide +kernel
theorem dX8_side_71 : decode cX8_side 71 = .ok (.iconst 2, 1) := by decide +kernel
theorem dX8_side_72 : decode cX8_side 72 = .ok (.irem, 1) := by decide +kernel
theorem dX8_side_73 : decode cX8_side 73 = .ok (.ifCond .ne 7, 3) := by decide +kernel
theorem dX8_side_76 : decode cX8_side 76 = .ok (.iconst 0, 1) := by decide +kernel
theorem dX8_side_77 : decode cX8_side 77 = .ok (.goto 5, 3) := by decide +kernel
theorem dX8_side_80 : decode cX8_side 80 = .ok (.iload 5, 2) := by decide +kernel
theorem dX8_side_82 : decode cX8_side 82 = .ok (.ior, 1) := by decide +kernel
theorem dX8_side_83 : decode cX8_side 83 = .ok (.istore_n 3, 1) := by decide +kernel
theorem dX8_side_84 : decode cX8_side 84 = .ok (.aload_n 0, 1) := by decide +kernel
theorem dX8_side_85 : decode cX8_side 85 = .ok (.getfield 60, 3) := by decide +kernel
theorem dX8_side_88 : decode cX8_side 88 = .ok (.iload 5, 2) := by decide +kernel
theorem dX8_side_90 : decode cX8_side 90 = .ok (.invokestatic 21, 3) := by decide +kernel
theorem dX8_side_93 : decode cX8_side 93 = .ok (.iload_n 2, 1) := by decide +kernel
theorem dX8_side_94 : decode cX8_side 94 = .ok (.iconst (-1), 1) := by decide +kernel
theorem dX8_side_95 : decode cX8_side 95 = .ok (.ixor, 1) := by decide +kernel
theorem dX8_side_96 : decode cX8_side 96 = .ok (.iand, 1) := by decide +kernel
theorem dX8_side_97 : decode cX8_side 97 = .ok (.iload_n 3, 1) := by decide +kernel
theorem dX8_side_98 : decode cX8_side 98 = .ok (.iconst (-1), 1) := by decide +kernel
theorem dX8_side_99 : decode cX8_side 99 = .ok (.ixor, 1) := by decide +kernel
theorem dX8_side_100 : decode cX8_side 100 = .ok (.iand, 1) := by decide +kernel
theorem dX8_side_101 : decode cX8_side 101 = .ok (.istore 5, 2) := by decide +kernel
theorem dX8_side_103 : decode cX8_side 103 = .ok (.iinc 6 1, 3) := by decide +kernel
theorem dX8_side_106 : decode cX8_side 106 = .ok (.goto (-66), 3) := by decide +kernel
theorem dX8_side_109 : decode cX8_side 109 = .ok (.iinc 4 1, 3) := by decide +kernel
theorem dX8_side_112 : decode cX8_side 112 = .ok (.goto (-105), 3) := by decide +kernel
theorem dX8_side_115 : decode cX8_side 115 = .ok (.iconst 0, 1) := by decide +kernel
theorem dX8_side_116 : decode cX8_side 116 = .ok (.istore 4, 2) := by decide +kernel
theorem dX8_side_118 : decode cX8_side 118 = .ok (.iload 4, 2) := by decide +kernel
theorem dX8_side_120 : decode cX8_side 120 = .ok (.aload_n 0, 1) := by decide +kernel
theorem dX8_side_121 : decode cX8_side 121 = .ok (.getfield 31, 3) := by decide +kernel
theorem dX8_side_124 : decode cX8_side 124 = .ok (.if_icmp .ge 36, 3) := by decide +kernel
theorem dX8_side_127 : decode cX8_side 127 = .ok (.iload_n 2, 1) := by decide +kernel
theorem dX8_side_128 : decode cX8_side 128 = .ok (.aload_n 0, 1) := by decide +kernel
theorem dX8_side_129 : decode cX8_side 129 = .ok (.getfield 72, 3) := by decide +kernel
theorem dX8_side_132 : decode cX8_side 132 = .ok (.iload 4, 2) := by decide +kernel
theorem dX8_side_134 : decode cX8_side 134 = .ok (.iaload, 1) := by decide +kernel
theorem dX8_side_135 : decode cX8_side 135 = .ok (.ishr, 1) := by decide +kernel
theorem dX8_side_136 : decode cX8_side 136 = .ok (.iconst 1, 1) := by decide +kernel
theorem dX8_side_137 : decode cX8_side 137 = .ok (.iand, 1) := by decide +kernel
theorem dX8_side_138 : decode cX8_side 138 = .ok (.iload_n 2, 1) := by decide +kernel
theorem dX8_side_139 : decode cX8_side 139 = .ok (.aload_n 0, 1) := by decide +kernel
theorem dX8_side_140 : decode cX8_side 140 = .ok (.getfield 75, 3) := by decide +kernel
theorem dX8_side_143 : decode cX8_side 143 = .ok (.iload 4, 2) := by decide +kernel
theorem dX8_side_145 : decode cX8_side 145 = .ok (.iaload, 1) := by decide +kernel
theorem dX8_side_146 : decode cX8_side 146 = .ok (.ishr, 1) := by decide +kernel
theorem dX8_side_147 : decode cX8_side 147 = .ok (.iconst 1, 1) := by decide +kernel
theorem dX8_side_148 : decode cX8_side 148 = .ok (.iand, 1) := by decide +kernel
theorem dX8_side_149 : decode cX8_side 149 = .ok (.if_icmp .ne 5, 3) := by decide +kernel
theorem dX8_side_152 : decode cX8_side 152 = .ok (.iconst (-1), 1) := by decide +kernel
theorem dX8_side_153 : decode cX8_side 153 = .ok (.ireturn, 1) := by decide +kernel
theorem dX8_side_154 : decode cX8_side 154 = .ok (.iinc 4 1, 3) := by decide +kernel
theorem dX8_side_157 : decode cX8_side 157 = .ok (.goto (-39), 3) := by decide +kernel
theorem dX8_side_160 : decode cX8_side 160 = .ok (.iload_n 3, 1) := by decide +kernel
theorem dX8_side_161 : decode cX8_side 161 = .ok (.iload_n 1, 1) := by decide +kernel
theorem dX8_side_162 : decode cX8_side 162 = .ok (.ishr, 1) := by decide +kernel
theorem dX8_side_163 : decode cX8_side 163 = .ok (.iconst 1, 1) := by decide +kernel
theorem dX8_side_164 : decode cX8_side 164 = .ok (.iand, 1) := by decide +kernel
theorem dX8_side_165 : decode cX8_side 165 = .ok (.ireturn, 1) := by decide +kernel
theorem dX8_withoutBridges_0 : decode cX8_withoutBridges 0 = .ok (.aload_n 0, 1) := by decide +kernel
theorem dX8_withoutBridges_1 : decode cX8_withoutBridges 1 = .ok (.getfield 60, 3) := by decide +kernel
theorem dX8_withoutBridges_4 : decode cX8_withoutBridges 4 = .ok (.invokevirtual 63, 3) := by decide +kernel
theorem dX8_withoutBridges_7 : decode cX8_withoutBridges 7 = .ok (.checkcast 64, 3) := by decide +kernel
theorem dX8_withoutBridges_10 : decode cX8_withoutBridges 10 = .ok (.astore_n 1, 1) := by decide +kernel
theorem dX8_withoutBridges_11 : decode cX8_withoutBridges 11 = .ok (.iconst 0, 1) := by decide +kernel
theorem dX8_withoutBridges_12 : decode cX8_withoutBridges 12 = .ok (.istore_n 2, 1) := by decide +kernel
theorem dX8_withoutBridges_13 : decode cX8_withoutBridges 13 = .ok (.iload_n 2, 1) := by decide +kernel
theorem dX8_withoutBridges_14 : decode cX8_withoutBridges 14 = .ok (.aload_n 0, 1) := by decide +kernel
theorem dX8_withoutBridges_15 : decode cX8_withoutBridges 15 = .ok (.getfield 31, 3) := by decide +kernel
theorem dX8_withoutBridges_18 : decode cX8_withoutBridges 18 = .ok (.if_icmp .ge 77, 3) := by decide +kernel
theorem dX8_withoutBridges_21 : decode cX8_withoutBridges 21 = .ok (.aload_n 0, 1) := by decide +kernel
theorem dX8_withoutBridges_22 : decode cX8_withoutBridges 22 = .ok (.getfield 72, 3) := by decide +kernel
theorem dX8_withoutBridges_25 : decode cX8_withoutBridges 25 = .ok (.iload_n 2, 1) := by decide +kernel
theorem dX8_withoutBridges_26 : decode cX8_withoutBridges 26 = .ok (.iaload, 1) := by decide +kernel
theorem dX8_withoutBridges_27 : decode cX8_withoutBridges 27 = .ok (.istore_n 3, 1) := by decide +kernel
theorem dX8_withoutBridges_28 : decode cX8_withoutBridges 28 = .ok (.aload_n 0, 1) := by decide +kernel
theorem dX8_withoutBridges_29 : decode cX8_withoutBridges 29 = .ok (.getfield 75, 3) := by decide +kernel
theorem dX8_withoutBridges_32 : decode cX8_withoutBridges 32 = .ok (.iload_n 2, 1) := by decide +kernel
theorem dX8_withoutBridges_33 : decode cX8_withoutBridges 33 = .ok (.iaload, 1) := by decide +kernel
theorem dX8_withoutBridges_34 : decode cX8_withoutBridges 34 = .ok (.istore 4, 2) := by decide +kernel
theorem dX8_withoutBridges_36 : decode cX8_withoutBridges 36 = .ok (.iload_n 3, 1) := by decide +kernel
theorem dX8_withoutBridges_37 : decode cX8_withoutBridges 37 = .ok (.iload 4, 2) := by decide +kernel
theorem dX8_withoutBridges_39 : decode cX8_withoutBridges 39 = .ok (.if_icmp .eq 50, 3) := by decide +kernel
theorem dX8_withoutBridges_42 : decode cX8_withoutBridges 42 = .ok (.aload_n 0, 1) := by decide +kernel
theorem dX8_withoutBridges_43 : decode cX8_withoutBridges 43 = .ok (.iload_n 2, 1) := by decide +kernel
theorem dX8_withoutBridges_44 : decode cX8_withoutBridges 44 = .ok (.invokevirtual 78, 3) := by decide +kernel
theorem dX8_withoutBridges_47 : decode cX8_withoutBridges 47 = .ok (.ifCond .ne 42, 3) := by decide +kernel
theorem dX8_withoutBridges_50 : decode cX8_withoutBridges 50 = .ok (.aload_n 1, 1) := by decide +kernel
theorem dX8_withoutBridges_51 : decode cX8_withoutBridges 51 = .ok (.iload_n 3, 1) := by decide +kernel
theorem dX8_withoutBridges_52 : decode cX8_withoutBridges 52 = .ok (.iload 4, 2) := by decide +kernel
theorem dX8_withoutBridges_54 : decode cX8_withoutBridges 54 = .ok (.invokestatic 82, 3) := by decide +kernel
theorem dX8_withoutBridges_57 : decode cX8_withoutBridges 57 = .ok (.aload_n 1, 1) := by decide +kernel
theorem dX8_withoutBridges_58 : decode cX8_withoutBridges 58 = .ok (.iconst 1, 1) := by decide +kernel
theorem dX8_withoutBridges_59 : decode cX8_withoutBridges 59 = .ok (.iload_n 3, 1) := by decide +kernel
theorem dX8_withoutBridges_60 : decode cX8_withoutBridges 60 = .ok (.ishl, 1) := by decide +kernel
theorem dX8_withoutBridges_61 : decode cX8_withoutBridges 61 = .ok (.iload 4, 2) := by decide +kernel
theorem dX8_withoutBridges_63 : decode cX8_withoutBridges 63 = .ok (.invokestatic 56, 3) := by decide +kernel
theorem dX8_withoutBridges_66 : decode cX8_withoutBridges 66 = .ok (.ifCond .lt 23, 3) := by decide +kernel
theorem dX8_withoutBridges_69 : decode cX8_withoutBridges 69 = .ok (.aload_n 1, 1) := by decide +kernel
theorem dX8_withoutBridges_70 : decode cX8_withoutBridges 70 = .ok (.iload_n 3, 1) := by decide +kernel
theorem dX8_withoutBridges_71 : decode cX8_withoutBridges 71 = .ok (.dup2, 1) := by decide +kernel
theorem dX8_withoutBridges_72 : decode cX8_withoutBridges 72 = .ok (.iaload, 1) := by decide +kernel
theorem dX8_withoutBridges_73 : decode cX8_withoutBridges 73 = .ok (.iconst 1, 1) := by decide +kernel
theorem dX8_withoutBridges_74 : decode cX8_withoutBridges 74 = .ok (.iload 4, 2) := by decide +kernel
theorem dX8_withoutBridges_76 : decode cX8_withoutBridges 76 = .ok (.ishl, 1) := by decide +kernel
theorem dX8_withoutBridges_77 : decode cX8_withoutBridges 77 = .ok (.ior, 1) := by decide +kernel
theorem dX8_withoutBridges_78 : decode cX8_withoutBridges 78 = .ok (.iastore, 1) := by decide +kernel
theorem dX8_withoutBridges_79 : decode cX8_withoutBridges 79 = .ok (.aload_n 1, 1) := by decide +kernel
theorem dX8_withoutBridges_80 : decode cX8_withoutBridges 80 = .ok (.iload 4, 2) := by decide +kernel
theorem dX8_withoutBridges_82 : decode cX8_withoutBridges 82 = .ok (.dup2, 1) := by decide +kernel
theorem dX8_withoutBridges_83 : decode cX8_withoutBridges 83 = .ok (.iaload, 1) := by decide +kernel
theorem dX8_withoutBridges_84 : decode cX8_withoutBridges 84 = .ok (.iconst 1, 1) := by decide +kernel
theorem dX8_withoutBridges_85 : decode cX8_withoutBridges 85 = .ok (.iload_n 3, 1) := by decide +kernel
theorem dX8_withoutBridges_86 : decode cX8_withoutBridges 86 = .ok (.ishl, 1) := by decide +kernel
theorem dX8_withoutBridges_87 : decode cX8_withoutBridges 87 = .ok (.ior, 1) := by decide +kernel
theorem dX8_withoutBridges_88 : decode cX8_withoutBridges 88 = .ok (.iastore, 1) := by decide +kernel
theorem dX8_withoutBridges_89 : decode cX8_withoutBridges 89 = .ok (.iinc 2 1, 3) := by decide +kernel
theorem dX8_withoutBridges_92 : decode cX8_withoutBridges 92 = .ok (.goto (-79), 3) := by decide +kernel
theorem dX8_withoutBridges_95 : decode cX8_withoutBridges 95 = .ok (.aload_n 1, 1) := by decide +kernel
theorem dX8_withoutBridges_96 : decode cX8_withoutBridges 96 = .ok (.areturn, 1) := by decide +kernel
theorem dX8_blocks_0 : decode cX8_blocks 0 = .ok (.aload_n 0, 1) := by decide +kernel
theorem dX8_blocks_1 : decode cX8_blocks 1 = .ok (.getfield 60, 3) := by decide +kernel
theorem dX8_blocks_4 : decode cX8_blocks 4 = .ok (.iconst 1, 1) := by decide +kernel
theorem dX8_blocks_5 : decode cX8_blocks 5 = .ok (.iload_n 1, 1) := by decide +kernel
theorem dX8_blocks_6 : decode cX8_blocks 6 = .ok (.ishl, 1) := by decide +kernel
theorem dX8_blocks_7 : decode cX8_blocks 7 = .ok (.aload_n 0, 1) := by decide +kernel
theorem dX8_blocks_8 : decode cX8_blocks 8 = .ok (.invokevirtual 86, 3) := by decide +kernel
theorem dX8_blocks_11 : decode cX8_blocks 11 = .ok (.invokestatic 90, 3) := by decide +kernel
theorem dX8_blocks_14 : decode cX8_blocks 14 = .ok (.iconst 1, 1) := by decide +kernel
theorem dX8_blocks_15 : decode cX8_blocks 15 = .ok (.iload_n 1, 1) := by decide +kernel
theorem dX8_blocks_16 : decode cX8_blocks 16 = .ok (.ishl, 1) := by decide +kernel
theorem dX8_blocks_17 : decode cX8_blocks 17 = .ok (.iconst (-1), 1) := by decide +kernel
theorem dX8_blocks_18 : decode cX8_blocks 18 = .ok (.ixor, 1) := by decide +kernel
theorem dX8_blocks_19 : decode cX8_blocks 19 = .ok (.iand, 1) := by decide +kernel
theorem dX8_blocks_20 : decode cX8_blocks 20 = .ok (.istore_n 2, 1) := by decide +kernel
theorem dX8_blocks_21 : decode cX8_blocks 21 = .ok (.iconst 0, 1) := by decide +kernel
theorem dX8_blocks_22 : decode cX8_blocks 22 = .ok (.istore_n 3, 1) := by decide +kernel
theorem dX8_blocks_23 : decode cX8_blocks 23 = .ok (.iconst 0, 1) := by decide +kernel
theorem dX8_blocks_24 : decode cX8_blocks 24 = .ok (.istore 4, 2) := by decide +kernel
theorem dX8_blocks_26 : decode cX8_blocks 26 = .ok (.iload 4, 2) := by decide +kernel
theorem dX8_blocks_28 : decode cX8_blocks 28 = .ok (.bipush 16, 2) := by decide +kernel
theorem dX8_blocks_30 : decode cX8_blocks 30 = .ok (.if_icmp .ge 33, 3) := by decide +kernel
theorem dX8_blocks_33 : decode cX8_blocks 33 = .ok (.iload_n 2, 1) := by decide +kernel
theorem dX8_blocks_34 : decode cX8_blocks 34 = .ok (.ifCond .eq 29, 3) := by decide +kernel
theorem dX8_blocks_37 : decode cX8_blocks 37 = .ok (.iload_n 2, 1) := by decide +kernel
theorem dX8_blocks_38 : decode cX8_blocks 38 = .ok (.aload_n 0, 1) := by decide +kernel
theorem dX8_blocks_39 : decode cX8_blocks 39 = .ok (.getfield 60, 3) := by decide +kernel
theorem dX8_blocks_42 : decode cX8_blocks 42 = .ok (.iload_n 2, 1) := by decide +kernel
theorem dX8_blocks_43 : decode cX8_blocks 43 = .ok (.iload_n 2, 1) := by decide +kernel
theorem dX8_blocks_44 : decode cX8_blocks 44 = .ok (.ineg, 1) := by decide +kernel
theorem dX8_blocks_45 : decode cX8_blocks 45 = .ok (.iand, 1) := by decide +kernel
theorem dX8_blocks_46 : decode cX8_blocks 46 = .ok (.iload_n 2, 1) := by decide +kernel
theorem dX8_blocks_47 : decode cX8_blocks 47 = .ok (.invokestatic 90, 3) := by decide +kernel
theorem dX8_blocks_50 : decode cX8_blocks 50 = .ok (.iconst (-1), 1) := by decide +kernel
theorem dX8_blocks_51 : decode cX8_blocks 51 = .ok (.ixor, 1) := by decide +kernel
theorem dX8_blocks_52 : decode cX8_blocks 52 = .ok (.iand, 1) := by decide +kernel
theorem dX8_blocks_53 : decode cX8_blocks 53 = .ok (.istore_n 2, 1) := by decide +kernel
theorem dX8_blocks_54 : decode cX8_blocks 54 = .ok (.iinc 3 1, 3) := by decide +kernel
theorem dX8_blocks_57 : decode cX8_blocks 57 = .ok (.iinc 4 1, 3) := by decide +kernel
theorem dX8_blocks_60 : decode cX8_blocks 60 = .ok (.goto (-34), 3) := by decide +kernel
theorem dX8_blocks_63 : decode cX8_blocks 63 = .ok (.iload_n 3, 1) := by decide +kernel
theorem dX8_blocks_64 : decode cX8_blocks 64 = .ok (.ireturn, 1) := by decide +kernel
theorem kX8_86 : lkK (gS, X) RX8 86 mX3_allNodes 0 ∧ Cond.instanceMethod yX3_allNodes ∈ g_ws (gS, X) ∧ Cond.selects RX3 yX3_allNodes yX3_allNodes ∈ g_ws (gS, X) ∧ yX3_allNodes.cls = RX3 := ⟨⟨tb_good, (tb_t (k := 576) (w := Cond.methodLink RX8 86 yX3_allNodes) (by decide +kernel)), (tb_t (k := 10) (w := Cond.initialized RX3) (by decide +kernel)), (tb_t (k := 427) (w := Cond.code yX3_allNodes cX3_allNodes 1 (some .int)) (by decide +kernel)), by decide +kernel, by decide⟩, (tb_t (k := 425) (w := Cond.instanceMethod yX3_allNodes) (by decide +kernel)), (tb_t (k := 426) (w := Cond.selects RX3 yX3_allNodes yX3_allNodes) (by decide +kernel)), rfl⟩
theorem kX8_90 : lkK (gS, X) RX8 90 mX8_reach 3 ∧ Cond.static yX8_reach ∈ g_ws (gS, X) := ⟨⟨tb_good, (tb_t (k := 577) (w := Cond.methodLink RX8 90 yX8_reach) (by decide +kernel)), (tb_t (k := 3) (w := Cond.initialized RX8) (by decide +kernel)), (tb_t (k := 579) (w := Cond.code yX8_reach cX8_reach 6 (some .int)) (by decide +kernel)), by decide +kernel, by decide⟩, (tb_t (k := 578) (w := Cond.static yX8_reach) (by decide +kernel))⟩
theorem dX8_lightWeight_0 : decode cX8_lightWeight 0 = .ok (.aload_n 0, 1) := by decide +kernel
theorem dX8_lightWeight_1 : decode cX8_lightWeight 1 = .ok (.invokestatic 93, 3) := by decide +kernel
theorem dX8_lightWeight_4 : decode cX8_lightWeight 4 = .ok (.lstore_n 1, 1) := by decide +kernel
theorem dX8_lightWeight_5 : decode cX8_lightWeight 5 = .ok (.lconst 0, 1) := by decide +kernel
theorem dX8_lightWeight_6 : decode cX8_lightWeight 6 = .ok (.lstore_n 3, 1) := by decide +kernel
theorem dX8_lightWeight_7 : decode cX8_lightWeight 7 = .ok (.iconst 0, 1) := by decide +kernel
theorem dX8_lightWeight_8 : decode cX8_lightWeight 8 = .ok (.istore 5, 2) := by decide +kernel
theorem dX8_lightWeight_10 : decode cX8_lightWeight 10 = .ok (.iload 5, 2) := by decide +kernel
theorem dX8_lightWeight_12 : decode cX8_lightWeight 12 = .ok (.aload_n 0, 1) := by decide +kernel
theorem dX8_lightWeight_13 : decode cX8_lightWeight 13 = .ok (.getfield 31, 3) := by decide +kernel
theorem dX8_lightWeight_16 : decode cX8_lightWeight 16 = .ok (.if_icmp .ge 35, 3) := by decide +kernel
theorem dX8_lightWeight_19 : decode cX8_lightWeight 19 = .ok (.lload_n 3, 1) := by decide +kernel
theorem dX8_lightWeight_20 : decode cX8_lightWeight 20 = .ok (.lload_n 1, 1) := by decide +kernel
theorem dX8_lightWeight_21 : decode cX8_lightWeight 21 = .ok (.iload 5, 2) := by decide +kernel
theorem dX8_lightWeight_23 : decode cX8_lightWeight 23 = .ok (.lshr, 1) := by decide +kernel
theorem dX8_lightWeight_24 : decode cX8_lightWeight 24 = .ok (.lconst 1, 1) := by decide +kernel
theorem dX8_lightWeight_25 : decode cX8_lightWeight 25 = .ok (.land, 1) := by decide +kernel
theorem dX8_lightWeight_26 : decode cX8_lightWeight 26 = .ok (.lconst 0, 1) := by decide +kernel
theorem dX8_lightWeight_27 : decode cX8_lightWeight 27 = .ok (.lcmp, 1) := by decide +kernel
theorem dX8_lightWeight_28 : decode cX8_lightWeight 28 = .ok (.ifCond .ne 7, 3) := by decide +kernel
theorem dX8_lightWeight_31 : decode cX8_lightWeight 31 = .ok (.lconst 0, 1) := by decide +kernel
theorem dX8_lightWeight_32 : decode cX8_lightWeight 32 = .ok (.goto 11, 3) := by decide +kernel
theorem dX8_lightWeight_35 : decode cX8_lightWeight 35 = .ok (.aload_n 0, 1) := by decide +kernel
theorem dX8_lightWeight_36 : decode cX8_lightWeight 36 = .ok (.getfield 97, 3) := by decide +kernel
theorem dX8_lightWeight_39 : decode cX8_lightWeight 39 = .ok (.iload 5, 2) := by decide +kernel
theorem dX8_lightWeight_41 : decode cX8_lightWeight 41 = .ok (.iaload, 1) := by decide +kernel
theorem dX8_lightWeight_42 : decode cX8_lightWeight 42 = .ok (.i2l, 1) := by decide +kernel
theorem dX8_lightWeight_43 : decode cX8_lightWeight 43 = .ok (.ladd, 1) := by decide +kernel
theorem dX8_lightWeight_44 : decode cX8_lightWeight 44 = .ok (.lstore_n 3, 1) := by decide +kernel
theorem dX8_lightWeight_45 : decode cX8_lightWeight 45 = .ok (.iinc 5 1, 3) := by decide +kernel
theorem dX8_lightWeight_48 : decode cX8_lightWeight 48 = .ok (.goto (-38), 3) := by decide +kernel
theorem dX8_lightWeight_51 : decode cX8_lightWeight 51 = .ok (.lload_n 3, 1) := by decide +kernel
theorem dX8_lightWeight_52 : decode cX8_lightWeight 52 = .ok (.lreturn, 1) := by decide +kernel
theorem kX8_93 : lkK (gS, X) RX8 93 mX8_lightArcs 1 ∧ Cond.static yX8_lightArcs ∈ g_ws (gS, X) := ⟨⟨tb_good, (tb_t (k := 1078) (w := Cond.methodLink RX8 93 yX8_lightArcs) (by decide +kernel)), (tb_t (k := 3) (w := Cond.initialized RX8) (by decide +kernel)), (tb_t (k := 1080) (w := Cond.code yX8_lightArcs cX8_lightArcs 8 (some .long)) (by decide +kernel)), by decide +kernel, by decide⟩, (tb_t (k := 1079) (w := Cond.static yX8_lightArcs) (by decide +kernel))⟩
theorem fX8_97 : lkF (gS, X) RX8 97 3 5 "GraphEngine$Graph" RX3 TX3 14 := ⟨rfl, inX3, by decide, (tb_t (k := 312) (w := Cond.fieldLink RX8 97 "GraphEngine$Graph" "weight" "[I") (by decide +kernel)), Or.inl rfl⟩
theorem dX8_lightArcs_0 : decode cX8_lightArcs 0 = .ok (.aload_n 0, 1) := by decide +kernel
theorem dX8_lightArcs_1 : decode cX8_lightArcs 1 = .ok (.getfield 35, 3) := by decide +kernel
theorem dX8_lightArcs_4 : decode cX8_lightArcs 4 = .ok (.newarray .int, 2) := by decide +kernel
theorem dX8_lightArcs_6 : decode cX8_lightArcs 6 = .ok (.astore_n 1, 1) := by decide +kernel
theorem dX8_lightArcs_7 : decode cX8_lightArcs 7 = .ok (.iconst 0, 1) := by decide +kernel
theorem dX8_lightArcs_8 : decode cX8_lightArcs 8 = .ok (.istore_n 2, 1) := by decide +kernel
theorem dX8_lightArcs_9 : decode cX8_lightArcs 9 = .ok (.iload_n 2, 1) := by decide +kernel
theorem dX8_lightArcs_10 : decode cX8_lightArcs 10 = .ok (.aload_n 0, 1) := by decide +kernel
theorem dX8_lightArcs_11 : decode cX8_lightArcs 11 = .ok (.getfield 35, 3) := by decide +kernel
theorem dX8_lightArcs_14 : decode cX8_lightArcs 14 = .ok (.if_icmp .ge 13, 3) := by decide +kernel
theorem dX8_lightArcs_17 : decode cX8_lightArcs 17 = .ok (.aload_n 1, 1) := by decide +kernel
theorem dX8_lightArcs_18 : decode cX8_lightArcs 18 = .ok (.iload_n 2, 1) := by decide +kernel
theorem dX8_lightArcs_19 : decode cX8_lightArcs 19 = .ok (.iload_n 2, 1) := by decide +kernel
theorem dX8_lightArcs_20 : decode cX8_lightArcs 20 = .ok (.iastore, 1) := by decide +kernel
theorem dX8_lightArcs_21 : decode cX8_lightArcs 21 = .ok (.iinc 2 1, 3) := by decide +kernel
theorem dX8_lightArcs_24 : decode cX8_lightArcs 24 = .ok (.goto (-15), 3) := by decide +kernel
theorem dX8_lightArcs_27 : decode cX8_lightArcs 27 = .ok (.lconst 0, 1) := by decide +kernel
theorem dX8_lightArcs_28 : decode cX8_lightArcs 28 = .ok (.lstore_n 2, 1) := by decide +kernel
theorem dX8_lightArcs_29 : decode cX8_lightArcs 29 = .ok (.lconst 0, 1) := by decide +kernel
theorem dX8_lightArcs_30 : decode cX8_lightArcs 30 = .ok (.lstore 4, 2) := by decide +kernel
theorem dX8_lightArcs_32 : decode cX8_lightArcs 32 = .ok (.iconst 0, 1) := by decide +kernel
theorem dX8_lightArcs_33 : decode cX8_lightArcs 33 = .ok (.istore 6, 2) := by decide +kernel
theorem dX8_lightArcs_35 : decode cX8_lightArcs 35 = .ok (.iload 6, 2) := by decide +kernel
theorem dX8_lightArcs_37 : decode cX8_lightArcs 37 = .ok (.aload_n 0, 1) := by decide +kernel
theorem dX8_lightArcs_38 : decode cX8_lightArcs 38 = .ok (.getfield 31, 3) := by decide +kernel
theorem dX8_lightArcs_41 : decode cX8_lightArcs 41 = .ok (.if_icmp .ge 66, 3) := by decide +kernel
theorem dX8_lightArcs_44 : decode cX8_lightArcs 44 = .ok (.aload_n 0, 1) := by decide +kernel
theorem dX8_lightArcs_45 : decode cX8_lightArcs 45 = .ok (.lload_n 2, 1) := by decide +kernel
theorem dX8_lightArcs_46 : decode cX8_lightArcs 46 = .ok (.invokestatic 100, 3) := by decide +kernel
theorem dX8_lightArcs_49 : decode cX8_lightArcs 49 = .ok (.istore 7, 2) := by decide +kernel
theorem dX8_lightArcs_51 : decode cX8_lightArcs 51 = .ok (.iload 7, 2) := by decide +kernel
theorem dX8_lightArcs_53 : decode cX8_lightArcs 53 = .ok (.ifCond .lt 48, 3) := by decide +kernel
theorem dX8_lightArcs_56 : decode cX8_lightArcs 56 = .ok (.lload_n 2, 1) := by decide +kernel
theorem dX8_lightArcs_57 : decode cX8_lightArcs 57 = .ok (.lconst 1, 1) := by decide +kernel
theorem dX8_lightArcs_58 : decode cX8_lightArcs 58 = .ok (.iload 7, 2) := by decide +kernel
theorem dX8_lightArcs_60 : decode cX8_lightArcs 60 = .ok (.lshl, 1) := by decide +kernel
theorem dX8_lightArcs_61 : decode cX8_lightArcs 61 = .ok (.lor, 1) := by decide +kernel
theorem dX8_lightArcs_62 : decode cX8_lightArcs 62 = .ok (.lstore_n 2, 1) := by decide +kernel
theorem dX8_lightArcs_63 : decode cX8_lightArcs 63 = .ok (.lload 4, 2) := by decide +kernel
theorem dX8_lightArcs_65 : decode cX8_lightArcs 65 = .ok (.aload_n 1, 1) := by decide +kernel
theorem dX8_lightArcs_66 : decode cX8_lightArcs 66 = .ok (.aload_n 1, 1) := by decide +kernel
theorem dX8_lightArcs_67 : decode cX8_lightArcs 67 = .ok (.aload_n 0, 1) := by decide +kernel
theorem dX8_lightArcs_68 : decode cX8_lightArcs 68 = .ok (.getfield 72, 3) := by decide +kernel
theorem dX8_lightArcs_71 : decode cX8_lightArcs 71 = .ok (.iload 7, 2) := by decide +kernel
theorem dX8_lightArcs_73 : decode cX8_lightArcs 73 = .ok (.iaload, 1) := by decide +kernel
theorem dX8_lightArcs_74 : decode cX8_lightArcs 74 = .ok (.iaload, 1) := by decide +kernel
theorem dX8_lightArcs_75 : decode cX8_lightArcs 75 = .ok (.aload_n 1, 1) := by decide +kernel
theorem dX8_lightArcs_76 : decode cX8_lightArcs 76 = .ok (.aload_n 0, 1) := by decide +kernel
theorem dX8_lightArcs_77 : decode cX8_lightArcs 77 = .ok (.getfield 75, 3) := by decide +kernel
theorem dX8_lightArcs_80 : decode cX8_lightArcs 80 = .ok (.iload 7, 2) := by decide +kernel
theorem dX8_lightArcs_82 : decode cX8_lightArcs 82 = .ok (.iaload, 1) := by decide +kernel
theorem dX8_lightArcs_83 : decode cX8_lightArcs 83 = .ok (.iaload, 1) := by decide +kernel
theorem dX8_lightArcs_84 : decode cX8_lightArcs 84 = .ok (.invokestatic 104, 3) := by decide +kernel
theorem dX8_lightArcs_87 : decode cX8_lightArcs 87 = .ok (.ifCond .eq 10, 3) := by decide +kernel
theorem dX8_lightArcs_90 : decode cX8_lightArcs 90 = .ok (.lconst 1, 1) := by decide +kernel
theorem dX8_lightArcs_91 : decode cX8_lightArcs 91 = .ok (.iload 7, 2) := by decide +kernel
theorem dX8_lightArcs_93 : decode cX8_lightArcs 93 = .ok (.lshl, 1) := by decide +kernel
theorem dX8_lightArcs_94 : decode cX8_lightArcs 94 = .ok (.goto 4, 3) := by decide +kernel
theorem dX8_lightArcs_97 : decode cX8_lightArcs 97 = .ok (.lconst 0, 1) := by decide +kernel
theorem dX8_lightArcs_98 : decode cX8_lightArcs 98 = .ok (.lor, 1) := by decide +kernel
theorem dX8_lightArcs_99 : decode cX8_lightArcs 99 = .ok (.lstore 4, 2) := by decide +kernel
theorem dX8_lightArcs_101 : decode cX8_lightArcs 101 = .ok (.iinc 6 1, 3) := by decide +kernel
theorem dX8_lightArcs_104 : decode cX8_lightArcs 104 = .ok (.goto (-69), 3) := by decide +kernel
theorem dX8_lightArcs_107 : decode cX8_lightArcs 107 = .ok (.lload 4, 2) := by decide +kernel
theorem dX8_lightArcs_109 : decode cX8_lightArcs 109 = .ok (.lreturn, 1) := by decide +kernel
theorem kX8_100 : lkK (gS, X) RX8 100 mX8_lightestArc 2 ∧ Cond.static yX8_lightestArc ∈ g_ws (gS, X) := ⟨⟨tb_good, (tb_t (k := 1081) (w := Cond.methodLink RX8 100 yX8_lightestArc) (by decide +kernel)), (tb_t (k := 3) (w := Cond.initialized RX8) (by decide +kernel)), (tb_t (k := 1083) (w := Cond.code yX8_lightestArc cX8_lightestArc 5 (some .int)) (by decide +kernel)), by decide +kernel, by decide⟩, (tb_t (k := 1082) (w := Cond.static yX8_lightestArc) (by decide +kernel))⟩
theorem kX8_104 : lkK (gS, X) RX8 104 mX8_unite 3 ∧ Cond.static yX8_unite ∈ g_ws (gS, X) := ⟨⟨tb_good, (tb_t (k := 1084) (w := Cond.methodLink RX8 104 yX8_unite) (by decide +kernel)), (tb_t (k := 3) (w := Cond.initialized RX8) (by decide +kernel)), (tb_t (k := 1086) (w := Cond.code yX8_unite cX8_unite 4 (some .boolean)) (by decide +kernel)), by decide +kernel, by decide⟩, (tb_t (k := 1085) (w := Cond.static yX8_unite) (by decide +kernel))⟩
theorem dX8_lightestArc_0 : decode cX8_lightestArc 0 = .ok (.iconst (-1), 1) := by decide +kernel
theorem dX8_lightestArc_1 : decode cX8_lightestArc 1 = .ok (.istore_n 3, 1) := by decide +kernel
theorem dX8_lightestArc_2 : decode cX8_lightestArc 2 = .ok (.iconst 0, 1) := by decide +kernel
theorem dX8_lightestArc_3 : decode cX8_lightestArc 3 = .ok (.istore 4, 2) := by decide +kernel
theorem dX8_lightestArc_5 : decode cX8_lightestArc 5 = .ok (.iload 4, 2) := by decide +kernel
theorem dX8_lightestArc_7 : decode cX8_lightestArc 7 = .ok (.aload_n 0, 1) := by decide +kernel
theorem dX8_lightestArc_8 : decode cX8_lightestArc 8 = .ok (.getfield 31, 3) := by decide +kernel
theorem dX8_lightestArc_11 : decode cX8_lightestArc 11 = .ok (.if_icmp .ge 43, 3) := by decide +kernel
theorem dX8_lightestArc_14 : decode cX8_lightestArc 14 = .ok (.lload_n 1, 1) := by decide +kernel
theorem dX8_lightestArc_15 : decode cX8_lightestArc 15 = .ok (.iload 4, 2) := by decide +kernel
theorem dX8_lightestArc_17 : decode cX8_lightestArc 17 = .ok (.lshr, 1) := by decide +kernel
theorem dX8_lightestArc_18 : decode cX8_lightestArc 18 = .ok (.lconst 1, 1) := by decide +kernel
theorem dX8_lightestArc_19 : decode cX8_lightestArc 19 = .ok (.land, 1) := by decide +kernel
theorem dX8_lightestArc_20 : decode cX8_lightestArc 20 = .ok (.lconst 0, 1) := by decide +kernel
theorem dX8_lightestArc_21 : decode cX8_lightestArc 21 = .ok (.lcmp, 1) := by decide +kernel
theorem dX8_lightestArc_22 : decode cX8_lightestArc 22 = .ok (.ifCond .ne 26, 3) := by decide +kernel
theorem dX8_lightestArc_25 : decode cX8_lightestArc 25 = .ok (.iload_n 3, 1) := by decide +kernel
theorem dX8_lightestArc_26 : decode cX8_lightestArc 26 = .ok (.ifCond .lt 19, 3) := by decide +kernel
theorem dX8_lightestArc_29 : decode cX8_lightestArc 29 = .ok (.aload_n 0, 1) := by decide +kernel
theorem dX8_lightestArc_30 : decode cX8_lightestArc 30 = .ok (.getfield 97, 3) := by decide +kernel
theorem dX8_lightestArc_33 : decode cX8_lightestArc 33 = .ok (.iload 4, 2) := by decide +kernel
theorem dX8_lightestArc_35 : decode cX8_lightestArc 35 = .ok (.iaload, 1) := by decide +kernel
theorem dX8_lightestArc_36 : decode cX8_lightestArc 36 = .ok (.aload_n 0, 1) := by decide +kernel
theorem dX8_lightestArc_37 : decode cX8_lightestArc 37 = .ok (.getfield 97, 3) := by decide +kernel
theorem dX8_lightestArc_40 : decode cX8_lightestArc 40 = .ok (.iload_n 3, 1) := by decide +kernel
theorem dX8_lightestArc_41 : decode cX8_lightestArc 41 = .ok (.iaload, 1) := by decide +kernel
theorem dX8_lightestArc_42 : decode cX8_lightestArc 42 = .ok (.if_icmp .ge 6, 3) := by decide +kernel
theorem dX8_lightestArc_45 : decode cX8_lightestArc 45 = .ok (.iload 4, 2) := by decide +kernel
theorem dX8_lightestArc_47 : decode cX8_lightestArc 47 = .ok (.istore_n 3, 1) := by decide +kernel
theorem dX8_lightestArc_48 : decode cX8_lightestArc 48 = .ok (.iinc 4 1, 3) := by decide +kernel
theorem dX8_lightestArc_51 : decode cX8_lightestArc 51 = .ok (.goto (-46), 3) := by decide +kernel
theorem dX8_lightestArc_54 : decode cX8_lightestArc 54 = .ok (.iload_n 3, 1) := by decide +kernel
theorem dX8_lightestArc_55 : decode cX8_lightestArc 55 = .ok (.ireturn, 1) := by decide +kernel
theorem dX8_unite_0 : decode cX8_unite 0 = .ok (.iload_n 1, 1) := by decide +kernel
theorem dX8_unite_1 : decode cX8_unite 1 = .ok (.iload_n 2, 1) := by decide +kernel
theorem dX8_unite_2 : decode cX8_unite 2 = .ok (.if_icmp .ne 5, 3) := by decide +kernel
theorem dX8_unite_5 : decode cX8_unite 5 = .ok (.iconst 0, 1) := by decide +kernel
theorem dX8_unite_6 : decode cX8_unite 6 = .ok (.ireturn, 1) := by decide +kernel
theorem dX8_unite_7 : decode cX8_unite 7 = .ok (.iconst 0, 1) := by decide +kernel
theorem dX8_unite_8 : decode cX8_unite 8 = .ok (.istore_n 3, 1) := by decide +kernel
theorem dX8_unite_9 : decode cX8_unite 9 = .ok (.iload_n 3, 1) := by decide +kernel
theorem dX8_unite_10 : decode cX8_unite 10 = .ok (.aload_n 0, 1) := by decide +kernel
theorem dX8_unite_11 : decode cX8_unite 11 = .ok (.arraylength, 1) := by decide +kernel
theorem dX8_unite_12 : decode cX8_unite 12 = .ok (.if_icmp .ge 26, 3) := by decide +kernel
theorem dX8_unite_15 : decode cX8_unite 15 = .ok (.aload_n 0, 1) := by decide +kernel
theorem dX8_unite_16 : decode cX8_unite 16 = .ok (.iload_n 3, 1) := by decide +kernel
theorem dX8_unite_17 : decode cX8_unite 17 = .ok (.aload_n 0, 1) := by decide +kernel
theorem dX8_unite_18 : decode cX8_unite 18 = .ok (.iload_n 3, 1) := by decide +kernel
theorem dX8_unite_19 : decode cX8_unite 19 = .ok (.iaload, 1) := by decide +kernel
theorem dX8_unite_20 : decode cX8_unite 20 = .ok (.iload_n 2, 1) := by decide +kernel
theorem dX8_unite_21 : decode cX8_unite 21 = .ok (.if_icmp .ne 7, 3) := by decide +kernel
theorem dX8_unite_24 : decode cX8_unite 24 = .ok (.iload_n 1, 1) := by decide +kernel
theorem dX8_unite_25 : decode cX8_unite 25 = .ok (.goto 6, 3) := by decide +kernel
theorem dX8_unite_28 : decode cX8_unite 28 = .ok (.aload_n 0, 1) := by decide +kernel
theorem dX8_unite_29 : decode cX8_unite 29 = .ok (.iload_n 3, 1) := by decide +kernel
theorem dX8_unite_30 : decode cX8_unite 30 = .ok (.iaload, 1) := by decide +kernel
theorem dX8_unite_31 : decode cX8_unite 31 = .ok (.iastore, 1) := by decide +kernel
theorem dX8_unite_32 : decode cX8_unite 32 = .ok (.iinc 3 1, 3) := by decide +kernel
theorem dX8_unite_35 : decode cX8_unite 35 = .ok (.goto (-26), 3) := by decide +kernel
theorem dX8_unite_38 : decode cX8_unite 38 = .ok (.iconst 1, 1) := by decide +kernel
theorem dX8_unite_39 : decode cX8_unite 39 = .ok (.ireturn, 1) := by decide +kernel
theorem dX8_trees_0 : decode cX8_trees 0 = .ok (.aload_n 1, 1) := by decide +kernel
theorem dX8_trees_1 : decode cX8_trees 1 = .ok (.getfield 35, 3) := by decide +kernel
theorem dX8_trees_4 : decode cX8_trees 4 = .ok (.iconst 1, 1) := by decide +kernel
theorem dX8_trees_5 : decode cX8_trees 5 = .ok (.isub, 1) := by decide +kernel
theorem dX8_trees_6 : decode cX8_trees 6 = .ok (.istore_n 2, 1) := by decide +kernel
theorem dX8_trees_7 : decode cX8_trees 7 = .ok (.aload_n 0, 1) := by decide +kernel
theorem dX8_trees_8 : decode cX8_trees 8 = .ok (.aload_n 1, 1) := by decide +kernel
theorem dX8_trees_9 : decode cX8_trees 9 = .ok (.iload_n 2, 1) := by decide +kernel
theorem dX8_trees_10 : decode cX8_trees 10 = .ok (.invokevirtual 108, 3) := by decide +kernel
theorem dX8_trees_13 : decode cX8_trees 13 = .ok (.lconst 1, 1) := by decide +kernel
theorem dX8_trees_14 : decode cX8_trees 14 = .ok (.lstore_n 3, 1) := by decide +kernel
theorem dX8_trees_15 : decode cX8_trees 15 = .ok (.iconst 0, 1) := by decide +kernel
theorem dX8_trees_16 : decode cX8_trees 16 = .ok (.istore 5, 2) := by decide +kernel
theorem dX8_trees_18 : decode cX8_trees 18 = .ok (.iload 5, 2) := by decide +kernel
theorem dX8_trees_20 : decode cX8_trees 20 = .ok (.iload_n 2, 1) := by decide +kernel
theorem dX8_trees_21 : decode cX8_trees 21 = .ok (.if_icmp .ge 29, 3) := by decide +kernel
theorem dX8_trees_24 : decode cX8_trees 24 = .ok (.lload_n 3, 1) := by decide +kernel
theorem dX8_trees_25 : decode cX8_trees 25 = .ok (.lconst 0, 1) := by decide +kernel
theorem dX8_trees_26 : decode cX8_trees 26 = .ok (.lcmp, 1) := by decide +kernel
theorem dX8_trees_27 : decode cX8_trees 27 = .ok (.ifCond .eq 23, 3) := by decide +kernel
theorem dX8_trees_30 : decode cX8_trees 30 = .ok (.lload_n 3, 1) := by decide +kernel
theorem dX8_trees_31 : decode cX8_trees 31 = .ok (.aload_n 0, 1) := by decide +kernel
theorem dX8_trees_32 : decode cX8_trees 32 = .ok (.iload_n 2, 1) := by decide +kernel
theorem dX8_trees_33 : decode cX8_trees 33 = .ok (.iload 5, 2) := by decide +kernel
theorem dX8_trees_35 : decode cX8_trees 35 = .ok (.invokevirtual 112, 3) := by decide +kernel
theorem dX8_trees_38 : decode cX8_trees 38 = .ok (.lmul, 1) := by decide +kernel
theorem dX8_trees_39 : decode cX8_trees 39 = .ok (.ldc2_w 116, 3) := by decide +kernel
theorem dX8_trees_42 : decode cX8_trees 42 = .ok (.lrem, 1) := by decide +kernel
theorem dX8_trees_43 : decode cX8_trees 43 = .ok (.lstore_n 3, 1) := by decide +kernel
theorem dX8_trees_44 : decode cX8_trees 44 = .ok (.iinc 5 1, 3) := by decide +kernel
theorem dX8_trees_47 : decode cX8_trees 47 = .ok (.goto (-29), 3) := by decide +kernel
theorem dX8_trees_50 : decode cX8_trees 50 = .ok (.lload_n 3, 1) := by decide +kernel
theorem dX8_trees_51 : decode cX8_trees 51 = .ok (.lreturn, 1) := by decide +kernel
theorem kX8_108 : lkK (gS, X) RX8 108 mX8_fillTable 2 ∧ Cond.instanceMethod yX8_fillTable ∈ g_ws (gS, X) ∧ Cond.selects RX8 yX8_fillTable yX8_fillTable ∈ g_ws (gS, X) ∧ yX8_fillTable.cls = RX8 := ⟨⟨tb_good, (tb_t (k := 1052) (w := Cond.methodLink RX8 108 yX8_fillTable) (by decide +kernel)), (tb_t (k := 3) (w := Cond.initialized RX8) (by decide +kernel)), (tb_t (k := 1055) (w := Cond.code yX8_fillTable cX8_fillTable 6 none) (by decide +kernel)), by decide +kernel, by decide⟩, (tb_t (k := 1054) (w := Cond.instanceMethod yX8_fillTable) (by decide +kernel)), (tb_p (k := 67) (q := (yX8_fillTable, 1)) (by decide +kernel)), rfl⟩
theorem kX8_112 : lkK (gS, X) RX8 112 mX8_pivot 2 ∧ Cond.instanceMethod yX8_pivot ∈ g_ws (gS, X) ∧ Cond.selects RX8 yX8_pivot yX8_pivot ∈ g_ws (gS, X) ∧ yX8_pivot.cls = RX8 := ⟨⟨tb_good, (tb_t (k := 1063) (w := Cond.methodLink RX8 112 yX8_pivot) (by decide +kernel)), (tb_t (k := 3) (w := Cond.initialized RX8) (by decide +kernel)), (tb_t (k := 1066) (w := Cond.code yX8_pivot cX8_pivot 14 (some .long)) (by decide +kernel)), by decide +kernel, by decide⟩, (tb_t (k := 1065) (w := Cond.instanceMethod yX8_pivot) (by decide +kernel)), (tb_p (k := 69) (q := (yX8_pivot, 1)) (by decide +kernel)), rfl⟩
theorem kX8_116 : Cond.constantLong RX8 116 1000000007 ∈ g_ws (gS, X) := (tb_t (k := 1061) (w := Cond.constantLong RX8 116 1000000007) (by decide +kernel))
theorem dX8_fillTable_0 : decode cX8_fillTable 0 = .ok (.aload_n 0, 1) := by decide +kernel
theorem dX8_fillTable_1 : decode cX8_fillTable 1 = .ok (.getfield 9, 3) := by decide +kernel
theorem dX8_fillTable_4 : decode cX8_fillTable 4 = .ok (.lconst 0, 1) := by decide +kernel
theorem dX8_fillTable_5 : decode cX8_fillTable 5 = .ok (.invokestatic 118, 3) := by decide +kernel
theorem dX8_fillTable_8 : decode cX8_fillTable 8 = .ok (.iconst 0, 1) := by decide +kernel
theorem dX8_fillTable_9 : decode cX8_fillTable 9 = .ok (.istore_n 3, 1) := by decide +kernel
theorem dX8_fillTable_10 : decode cX8_fillTable 10 = .ok (.iload_n 3, 1) := by decide +kernel
theorem dX8_fillTable_11 : decode cX8_fillTable 11 = .ok (.aload_n 1, 1) := by decide +kernel
theorem dX8_fillTable_12 : decode cX8_fillTable 12 = .ok (.getfield 31, 3) := by decide +kernel
theorem dX8_fillTable_15 : decode cX8_fillTable 15 = .ok (.if_icmp .ge 76, 3) := by decide +kernel
theorem dX8_fillTable_18 : decode cX8_fillTable 18 = .ok (.aload_n 1, 1) := by decide +kernel
theorem dX8_fillTable_19 : decode cX8_fillTable 19 = .ok (.getfield 72, 3) := by decide +kernel
theorem dX8_fillTable_22 : decode cX8_fillTable 22 = .ok (.iload_n 3, 1) := by decide +kernel
theorem dX8_fillTable_23 : decode cX8_fillTable 23 = .ok (.iaload, 1) := by decide +kernel
theorem dX8_fillTable_24 : decode cX8_fillTable 24 = .ok (.istore 4, 2) := by decide +kernel
theorem dX8_fillTable_26 : decode cX8_fillTable 26 = .ok (.aload_n 1, 1) := by decide +kernel
theorem dX8_fillTable_27 : decode cX8_fillTable 27 = .ok (.getfield 75, 3) := by decide +kernel
theorem dX8_fillTable_30 : decode cX8_fillTable 30 = .ok (.iload_n 3, 1) := by decide +kernel
theorem dX8_fillTable_31 : decode cX8_fillTable 31 = .ok (.iaload, 1) := by decide +kernel
theorem dX8_fillTable_32 : decode cX8_fillTable 32 = .ok (.istore 5, 2) := by decide +kernel
theorem dX8_fillTable_34 : decode cX8_fillTable 34 = .ok (.iload 4, 2) := by decide +kernel
theorem dX8_fillTable_36 : decode cX8_fillTable 36 = .ok (.iload 5, 2) := by decide +kernel
theorem dX8_fillTable_38 : decode cX8_fillTable 38 = .ok (.if_icmp .eq 47, 3) := by decide +kernel
theorem dX8_fillTable_41 : decode cX8_fillTable 41 = .ok (.aload_n 0, 1) := by decide +kernel
theorem dX8_fillTable_42 : decode cX8_fillTable 42 = .ok (.iload 4, 2) := by decide +kernel
theorem dX8_fillTable_44 : decode cX8_fillTable 44 = .ok (.iload 4, 2) := by decide +kernel
theorem dX8_fillTable_46 : decode cX8_fillTable 46 = .ok (.iload_n 2, 1) := by decide +kernel
theorem dX8_fillTable_47 : decode cX8_fillTable 47 = .ok (.lconst 1, 1) := by decide +kernel
theorem dX8_fillTable_48 : decode cX8_fillTable 48 = .ok (.invokevirtual 124, 3) := by decide +kernel
theorem dX8_fillTable_51 : decode cX8_fillTable 51 = .ok (.aload_n 0, 1) := by decide +kernel
theorem dX8_fillTable_52 : decode cX8_fillTable 52 = .ok (.iload 5, 2) := by decide +kernel
theorem dX8_fillTable_54 : decode cX8_fillTable 54 = .ok (.iload 5, 2) := by decide +kernel
theorem dX8_fillTable_56 : decode cX8_fillTable 56 = .ok (.iload_n 2, 1) := by decide +kernel
theorem dX8_fillTable_57 : decode cX8_fillTable 57 = .ok (.lconst 1, 1) := by decide +kernel
theorem dX8_fillTable_58 : decode cX8_fillTable 58 = .ok (.invokevirtual 124, 3) := by decide +kernel
theorem dX8_fillTable_61 : decode cX8_fillTable 61 = .ok (.aload_n 0, 1) := by decide +kernel
theorem dX8_fillTable_62 : decode cX8_fillTable 62 = .ok (.iload 4, 2) := by decide +kernel
theorem dX8_fillTable_64 : decode cX8_fillTable 64 = .ok (.iload 5, 2) := by decide +kernel
theorem dX8_fillTable_66 : decode cX8_fillTable 66 = .ok (.iload_n 2, 1) := by decide +kernel
theorem dX8_fillTable_67 : decode cX8_fillTable 67 = .ok (.ldc2_w 128, 3) := by decide +kernel
theorem dX8_fillTable_70 : decode cX8_fillTable 70 = .ok (.invokevirtual 124, 3) := by decide +kernel
theorem dX8_fillTable_73 : decode cX8_fillTable 73 = .ok (.aload_n 0, 1) := by decide +kernel
theorem dX8_fillTable_74 : decode cX8_fillTable 74 = .ok (.iload 5, 2) := by decide +kernel
theorem dX8_fillTable_76 : decode cX8_fillTable 76 = .ok (.iload 4, 2) := by decide +kernel
theorem dX8_fillTable_78 : decode cX8_fillTable 78 = .ok (.iload_n 2, 1) := by decide +kernel
theorem dX8_fillTable_79 : decode cX8_fillTable 79 = .ok (.ldc2_w 128, 3) := by decide +kernel
theorem dX8_fillTable_82 : decode cX8_fillTable 82 = .ok (.invokevirtual 124, 3) := by decide +kernel
theorem dX8_fillTable_85 : decode cX8_fillTable 85 = .ok (.iinc 3 1, 3) := by decide +kernel
theorem dX8_fillTable_88 : decode cX8_fillTable 88 = .ok (.goto (-78), 3) := by decide +kernel
theorem dX8_fillTable_91 : decode cX8_fillTable 91 = .ok (.return_, 1) := by decide +kernel
theorem kX8_118 : lkK (gS, X) RX8 118 mJ7_fill_d0a16 2 ∧ Cond.static yJ7_fill_d0a16 ∈ g_ws (gS, X) := ⟨⟨tb_good, (tb_t (k := 1056) (w := Cond.methodLink RX8 118 yJ7_fill_d0a16) (by decide +kernel)), (tb_t (k := 11) (w := Cond.initialized RJ7) (by decide +kernel)), (tb_t (k := 565) (w := Cond.code yJ7_fill_d0a16 cJ7_fill_d0a16 5 none) (by decide +kernel)), by decide +kernel, by decide⟩, (tb_t (k := 564) (w := Cond.static yJ7_fill_d0a16) (by decide +kernel))⟩
theorem kX8_124 : lkK (gS, X) RX8 124 mX8_addTo 4 ∧ Cond.instanceMethod yX8_addTo ∈ g_ws (gS, X) ∧ Cond.selects RX8 yX8_addTo yX8_addTo ∈ g_ws (gS, X) ∧ yX8_addTo.cls = RX8 := ⟨⟨tb_good, (tb_t (k := 1057) (w := Cond.methodLink RX8 124 yX8_addTo) (by decide +kernel)), (tb_t (k := 3) (w := Cond.initialized RX8) (by decide +kernel)), (tb_t (k := 1060) (w := Cond.code yX8_addTo cX8_addTo 7 none) (by decide +kernel)), by decide +kernel, by decide⟩, (tb_t (k := 1059) (w := Cond.instanceMethod yX8_addTo) (by decide +kernel)), (tb_p (k := 68) (q := (yX8_addTo, 1)) (by decide +kernel)), rfl⟩
theorem kX8_128 : Cond.constantLong RX8 128 1000000006 ∈ g_ws (gS, X) := (tb_t (k := 1062) (w := Cond.constantLong RX8 128 1000000006) (by decide +kernel))
theorem dX8_addTo_0 : decode cX8_addTo 0 = .ok (.iload_n 1, 1) := by decide +kernel
theorem dX8_addTo_1 : decode cX8_addTo 1 = .ok (.iload_n 3, 1) := by decide +kernel
theorem dX8_addTo_2 : decode cX8_addTo 2 = .ok (.if_icmp .ge 37, 3) := by decide +kernel
theorem dX8_addTo_5 : decode cX8_addTo 5 = .ok (.iload_n 2, 1) := by decide +kernel
theorem dX8_addTo_6 : decode cX8_addTo 6 = .ok (.iload_n 3, 1) := by decide +kernel
theorem dX8_addTo_7 : decode cX8_addTo 7 = .ok (.if_icmp .ge 32, 3) := by decide +kernel
theorem dX8_addTo_10 : decode cX8_addTo 10 = .ok (.iload_n 1, 1) := by decide +kernel
theorem dX8_addTo_11 : decode cX8_addTo 11 = .ok (.bipush 16, 2) := by decide +kernel
theorem dX8_addTo_13 : decode cX8_addTo 13 = .ok (.imul, 1) := by decide +kernel
theorem dX8_addTo_14 : decode cX8_addTo 14 = .ok (.iload_n 2, 1) := by decide +kernel
theorem dX8_addTo_15 : decode cX8_addTo 15 = .ok (.iadd, 1) := by decide +kernel
theorem dX8_addTo_16 : decode cX8_addTo 16 = .ok (.istore 6, 2) := by decide +kernel
theorem dX8_addTo_18 : decode cX8_addTo 18 = .ok (.aload_n 0, 1) := by decide +kernel
theorem dX8_addTo_19 : decode cX8_addTo 19 = .ok (.getfield 9, 3) := by decide +kernel
theorem dX8_addTo_22 : decode cX8_addTo 22 = .ok (.iload 6, 2) := by decide +kernel
theorem dX8_addTo_24 : decode cX8_addTo 24 = .ok (.aload_n 0, 1) := by decide +kernel
theorem dX8_addTo_25 : decode cX8_addTo 25 = .ok (.getfield 9, 3) := by decide +kernel
theorem dX8_addTo_28 : decode cX8_addTo 28 = .ok (.iload 6, 2) := by decide +kernel
theorem dX8_addTo_30 : decode cX8_addTo 30 = .ok (.laload, 1) := by decide +kernel
theorem dX8_addTo_31 : decode cX8_addTo 31 = .ok (.lload 4, 2) := by decide +kernel
theorem dX8_addTo_33 : decode cX8_addTo 33 = .ok (.ladd, 1) := by decide +kernel
theorem dX8_addTo_34 : decode cX8_addTo 34 = .ok (.ldc2_w 116, 3) := by decide +kernel
theorem dX8_addTo_37 : decode cX8_addTo 37 = .ok (.lrem, 1) := by decide +kernel
theorem dX8_addTo_38 : decode cX8_addTo 38 = .ok (.lastore, 1) := by decide +kernel
theorem dX8_addTo_39 : decode cX8_addTo 39 = .ok (.return_, 1) := by decide +kernel
theorem dX8_pivot_0 : decode cX8_pivot 0 = .ok (.iload_n 2, 1) := by decide +kernel
theorem dX8_pivot_1 : decode cX8_pivot 1 = .ok (.istore_n 3, 1) := by decide +kernel
theorem dX8_pivot_2 : decode cX8_pivot 2 = .ok (.iload_n 2, 1) := by decide +kernel
theorem dX8_pivot_3 : decode cX8_pivot 3 = .ok (.istore 4, 2) := by decide +kernel
theorem dX8_pivot_5 : decode cX8_pivot 5 = .ok (.iload 4, 2) := by decide +kernel
theorem dX8_pivot_7 : decode cX8_pivot 7 = .ok (.iload_n 1, 1) := by decide +kernel
theorem dX8_pivot_8 : decode cX8_pivot 8 = .ok (.if_icmp .ge 28, 3) := by decide +kernel
theorem dX8_pivot_11 : decode cX8_pivot 11 = .ok (.aload_n 0, 1) := by decide +kernel
theorem dX8_pivot_12 : decode cX8_pivot 12 = .ok (.getfield 9, 3) := by decide +kernel
theorem dX8_pivot_15 : decode cX8_pivot 15 = .ok (.iload_n 3, 1) := by decide +kernel
theorem dX8_pivot_16 : decode cX8_pivot 16 = .ok (.bipush 16, 2) := by decide +kernel
theorem dX8_pivot_18 : decode cX8_pivot 18 = .ok (.imul, 1) := by decide +kernel
theorem dX8_pivot_19 : decode cX8_pivot 19 = .ok (.iload_n 2, 1) := by decide +kernel
theorem dX8_pivot_20 : decode cX8_pivot 20 = .ok (.iadd, 1) := by decide +kernel
theorem dX8_pivot_21 : decode cX8_pivot 21 = .ok (.laload, 1) := by decide +kernel
theorem dX8_pivot_22 : decode cX8_pivot 22 = .ok (.lconst 0, 1) := by decide +kernel
theorem dX8_pivot_23 : decode cX8_pivot 23 = .ok (.lcmp, 1) := by decide +kernel
theorem dX8_pivot_24 : decode cX8_pivot 24 = .ok (.ifCond .ne 12, 3) := by decide +kernel
theorem dX8_pivot_27 : decode cX8_pivot 27 = .ok (.iload 4, 2) := by decide +kernel
theorem dX8_pivot_29 : decode cX8_pivot 29 = .ok (.istore_n 3, 1) := by decide +kernel
theorem dX8_pivot_30 : decode cX8_pivot 30 = .ok (.iinc 4 1, 3) := by decide +kernel
theorem dX8_pivot_33 : decode cX8_pivot 33 = .ok (.goto (-28), 3) := by decide +kernel
theorem dX8_pivot_36 : decode cX8_pivot 36 = .ok (.aload_n 0, 1) := by decide +kernel
theorem dX8_pivot_37 : decode cX8_pivot 37 = .ok (.getfield 9, 3) := by decide +kernel
theorem dX8_pivot_40 : decode cX8_pivot 40 = .ok (.iload_n 3, 1) := by decide +kernel
theorem dX8_pivot_41 : decode cX8_pivot 41 = .ok (.bipush 16, 2) := by decide +kernel
theorem dX8_pivot_43 : decode cX8_pivot 43 = .ok (.imul, 1) := by decide +kernel
theorem dX8_pivot_44 : decode cX8_pivot 44 = .ok (.iload_n 2, 1) := by decide +kernel
theorem dX8_pivot_45 : decode cX8_pivot 45 = .ok (.iadd, 1) := by decide +kernel
theorem dX8_pivot_46 : decode cX8_pivot 46 = .ok (.laload, 1) := by decide +kernel
theorem dX8_pivot_47 : decode cX8_pivot 47 = .ok (.lstore 4, 2) := by decide +kernel
theorem dX8_pivot_49 : decode cX8_pivot 49 = .ok (.lload 4, 2) := by decide +kernel
theorem dX8_pivot_51 : decode cX8_pivot 51 = .ok (.lconst 0, 1) := by decide +kernel
theorem dX8_pivot_52 : decode cX8_pivot 52 = .ok (.lcmp, 1) := by decide +kernel
theorem dX8_pivot_53 : decode cX8_pivot 53 = .ok (.ifCond .ne 5, 3) := by decide +kernel
theorem dX8_pivot_56 : decode cX8_pivot 56 = .ok (.lconst 0, 1) := by decide +kernel
theorem dX8_pivot_57 : decode cX8_pivot 57 = .ok (.lreturn, 1) := by decide +kernel
theorem dX8_pivot_58 : decode cX8_pivot 58 = .ok (.iload_n 3, 1) := by decide +kernel
theorem dX8_pivot_59 : decode cX8_pivot 59 = .ok (.iload_n 2, 1) := by decide +kernel
theorem dX8_pivot_60 : decode cX8_pivot 60 = .ok (.if_icmp .eq 10, 3) := by decide +kernel
theorem dX8_pivot_63 : decode cX8_pivot 63 = .ok (.aload_n 0, 1) := by decide +kernel
theorem dX8_pivot_64 : decode cX8_pivot 64 = .ok (.iload_n 1, 1) := by decide +kernel
theorem dX8_pivot_65 : decode cX8_pivot 65 = .ok (.iload_n 3, 1) := by decide +kernel
theorem dX8_pivot_66 : decode cX8_pivot 66 = .ok (.iload_n 2, 1) := by decide +kernel
theorem dX8_pivot_67 : decode cX8_pivot 67 = .ok (.invokevirtual 130, 3) := by decide +kernel
theorem dX8_pivot_70 : decode cX8_pivot 70 = .ok (.lload 4, 2) := by decide +kernel
theorem dX8_pivot_72 : decode cX8_pivot 72 = .ok (.ldc2_w 134, 3) := by decide +kernel
theorem dX8_pivot_75 : decode cX8_pivot 75 = .ok (.invokestatic 136, 3) := by decide +kernel
theorem dX8_pivot_78 : decode cX8_pivot 78 = .ok (.lstore 6, 2) := by decide +kernel
theorem dX8_pivot_80 : decode cX8_pivot 80 = .ok (.iload_n 2, 1) := by decide +kernel
theorem dX8_pivot_81 : decode cX8_pivot 81 = .ok (.iconst 1, 1) := by decide +kernel
theorem dX8_pivot_82 : decode cX8_pivot 82 = .ok (.iadd, 1) := by decide +kernel
theorem dX8_pivot_83 : decode cX8_pivot 83 = .ok (.istore 8, 2) := by decide +kernel
theorem dX8_pivot_85 : decode cX8_pivot 85 = .ok (.iload 8, 2) := by decide +kernel
theorem dX8_pivot_87 : decode cX8_pivot 87 = .ok (.iload_n 1, 1) := by decide +kernel
theorem dX8_pivot_88 : decode cX8_pivot 88 = .ok (.if_icmp .ge 110, 3) := by decide +kernel
theorem dX8_pivot_91 : decode cX8_pivot 91 = .ok (.aload_n 0, 1) := by decide +kernel
theorem dX8_pivot_92 : decode cX8_pivot 92 = .ok (.getfield 9, 3) := by decide +kernel
theorem dX8_pivot_95 : decode cX8_pivot 95 = .ok (.iload 8, 2) := by decide +kernel
theorem dX8_pivot_97 : decode cX8_pivot 97 = .ok (.bipush 16, 2) := by decide +kernel
theorem dX8_pivot_99 : decode cX8_pivot 99 = .ok (.imul, 1) := by decide +kernel
theorem dX8_pivot_100 : decode cX8_pivot 100 = .ok (.iload_n 2, 1) := by decide +kernel
theorem dX8_pivot_101 : decode cX8_pivot 101 = .ok (.iadd, 1) := by decide +kernel
theorem dX8_pivot_102 : decode cX8_pivot 102 = .ok (.laload, 1) := by decide +kernel
theorem dX8_pivot_103 : decode cX8_pivot 103 = .ok (.lload 6, 2) := by decide +kernel
theorem dX8_pivot_105 : decode cX8_pivot 105 = .ok (.lmul, 1) := by decide +kernel
theorem dX8_pivot_106 : decode cX8_pivot 106 = .ok (.ldc2_w 116, 3) := by decide +kernel
theorem dX8_pivot_109 : decode cX8_pivot 109 = .ok (.lrem, 1) := by decide +kernel
theorem dX8_pivot_110 : decode cX8_pivot 110 = .ok (.lstore 9, 2) := by decide +kernel
theorem dX8_pivot_112 : decode cX8_pivot 112 = .ok (.iload_n 2, 1) := by decide +kernel
theorem dX8_pivot_113 : decode cX8_pivot 113 = .ok (.istore 11, 2) := by decide +kernel
theorem dX8_pivot_115 : decode cX8_pivot 115 = .ok (.iload 11, 2) := by decide +kernel
theorem dX8_pivot_117 : decode cX8_pivot 117 = .ok (.iload_n 1, 1) := by decide +kernel
theorem dX8_pivot_118 : decode cX8_pivot 118 = .ok (.if_icmp .ge 74, 3) := by decide +kernel
theorem dX8_pivot_121 : decode cX8_pivot 121 = .ok (.lload 9, 2) := by decide +kernel
theorem dX8_pivot_123 : decode cX8_pivot 123 = .ok (.lconst 0, 1) := by decide +kernel
theorem dX8_pivot_124 : decode cX8_pivot 124 = .ok (.lcmp, 1) := by decide +kernel
theorem dX8_pivot_125 : decode cX8_pivot 125 = .ok (.ifCond .eq 67, 3) := by decide +kernel
theorem dX8_pivot_128 : decode cX8_pivot 128 = .ok (.lload 9, 2) := by decide +kernel
theorem dX8_pivot_130 : decode cX8_pivot 130 = .ok (.aload_n 0, 1) := by decide +kernel
theorem dX8_pivot_131 : decode cX8_pivot 131 = .ok (.getfield 9, 3) := by decide +kernel
theorem dX8_pivot_134 : decode cX8_pivot 134 = .ok (.iload_n 2, 1) := by decide +kernel
theorem dX8_pivot_135 : decode cX8_pivot 135 = .ok (.bipush 16, 2) := by decide +kernel
theorem dX8_pivot_137 : decode cX8_pivot 137 = .ok (.imul, 1) := by decide +kernel
theorem dX8_pivot_138 : decode cX8_pivot 138 = .ok (.iload 11, 2) := by decide +kernel
theorem dX8_pivot_140 : decode cX8_pivot 140 = .ok (.iadd, 1) := by decide +kernel
theorem dX8_pivot_141 : decode cX8_pivot 141 = .ok (.laload, 1) := by decide +kernel
theorem dX8_pivot_142 : decode cX8_pivot 142 = .ok (.lmul, 1) := by decide +kernel
theorem dX8_pivot_143 : decode cX8_pivot 143 = .ok (.ldc2_w 116, 3) := by decide +kernel
theorem dX8_pivot_146 : decode cX8_pivot 146 = .ok (.lrem, 1) := by decide +kernel
theorem dX8_pivot_147 : decode cX8_pivot 147 = .ok (.lstore 12, 2) := by decide +kernel
theorem dX8_pivot_149 : decode cX8_pivot 149 = .ok (.aload_n 0, 1) := by decide +kernel
theorem dX8_pivot_150 : decode cX8_pivot 150 = .ok (.getfield 9, 3) := by decide +kernel
theorem dX8_pivot_153 : decode cX8_pivot 153 = .ok (.iload 8, 2) := by decide +kernel
theorem dX8_pivot_155 : decode cX8_pivot 155 = .ok (.bipush 16, 2) := by decide +kernel
theorem dX8_pivot_157 : decode cX8_pivot 157 = .ok (.imul, 1) := by decide +kernel
theorem dX8_pivot_158 : decode cX8_pivot 158 = .ok (.iload 11, 2) := by decide +kernel
theorem dX8_pivot_160 : decode cX8_pivot 160 = .ok (.iadd, 1) := by decide +kernel
theorem dX8_pivot_161 : decode cX8_pivot 161 = .ok (.aload_n 0, 1) := by decide +kernel
theorem dX8_pivot_162 : decode cX8_pivot 162 = .ok (.getfield 9, 3) := by decide +kernel
theorem dX8_pivot_165 : decode cX8_pivot 165 = .ok (.iload 8, 2) := by decide +kernel
theorem dX8_pivot_167 : decode cX8_pivot 167 = .ok (.bipush 16, 2) := by decide +kernel
theorem dX8_pivot_169 : decode cX8_pivot 169 = .ok (.imul, 1) := by decide +kernel
theorem dX8_pivot_170 : decode cX8_pivot 170 = .ok (.iload 11, 2) := by decide +kernel
theorem dX8_pivot_172 : decode cX8_pivot 172 = .ok (.iadd, 1) := by decide +kernel
theorem dX8_pivot_173 : decode cX8_pivot 173 = .ok (.laload, 1) := by decide +kernel
theorem dX8_pivot_174 : decode cX8_pivot 174 = .ok (.ldc2_w 116, 3) := by decide +kernel
theorem dX8_pivot_177 : decode cX8_pivot 177 = .ok (.ladd, 1) := by decide +kernel
theorem dX8_pivot_178 : decode cX8_pivot 178 = .ok (.lload 12, 2) := by decide +kernel
theorem dX8_pivot_180 : decode cX8_pivot 180 = .ok (.lsub, 1) := by decide +kernel
theorem dX8_pivot_181 : decode cX8_pivot 181 = .ok (.ldc2_w 116, 3) := by decide +kernel
theorem dX8_pivot_184 : decode cX8_pivot 184 = .ok (.lrem, 1) := by decide +kernel
theorem dX8_pivot_185 : decode cX8_pivot 185 = .ok (.lastore, 1) := by decide +kernel
theorem dX8_pivot_186 : decode cX8_pivot 186 = .ok (.iinc 11 1, 3) := by decide +kernel
theorem dX8_pivot_189 : decode cX8_pivot 189 = .ok (.goto (-74), 3) := by decide +kernel
theorem dX8_pivot_192 : decode cX8_pivot 192 = .ok (.iinc 8 1, 3) := by decide +kernel
theorem dX8_pivot_195 : decode cX8_pivot 195 = .ok (.goto (-110), 3) := by decide +kernel
theorem dX8_pivot_198 : decode cX8_pivot 198 = .ok (.iload_n 3, 1) := by decide +kernel
theorem dX8_pivot_199 : decode cX8_pivot 199 = .ok (.iload_n 2, 1) := by decide +kernel
theorem dX8_pivot_200 : decode cX8_pivot 200 = .ok (.if_icmp .ne 8, 3) := by decide +kernel
theorem dX8_pivot_203 : decode cX8_pivot 203 = .ok (.lload 4, 2) := by decide +kernel
theorem dX8_pivot_205 : decode cX8_pivot 205 = .ok (.goto 9, 3) := by decide +kernel
theorem dX8_pivot_208 : decode cX8_pivot 208 = .ok (.ldc2_w 116, 3) := by decide +kernel
theorem dX8_pivot_211 : decode cX8_pivot 211 = .ok (.lload 4, 2) := by decide +kernel
theorem dX8_pivot_213 : decode cX8_pivot 213 = .ok (.lsub, 1) := by decide +kernel
theorem dX8_pivot_214 : decode cX8_pivot 214 = .ok (.lreturn, 1) := by decide +kernel
theorem kX8_130 : lkK (gS, X) RX8 130 mX8_exchange 3 ∧ Cond.instanceMethod yX8_exchange ∈ g_ws (gS, X) ∧ Cond.selects RX8 yX8_exchange yX8_exchange ∈ g_ws (gS, X) ∧ yX8_exchange.cls = RX8 := ⟨⟨tb_good, (tb_t (k := 1067) (w := Cond.methodLink RX8 130 yX8_exchange) (by decide +kernel)), (tb_t (k := 3) (w := Cond.initialized RX8) (by decide +kernel)), (tb_t (k := 1070) (w := Cond.code yX8_exchange cX8_exchange 7 none) (by decide +kernel)), by decide +kernel, by decide⟩, (tb_t (k := 1069) (w := Cond.instanceMethod yX8_exchange) (by decide +kernel)), (tb_p (k := 70) (q := (yX8_exchange, 1)) (by decide +kernel)), rfl⟩
theorem kX8_134 : Cond.constantLong RX8 134 1000000005 ∈ g_ws (gS, X) := (tb_t (k := 1071) (w := Cond.constantLong RX8 134 1000000005) (by decide +kernel))
theorem kX8_136 : lkK (gS, X) RX8 136 mX8_power 2 ∧ Cond.static yX8_power ∈ g_ws (gS, X) := ⟨⟨tb_good, (tb_t (k := 1072) (w := Cond.methodLink RX8 136 yX8_power) (by decide +kernel)), (tb_t (k := 3) (w := Cond.initialized RX8) (by decide +kernel)), (tb_t (k := 1074) (w := Cond.code yX8_power cX8_power 9 (some .long)) (by decide +kernel)), by decide +kernel, by decide⟩, (tb_t (k := 1073) (w := Cond.static yX8_power) (by decide +kernel))⟩
theorem dX8_exchange_0 : decode cX8_exchange 0 = .ok (.iconst 0, 1) := by decide +kernel
theorem dX8_exchange_1 : decode cX8_exchange 1 = .ok (.istore 4, 2) := by decide +kernel
theorem dX8_exchange_3 : decode cX8_exchange 3 = .ok (.iload 4, 2) := by decide +kernel
theorem dX8_exchange_5 : decode cX8_exchange 5 = .ok (.iload_n 1, 1) := by decide +kernel
theorem dX8_exchange_6 : decode cX8_exchange 6 = .ok (.if_icmp .ge 61, 3) := by decide +kernel
theorem dX8_exchange_9 : decode cX8_exchange 9 = .ok (.aload_n 0, 1) := by decide +kernel
theorem dX8_exchange_10 : decode cX8_exchange 10 = .ok (.getfield 9, 3) := by decide +kernel
theorem dX8_exchange_13 : decode cX8_exchange 13 = .ok (.iload_n 2, 1) := by decide +kernel
theorem dX8_exchange_14 : decode cX8_exchange 14 = .ok (.bipush 16, 2) := by decide +kernel
theorem dX8_exchange_16 : decode cX8_exchange 16 = .ok (.imul, 1) := by decide +kernel
theorem dX8_exchange_17 : decode cX8_exchange 17 = .ok (.iload 4, 2) := by decide +kernel
theorem dX8_exchange_19 : decode cX8_exchange 19 = .ok (.iadd, 1) := by decide +kernel
theorem dX8_exchange_20 : decode cX8_exchange 20 = .ok (.laload, 1) := by decide +kernel
theorem dX8_exchange_21 : decode cX8_exchange 21 = .ok (.lstore 5, 2) := by decide +kernel
theorem dX8_exchange_23 : decode cX8_exchange 23 = .ok (.aload_n 0, 1) := by decide +kernel
theorem dX8_exchange_24 : decode cX8_exchange 24 = .ok (.getfield 9, 3) := by decide +kernel
theorem dX8_exchange_27 : decode cX8_exchange 27 = .ok (.iload_n 2, 1) := by decide +kernel
theorem dX8_exchange_28 : decode cX8_exchange 28 = .ok (.bipush 16, 2) := by decide +kernel
theorem dX8_exchange_30 : decode cX8_exchange 30 = .ok (.imul, 1) := by decide +kernel
theorem dX8_exchange_31 : decode cX8_exchange 31 = .ok (.iload 4, 2) := by decide +kernel
theorem dX8_exchange_33 : decode cX8_exchange 33 = .ok (.iadd, 1) := by decide +kernel
theorem dX8_exchange_34 : decode cX8_exchange 34 = .ok (.aload_n 0, 1) := by decide +kernel
theorem dX8_exchange_35 : decode cX8_exchange 35 = .ok (.getfield 9, 3) := by decide +kernel
theorem dX8_exchange_38 : decode cX8_exchange 38 = .ok (.iload_n 3, 1) := by decide +kernel
theorem dX8_exchange_39 : decode cX8_exchange 39 = .ok (.bipush 16, 2) := by decide +kernel
theorem dX8_exchange_41 : decode cX8_exchange 41 = .ok (.imul, 1) := by decide +kernel
theorem dX8_exchange_42 : decode cX8_exchange 42 = .ok (.iload 4, 2) := by decide +kernel
theorem dX8_exchange_44 : decode cX8_exchange 44 = .ok (.iadd, 1) := by decide +kernel
theorem dX8_exchange_45 : decode cX8_exchange 45 = .ok (.laload, 1) := by decide +kernel
theorem dX8_exchange_46 : decode cX8_exchange 46 = .ok (.lastore, 1) := by decide +kernel
theorem dX8_exchange_47 : decode cX8_exchange 47 = .ok (.aload_n 0, 1) := by decide +kernel
theorem dX8_exchange_48 : decode cX8_exchange 48 = .ok (.getfield 9, 3) := by decide +kernel
theorem dX8_exchange_51 : decode cX8_exchange 51 = .ok (.iload_n 3, 1) := by decide +kernel
theorem dX8_exchange_52 : decode cX8_exchange 52 = .ok (.bipush 16, 2) := by decide +kernel
theorem dX8_exchange_54 : decode cX8_exchange 54 = .ok (.imul, 1) := by decide +kernel
theorem dX8_exchange_55 : decode cX8_exchange 55 = .ok (.iload 4, 2) := by decide +kernel
theorem dX8_exchange_57 : decode cX8_exchange 57 = .ok (.iadd, 1) := by decide +kernel
theorem dX8_exchange_58 : decode cX8_exchange 58 = .ok (.lload 5, 2) := by decide +kernel
theorem dX8_exchange_60 : decode cX8_exchange 60 = .ok (.lastore, 1) := by decide +kernel
theorem dX8_exchange_61 : decode cX8_exchange 61 = .ok (.iinc 4 1, 3) := by decide +kernel
theorem dX8_exchange_64 : decode cX8_exchange 64 = .ok (.goto (-61), 3) := by decide +kernel
theorem dX8_exchange_67 : decode cX8_exchange 67 = .ok (.return_, 1) := by decide +kernel
theorem dX8_power_0 : decode cX8_power 0 = .ok (.lconst 1, 1) := by decide +kernel
theorem dX8_power_1 : decode cX8_power 1 = .ok (.lstore 4, 2) := by decide +kernel
theorem dX8_power_3 : decode cX8_power 3 = .ok (.lload_n 0, 1) := by decide +kernel
theorem dX8_power_4 : decode cX8_power 4 = .ok (.lstore 6, 2) := by decide +kernel
theorem dX8_power_6 : decode cX8_power 6 = .ok (.iconst 0, 1) := by decide +kernel
theorem dX8_power_7 : decode cX8_power 7 = .ok (.istore 8, 2) := by decide +kernel
theorem dX8_power_9 : decode cX8_power 9 = .ok (.iload 8, 2) := by decide +kernel
theorem dX8_power_11 : decode cX8_power 11 = .ok (.bipush 31, 2) := by decide +kernel
theorem dX8_power_13 : decode cX8_power 13 = .ok (.if_icmp .ge 42, 3) := by decide +kernel
theorem dX8_power_16 : decode cX8_power 16 = .ok (.lload_n 2, 1) := by decide +kernel
theorem dX8_power_17 : decode cX8_power 17 = .ok (.iload 8, 2) := by decide +kernel
theorem dX8_power_19 : decode cX8_power 19 = .ok (.lshr, 1) := by decide +kernel
theorem dX8_power_20 : decode cX8_power 20 = .ok (.lconst 1, 1) := by decide +kernel
theorem dX8_power_21 : decode cX8_power 21 = .ok (.land, 1) := by decide +kernel
theorem dX8_power_22 : decode cX8_power 22 = .ok (.lconst 0, 1) := by decide +kernel
theorem dX8_power_23 : decode cX8_power 23 = .ok (.lcmp, 1) := by decide +kernel
theorem dX8_power_24 : decode cX8_power 24 = .ok (.ifCond .eq 14, 3) := by decide +kernel
theorem dX8_power_27 : decode cX8_power 27 = .ok (.lload 4, 2) := by decide +kernel
theorem dX8_power_29 : decode cX8_power 29 = .ok (.lload 6, 2) := by decide +kernel
theorem dX8_power_31 : decode cX8_power 31 = .ok (.lmul, 1) := by decide +kernel
theorem dX8_power_32 : decode cX8_power 32 = .ok (.ldc2_w 116, 3) := by decide +kernel
theorem dX8_power_35 : decode cX8_power 35 = .ok (.lrem, 1) := by decide +kernel
theorem dX8_power_36 : decode cX8_power 36 = .ok (.lstore 4, 2) := by decide +kernel
theorem dX8_power_38 : decode cX8_power 38 = .ok (.lload 6, 2) := by decide +kernel
theorem dX8_power_40 : decode cX8_power 40 = .ok (.lload 6, 2) := by decide +kernel
theorem dX8_power_42 : decode cX8_power 42 = .ok (.lmul, 1) := by decide +kernel
theorem dX8_power_43 : decode cX8_power 43 = .ok (.ldc2_w 116, 3) := by decide +kernel
theorem dX8_power_46 : decode cX8_power 46 = .ok (.lrem, 1) := by decide +kernel
theorem dX8_power_47 : decode cX8_power 47 = .ok (.lstore 6, 2) := by decide +kernel
theorem dX8_power_49 : decode cX8_power 49 = .ok (.iinc 8 1, 3) := by decide +kernel
theorem dX8_power_52 : decode cX8_power 52 = .ok (.goto (-43), 3) := by decide +kernel
theorem dX8_power_55 : decode cX8_power 55 = .ok (.lload 4, 2) := by decide +kernel
theorem dX8_power_57 : decode cX8_power 57 = .ok (.lreturn, 1) := by decide +kernel
theorem dJ6_bitCount_0f7a4_0 : decode cJ6_bitCount_0f7a4 0 = .ok (.iload_n 0, 1) := by decide +kernel
theorem dJ6_bitCount_0f7a4_1 : decode cJ6_bitCount_0f7a4 1 = .ok (.iload_n 0, 1) := by decide +kernel
theorem dJ6_bitCount_0f7a4_2 : decode cJ6_bitCount_0f7a4 2 = .ok (.iconst 1, 1) := by decide +kernel
theorem dJ6_bitCount_0f7a4_3 : decode cJ6_bitCount_0f7a4 3 = .ok (.iushr, 1) := by decide +kernel
theorem dJ6_bitCount_0f7a4_4 : decode cJ6_bitCount_0f7a4 4 = .ok (.ldc_w 265, 3) := by decide +kernel
theorem dJ6_bitCount_0f7a4_7 : decode cJ6_bitCount_0f7a4 7 = .ok (.iand, 1) := by decide +kernel
theorem dJ6_bitCount_0f7a4_8 : decode cJ6_bitCount_0f7a4 8 = .ok (.isub, 1) := by decide +kernel
theorem dJ6_bitCount_0f7a4_9 : decode cJ6_bitCount_0f7a4 9 = .ok (.istore_n 0, 1) := by decide +kernel
theorem dJ6_bitCount_0f7a4_10 : decode cJ6_bitCount_0f7a4 10 = .ok (.iload_n 0, 1) := by decide +kernel
theorem dJ6_bitCount_0f7a4_11 : decode cJ6_bitCount_0f7a4 11 = .ok (.ldc_w 266, 3) := by decide +kernel
theorem dJ6_bitCount_0f7a4_14 : decode cJ6_bitCount_0f7a4 14 = .ok (.iand, 1) := by decide +kernel
theorem dJ6_bitCount_0f7a4_15 : decode cJ6_bitCount_0f7a4 15 = .ok (.iload_n 0, 1) := by decide +kernel
theorem dJ6_bitCount_0f7a4_16 : decode cJ6_bitCount_0f7a4 16 = .ok (.iconst 2, 1) := by decide +kernel
theorem dJ6_bitCount_0f7a4_17 : decode cJ6_bitCount_0f7a4 17 = .ok (.iushr, 1) := by decide +kernel
theorem dJ6_bitCount_0f7a4_18 : decode cJ6_bitCount_0f7a4 18 = .ok (.ldc_w 266, 3) := by decide +kernel
theorem dJ6_bitCount_0f7a4_21 : decode cJ6_bitCount_0f7a4 21 = .ok (.iand, 1) := by decide +kernel
theorem dJ6_bitCount_0f7a4_22 : decode cJ6_bitCount_0f7a4 22 = .ok (.iadd, 1) := by decide +kernel
theorem dJ6_bitCount_0f7a4_23 : decode cJ6_bitCount_0f7a4 23 = .ok (.istore_n 0, 1) := by decide +kernel
theorem dJ6_bitCount_0f7a4_24 : decode cJ6_bitCount_0f7a4 24 = .ok (.iload_n 0, 1) := by decide +kernel
theorem dJ6_bitCount_0f7a4_25 : decode cJ6_bitCount_0f7a4 25 = .ok (.iload_n 0, 1) := by decide +kernel
theorem dJ6_bitCount_0f7a4_26 : decode cJ6_bitCount_0f7a4 26 = .ok (.iconst 4, 1) := by decide +kernel
theorem dJ6_bitCount_0f7a4_27 : decode cJ6_bitCount_0f7a4 27 = .ok (.iushr, 1) := by decide +kernel
theorem dJ6_bitCount_0f7a4_28 : decode cJ6_bitCount_0f7a4 28 = .ok (.iadd, 1) := by decide +kernel
theorem dJ6_bitCount_0f7a4_29 : decode cJ6_bitCount_0f7a4 29 = .ok (.ldc_w 267, 3) := by decide +kernel
theorem dJ6_bitCount_0f7a4_32 : decode cJ6_bitCount_0f7a4 32 = .ok (.iand, 1) := by decide +kernel
theorem dJ6_bitCount_0f7a4_33 : decode cJ6_bitCount_0f7a4 33 = .ok (.istore_n 0, 1) := by decide +kernel
theorem dJ6_bitCount_0f7a4_34 : decode cJ6_bitCount_0f7a4 34 = .ok (.iload_n 0, 1) := by decide +kernel
theorem dJ6_bitCount_0f7a4_35 : decode cJ6_bitCount_0f7a4 35 = .ok (.iload_n 0, 1) := by decide +kernel
theorem dJ6_bitCount_0f7a4_36 : decode cJ6_bitCount_0f7a4 36 = .ok (.bipush 8, 2) := by decide +kernel
theorem dJ6_bitCount_0f7a4_38 : decode cJ6_bitCount_0f7a4 38 = .ok (.iushr, 1) := by decide +kernel
theorem dJ6_bitCount_0f7a4_39 : decode cJ6_bitCount_0f7a4 39 = .ok (.iadd, 1) := by decide +kernel
theorem dJ6_bitCount_0f7a4_40 : decode cJ6_bitCount_0f7a4 40 = .ok (.istore_n 0, 1) := by decide +kernel
theorem dJ6_bitCount_0f7a4_41 : decode cJ6_bitCount_0f7a4 41 = .ok (.iload_n 0, 1) := by decide +kernel
theorem dJ6_bitCount_0f7a4_42 : decode cJ6_bitCount_0f7a4 42 = .ok (.iload_n 0, 1) := by decide +kernel
theorem dJ6_bitCount_0f7a4_43 : decode cJ6_bitCount_0f7a4 43 = .ok (.bipush 16, 2) := by decide +kernel
theorem dJ6_bitCount_0f7a4_45 : decode cJ6_bitCount_0f7a4 45 = .ok (.iushr, 1) := by decide +kernel
theorem dJ6_bitCount_0f7a4_46 : decode cJ6_bitCount_0f7a4 46 = .ok (.iadd, 1) := by decide +kernel
theorem dJ6_bitCount_0f7a4_47 : decode cJ6_bitCount_0f7a4 47 = .ok (.istore_n 0, 1) := by decide +kernel
theorem dJ6_bitCount_0f7a4_48 : decode cJ6_bitCount_0f7a4 48 = .ok (.iload_n 0, 1) := by decide +kernel
theorem dJ6_bitCount_0f7a4_49 : decode cJ6_bitCount_0f7a4 49 = .ok (.bipush 63, 2) := by decide +kernel
theorem dJ6_bitCount_0f7a4_51 : decode cJ6_bitCount_0f7a4 51 = .ok (.iand, 1) := by decide +kernel
theorem dJ6_bitCount_0f7a4_52 : decode cJ6_bitCount_0f7a4 52 = .ok (.ireturn, 1) := by decide +kernel
theorem kJ6_265 : Cond.constant RJ6 265 1431655765 ∈ g_ws (gS, X) := (tb_t (k := 439) (w := Cond.constant RJ6 265 1431655765) (by decide +kernel))
theorem kJ6_266 : Cond.constant RJ6 266 858993459 ∈ g_ws (gS, X) := (tb_t (k := 440) (w := Cond.constant RJ6 266 858993459) (by decide +kernel))
theorem kJ6_267 : Cond.constant RJ6 267 252645135 ∈ g_ws (gS, X) := (tb_t (k := 441) (w := Cond.constant RJ6 267 252645135) (by decide +kernel))
end NM
