theorem dX5_decoded_77 : decode cX5_decoded 77 = .ok (.iload_n 2, 1) := by decide +kernel
theorem dX5_decoded_78 : decode cX5_decoded 78 = .ok (.aload_n 0, 1) := by decide +kernel
theorem dX5_decoded_79 : decode cX5_decoded 79 = .ok (.getfield 33, 3) := by decide +kernel
theorem dX5_decoded_82 : decode cX5_decoded 82 = .ok (.getfield 174, 3) := by decide +kernel
theorem dX5_decoded_85 : decode cX5_decoded 85 = .ok (.isub, 1) := by decide +kernel
theorem dX5_decoded_86 : decode cX5_decoded 86 = .ok (.iload_n 3, 1) := by decide +kernel
theorem dX5_decoded_87 : decode cX5_decoded 87 = .ok (.aload_n 0, 1) := by decide +kernel
theorem dX5_decoded_88 : decode cX5_decoded 88 = .ok (.getfield 33, 3) := by decide +kernel
theorem dX5_decoded_91 : decode cX5_decoded 91 = .ok (.getfield 177, 3) := by decide +kernel
theorem dX5_decoded_94 : decode cX5_decoded 94 = .ok (.isub, 1) := by decide +kernel
theorem dX5_decoded_95 : decode cX5_decoded 95 = .ok (.invokestatic 243, 3) := by decide +kernel
theorem dX5_decoded_98 : decode cX5_decoded 98 = .ok (.invokestatic 145, 3) := by decide +kernel
theorem dX5_decoded_101 : decode cX5_decoded 101 = .ok (.ireturn, 1) := by decide +kernel
theorem dX5_worst_0 : decode cX5_worst 0 = .ok (.iload_n 1, 1) := by decide +kernel
theorem dX5_worst_1 : decode cX5_worst 1 = .ok (.iconst 0, 1) := by decide +kernel
theorem dX5_worst_2 : decode cX5_worst 2 = .ok (.bipush 9, 2) := by decide +kernel
theorem dX5_worst_4 : decode cX5_worst 4 = .ok (.invokestatic 61, 3) := by decide +kernel
theorem dX5_worst_7 : decode cX5_worst 7 = .ok (.ifCond .ne 13, 3) := by decide +kernel
theorem dX5_worst_10 : decode cX5_worst 10 = .ok (.new 65, 3) := by decide +kernel
theorem dX5_worst_13 : decode cX5_worst 13 = .ok (.dup, 1) := by decide +kernel
theorem dX5_worst_14 : decode cX5_worst 14 = .ok (.ldc 228, 2) := by decide +kernel
theorem dX5_worst_16 : decode cX5_worst 16 = .ok (.invokespecial 69, 3) := by decide +kernel
theorem dX5_worst_19 : decode cX5_worst 19 = .ok (.athrow, 1) := by decide +kernel
theorem dX5_worst_20 : decode cX5_worst 20 = .ok (.aload_n 0, 1) := by decide +kernel
theorem dX5_worst_21 : decode cX5_worst 21 = .ok (.getfield 10, 3) := by decide +kernel
theorem dX5_worst_24 : decode cX5_worst 24 = .ok (.iload_n 2, 1) := by decide +kernel
theorem dX5_worst_25 : decode cX5_worst 25 = .ok (.invokevirtual 164, 3) := by decide +kernel
theorem dX5_worst_28 : decode cX5_worst 28 = .ok (.ifCond .ne 13, 3) := by decide +kernel
theorem dX5_worst_31 : decode cX5_worst 31 = .ok (.new 134, 3) := by decide +kernel
theorem dX5_worst_34 : decode cX5_worst 34 = .ok (.dup, 1) := by decide +kernel
theorem dX5_worst_35 : decode cX5_worst 35 = .ok (.ldc 168, 2) := by decide +kernel
theorem dX5_worst_37 : decode cX5_worst 37 = .ok (.invokespecial 138, 3) := by decide +kernel
theorem dX5_worst_40 : decode cX5_worst 40 = .ok (.athrow, 1) := by decide +kernel
theorem dX5_worst_41 : decode cX5_worst 41 = .ok (.aload_n 0, 1) := by decide +kernel
theorem dX5_worst_42 : decode cX5_worst 42 = .ok (.getfield 33, 3) := by decide +kernel
theorem dX5_worst_45 : decode cX5_worst 45 = .ok (.aload_n 0, 1) := by decide +kernel
theorem dX5_worst_46 : decode cX5_worst 46 = .ok (.getfield 10, 3) := by decide +kernel
theorem dX5_worst_49 : decode cX5_worst 49 = .ok (.iload_n 2, 1) := by decide +kernel
theorem dX5_worst_50 : decode cX5_worst 50 = .ok (.invokevirtual 170, 3) := by decide +kernel
theorem dX5_worst_53 : decode cX5_worst 53 = .ok (.iload_n 3, 1) := by decide +kernel
theorem dX5_worst_54 : decode cX5_worst 54 = .ok (.ifCond .eq 14, 3) := by decide +kernel
theorem dX5_worst_57 : decode cX5_worst 57 = .ok (.aload_n 0, 1) := by decide +kernel
theorem dX5_worst_58 : decode cX5_worst 58 = .ok (.getfield 33, 3) := by decide +kernel
theorem dX5_worst_61 : decode cX5_worst 61 = .ok (.iload_n 1, 1) := by decide +kernel
theorem dX5_worst_62 : decode cX5_worst 62 = .ok (.invokevirtual 273, 3) := by decide +kernel
theorem dX5_worst_65 : decode cX5_worst 65 = .ok (.goto 11, 3) := by decide +kernel
theorem dX5_worst_68 : decode cX5_worst 68 = .ok (.aload_n 0, 1) := by decide +kernel
theorem dX5_worst_69 : decode cX5_worst 69 = .ok (.getfield 33, 3) := by decide +kernel
theorem dX5_worst_72 : decode cX5_worst 72 = .ok (.iload_n 1, 1) := by decide +kernel
theorem dX5_worst_73 : decode cX5_worst 73 = .ok (.invokevirtual 276, 3) := by decide +kernel
theorem dX5_worst_76 : decode cX5_worst 76 = .ok (.ireturn, 1) := by decide +kernel
theorem dX5_meanSquare_0 : decode cX5_meanSquare 0 = .ok (.iload_n 1, 1) := by decide +kernel
theorem dX5_meanSquare_1 : decode cX5_meanSquare 1 = .ok (.iconst 0, 1) := by decide +kernel
theorem dX5_meanSquare_2 : decode cX5_meanSquare 2 = .ok (.bipush 9, 2) := by decide +kernel
theorem dX5_meanSquare_4 : decode cX5_meanSquare 4 = .ok (.invokestatic 61, 3) := by decide +kernel
theorem dX5_meanSquare_7 : decode cX5_meanSquare 7 = .ok (.ifCond .ne 13, 3) := by decide +kernel
theorem dX5_meanSquare_10 : decode cX5_meanSquare 10 = .ok (.new 65, 3) := by decide +kernel
theorem dX5_meanSquare_13 : decode cX5_meanSquare 13 = .ok (.dup, 1) := by decide +kernel
theorem dX5_meanSquare_14 : decode cX5_meanSquare 14 = .ok (.ldc 228, 2) := by decide +kernel
theorem dX5_meanSquare_16 : decode cX5_meanSquare 16 = .ok (.invokespecial 69, 3) := by decide +kernel
theorem dX5_meanSquare_19 : decode cX5_meanSquare 19 = .ok (.athrow, 1) := by decide +kernel
theorem dX5_meanSquare_20 : decode cX5_meanSquare 20 = .ok (.iconst 0, 1) := by decide +kernel
theorem dX5_meanSquare_21 : decode cX5_meanSquare 21 = .ok (.istore_n 2, 1) := by decide +kernel
theorem dX5_meanSquare_22 : decode cX5_meanSquare 22 = .ok (.aload_n 0, 1) := by decide +kernel
theorem dX5_meanSquare_23 : decode cX5_meanSquare 23 = .ok (.getfield 10, 3) := by decide +kernel
theorem dX5_meanSquare_26 : decode cX5_meanSquare 26 = .ok (.invokevirtual 80, 3) := by decide +kernel
theorem dX5_meanSquare_29 : decode cX5_meanSquare 29 = .ok (.istore_n 3, 1) := by decide +kernel
theorem dX5_meanSquare_30 : decode cX5_meanSquare 30 = .ok (.iconst 0, 1) := by decide +kernel
theorem dX5_meanSquare_31 : decode cX5_meanSquare 31 = .ok (.istore 4, 2) := by decide +kernel
theorem dX5_meanSquare_33 : decode cX5_meanSquare 33 = .ok (.iload 4, 2) := by decide +kernel
theorem dX5_meanSquare_35 : decode cX5_meanSquare 35 = .ok (.iload_n 3, 1) := by decide +kernel
theorem dX5_meanSquare_36 : decode cX5_meanSquare 36 = .ok (.if_icmp .ge 33, 3) := by decide +kernel
theorem dX5_meanSquare_39 : decode cX5_meanSquare 39 = .ok (.aload_n 0, 1) := by decide +kernel
theorem dX5_meanSquare_40 : decode cX5_meanSquare 40 = .ok (.getfield 33, 3) := by decide +kernel
theorem dX5_meanSquare_43 : decode cX5_meanSquare 43 = .ok (.aload_n 0, 1) := by decide +kernel
theorem dX5_meanSquare_44 : decode cX5_meanSquare 44 = .ok (.getfield 10, 3) := by decide +kernel
theorem dX5_meanSquare_47 : decode cX5_meanSquare 47 = .ok (.iload 4, 2) := by decide +kernel
theorem dX5_meanSquare_49 : decode cX5_meanSquare 49 = .ok (.invokevirtual 170, 3) := by decide +kernel
theorem dX5_meanSquare_52 : decode cX5_meanSquare 52 = .ok (.iload_n 2, 1) := by decide +kernel
theorem dX5_meanSquare_53 : decode cX5_meanSquare 53 = .ok (.aload_n 0, 1) := by decide +kernel
theorem dX5_meanSquare_54 : decode cX5_meanSquare 54 = .ok (.getfield 33, 3) := by decide +kernel
theorem dX5_meanSquare_57 : decode cX5_meanSquare 57 = .ok (.iload_n 1, 1) := by decide +kernel
theorem dX5_meanSquare_58 : decode cX5_meanSquare 58 = .ok (.invokevirtual 279, 3) := by decide +kernel
theorem dX5_meanSquare_61 : decode cX5_meanSquare 61 = .ok (.iadd, 1) := by decide +kernel
theorem dX5_meanSquare_62 : decode cX5_meanSquare 62 = .ok (.istore_n 2, 1) := by decide +kernel
theorem dX5_meanSquare_63 : decode cX5_meanSquare 63 = .ok (.iinc 4 1, 3) := by decide +kernel
theorem dX5_meanSquare_66 : decode cX5_meanSquare 66 = .ok (.goto (-33), 3) := by decide +kernel
theorem dX5_meanSquare_69 : decode cX5_meanSquare 69 = .ok (.aload_n 0, 1) := by decide +kernel
theorem dX5_meanSquare_70 : decode cX5_meanSquare 70 = .ok (.getfield 10, 3) := by decide +kernel
theorem dX5_meanSquare_73 : decode cX5_meanSquare 73 = .ok (.getfield 97, 3) := by decide +kernel
theorem dX5_meanSquare_76 : decode cX5_meanSquare 76 = .ok (.aload_n 0, 1) := by decide +kernel
theorem dX5_meanSquare_77 : decode cX5_meanSquare 77 = .ok (.getfield 10, 3) := by decide +kernel
theorem dX5_meanSquare_80 : decode cX5_meanSquare 80 = .ok (.getfield 100, 3) := by decide +kernel
theorem dX5_meanSquare_83 : decode cX5_meanSquare 83 = .ok (.imul, 1) := by decide +kernel
theorem dX5_meanSquare_84 : decode cX5_meanSquare 84 = .ok (.istore 4, 2) := by decide +kernel
theorem dX5_meanSquare_86 : decode cX5_meanSquare 86 = .ok (.iload 4, 2) := by decide +kernel
theorem dX5_meanSquare_88 : decode cX5_meanSquare 88 = .ok (.iconst 1, 1) := by decide +kernel
theorem dX5_meanSquare_89 : decode cX5_meanSquare 89 = .ok (.if_icmp .ge 7, 3) := by decide +kernel
theorem dX5_meanSquare_92 : decode cX5_meanSquare 92 = .ok (.dconst 0, 1) := by decide +kernel
theorem dX5_meanSquare_93 : decode cX5_meanSquare 93 = .ok (.goto 9, 3) := by decide +kernel
theorem dX5_meanSquare_96 : decode cX5_meanSquare 96 = .ok (.iload_n 2, 1) := by decide +kernel
theorem dX5_meanSquare_97 : decode cX5_meanSquare 97 = .ok (.i2d, 1) := by decide +kernel
theorem dX5_meanSquare_98 : decode cX5_meanSquare 98 = .ok (.iload 4, 2) := by decide +kernel
theorem dX5_meanSquare_100 : decode cX5_meanSquare 100 = .ok (.i2d, 1) := by decide +kernel
theorem dX5_meanSquare_101 : decode cX5_meanSquare 101 = .ok (.ddiv, 1) := by decide +kernel
theorem dX5_meanSquare_102 : decode cX5_meanSquare 102 = .ok (.dreturn, 1) := by decide +kernel
theorem dX5_plan_0 : decode cX5_plan 0 = .ok (.iload_n 1, 1) := by decide +kernel
theorem dX5_plan_1 : decode cX5_plan 1 = .ok (.iconst 0, 1) := by decide +kernel
theorem dX5_plan_2 : decode cX5_plan 2 = .ok (.sipush 9999, 3) := by decide +kernel
theorem dX5_plan_5 : decode cX5_plan 5 = .ok (.invokestatic 61, 3) := by decide +kernel
theorem dX5_plan_8 : decode cX5_plan 8 = .ok (.ifCond .ne 14, 3) := by decide +kernel
theorem dX5_plan_11 : decode cX5_plan 11 = .ok (.new 65, 3) := by decide +kernel
theorem dX5_plan_14 : decode cX5_plan 14 = .ok (.dup, 1) := by decide +kernel
theorem dX5_plan_15 : decode cX5_plan 15 = .ok (.ldc_w 282, 3) := by decide +kernel
theorem dX5_plan_18 : decode cX5_plan 18 = .ok (.invokespecial 69, 3) := by decide +kernel
theorem dX5_plan_21 : decode cX5_plan 21 = .ok (.athrow, 1) := by decide +kernel
theorem dX5_plan_22 : decode cX5_plan 22 = .ok (.aload_n 0, 1) := by decide +kernel
theorem dX5_plan_23 : decode cX5_plan 23 = .ok (.getfield 40, 3) := by decide +kernel
theorem dX5_plan_26 : decode cX5_plan 26 = .ok (.aload_n 0, 1) := by decide +kernel
theorem dX5_plan_27 : decode cX5_plan 27 = .ok (.getfield 10, 3) := by decide +kernel
theorem dX5_plan_30 : decode cX5_plan 30 = .ok (.invokevirtual 80, 3) := by decide +kernel
theorem dX5_plan_33 : decode cX5_plan 33 = .ok (.invokevirtual 284, 3) := by decide +kernel
theorem dX5_plan_36 : decode cX5_plan 36 = .ok (.iconst 0, 1) := by decide +kernel
theorem dX5_plan_37 : decode cX5_plan 37 = .ok (.istore_n 2, 1) := by decide +kernel
theorem dX5_plan_38 : decode cX5_plan 38 = .ok (.iload_n 2, 1) := by decide +kernel
theorem dX5_plan_39 : decode cX5_plan 39 = .ok (.aload_n 0, 1) := by decide +kernel
theorem dX5_plan_40 : decode cX5_plan 40 = .ok (.getfield 40, 3) := by decide +kernel
theorem dX5_plan_43 : decode cX5_plan 43 = .ok (.getfield 287, 3) := by decide +kernel
theorem dX5_plan_46 : decode cX5_plan 46 = .ok (.if_icmp .ge 14, 3) := by decide +kernel
theorem dX5_plan_49 : decode cX5_plan 49 = .ok (.aload_n 0, 1) := by decide +kernel
theorem dX5_plan_50 : decode cX5_plan 50 = .ok (.iload_n 2, 1) := by decide +kernel
theorem dX5_plan_51 : decode cX5_plan 51 = .ok (.invokevirtual 290, 3) := by decide +kernel
theorem dX5_plan_54 : decode cX5_plan 54 = .ok (.iinc 2 1, 3) := by decide +kernel
theorem dX5_plan_57 : decode cX5_plan 57 = .ok (.goto (-19), 3) := by decide +kernel
theorem dX5_plan_60 : decode cX5_plan 60 = .ok (.iload_n 1, 1) := by decide +kernel
theorem dX5_plan_61 : decode cX5_plan 61 = .ok (.istore_n 2, 1) := by decide +kernel
theorem dX5_plan_62 : decode cX5_plan 62 = .ok (.iconst 0, 1) := by decide +kernel
theorem dX5_plan_63 : decode cX5_plan 63 = .ok (.istore_n 3, 1) := by decide +kernel
theorem dX5_plan_64 : decode cX5_plan 64 = .ok (.iload_n 3, 1) := by decide +kernel
theorem dX5_plan_65 : decode cX5_plan 65 = .ok (.sipush 576, 3) := by decide +kernel
theorem dX5_plan_68 : decode cX5_plan 68 = .ok (.if_icmp .ge 74, 3) := by decide +kernel
theorem dX5_plan_71 : decode cX5_plan 71 = .ok (.aload_n 0, 1) := by decide +kernel
theorem dX5_plan_72 : decode cX5_plan 72 = .ok (.getfield 40, 3) := by decide +kernel
theorem dX5_plan_75 : decode cX5_plan 75 = .ok (.iload_n 2, 1) := by decide +kernel
theorem dX5_plan_76 : decode cX5_plan 76 = .ok (.invokevirtual 293, 3) := by decide +kernel
theorem dX5_plan_79 : decode cX5_plan 79 = .ok (.istore 4, 2) := by decide +kernel
theorem dX5_plan_81 : decode cX5_plan 81 = .ok (.iload 4, 2) := by decide +kernel
theorem dX5_plan_83 : decode cX5_plan 83 = .ok (.ifCond .ge 6, 3) := by decide +kernel
theorem dX5_plan_86 : decode cX5_plan 86 = .ok (.goto 56, 3) := by decide +kernel
theorem dX5_plan_89 : decode cX5_plan 89 = .ok (.iload_n 2, 1) := by decide +kernel
theorem dX5_plan_90 : decode cX5_plan 90 = .ok (.aload_n 0, 1) := by decide +kernel
theorem dX5_plan_91 : decode cX5_plan 91 = .ok (.getfield 40, 3) := by decide +kernel
theorem dX5_plan_94 : decode cX5_plan 94 = .ok (.getfield 296, 3) := by decide +kernel
theorem dX5_plan_97 : decode cX5_plan 97 = .ok (.iload 4, 2) := by decide +kernel
theorem dX5_plan_99 : decode cX5_plan 99 = .ok (.invokestatic 145, 3) := by decide +kernel
theorem dX5_plan_102 : decode cX5_plan 102 = .ok (.isub, 1) := by decide +kernel
theorem dX5_plan_103 : decode cX5_plan 103 = .ok (.istore_n 2, 1) := by decide +kernel
theorem dX5_plan_104 : decode cX5_plan 104 = .ok (.aload_n 0, 1) := by decide +kernel
theorem dX5_plan_105 : decode cX5_plan 105 = .ok (.getfield 40, 3) := by decide +kernel
theorem dX5_plan_108 : decode cX5_plan 108 = .ok (.getfield 299, 3) := by decide +kernel
theorem dX5_plan_111 : decode cX5_plan 111 = .ok (.iload 4, 2) := by decide +kernel
theorem dX5_plan_113 : decode cX5_plan 113 = .ok (.aload_n 0, 1) := by decide +kernel
theorem dX5_plan_114 : decode cX5_plan 114 = .ok (.getfield 40, 3) := by decide +kernel
theorem dX5_plan_117 : decode cX5_plan 117 = .ok (.getfield 299, 3) := by decide +kernel
theorem dX5_plan_120 : decode cX5_plan 120 = .ok (.iload 4, 2) := by decide +kernel
theorem dX5_plan_122 : decode cX5_plan 122 = .ok (.invokestatic 145, 3) := by decide +kernel
theorem dX5_plan_125 : decode cX5_plan 125 = .ok (.iconst 1, 1) := by decide +kernel
theorem dX5_plan_126 : decode cX5_plan 126 = .ok (.iadd, 1) := by decide +kernel
theorem dX5_plan_127 : decode cX5_plan 127 = .ok (.invokestatic 149, 3) := by decide +kernel
theorem dX5_plan_130 : decode cX5_plan 130 = .ok (.aload_n 0, 1) := by decide +kernel
theorem dX5_plan_131 : decode cX5_plan 131 = .ok (.iload 4, 2) := by decide +kernel
theorem dX5_plan_133 : decode cX5_plan 133 = .ok (.invokevirtual 290, 3) := by decide +kernel
theorem dX5_plan_136 : decode cX5_plan 136 = .ok (.iinc 3 1, 3) := by decide +kernel
theorem dX5_plan_139 : decode cX5_plan 139 = .ok (.goto (-75), 3) := by decide +kernel
theorem dX5_plan_142 : decode cX5_plan 142 = .ok (.iload_n 2, 1) := by decide +kernel
theorem dX5_plan_143 : decode cX5_plan 143 = .ok (.ireturn, 1) := by decide +kernel
theorem dX5_planned_0 : decode cX5_planned 0 = .ok (.aload_n 0, 1) := by decide +kernel
theorem dX5_planned_1 : decode cX5_planned 1 = .ok (.getfield 40, 3) := by decide +kernel
theorem dX5_planned_4 : decode cX5_planned 4 = .ok (.getfield 287, 3) := by decide +kernel
theorem dX5_planned_7 : decode cX5_planned 7 = .ok (.ifCond .ge 14, 3) := by decide +kernel
theorem dX5_planned_10 : decode cX5_planned 10 = .ok (.new 302, 3) := by decide +kernel
theorem dX5_planned_13 : decode cX5_planned 13 = .ok (.dup, 1) := by decide +kernel
theorem dX5_planned_14 : decode cX5_planned 14 = .ok (.ldc_w 304, 3) := by decide +kernel
theorem dX5_planned_17 : decode cX5_planned 17 = .ok (.invokespecial 306, 3) := by decide +kernel
theorem dX5_planned_20 : decode cX5_planned 20 = .ok (.athrow, 1) := by decide +kernel
theorem dX5_planned_21 : decode cX5_planned 21 = .ok (.iload_n 1, 1) := by decide +kernel
theorem dX5_planned_22 : decode cX5_planned 22 = .ok (.iconst 0, 1) := by decide +kernel
theorem dX5_planned_23 : decode cX5_planned 23 = .ok (.aload_n 0, 1) := by decide +kernel
theorem dX5_planned_24 : decode cX5_planned 24 = .ok (.getfield 40, 3) := by decide +kernel
theorem dX5_planned_27 : decode cX5_planned 27 = .ok (.getfield 287, 3) := by decide +kernel
theorem dX5_planned_30 : decode cX5_planned 30 = .ok (.iconst 1, 1) := by decide +kernel
theorem dX5_planned_31 : decode cX5_planned 31 = .ok (.isub, 1) := by decide +kernel
theorem dX5_planned_32 : decode cX5_planned 32 = .ok (.invokestatic 61, 3) := by decide +kernel
theorem dX5_planned_35 : decode cX5_planned 35 = .ok (.ifCond .ne 14, 3) := by decide +kernel
theorem dX5_planned_38 : decode cX5_planned 38 = .ok (.new 134, 3) := by decide +kernel
theorem dX5_planned_41 : decode cX5_planned 41 = .ok (.dup, 1) := by decide +kernel
theorem dX5_planned_42 : decode cX5_planned 42 = .ok (.ldc_w 307, 3) := by decide +kernel
theorem dX5_planned_45 : decode cX5_planned 45 = .ok (.invokespecial 138, 3) := by decide +kernel
theorem dX5_planned_48 : decode cX5_planned 48 = .ok (.athrow, 1) := by decide +kernel
theorem dX5_planned_49 : decode cX5_planned 49 = .ok (.aload_n 0, 1) := by decide +kernel
theorem dX5_planned_50 : decode cX5_planned 50 = .ok (.getfield 40, 3) := by decide +kernel
theorem dX5_planned_53 : decode cX5_planned 53 = .ok (.getfield 299, 3) := by decide +kernel
theorem dX5_planned_56 : decode cX5_planned 56 = .ok (.iload_n 1, 1) := by decide +kernel
theorem dX5_planned_57 : decode cX5_planned 57 = .ok (.invokestatic 145, 3) := by decide +kernel
theorem dX5_planned_60 : decode cX5_planned 60 = .ok (.ireturn, 1) := by decide +kernel
theorem dX5_feed_0 : decode cX5_feed 0 = .ok (.aload_n 0, 1) := by decide +kernel
theorem dX5_feed_1 : decode cX5_feed 1 = .ok (.getfield 47, 3) := by decide +kernel
theorem dX5_feed_4 : decode cX5_feed 4 = .ok (.getfield 126, 3) := by decide +kernel
theorem dX5_feed_7 : decode cX5_feed 7 = .ok (.bipush 60, 2) := by decide +kernel
theorem dX5_feed_9 : decode cX5_feed 9 = .ok (.if_icmp .lt 14, 3) := by decide +kernel
theorem dX5_feed_12 : decode cX5_feed 12 = .ok (.new 309, 3) := by decide +kernel
theorem dX5_feed_15 : decode cX5_feed 15 = .ok (.dup, 1) := by decide +kernel
theorem dX5_feed_16 : decode cX5_feed 16 = .ok (.ldc_w 311, 3) := by decide +kernel
theorem dX5_feed_19 : decode cX5_feed 19 = .ok (.invokespecial 313, 3) := by decide +kernel
theorem dX5_feed_22 : decode cX5_feed 22 = .ok (.athrow, 1) := by decide +kernel
theorem dX5_feed_23 : decode cX5_feed 23 = .ok (.aload_n 0, 1) := by decide +kernel
theorem dX5_feed_24 : decode cX5_feed 24 = .ok (.getfield 47, 3) := by decide +kernel
theorem dX5_feed_27 : decode cX5_feed 27 = .ok (.iload_n 1, 1) := by decide +kernel
theorem dX5_feed_28 : decode cX5_feed 28 = .ok (.invokevirtual 314, 3) := by decide +kernel
theorem dX5_feed_31 : decode cX5_feed 31 = .ok (.aload_n 0, 1) := by decide +kernel
theorem dX5_feed_32 : decode cX5_feed 32 = .ok (.getfield 47, 3) := by decide +kernel
theorem dX5_feed_35 : decode cX5_feed 35 = .ok (.getfield 126, 3) := by decide +kernel
theorem dX5_feed_38 : decode cX5_feed 38 = .ok (.ireturn, 1) := by decide +kernel
theorem dX5_read_0 : decode cX5_read 0 = .ok (.aload_n 0, 1) := by decide +kernel
theorem dX5_read_1 : decode cX5_read 1 = .ok (.getfield 47, 3) := by decide +kernel
theorem dX5_read_4 : decode cX5_read 4 = .ok (.invokevirtual 318, 3) := by decide +kernel
theorem dX5_read_7 : decode cX5_read 7 = .ok (.istore_n 1, 1) := by decide +kernel
theorem dX5_read_8 : decode cX5_read 8 = .ok (.iload_n 1, 1) := by decide +kernel
theorem dX5_read_9 : decode cX5_read 9 = .ok (.ifCond .lt 27, 3) := by decide +kernel
theorem dX5_read_12 : decode cX5_read 12 = .ok (.aload_n 0, 1) := by decide +kernel
theorem dX5_read_13 : decode cX5_read 13 = .ok (.getfield 47, 3) := by decide +kernel
theorem dX5_read_16 : decode cX5_read 16 = .ok (.iconst 0, 1) := by decide +kernel
theorem dX5_read_17 : decode cX5_read 17 = .ok (.putfield 126, 3) := by decide +kernel
theorem dX5_read_20 : decode cX5_read 20 = .ok (.aload_n 0, 1) := by decide +kernel
theorem dX5_read_21 : decode cX5_read 21 = .ok (.iload_n 1, 1) := by decide +kernel
theorem dX5_read_22 : decode cX5_read 22 = .ok (.putfield 51, 3) := by decide +kernel
theorem dX5_read_25 : decode cX5_read 25 = .ok (.new 65, 3) := by decide +kernel
theorem dX5_read_28 : decode cX5_read 28 = .ok (.dup, 1) := by decide +kernel
theorem dX5_read_29 : decode cX5_read 29 = .ok (.ldc_w 321, 3) := by decide +kernel
theorem dX5_read_32 : decode cX5_read 32 = .ok (.invokespecial 69, 3) := by decide +kernel
theorem dX5_read_35 : decode cX5_read 35 = .ok (.athrow, 1) := by decide +kernel
theorem dX5_read_36 : decode cX5_read 36 = .ok (.iconst 0, 1) := by decide +kernel
theorem dX5_read_37 : decode cX5_read 37 = .ok (.istore_n 2, 1) := by decide +kernel
theorem dX5_read_38 : decode cX5_read 38 = .ok (.iload_n 2, 1) := by decide +kernel
theorem dX5_read_39 : decode cX5_read 39 = .ok (.aload_n 0, 1) := by decide +kernel
theorem dX5_read_40 : decode cX5_read 40 = .ok (.getfield 47, 3) := by decide +kernel
theorem dX5_read_43 : decode cX5_read 43 = .ok (.getfield 323, 3) := by decide +kernel
theorem dX5_read_46 : decode cX5_read 46 = .ok (.if_icmp .ge 51, 3) := by decide +kernel
theorem dX5_read_49 : decode cX5_read 49 = .ok (.aload_n 0, 1) := by decide +kernel
theorem dX5_read_50 : decode cX5_read 50 = .ok (.getfield 47, 3) := by decide +kernel
theorem dX5_read_53 : decode cX5_read 53 = .ok (.iload_n 2, 1) := by decide +kernel
theorem dX5_read_54 : decode cX5_read 54 = .ok (.aload_n 0, 1) := by decide +kernel
theorem dX5_read_55 : decode cX5_read 55 = .ok (.getfield 10, 3) := by decide +kernel
theorem dX5_read_58 : decode cX5_read 58 = .ok (.invokevirtual 326, 3) := by decide +kernel
theorem dX5_read_61 : decode cX5_read 61 = .ok (.istore_n 3, 1) := by decide +kernel
theorem dX5_read_62 : decode cX5_read 62 = .ok (.iload_n 3, 1) := by decide +kernel
theorem dX5_read_63 : decode cX5_read 63 = .ok (.ifCond .lt 28, 3) := by decide +kernel
theorem dX5_read_66 : decode cX5_read 66 = .ok (.aload_n 0, 1) := by decide +kernel
theorem dX5_read_67 : decode cX5_read 67 = .ok (.getfield 47, 3) := by decide +kernel
theorem dX5_read_70 : decode cX5_read 70 = .ok (.iconst 0, 1) := by decide +kernel
theorem dX5_read_71 : decode cX5_read 71 = .ok (.putfield 126, 3) := by decide +kernel
theorem dX5_read_74 : decode cX5_read 74 = .ok (.aload_n 0, 1) := by decide +kernel
theorem dX5_read_75 : decode cX5_read 75 = .ok (.iload_n 3, 1) := by decide +kernel
theorem dX5_read_76 : decode cX5_read 76 = .ok (.iload_n 2, 1) := by decide +kernel
theorem dX5_read_77 : decode cX5_read 77 = .ok (.invokevirtual 206, 3) := by decide +kernel
theorem dX5_read_80 : decode cX5_read 80 = .ok (.new 209, 3) := by decide +kernel
theorem dX5_read_83 : decode cX5_read 83 = .ok (.dup, 1) := by decide +kernel
theorem dX5_read_84 : decode cX5_read 84 = .ok (.ldc_w 330, 3) := by decide +kernel
theorem dX5_read_87 : decode cX5_read 87 = .ok (.invokespecial 213, 3) := by decide +kernel
theorem dX5_read_90 : decode cX5_read 90 = .ok (.athrow, 1) := by decide +kernel
theorem dX5_read_91 : decode cX5_read 91 = .ok (.iinc 2 1, 3) := by decide +kernel
theorem dX5_read_94 : decode cX5_read 94 = .ok (.goto (-56), 3) := by decide +kernel
theorem dX5_read_97 : decode cX5_read 97 = .ok (.aload_n 0, 1) := by decide +kernel
theorem dX5_read_98 : decode cX5_read 98 = .ok (.getfield 26, 3) := by decide +kernel
theorem dX5_read_101 : decode cX5_read 101 = .ok (.aload_n 0, 1) := by decide +kernel
theorem dX5_read_102 : decode cX5_read 102 = .ok (.getfield 10, 3) := by decide +kernel
theorem dX5_read_105 : decode cX5_read 105 = .ok (.invokevirtual 72, 3) := by decide +kernel
theorem dX5_read_108 : decode cX5_read 108 = .ok (.iconst 0, 1) := by decide +kernel
theorem dX5_read_109 : decode cX5_read 109 = .ok (.istore_n 2, 1) := by decide +kernel
theorem dX5_read_110 : decode cX5_read 110 = .ok (.iload_n 2, 1) := by decide +kernel
theorem dX5_read_111 : decode cX5_read 111 = .ok (.aload_n 0, 1) := by decide +kernel
theorem dX5_read_112 : decode cX5_read 112 = .ok (.getfield 47, 3) := by decide +kernel
theorem dX5_read_115 : decode cX5_read 115 = .ok (.getfield 323, 3) := by decide +kernel
theorem dX5_read_118 : decode cX5_read 118 = .ok (.if_icmp .ge 21, 3) := by decide +kernel
theorem dX5_read_121 : decode cX5_read 121 = .ok (.aload_n 0, 1) := by decide +kernel
theorem dX5_read_122 : decode cX5_read 122 = .ok (.getfield 47, 3) := by decide +kernel
theorem dX5_read_125 : decode cX5_read 125 = .ok (.iload_n 2, 1) := by decide +kernel
theorem dX5_read_126 : decode cX5_read 126 = .ok (.aload_n 0, 1) := by decide +kernel
theorem dX5_read_127 : decode cX5_read 127 = .ok (.getfield 10, 3) := by decide +kernel
theorem dX5_read_130 : decode cX5_read 130 = .ok (.invokevirtual 332, 3) := by decide +kernel
theorem dX5_read_133 : decode cX5_read 133 = .ok (.iinc 2 1, 3) := by decide +kernel
theorem dX5_read_136 : decode cX5_read 136 = .ok (.goto (-26), 3) := by decide +kernel
theorem dX5_read_139 : decode cX5_read 139 = .ok (.aload_n 0, 1) := by decide +kernel
theorem dX5_read_140 : decode cX5_read 140 = .ok (.getfield 47, 3) := by decide +kernel
theorem dX5_read_143 : decode cX5_read 143 = .ok (.iconst 0, 1) := by decide +kernel
theorem dX5_read_144 : decode cX5_read 144 = .ok (.putfield 126, 3) := by decide +kernel
theorem dX5_read_147 : decode cX5_read 147 = .ok (.aload_n 0, 1) := by decide +kernel
theorem dX5_read_148 : decode cX5_read 148 = .ok (.getfield 47, 3) := by decide +kernel
theorem dX5_read_151 : decode cX5_read 151 = .ok (.getfield 323, 3) := by decide +kernel
theorem dX5_read_154 : decode cX5_read 154 = .ok (.ireturn, 1) := by decide +kernel
theorem dX5_faultPosition_0 : decode cX5_faultPosition 0 = .ok (.aload_n 0, 1) := by decide +kernel
theorem dX5_faultPosition_1 : decode cX5_faultPosition 1 = .ok (.getfield 51, 3) := by decide +kernel
theorem dX5_faultPosition_4 : decode cX5_faultPosition 4 = .ok (.ifCond .ge 14, 3) := by decide +kernel
theorem dX5_faultPosition_7 : decode cX5_faultPosition 7 = .ok (.new 302, 3) := by decide +kernel
theorem dX5_faultPosition_10 : decode cX5_faultPosition 10 = .ok (.dup, 1) := by decide +kernel
theorem dX5_faultPosition_11 : decode cX5_faultPosition 11 = .ok (.ldc_w 336, 3) := by decide +kernel
theorem dX5_faultPosition_14 : decode cX5_faultPosition 14 = .ok (.invokespecial 306, 3) := by decide +kernel
theorem dX5_faultPosition_17 : decode cX5_faultPosition 17 = .ok (.athrow, 1) := by decide +kernel
theorem dX5_faultPosition_18 : decode cX5_faultPosition 18 = .ok (.aload_n 0, 1) := by decide +kernel
theorem dX5_faultPosition_19 : decode cX5_faultPosition 19 = .ok (.getfield 51, 3) := by decide +kernel
theorem dX5_faultPosition_22 : decode cX5_faultPosition 22 = .ok (.ireturn, 1) := by decide +kernel
theorem dX5_refusal_0 : decode cX5_refusal 0 = .ok (.aload_n 0, 1) := by decide +kernel
theorem dX5_refusal_1 : decode cX5_refusal 1 = .ok (.getfield 55, 3) := by decide +kernel
theorem dX5_refusal_4 : decode cX5_refusal 4 = .ok (.ifCond .ge 14, 3) := by decide +kernel
theorem dX5_refusal_7 : decode cX5_refusal 7 = .ok (.new 302, 3) := by decide +kernel
theorem dX5_refusal_10 : decode cX5_refusal 10 = .ok (.dup, 1) := by decide +kernel
theorem dX5_refusal_11 : decode cX5_refusal 11 = .ok (.ldc_w 338, 3) := by decide +kernel
theorem dX5_refusal_14 : decode cX5_refusal 14 = .ok (.invokespecial 306, 3) := by decide +kernel
theorem dX5_refusal_17 : decode cX5_refusal 17 = .ok (.athrow, 1) := by decide +kernel
theorem dX5_refusal_18 : decode cX5_refusal 18 = .ok (.iload_n 1, 1) := by decide +kernel
theorem dX5_refusal_19 : decode cX5_refusal 19 = .ok (.ifCond .eq 10, 3) := by decide +kernel
theorem dX5_refusal_22 : decode cX5_refusal 22 = .ok (.aload_n 0, 1) := by decide +kernel
theorem dX5_refusal_23 : decode cX5_refusal 23 = .ok (.getfield 55, 3) := by decide +kernel
theorem dX5_refusal_26 : decode cX5_refusal 26 = .ok (.goto 7, 3) := by decide +kernel
theorem dX5_refusal_29 : decode cX5_refusal 29 = .ok (.aload_n 0, 1) := by decide +kernel
theorem dX5_refusal_30 : decode cX5_refusal 30 = .ok (.getfield 58, 3) := by decide +kernel
theorem dX5_refusal_33 : decode cX5_refusal 33 = .ok (.ireturn, 1) := by decide +kernel
theorem dX5_undo_0 : decode cX5_undo 0 = .ok (.aload_n 0, 1) := by decide +kernel
theorem dX5_undo_1 : decode cX5_undo 1 = .ok (.getfield 26, 3) := by decide +kernel
theorem dX5_undo_4 : decode cX5_undo 4 = .ok (.getfield 123, 3) := by decide +kernel
theorem dX5_undo_7 : decode cX5_undo 7 = .ok (.iconst 1, 1) := by decide +kernel
theorem dX5_undo_8 : decode cX5_undo 8 = .ok (.if_icmp .ge 14, 3) := by decide +kernel
theorem dX5_undo_11 : decode cX5_undo 11 = .ok (.new 309, 3) := by decide +kernel
theorem dX5_undo_14 : decode cX5_undo 14 = .ok (.dup, 1) := by decide +kernel
theorem dX5_undo_15 : decode cX5_undo 15 = .ok (.ldc_w 340, 3) := by decide +kernel
theorem dX5_undo_18 : decode cX5_undo 18 = .ok (.invokespecial 313, 3) := by decide +kernel
theorem dX5_undo_21 : decode cX5_undo 21 = .ok (.athrow, 1) := by decide +kernel
theorem dX5_undo_22 : decode cX5_undo 22 = .ok (.aload_n 0, 1) := by decide +kernel
theorem dX5_undo_23 : decode cX5_undo 23 = .ok (.getfield 26, 3) := by decide +kernel
theorem dX5_undo_26 : decode cX5_undo 26 = .ok (.aload_n 0, 1) := by decide +kernel
theorem dX5_undo_27 : decode cX5_undo 27 = .ok (.getfield 10, 3) := by decide +kernel
theorem dX5_undo_30 : decode cX5_undo 30 = .ok (.invokevirtual 342, 3) := by decide +kernel
theorem dX5_undo_33 : decode cX5_undo 33 = .ok (.aload_n 0, 1) := by decide +kernel
theorem dX5_undo_34 : decode cX5_undo 34 = .ok (.getfield 26, 3) := by decide +kernel
theorem dX5_undo_37 : decode cX5_undo 37 = .ok (.getfield 123, 3) := by decide +kernel
theorem dX5_undo_40 : decode cX5_undo 40 = .ok (.ireturn, 1) := by decide +kernel
theorem dX5_saveSnapshot_0 : decode cX5_saveSnapshot 0 = .ok (.aload_n 0, 1) := by decide +kernel
theorem dX5_saveSnapshot_1 : decode cX5_saveSnapshot 1 = .ok (.getfield 16, 3) := by decide +kernel
theorem dX5_saveSnapshot_4 : decode cX5_saveSnapshot 4 = .ok (.aload_n 0, 1) := by decide +kernel
theorem dX5_saveSnapshot_5 : decode cX5_saveSnapshot 5 = .ok (.getfield 10, 3) := by decide +kernel
theorem dX5_saveSnapshot_8 : decode cX5_saveSnapshot 8 = .ok (.invokevirtual 345, 3) := by decide +kernel
theorem dX5_saveSnapshot_11 : decode cX5_saveSnapshot 11 = .ok (.aload_n 0, 1) := by decide +kernel
theorem dX5_saveSnapshot_12 : decode cX5_saveSnapshot 12 = .ok (.iconst 1, 1) := by decide +kernel
theorem dX5_saveSnapshot_13 : decode cX5_saveSnapshot 13 = .ok (.putfield 19, 3) := by decide +kernel
theorem dX5_saveSnapshot_16 : decode cX5_saveSnapshot 16 = .ok (.aload_n 0, 1) := by decide +kernel
theorem dX5_saveSnapshot_17 : decode cX5_saveSnapshot 17 = .ok (.getfield 10, 3) := by decide +kernel
theorem dX5_saveSnapshot_20 : decode cX5_saveSnapshot 20 = .ok (.invokevirtual 80, 3) := by decide +kernel
theorem dX5_saveSnapshot_23 : decode cX5_saveSnapshot 23 = .ok (.ireturn, 1) := by decide +kernel
theorem dX5_restoreSnapshot_0 : decode cX5_restoreSnapshot 0 = .ok (.aload_n 0, 1) := by decide +kernel
theorem dX5_restoreSnapshot_1 : decode cX5_restoreSnapshot 1 = .ok (.getfield 19, 3) := by decide +kernel
theorem dX5_restoreSnapshot_4 : decode cX5_restoreSnapshot 4 = .ok (.ifCond .ne 14, 3) := by decide +kernel
theorem dX5_restoreSnapshot_7 : decode cX5_restoreSnapshot 7 = .ok (.new 309, 3) := by decide +kernel
theorem dX5_restoreSnapshot_10 : decode cX5_restoreSnapshot 10 = .ok (.dup, 1) := by decide +kernel
theorem dX5_restoreSnapshot_11 : decode cX5_restoreSnapshot 11 = .ok (.ldc_w 348, 3) := by decide +kernel
theorem dX5_restoreSnapshot_14 : decode cX5_restoreSnapshot 14 = .ok (.invokespecial 313, 3) := by decide +kernel
theorem dX5_restoreSnapshot_17 : decode cX5_restoreSnapshot 17 = .ok (.athrow, 1) := by decide +kernel
theorem dX5_restoreSnapshot_18 : decode cX5_restoreSnapshot 18 = .ok (.aload_n 0, 1) := by decide +kernel
theorem dX5_restoreSnapshot_19 : decode cX5_restoreSnapshot 19 = .ok (.getfield 10, 3) := by decide +kernel
theorem dX5_restoreSnapshot_22 : decode cX5_restoreSnapshot 22 = .ok (.aload_n 0, 1) := by decide +kernel
theorem dX5_restoreSnapshot_23 : decode cX5_restoreSnapshot 23 = .ok (.getfield 16, 3) := by decide +kernel
theorem dX5_restoreSnapshot_26 : decode cX5_restoreSnapshot 26 = .ok (.invokevirtual 345, 3) := by decide +kernel
theorem dX5_restoreSnapshot_29 : decode cX5_restoreSnapshot 29 = .ok (.aload_n 0, 1) := by decide +kernel
theorem dX5_restoreSnapshot_30 : decode cX5_restoreSnapshot 30 = .ok (.getfield 26, 3) := by decide +kernel
theorem dX5_restoreSnapshot_33 : decode cX5_restoreSnapshot 33 = .ok (.iconst 0, 1) := by decide +kernel
theorem dX5_restoreSnapshot_34 : decode cX5_restoreSnapshot 34 = .ok (.putfield 123, 3) := by decide +kernel
theorem dX5_restoreSnapshot_37 : decode cX5_restoreSnapshot 37 = .ok (.aload_n 0, 1) := by decide +kernel
theorem dX5_restoreSnapshot_38 : decode cX5_restoreSnapshot 38 = .ok (.getfield 10, 3) := by decide +kernel
theorem dX5_restoreSnapshot_41 : decode cX5_restoreSnapshot 41 = .ok (.invokevirtual 80, 3) := by decide +kernel
theorem dX5_restoreSnapshot_44 : decode cX5_restoreSnapshot 44 = .ok (.ireturn, 1) := by decide +kernel
theorem dX5_refuse_0 : decode cX5_refuse 0 = .ok (.aload_n 0, 1) := by decide +kernel
theorem dX5_refuse_1 : decode cX5_refuse 1 = .ok (.iload_n 1, 1) := by decide +kernel
theorem dX5_refuse_2 : decode cX5_refuse 2 = .ok (.putfield 55, 3) := by decide +kernel
theorem dX5_refuse_5 : decode cX5_refuse 5 = .ok (.aload_n 0, 1) := by decide +kernel
theorem dX5_refuse_6 : decode cX5_refuse 6 = .ok (.iload_n 2, 1) := by decide +kernel
theorem dX5_refuse_7 : decode cX5_refuse 7 = .ok (.putfield 58, 3) := by decide +kernel
theorem dX5_refuse_10 : decode cX5_refuse 10 = .ok (.return_, 1) := by decide +kernel
theorem dX5_hasPlace_0 : decode cX5_hasPlace 0 = .ok (.aload_n 0, 1) := by decide +kernel
theorem dX5_hasPlace_1 : decode cX5_hasPlace 1 = .ok (.getfield 10, 3) := by decide +kernel
theorem dX5_hasPlace_4 : decode cX5_hasPlace 4 = .ok (.iload_n 1, 1) := by decide +kernel
theorem dX5_hasPlace_5 : decode cX5_hasPlace 5 = .ok (.invokevirtual 164, 3) := by decide +kernel
theorem dX5_hasPlace_8 : decode cX5_hasPlace 8 = .ok (.ifCond .eq 43, 3) := by decide +kernel
theorem dX5_hasPlace_11 : decode cX5_hasPlace 11 = .ok (.iload_n 2, 1) := by decide +kernel
theorem dX5_hasPlace_12 : decode cX5_hasPlace 12 = .ok (.iconst 0, 1) := by decide +kernel
theorem dX5_hasPlace_13 : decode cX5_hasPlace 13 = .ok (.aload_n 0, 1) := by decide +kernel
theorem dX5_hasPlace_14 : decode cX5_hasPlace 14 = .ok (.getfield 10, 3) := by decide +kernel
theorem dX5_hasPlace_17 : decode cX5_hasPlace 17 = .ok (.iload_n 1, 1) := by decide +kernel
theorem dX5_hasPlace_18 : decode cX5_hasPlace 18 = .ok (.invokevirtual 217, 3) := by decide +kernel
theorem dX5_hasPlace_21 : decode cX5_hasPlace 21 = .ok (.iconst 1, 1) := by decide +kernel
theorem dX5_hasPlace_22 : decode cX5_hasPlace 22 = .ok (.isub, 1) := by decide +kernel
theorem dX5_hasPlace_23 : decode cX5_hasPlace 23 = .ok (.invokestatic 61, 3) := by decide +kernel
theorem dX5_hasPlace_26 : decode cX5_hasPlace 26 = .ok (.ifCond .eq 25, 3) := by decide +kernel
theorem dX5_hasPlace_29 : decode cX5_hasPlace 29 = .ok (.iload_n 3, 1) := by decide +kernel
theorem dX5_hasPlace_30 : decode cX5_hasPlace 30 = .ok (.iconst 0, 1) := by decide +kernel
theorem dX5_hasPlace_31 : decode cX5_hasPlace 31 = .ok (.aload_n 0, 1) := by decide +kernel
theorem dX5_hasPlace_32 : decode cX5_hasPlace 32 = .ok (.getfield 10, 3) := by decide +kernel
theorem dX5_hasPlace_35 : decode cX5_hasPlace 35 = .ok (.iload_n 1, 1) := by decide +kernel
theorem dX5_hasPlace_36 : decode cX5_hasPlace 36 = .ok (.invokevirtual 220, 3) := by decide +kernel
theorem dX5_hasPlace_39 : decode cX5_hasPlace 39 = .ok (.iconst 1, 1) := by decide +kernel
theorem dX5_hasPlace_40 : decode cX5_hasPlace 40 = .ok (.isub, 1) := by decide +kernel
theorem dX5_hasPlace_41 : decode cX5_hasPlace 41 = .ok (.invokestatic 61, 3) := by decide +kernel
theorem dX5_hasPlace_44 : decode cX5_hasPlace 44 = .ok (.ifCond .eq 7, 3) := by decide +kernel
theorem dX5_hasPlace_47 : decode cX5_hasPlace 47 = .ok (.iconst 1, 1) := by decide +kernel
theorem dX5_hasPlace_48 : decode cX5_hasPlace 48 = .ok (.goto 4, 3) := by decide +kernel
theorem dX5_hasPlace_51 : decode cX5_hasPlace 51 = .ok (.iconst 0, 1) := by decide +kernel
theorem dX5_hasPlace_52 : decode cX5_hasPlace 52 = .ok (.ireturn, 1) := by decide +kernel
theorem dX5_weigh_0 : decode cX5_weigh 0 = .ok (.aload_n 0, 1) := by decide +kernel
theorem dX5_weigh_1 : decode cX5_weigh 1 = .ok (.getfield 33, 3) := by decide +kernel
theorem dX5_weigh_4 : decode cX5_weigh 4 = .ok (.aload_n 0, 1) := by decide +kernel
theorem dX5_weigh_5 : decode cX5_weigh 5 = .ok (.getfield 10, 3) := by decide +kernel
theorem dX5_weigh_8 : decode cX5_weigh 8 = .ok (.iload_n 1, 1) := by decide +kernel
theorem dX5_weigh_9 : decode cX5_weigh 9 = .ok (.invokevirtual 170, 3) := by decide +kernel
theorem dX5_weigh_12 : decode cX5_weigh 12 = .ok (.aload_n 0, 1) := by decide +kernel
theorem dX5_weigh_13 : decode cX5_weigh 13 = .ok (.getfield 40, 3) := by decide +kernel
theorem dX5_weigh_16 : decode cX5_weigh 16 = .ok (.getfield 299, 3) := by decide +kernel
theorem dX5_weigh_19 : decode cX5_weigh 19 = .ok (.iload_n 1, 1) := by decide +kernel
theorem dX5_weigh_20 : decode cX5_weigh 20 = .ok (.invokestatic 145, 3) := by decide +kernel
theorem dX5_weigh_23 : decode cX5_weigh 23 = .ok (.istore_n 2, 1) := by decide +kernel
theorem dX5_weigh_24 : decode cX5_weigh 24 = .ok (.aload_n 0, 1) := by decide +kernel
theorem dX5_weigh_25 : decode cX5_weigh 25 = .ok (.getfield 40, 3) := by decide +kernel
theorem dX5_weigh_28 : decode cX5_weigh 28 = .ok (.getfield 350, 3) := by decide +kernel
theorem dX5_weigh_31 : decode cX5_weigh 31 = .ok (.iload_n 1, 1) := by decide +kernel
theorem dX5_weigh_32 : decode cX5_weigh 32 = .ok (.aload_n 0, 1) := by decide +kernel
theorem dX5_weigh_33 : decode cX5_weigh 33 = .ok (.getfield 33, 3) := by decide +kernel
theorem dX5_weigh_36 : decode cX5_weigh 36 = .ok (.iload_n 2, 1) := by decide +kernel
theorem dX5_weigh_37 : decode cX5_weigh 37 = .ok (.invokevirtual 276, 3) := by decide +kernel
theorem dX5_weigh_40 : decode cX5_weigh 40 = .ok (.invokestatic 149, 3) := by decide +kernel
theorem dX5_weigh_43 : decode cX5_weigh 43 = .ok (.aload_n 0, 1) := by decide +kernel
theorem dX5_weigh_44 : decode cX5_weigh 44 = .ok (.getfield 40, 3) := by decide +kernel
theorem dX5_weigh_47 : decode cX5_weigh 47 = .ok (.getfield 296, 3) := by decide +kernel
theorem dX5_weigh_50 : decode cX5_weigh 50 = .ok (.iload_n 1, 1) := by decide +kernel
theorem dX5_weigh_51 : decode cX5_weigh 51 = .ok (.aload_n 0, 1) := by decide +kernel
theorem dX5_weigh_52 : decode cX5_weigh 52 = .ok (.getfield 33, 3) := by decide +kernel
theorem dX5_weigh_55 : decode cX5_weigh 55 = .ok (.iload_n 2, 1) := by decide +kernel
theorem dX5_weigh_56 : decode cX5_weigh 56 = .ok (.invokevirtual 256, 3) := by decide +kernel
theorem dX5_weigh_59 : decode cX5_weigh 59 = .ok (.invokestatic 149, 3) := by decide +kernel
theorem dX5_weigh_62 : decode cX5_weigh 62 = .ok (.return_, 1) := by decide +kernel
theorem dX5_isBetween_0 : decode cX5_isBetween 0 = .ok (.iload_n 0, 1) := by decide +kernel
theorem dX5_isBetween_1 : decode cX5_isBetween 1 = .ok (.iload_n 1, 1) := by decide +kernel
theorem dX5_isBetween_2 : decode cX5_isBetween 2 = .ok (.if_icmp .lt 12, 3) := by decide +kernel
theorem dX5_isBetween_5 : decode cX5_isBetween 5 = .ok (.iload_n 0, 1) := by decide +kernel
theorem dX5_isBetween_6 : decode cX5_isBetween 6 = .ok (.iload_n 2, 1) := by decide +kernel
theorem dX5_isBetween_7 : decode cX5_isBetween 7 = .ok (.if_icmp .gt 7, 3) := by decide +kernel
theorem dX5_isBetween_10 : decode cX5_isBetween 10 = .ok (.iconst 1, 1) := by decide +kernel
theorem dX5_isBetween_11 : decode cX5_isBetween 11 = .ok (.goto 4, 3) := by decide +kernel
theorem dX5_isBetween_14 : decode cX5_isBetween 14 = .ok (.iconst 0, 1) := by decide +kernel
theorem dX5_isBetween_15 : decode cX5_isBetween 15 = .ok (.ireturn, 1) := by decide +kernel
theorem dX5_isSettable_0 : decode cX5_isSettable 0 = .ok (.iload_n 0, 1) := by decide +kernel
theorem dX5_isSettable_1 : decode cX5_isSettable 1 = .ok (.tableswitch 64 0 2 #[27, 49, 56], 27) := by decide +kernel
theorem dX5_isSettable_28 : decode cX5_isSettable 28 = .ok (.iload_n 1, 1) := by decide +kernel
theorem dX5_isSettable_29 : decode cX5_isSettable 29 = .ok (.iconst 2, 1) := by decide +kernel
theorem dX5_isSettable_30 : decode cX5_isSettable 30 = .ok (.if_icmp .eq 14, 3) := by decide +kernel
theorem dX5_isSettable_33 : decode cX5_isSettable 33 = .ok (.iload_n 1, 1) := by decide +kernel
theorem dX5_isSettable_34 : decode cX5_isSettable 34 = .ok (.iconst 4, 1) := by decide +kernel
theorem dX5_isSettable_35 : decode cX5_isSettable 35 = .ok (.if_icmp .eq 9, 3) := by decide +kernel
theorem dX5_isSettable_38 : decode cX5_isSettable 38 = .ok (.iload_n 1, 1) := by decide +kernel
theorem dX5_isSettable_39 : decode cX5_isSettable 39 = .ok (.bipush 8, 2) := by decide +kernel
theorem dX5_isSettable_41 : decode cX5_isSettable 41 = .ok (.if_icmp .ne 7, 3) := by decide +kernel
theorem dX5_isSettable_44 : decode cX5_isSettable 44 = .ok (.iconst 1, 1) := by decide +kernel
theorem dX5_isSettable_45 : decode cX5_isSettable 45 = .ok (.goto 4, 3) := by decide +kernel
theorem dX5_isSettable_48 : decode cX5_isSettable 48 = .ok (.iconst 0, 1) := by decide +kernel
theorem dX5_isSettable_49 : decode cX5_isSettable 49 = .ok (.ireturn, 1) := by decide +kernel
theorem dX5_isSettable_50 : decode cX5_isSettable 50 = .ok (.iload_n 1, 1) := by decide +kernel
theorem dX5_isSettable_51 : decode cX5_isSettable 51 = .ok (.iconst 0, 1) := by decide +kernel
theorem dX5_isSettable_52 : decode cX5_isSettable 52 = .ok (.iconst 3, 1) := by decide +kernel
theorem dX5_isSettable_53 : decode cX5_isSettable 53 = .ok (.invokestatic 61, 3) := by decide +kernel
theorem dX5_isSettable_56 : decode cX5_isSettable 56 = .ok (.ireturn, 1) := by decide +kernel
theorem dX5_isSettable_57 : decode cX5_isSettable 57 = .ok (.iload_n 1, 1) := by decide +kernel
theorem dX5_isSettable_58 : decode cX5_isSettable 58 = .ok (.iconst 0, 1) := by decide +kernel
theorem dX5_isSettable_59 : decode cX5_isSettable 59 = .ok (.bipush 8, 2) := by decide +kernel
theorem dX5_isSettable_61 : decode cX5_isSettable 61 = .ok (.invokestatic 61, 3) := by decide +kernel
theorem dX5_isSettable_64 : decode cX5_isSettable 64 = .ok (.ireturn, 1) := by decide +kernel
theorem dX5_isSettable_65 : decode cX5_isSettable 65 = .ok (.iconst 0, 1) := by decide +kernel
theorem dX5_isSettable_66 : decode cX5_isSettable 66 = .ok (.ireturn, 1) := by decide +kernel
theorem dX5_at_0 : decode cX5_at 0 = .ok (.aload_n 0, 1) := by decide +kernel
theorem dX5_at_1 : decode cX5_at 1 = .ok (.ifnull 19, 3) := by decide +kernel
theorem dX5_at_4 : decode cX5_at 4 = .ok (.iload_n 1, 1) := by decide +kernel
theorem dX5_at_5 : decode cX5_at 5 = .ok (.ifCond .lt 15, 3) := by decide +kernel
theorem dX5_at_8 : decode cX5_at 8 = .ok (.iload_n 1, 1) := by decide +kernel
theorem dX5_at_9 : decode cX5_at 9 = .ok (.aload_n 0, 1) := by decide +kernel
theorem dX5_at_10 : decode cX5_at 10 = .ok (.arraylength, 1) := by decide +kernel
theorem dX5_at_11 : decode cX5_at 11 = .ok (.if_icmp .ge 9, 3) := by decide +kernel
theorem dX5_at_14 : decode cX5_at 14 = .ok (.aload_n 0, 1) := by decide +kernel
theorem dX5_at_15 : decode cX5_at 15 = .ok (.iload_n 1, 1) := by decide +kernel
theorem dX5_at_16 : decode cX5_at 16 = .ok (.iaload, 1) := by decide +kernel
theorem dX5_at_17 : decode cX5_at 17 = .ok (.goto 4, 3) := by decide +kernel
theorem dX5_at_20 : decode cX5_at 20 = .ok (.iconst 0, 1) := by decide +kernel
theorem dX5_at_21 : decode cX5_at 21 = .ok (.ireturn, 1) := by decide +kernel
theorem dX5_put_0 : decode cX5_put 0 = .ok (.aload_n 0, 1) := by decide +kernel
theorem dX5_put_1 : decode cX5_put 1 = .ok (.ifnull 17, 3) := by decide +kernel
theorem dX5_put_4 : decode cX5_put 4 = .ok (.iload_n 1, 1) := by decide +kernel
theorem dX5_put_5 : decode cX5_put 5 = .ok (.ifCond .lt 13, 3) := by decide +kernel
theorem dX5_put_8 : decode cX5_put 8 = .ok (.iload_n 1, 1) := by decide +kernel
theorem dX5_put_9 : decode cX5_put 9 = .ok (.aload_n 0, 1) := by decide +kernel
theorem dX5_put_10 : decode cX5_put 10 = .ok (.arraylength, 1) := by decide +kernel
theorem dX5_put_11 : decode cX5_put 11 = .ok (.if_icmp .ge 7, 3) := by decide +kernel
theorem dX5_put_14 : decode cX5_put 14 = .ok (.aload_n 0, 1) := by decide +kernel
theorem dX5_put_15 : decode cX5_put 15 = .ok (.iload_n 1, 1) := by decide +kernel
theorem dX5_put_16 : decode cX5_put 16 = .ok (.iload_n 2, 1) := by decide +kernel
theorem dX5_put_17 : decode cX5_put 17 = .ok (.iastore, 1) := by decide +kernel
theorem dX5_put_18 : decode cX5_put 18 = .ok (.return_, 1) := by decide +kernel
theorem dX5_quotient_0 : decode cX5_quotient 0 = .ok (.iload_n 1, 1) := by decide +kernel
theorem dX5_quotient_1 : decode cX5_quotient 1 = .ok (.iconst 1, 1) := by decide +kernel
theorem dX5_quotient_2 : decode cX5_quotient 2 = .ok (.if_icmp .ge 7, 3) := by decide +kernel
theorem dX5_quotient_5 : decode cX5_quotient 5 = .ok (.iconst 0, 1) := by decide +kernel
theorem dX5_quotient_6 : decode cX5_quotient 6 = .ok (.goto 6, 3) := by decide +kernel
theorem dX5_quotient_9 : decode cX5_quotient 9 = .ok (.iload_n 0, 1) := by decide +kernel
theorem dX5_quotient_10 : decode cX5_quotient 10 = .ok (.iload_n 1, 1) := by decide +kernel
theorem dX5_quotient_11 : decode cX5_quotient 11 = .ok (.idiv, 1) := by decide +kernel
theorem dX5_quotient_12 : decode cX5_quotient 12 = .ok (.ireturn, 1) := by decide +kernel
theorem dX5_placeOf_0 : decode cX5_placeOf 0 = .ok (.iload_n 1, 1) := by decide +kernel
theorem dX5_placeOf_1 : decode cX5_placeOf 1 = .ok (.bipush 8, 2) := by decide +kernel
theorem dX5_placeOf_3 : decode cX5_placeOf 3 = .ok (.imul, 1) := by decide +kernel
theorem dX5_placeOf_4 : decode cX5_placeOf 4 = .ok (.iload_n 0, 1) := by decide +kernel
theorem dX5_placeOf_5 : decode cX5_placeOf 5 = .ok (.iadd, 1) := by decide +kernel
theorem dX5_placeOf_6 : decode cX5_placeOf 6 = .ok (.ireturn, 1) := by decide +kernel
theorem dX5_amountOf_0 : decode cX5_amountOf 0 = .ok (.iload_n 0, 1) := by decide +kernel
theorem dX5_amountOf_1 : decode cX5_amountOf 1 = .ok (.ifCond .ge 8, 3) := by decide +kernel
theorem dX5_amountOf_4 : decode cX5_amountOf 4 = .ok (.iload_n 0, 1) := by decide +kernel
theorem dX5_amountOf_5 : decode cX5_amountOf 5 = .ok (.ineg, 1) := by decide +kernel
theorem dX5_amountOf_6 : decode cX5_amountOf 6 = .ok (.goto 4, 3) := by decide +kernel
theorem dX5_amountOf_9 : decode cX5_amountOf 9 = .ok (.iload_n 0, 1) := by decide +kernel
theorem dX5_amountOf_10 : decode cX5_amountOf 10 = .ok (.ireturn, 1) := by decide +kernel
theorem dX6_init_0 : decode cX6_init 0 = .ok (.aload_n 0, 1) := by decide +kernel
theorem dX6_init_1 : decode cX6_init 1 = .ok (.invokespecial 3, 3) := by decide +kernel
theorem dX6_init_4 : decode cX6_init 4 = .ok (.aload_n 0, 1) := by decide +kernel
theorem dX6_init_5 : decode cX6_init 5 = .ok (.sipush 517, 3) := by decide +kernel
theorem dX6_init_8 : decode cX6_init 8 = .ok (.newarray .int, 2) := by decide +kernel
theorem dX6_init_10 : decode cX6_init 10 = .ok (.putfield 9, 3) := by decide +kernel
theorem dX6_init_13 : decode cX6_init 13 = .ok (.aload_n 0, 1) := by decide +kernel
theorem dX6_init_14 : decode cX6_init 14 = .ok (.sipush 4136, 3) := by decide +kernel
theorem dX6_init_17 : decode cX6_init 17 = .ok (.newarray .int, 2) := by decide +kernel
theorem dX6_init_19 : decode cX6_init 19 = .ok (.putfield 13, 3) := by decide +kernel
theorem dX6_init_22 : decode cX6_init 22 = .ok (.aload_n 0, 1) := by decide +kernel
theorem dX6_init_23 : decode cX6_init 23 = .ok (.sipush 517, 3) := by decide +kernel
theorem dX6_init_26 : decode cX6_init 26 = .ok (.newarray .int, 2) := by decide +kernel
theorem dX6_init_28 : decode cX6_init 28 = .ok (.putfield 16, 3) := by decide +kernel
theorem dX6_init_31 : decode cX6_init 31 = .ok (.aload_n 0, 1) := by decide +kernel
theorem dX6_init_32 : decode cX6_init 32 = .ok (.sipush 517, 3) := by decide +kernel
theorem dX6_init_35 : decode cX6_init 35 = .ok (.newarray .int, 2) := by decide +kernel
theorem dX6_init_37 : decode cX6_init 37 = .ok (.putfield 19, 3) := by decide +kernel
theorem dX6_init_40 : decode cX6_init 40 = .ok (.aload_n 0, 1) := by decide +kernel
theorem dX6_init_41 : decode cX6_init 41 = .ok (.bipush 60, 2) := by decide +kernel
theorem dX6_init_43 : decode cX6_init 43 = .ok (.newarray .int, 2) := by decide +kernel
theorem dX6_init_45 : decode cX6_init 45 = .ok (.putfield 22, 3) := by decide +kernel
theorem dX6_init_48 : decode cX6_init 48 = .ok (.aload_n 0, 1) := by decide +kernel
theorem dX6_init_49 : decode cX6_init 49 = .ok (.iconst (-1), 1) := by decide +kernel
theorem dX6_init_50 : decode cX6_init 50 = .ok (.putfield 25, 3) := by decide +kernel
theorem dX6_init_53 : decode cX6_init 53 = .ok (.aload_n 0, 1) := by decide +kernel
theorem dX6_init_54 : decode cX6_init 54 = .ok (.iconst (-1), 1) := by decide +kernel
theorem dX6_init_55 : decode cX6_init 55 = .ok (.putfield 29, 3) := by decide +kernel
theorem dX6_init_58 : decode cX6_init 58 = .ok (.aload_n 0, 1) := by decide +kernel
theorem dX6_init_59 : decode cX6_init 59 = .ok (.bipush 64, 2) := by decide +kernel
theorem dX6_init_61 : decode cX6_init 61 = .ok (.newarray .int, 2) := by decide +kernel
theorem dX6_init_63 : decode cX6_init 63 = .ok (.putfield 32, 3) := by decide +kernel
theorem dX6_init_66 : decode cX6_init 66 = .ok (.aload_n 0, 1) := by decide +kernel
theorem dX6_init_67 : decode cX6_init 67 = .ok (.bipush 64, 2) := by decide +kernel
theorem dX6_init_69 : decode cX6_init 69 = .ok (.newarray .int, 2) := by decide +kernel
theorem dX6_init_71 : decode cX6_init 71 = .ok (.putfield 35, 3) := by decide +kernel
theorem dX6_init_74 : decode cX6_init 74 = .ok (.aload_n 0, 1) := by decide +kernel
theorem dX6_init_75 : decode cX6_init 75 = .ok (.iconst 5, 1) := by decide +kernel
theorem dX6_init_76 : decode cX6_init 76 = .ok (.newarray .int, 2) := by decide +kernel
theorem dX6_init_78 : decode cX6_init 78 = .ok (.putfield 38, 3) := by decide +kernel
theorem dX6_init_81 : decode cX6_init 81 = .ok (.aload_n 0, 1) := by decide +kernel
theorem dX6_init_82 : decode cX6_init 82 = .ok (.iconst 5, 1) := by decide +kernel
theorem dX6_init_83 : decode cX6_init 83 = .ok (.newarray .int, 2) := by decide +kernel
theorem dX6_init_85 : decode cX6_init 85 = .ok (.putfield 41, 3) := by decide +kernel
theorem dX6_init_88 : decode cX6_init 88 = .ok (.aload_n 0, 1) := by decide +kernel
theorem dX6_init_89 : decode cX6_init 89 = .ok (.bipush 64, 2) := by decide +kernel
theorem dX6_init_91 : decode cX6_init 91 = .ok (.newarray .int, 2) := by decide +kernel
theorem dX6_init_93 : decode cX6_init 93 = .ok (.putfield 44, 3) := by decide +kernel
theorem dX6_init_96 : decode cX6_init 96 = .ok (.aload_n 0, 1) := by decide +kernel
theorem dX6_init_97 : decode cX6_init 97 = .ok (.bipush 64, 2) := by decide +kernel
theorem dX6_init_99 : decode cX6_init 99 = .ok (.newarray .boolean, 2) := by decide +kernel
theorem dX6_init_101 : decode cX6_init 101 = .ok (.putfield 47, 3) := by decide +kernel
theorem dX6_init_104 : decode cX6_init 104 = .ok (.aload_n 0, 1) := by decide +kernel
theorem dX6_init_105 : decode cX6_init 105 = .ok (.bipush 64, 2) := by decide +kernel
theorem dX6_init_107 : decode cX6_init 107 = .ok (.newarray .int, 2) := by decide +kernel
theorem dX6_init_109 : decode cX6_init 109 = .ok (.putfield 51, 3) := by decide +kernel
theorem dX6_init_112 : decode cX6_init 112 = .ok (.aload_n 0, 1) := by decide +kernel
theorem dX6_init_113 : decode cX6_init 113 = .ok (.bipush 8, 2) := by decide +kernel
theorem dX6_init_115 : decode cX6_init 115 = .ok (.newarray .int, 2) := by decide +kernel
theorem dX6_init_117 : decode cX6_init 117 = .ok (.putfield 54, 3) := by decide +kernel
theorem dX6_init_120 : decode cX6_init 120 = .ok (.aload_n 0, 1) := by decide +kernel
theorem dX6_init_121 : decode cX6_init 121 = .ok (.bipush 8, 2) := by decide +kernel
theorem dX6_init_123 : decode cX6_init 123 = .ok (.newarray .boolean, 2) := by decide +kernel
theorem dX6_init_125 : decode cX6_init 125 = .ok (.putfield 57, 3) := by decide +kernel
theorem dX6_init_128 : decode cX6_init 128 = .ok (.aload_n 0, 1) := by decide +kernel
theorem dX6_init_129 : decode cX6_init 129 = .ok (.bipush 64, 2) := by decide +kernel
theorem dX6_init_131 : decode cX6_init 131 = .ok (.newarray .long, 2) := by decide +kernel
theorem dX6_init_133 : decode cX6_init 133 = .ok (.putfield 60, 3) := by decide +kernel
theorem dX6_init_136 : decode cX6_init 136 = .ok (.aload_n 0, 1) := by decide +kernel
theorem dX6_init_137 : decode cX6_init 137 = .ok (.bipush 8, 2) := by decide +kernel
theorem dX6_init_139 : decode cX6_init 139 = .ok (.newarray .long, 2) := by decide +kernel
theorem dX6_init_141 : decode cX6_init 141 = .ok (.putfield 64, 3) := by decide +kernel
theorem dX6_init_144 : decode cX6_init 144 = .ok (.aload_n 0, 1) := by decide +kernel
theorem dX6_init_145 : decode cX6_init 145 = .ok (.iconst 4, 1) := by decide +kernel
theorem dX6_init_146 : decode cX6_init 146 = .ok (.newarray .int, 2) := by decide +kernel
theorem dX6_init_148 : decode cX6_init 148 = .ok (.putfield 67, 3) := by decide +kernel
theorem dX6_init_151 : decode cX6_init 151 = .ok (.aload_n 0, 1) := by decide +kernel
theorem dX6_init_152 : decode cX6_init 152 = .ok (.bipush 8, 2) := by decide +kernel
theorem dX6_init_154 : decode cX6_init 154 = .ok (.bipush 8, 2) := by decide +kernel
theorem dX6_init_156 : decode cX6_init 156 = .ok (.invokevirtual 70, 3) := by decide +kernel
theorem dX6_init_159 : decode cX6_init 159 = .ok (.aload_n 0, 1) := by decide +kernel
theorem dX6_init_160 : decode cX6_init 160 = .ok (.getfield 9, 3) := by decide +kernel
theorem dX6_init_163 : decode cX6_init 163 = .ok (.iconst 2, 1) := by decide +kernel
theorem dX6_init_164 : decode cX6_init 164 = .ok (.iconst 4, 1) := by decide +kernel
theorem dX6_init_165 : decode cX6_init 165 = .ok (.iastore, 1) := by decide +kernel
theorem dX6_init_166 : decode cX6_init 166 = .ok (.aload_n 0, 1) := by decide +kernel
theorem dX6_init_167 : decode cX6_init 167 = .ok (.getfield 9, 3) := by decide +kernel
theorem dX6_init_170 : decode cX6_init 170 = .ok (.iconst 3, 1) := by decide +kernel
theorem dX6_init_171 : decode cX6_init 171 = .ok (.iconst 2, 1) := by decide +kernel
theorem dX6_init_172 : decode cX6_init 172 = .ok (.iastore, 1) := by decide +kernel
theorem dX6_init_173 : decode cX6_init 173 = .ok (.return_, 1) := by decide +kernel
theorem dX6_thrown_0 : decode cX6_thrown 0 = .ok (.aload_n 0, 1) := by decide +kernel
theorem dX6_thrown_1 : decode cX6_thrown 1 = .ok (.getfield 74, 3) := by decide +kernel
theorem dX6_thrown_4 : decode cX6_thrown 4 = .ok (.ireturn, 1) := by decide +kernel
theorem dX6_raises_0 : decode cX6_raises 0 = .ok (.aload_n 0, 1) := by decide +kernel
theorem dX6_raises_1 : decode cX6_raises 1 = .ok (.iload_n 1, 1) := by decide +kernel
theorem dX6_raises_2 : decode cX6_raises 2 = .ok (.putfield 74, 3) := by decide +kernel
theorem dX6_raises_5 : decode cX6_raises 5 = .ok (.iconst 0, 1) := by decide +kernel
theorem dX6_raises_6 : decode cX6_raises 6 = .ok (.ireturn, 1) := by decide +kernel
theorem dX6_in_0 : decode cX6_in 0 = .ok (.iload_n 0, 1) := by decide +kernel
theorem dX6_in_1 : decode cX6_in 1 = .ok (.iload_n 1, 1) := by decide +kernel
theorem dX6_in_2 : decode cX6_in 2 = .ok (.if_icmp .lt 12, 3) := by decide +kernel
theorem dX6_in_5 : decode cX6_in 5 = .ok (.iload_n 0, 1) := by decide +kernel
theorem dX6_in_6 : decode cX6_in 6 = .ok (.iload_n 2, 1) := by decide +kernel
theorem dX6_in_7 : decode cX6_in 7 = .ok (.if_icmp .gt 7, 3) := by decide +kernel
theorem dX6_in_10 : decode cX6_in 10 = .ok (.iconst 1, 1) := by decide +kernel
theorem dX6_in_11 : decode cX6_in 11 = .ok (.goto 4, 3) := by decide +kernel
theorem dX6_in_14 : decode cX6_in 14 = .ok (.iconst 0, 1) := by decide +kernel
theorem dX6_in_15 : decode cX6_in 15 = .ok (.ireturn, 1) := by decide +kernel
theorem dX6_lays_0 : decode cX6_lays 0 = .ok (.aload_n 0, 1) := by decide +kernel
theorem dX6_lays_1 : decode cX6_lays 1 = .ok (.getfield 9, 3) := by decide +kernel
theorem dX6_lays_4 : decode cX6_lays 4 = .ok (.iconst 0, 1) := by decide +kernel
theorem dX6_lays_5 : decode cX6_lays 5 = .ok (.iload_n 1, 1) := by decide +kernel
theorem dX6_lays_6 : decode cX6_lays 6 = .ok (.iastore, 1) := by decide +kernel
theorem dX6_lays_7 : decode cX6_lays 7 = .ok (.aload_n 0, 1) := by decide +kernel
theorem dX6_lays_8 : decode cX6_lays 8 = .ok (.getfield 9, 3) := by decide +kernel
theorem dX6_lays_11 : decode cX6_lays 11 = .ok (.iconst 1, 1) := by decide +kernel
theorem dX6_lays_12 : decode cX6_lays 12 = .ok (.iload_n 2, 1) := by decide +kernel
theorem dX6_lays_13 : decode cX6_lays 13 = .ok (.iastore, 1) := by decide +kernel
theorem dX6_lays_14 : decode cX6_lays 14 = .ok (.iconst 0, 1) := by decide +kernel
theorem dX6_lays_15 : decode cX6_lays 15 = .ok (.istore_n 3, 1) := by decide +kernel
theorem dX6_lays_16 : decode cX6_lays 16 = .ok (.iload_n 3, 1) := by decide +kernel
theorem dX6_lays_17 : decode cX6_lays 17 = .ok (.sipush 512, 3) := by decide +kernel
theorem dX6_lays_20 : decode cX6_lays 20 = .ok (.if_icmp .ge 18, 3) := by decide +kernel
theorem dX6_lays_23 : decode cX6_lays 23 = .ok (.aload_n 0, 1) := by decide +kernel
theorem dX6_lays_24 : decode cX6_lays 24 = .ok (.getfield 9, 3) := by decide +kernel
theorem dX6_lays_27 : decode cX6_lays 27 = .ok (.iconst 5, 1) := by decide +kernel
theorem dX6_lays_28 : decode cX6_lays 28 = .ok (.iload_n 3, 1) := by decide +kernel
theorem dX6_lays_29 : decode cX6_lays 29 = .ok (.iadd, 1) := by decide +kernel
theorem dX6_lays_30 : decode cX6_lays 30 = .ok (.iconst 0, 1) := by decide +kernel
theorem dX6_lays_31 : decode cX6_lays 31 = .ok (.iastore, 1) := by decide +kernel
theorem dX6_lays_32 : decode cX6_lays 32 = .ok (.iinc 3 1, 3) := by decide +kernel
theorem dX6_lays_35 : decode cX6_lays 35 = .ok (.goto (-19), 3) := by decide +kernel
theorem dX6_lays_38 : decode cX6_lays 38 = .ok (.return_, 1) := by decide +kernel
theorem dX6_columns_0 : decode cX6_columns 0 = .ok (.aload_n 0, 1) := by decide +kernel
theorem dX6_columns_1 : decode cX6_columns 1 = .ok (.getfield 9, 3) := by decide +kernel
theorem dX6_columns_4 : decode cX6_columns 4 = .ok (.iconst 0, 1) := by decide +kernel
theorem dX6_columns_5 : decode cX6_columns 5 = .ok (.iaload, 1) := by decide +kernel
theorem dX6_columns_6 : decode cX6_columns 6 = .ok (.ireturn, 1) := by decide +kernel
theorem dX6_rows_0 : decode cX6_rows 0 = .ok (.aload_n 0, 1) := by decide +kernel
theorem dX6_rows_1 : decode cX6_rows 1 = .ok (.getfield 9, 3) := by decide +kernel
theorem dX6_rows_4 : decode cX6_rows 4 = .ok (.iconst 1, 1) := by decide +kernel
theorem dX6_rows_5 : decode cX6_rows 5 = .ok (.iaload, 1) := by decide +kernel
theorem dX6_rows_6 : decode cX6_rows 6 = .ok (.ireturn, 1) := by decide +kernel
theorem dX6_isPixel_0 : decode cX6_isPixel 0 = .ok (.iload_n 1, 1) := by decide +kernel
theorem dX6_isPixel_1 : decode cX6_isPixel 1 = .ok (.iconst 0, 1) := by decide +kernel
theorem dX6_isPixel_2 : decode cX6_isPixel 2 = .ok (.aload_n 0, 1) := by decide +kernel
theorem dX6_isPixel_3 : decode cX6_isPixel 3 = .ok (.invokevirtual 77, 3) := by decide +kernel
theorem dX6_isPixel_6 : decode cX6_isPixel 6 = .ok (.iconst 1, 1) := by decide +kernel
theorem dX6_isPixel_7 : decode cX6_isPixel 7 = .ok (.isub, 1) := by decide +kernel
theorem dX6_isPixel_8 : decode cX6_isPixel 8 = .ok (.invokestatic 81, 3) := by decide +kernel
theorem dX6_isPixel_11 : decode cX6_isPixel 11 = .ok (.ifCond .eq 21, 3) := by decide +kernel
theorem dX6_isPixel_14 : decode cX6_isPixel 14 = .ok (.iload_n 2, 1) := by decide +kernel
theorem dX6_isPixel_15 : decode cX6_isPixel 15 = .ok (.iconst 0, 1) := by decide +kernel
theorem dX6_isPixel_16 : decode cX6_isPixel 16 = .ok (.aload_n 0, 1) := by decide +kernel
theorem dX6_isPixel_17 : decode cX6_isPixel 17 = .ok (.invokevirtual 85, 3) := by decide +kernel
theorem dX6_isPixel_20 : decode cX6_isPixel 20 = .ok (.iconst 1, 1) := by decide +kernel
theorem dX6_isPixel_21 : decode cX6_isPixel 21 = .ok (.isub, 1) := by decide +kernel
theorem dX6_isPixel_22 : decode cX6_isPixel 22 = .ok (.invokestatic 81, 3) := by decide +kernel
theorem dX6_isPixel_25 : decode cX6_isPixel 25 = .ok (.ifCond .eq 7, 3) := by decide +kernel
theorem dX6_isPixel_28 : decode cX6_isPixel 28 = .ok (.iconst 1, 1) := by decide +kernel
theorem dX6_isPixel_29 : decode cX6_isPixel 29 = .ok (.goto 4, 3) := by decide +kernel
theorem dX6_isPixel_32 : decode cX6_isPixel 32 = .ok (.iconst 0, 1) := by decide +kernel
theorem dX6_isPixel_33 : decode cX6_isPixel 33 = .ok (.ireturn, 1) := by decide +kernel
theorem dX6_value_0 : decode cX6_value 0 = .ok (.aload_n 0, 1) := by decide +kernel
theorem dX6_value_1 : decode cX6_value 1 = .ok (.getfield 9, 3) := by decide +kernel
theorem dX6_value_4 : decode cX6_value 4 = .ok (.iconst 5, 1) := by decide +kernel
theorem dX6_value_5 : decode cX6_value 5 = .ok (.aload_n 0, 1) := by decide +kernel
theorem dX6_value_6 : decode cX6_value 6 = .ok (.invokevirtual 77, 3) := by decide +kernel
theorem dX6_value_9 : decode cX6_value 9 = .ok (.iload_n 2, 1) := by decide +kernel
theorem dX6_value_10 : decode cX6_value 10 = .ok (.imul, 1) := by decide +kernel
theorem dX6_value_11 : decode cX6_value 11 = .ok (.iadd, 1) := by decide +kernel
theorem dX6_value_12 : decode cX6_value 12 = .ok (.iload_n 1, 1) := by decide +kernel
theorem dX6_value_13 : decode cX6_value 13 = .ok (.iadd, 1) := by decide +kernel
theorem dX6_value_14 : decode cX6_value 14 = .ok (.iaload, 1) := by decide +kernel
theorem dX6_value_15 : decode cX6_value 15 = .ok (.ireturn, 1) := by decide +kernel
theorem dX6_across_0 : decode cX6_across 0 = .ok (.aload_n 0, 1) := by decide +kernel
theorem dX6_across_1 : decode cX6_across 1 = .ok (.invokevirtual 77, 3) := by decide +kernel
theorem dX6_across_4 : decode cX6_across 4 = .ok (.aload_n 0, 1) := by decide +kernel
theorem dX6_across_5 : decode cX6_across 5 = .ok (.getfield 9, 3) := by decide +kernel
theorem dX6_across_8 : decode cX6_across 8 = .ok (.iconst 2, 1) := by decide +kernel
theorem dX6_across_9 : decode cX6_across 9 = .ok (.iaload, 1) := by decide +kernel
theorem dX6_across_10 : decode cX6_across 10 = .ok (.iadd, 1) := by decide +kernel
theorem dX6_across_11 : decode cX6_across 11 = .ok (.iconst 1, 1) := by decide +kernel
theorem dX6_across_12 : decode cX6_across 12 = .ok (.isub, 1) := by decide +kernel
theorem dX6_across_13 : decode cX6_across 13 = .ok (.aload_n 0, 1) := by decide +kernel
theorem dX6_across_14 : decode cX6_across 14 = .ok (.getfield 9, 3) := by decide +kernel
theorem dX6_across_17 : decode cX6_across 17 = .ok (.iconst 2, 1) := by decide +kernel
theorem dX6_across_18 : decode cX6_across 18 = .ok (.iaload, 1) := by decide +kernel
theorem dX6_across_19 : decode cX6_across 19 = .ok (.idiv, 1) := by decide +kernel
theorem dX6_across_20 : decode cX6_across 20 = .ok (.ireturn, 1) := by decide +kernel
theorem dX6_tiles_0 : decode cX6_tiles 0 = .ok (.aload_n 0, 1) := by decide +kernel
theorem dX6_tiles_1 : decode cX6_tiles 1 = .ok (.invokevirtual 88, 3) := by decide +kernel
theorem dX6_tiles_4 : decode cX6_tiles 4 = .ok (.aload_n 0, 1) := by decide +kernel
theorem dX6_tiles_5 : decode cX6_tiles 5 = .ok (.invokevirtual 85, 3) := by decide +kernel
theorem dX6_tiles_8 : decode cX6_tiles 8 = .ok (.aload_n 0, 1) := by decide +kernel
theorem dX6_tiles_9 : decode cX6_tiles 9 = .ok (.getfield 9, 3) := by decide +kernel
theorem dX6_tiles_12 : decode cX6_tiles 12 = .ok (.iconst 2, 1) := by decide +kernel
theorem dX6_tiles_13 : decode cX6_tiles 13 = .ok (.iaload, 1) := by decide +kernel
theorem dX6_tiles_14 : decode cX6_tiles 14 = .ok (.iadd, 1) := by decide +kernel
theorem dX6_tiles_15 : decode cX6_tiles 15 = .ok (.iconst 1, 1) := by decide +kernel
theorem dX6_tiles_16 : decode cX6_tiles 16 = .ok (.isub, 1) := by decide +kernel
theorem dX6_tiles_17 : decode cX6_tiles 17 = .ok (.aload_n 0, 1) := by decide +kernel
theorem dX6_tiles_18 : decode cX6_tiles 18 = .ok (.getfield 9, 3) := by decide +kernel
theorem dX6_tiles_21 : decode cX6_tiles 21 = .ok (.iconst 2, 1) := by decide +kernel
theorem dX6_tiles_22 : decode cX6_tiles 22 = .ok (.iaload, 1) := by decide +kernel
theorem dX6_tiles_23 : decode cX6_tiles 23 = .ok (.idiv, 1) := by decide +kernel
theorem dX6_tiles_24 : decode cX6_tiles 24 = .ok (.imul, 1) := by decide +kernel
theorem dX6_tiles_25 : decode cX6_tiles 25 = .ok (.ireturn, 1) := by decide +kernel
theorem dX6_isTile_0 : decode cX6_isTile 0 = .ok (.iload_n 1, 1) := by decide +kernel
theorem dX6_isTile_1 : decode cX6_isTile 1 = .ok (.iconst 0, 1) := by decide +kernel
theorem dX6_isTile_2 : decode cX6_isTile 2 = .ok (.aload_n 0, 1) := by decide +kernel
theorem dX6_isTile_3 : decode cX6_isTile 3 = .ok (.invokevirtual 91, 3) := by decide +kernel
theorem dX6_isTile_6 : decode cX6_isTile 6 = .ok (.iconst 1, 1) := by decide +kernel
theorem dX6_isTile_7 : decode cX6_isTile 7 = .ok (.isub, 1) := by decide +kernel
theorem dX6_isTile_8 : decode cX6_isTile 8 = .ok (.invokestatic 81, 3) := by decide +kernel
theorem dX6_isTile_11 : decode cX6_isTile 11 = .ok (.ireturn, 1) := by decide +kernel
theorem dX6_changes_0 : decode cX6_changes 0 = .ok (.aload_n 0, 1) := by decide +kernel
theorem dX6_changes_1 : decode cX6_changes 1 = .ok (.getfield 94, 3) := by decide +kernel
theorem dX6_changes_4 : decode cX6_changes 4 = .ok (.bipush 8, 2) := by decide +kernel
theorem dX6_changes_6 : decode cX6_changes 6 = .ok (.if_icmp .ne 44, 3) := by decide +kernel
theorem dX6_changes_9 : decode cX6_changes 9 = .ok (.iconst 0, 1) := by decide +kernel
theorem dX6_changes_10 : decode cX6_changes 10 = .ok (.istore_n 1, 1) := by decide +kernel
theorem dX6_changes_11 : decode cX6_changes 11 = .ok (.iload_n 1, 1) := by decide +kernel
theorem dX6_changes_12 : decode cX6_changes 12 = .ok (.sipush 3619, 3) := by decide +kernel
theorem dX6_changes_15 : decode cX6_changes 15 = .ok (.if_icmp .ge 25, 3) := by decide +kernel
theorem dX6_changes_18 : decode cX6_changes 18 = .ok (.aload_n 0, 1) := by decide +kernel
theorem dX6_changes_19 : decode cX6_changes 19 = .ok (.getfield 13, 3) := by decide +kernel
theorem dX6_changes_22 : decode cX6_changes 22 = .ok (.iload_n 1, 1) := by decide +kernel
theorem dX6_changes_23 : decode cX6_changes 23 = .ok (.aload_n 0, 1) := by decide +kernel
theorem dX6_changes_24 : decode cX6_changes 24 = .ok (.getfield 13, 3) := by decide +kernel
theorem dX6_changes_27 : decode cX6_changes 27 = .ok (.sipush 517, 3) := by decide +kernel
theorem dX6_changes_30 : decode cX6_changes 30 = .ok (.iload_n 1, 1) := by decide +kernel
theorem dX6_changes_31 : decode cX6_changes 31 = .ok (.iadd, 1) := by decide +kernel
theorem dX6_changes_32 : decode cX6_changes 32 = .ok (.iaload, 1) := by decide +kernel
theorem dX6_changes_33 : decode cX6_changes 33 = .ok (.iastore, 1) := by decide +kernel
theorem dX6_changes_34 : decode cX6_changes 34 = .ok (.iinc 1 1, 3) := by decide +kernel
theorem dX6_changes_37 : decode cX6_changes 37 = .ok (.goto (-26), 3) := by decide +kernel
theorem dX6_changes_40 : decode cX6_changes 40 = .ok (.aload_n 0, 1) := by decide +kernel
theorem dX6_changes_41 : decode cX6_changes 41 = .ok (.dup, 1) := by decide +kernel
theorem dX6_changes_42 : decode cX6_changes 42 = .ok (.getfield 94, 3) := by decide +kernel
theorem dX6_changes_45 : decode cX6_changes 45 = .ok (.iconst 1, 1) := by decide +kernel
theorem dX6_changes_46 : decode cX6_changes 46 = .ok (.isub, 1) := by decide +kernel
theorem dX6_changes_47 : decode cX6_changes 47 = .ok (.putfield 94, 3) := by decide +kernel
theorem dX6_changes_50 : decode cX6_changes 50 = .ok (.iconst 0, 1) := by decide +kernel
theorem dX6_changes_51 : decode cX6_changes 51 = .ok (.istore_n 1, 1) := by decide +kernel
theorem dX6_changes_52 : decode cX6_changes 52 = .ok (.iload_n 1, 1) := by decide +kernel
theorem dX6_changes_53 : decode cX6_changes 53 = .ok (.sipush 517, 3) := by decide +kernel
theorem dX6_changes_56 : decode cX6_changes 56 = .ok (.if_icmp .ge 30, 3) := by decide +kernel
theorem dX6_changes_59 : decode cX6_changes 59 = .ok (.aload_n 0, 1) := by decide +kernel
theorem dX6_changes_60 : decode cX6_changes 60 = .ok (.getfield 13, 3) := by decide +kernel
theorem dX6_changes_63 : decode cX6_changes 63 = .ok (.sipush 517, 3) := by decide +kernel
theorem dX6_changes_66 : decode cX6_changes 66 = .ok (.aload_n 0, 1) := by decide +kernel
theorem dX6_changes_67 : decode cX6_changes 67 = .ok (.getfield 94, 3) := by decide +kernel
theorem dX6_changes_70 : decode cX6_changes 70 = .ok (.imul, 1) := by decide +kernel
theorem dX6_changes_71 : decode cX6_changes 71 = .ok (.iload_n 1, 1) := by decide +kernel
theorem dX6_changes_72 : decode cX6_changes 72 = .ok (.iadd, 1) := by decide +kernel
theorem dX6_changes_73 : decode cX6_changes 73 = .ok (.aload_n 0, 1) := by decide +kernel
theorem dX6_changes_74 : decode cX6_changes 74 = .ok (.getfield 9, 3) := by decide +kernel
theorem dX6_changes_77 : decode cX6_changes 77 = .ok (.iload_n 1, 1) := by decide +kernel
theorem dX6_changes_78 : decode cX6_changes 78 = .ok (.iaload, 1) := by decide +kernel
theorem dX6_changes_79 : decode cX6_changes 79 = .ok (.iastore, 1) := by decide +kernel
theorem dX6_changes_80 : decode cX6_changes 80 = .ok (.iinc 1 1, 3) := by decide +kernel
theorem dX6_changes_83 : decode cX6_changes 83 = .ok (.goto (-31), 3) := by decide +kernel
theorem dX6_changes_86 : decode cX6_changes 86 = .ok (.aload_n 0, 1) := by decide +kernel
theorem dX6_changes_87 : decode cX6_changes 87 = .ok (.dup, 1) := by decide +kernel
theorem dX6_changes_88 : decode cX6_changes 88 = .ok (.getfield 94, 3) := by decide +kernel
theorem dX6_changes_91 : decode cX6_changes 91 = .ok (.iconst 1, 1) := by decide +kernel
theorem dX6_changes_92 : decode cX6_changes 92 = .ok (.iadd, 1) := by decide +kernel
theorem dX6_changes_93 : decode cX6_changes 93 = .ok (.putfield 94, 3) := by decide +kernel
theorem dX6_changes_96 : decode cX6_changes 96 = .ok (.return_, 1) := by decide +kernel
theorem dX6_takes_0 : decode cX6_takes 0 = .ok (.aload_n 0, 1) := by decide +kernel
theorem dX6_takes_1 : decode cX6_takes 1 = .ok (.iload_n 1, 1) := by decide +kernel
theorem dX6_takes_2 : decode cX6_takes 2 = .ok (.aload_n 0, 1) := by decide +kernel
theorem dX6_takes_3 : decode cX6_takes 3 = .ok (.invokevirtual 88, 3) := by decide +kernel
theorem dX6_takes_6 : decode cX6_takes 6 = .ok (.irem, 1) := by decide +kernel
theorem dX6_takes_7 : decode cX6_takes 7 = .ok (.aload_n 0, 1) := by decide +kernel
theorem dX6_takes_8 : decode cX6_takes 8 = .ok (.getfield 9, 3) := by decide +kernel
theorem dX6_takes_11 : decode cX6_takes 11 = .ok (.iconst 2, 1) := by decide +kernel
theorem dX6_takes_12 : decode cX6_takes 12 = .ok (.iaload, 1) := by decide +kernel
theorem dX6_takes_13 : decode cX6_takes 13 = .ok (.imul, 1) := by decide +kernel
theorem dX6_takes_14 : decode cX6_takes 14 = .ok (.putfield 97, 3) := by decide +kernel
theorem dX6_takes_17 : decode cX6_takes 17 = .ok (.aload_n 0, 1) := by decide +kernel
theorem dX6_takes_18 : decode cX6_takes 18 = .ok (.iload_n 1, 1) := by decide +kernel
theorem dX6_takes_19 : decode cX6_takes 19 = .ok (.aload_n 0, 1) := by decide +kernel
theorem dX6_takes_20 : decode cX6_takes 20 = .ok (.invokevirtual 88, 3) := by decide +kernel
theorem dX6_takes_23 : decode cX6_takes 23 = .ok (.idiv, 1) := by decide +kernel
theorem dX6_takes_24 : decode cX6_takes 24 = .ok (.aload_n 0, 1) := by decide +kernel
theorem dX6_takes_25 : decode cX6_takes 25 = .ok (.getfield 9, 3) := by decide +kernel
theorem dX6_takes_28 : decode cX6_takes 28 = .ok (.iconst 2, 1) := by decide +kernel
theorem dX6_takes_29 : decode cX6_takes 29 = .ok (.iaload, 1) := by decide +kernel
theorem dX6_takes_30 : decode cX6_takes 30 = .ok (.imul, 1) := by decide +kernel
theorem dX6_takes_31 : decode cX6_takes 31 = .ok (.putfield 100, 3) := by decide +kernel
theorem dX6_takes_34 : decode cX6_takes 34 = .ok (.aload_n 0, 1) := by decide +kernel
theorem dX6_takes_35 : decode cX6_takes 35 = .ok (.getfield 38, 3) := by decide +kernel
theorem dX6_takes_38 : decode cX6_takes 38 = .ok (.iconst 0, 1) := by decide +kernel
theorem dX6_takes_39 : decode cX6_takes 39 = .ok (.aload_n 0, 1) := by decide +kernel
theorem dX6_takes_40 : decode cX6_takes 40 = .ok (.getfield 9, 3) := by decide +kernel
theorem dX6_takes_43 : decode cX6_takes 43 = .ok (.iconst 2, 1) := by decide +kernel
theorem dX6_takes_44 : decode cX6_takes 44 = .ok (.iaload, 1) := by decide +kernel
theorem dX6_takes_45 : decode cX6_takes 45 = .ok (.aload_n 0, 1) := by decide +kernel
theorem dX6_takes_46 : decode cX6_takes 46 = .ok (.invokevirtual 77, 3) := by decide +kernel
theorem dX6_takes_49 : decode cX6_takes 49 = .ok (.aload_n 0, 1) := by decide +kernel
theorem dX6_takes_50 : decode cX6_takes 50 = .ok (.getfield 97, 3) := by decide +kernel
theorem dX6_takes_53 : decode cX6_takes 53 = .ok (.isub, 1) := by decide +kernel
theorem dX6_takes_54 : decode cX6_takes 54 = .ok (.invokestatic 103, 3) := by decide +kernel
theorem dX6_takes_57 : decode cX6_takes 57 = .ok (.iastore, 1) := by decide +kernel
theorem dX6_takes_58 : decode cX6_takes 58 = .ok (.aload_n 0, 1) := by decide +kernel
theorem dX6_takes_59 : decode cX6_takes 59 = .ok (.getfield 41, 3) := by decide +kernel
theorem dX6_takes_62 : decode cX6_takes 62 = .ok (.iconst 0, 1) := by decide +kernel
theorem dX6_takes_63 : decode cX6_takes 63 = .ok (.aload_n 0, 1) := by decide +kernel
theorem dX6_takes_64 : decode cX6_takes 64 = .ok (.getfield 9, 3) := by decide +kernel
theorem dX6_takes_67 : decode cX6_takes 67 = .ok (.iconst 2, 1) := by decide +kernel
theorem dX6_takes_68 : decode cX6_takes 68 = .ok (.iaload, 1) := by decide +kernel
theorem dX6_takes_69 : decode cX6_takes 69 = .ok (.aload_n 0, 1) := by decide +kernel
theorem dX6_takes_70 : decode cX6_takes 70 = .ok (.invokevirtual 85, 3) := by decide +kernel
theorem dX6_takes_73 : decode cX6_takes 73 = .ok (.aload_n 0, 1) := by decide +kernel
theorem dX6_takes_74 : decode cX6_takes 74 = .ok (.getfield 100, 3) := by decide +kernel
theorem dX6_takes_77 : decode cX6_takes 77 = .ok (.isub, 1) := by decide +kernel
theorem dX6_takes_78 : decode cX6_takes 78 = .ok (.invokestatic 103, 3) := by decide +kernel
theorem dX6_takes_81 : decode cX6_takes 81 = .ok (.iastore, 1) := by decide +kernel
theorem dX6_takes_82 : decode cX6_takes 82 = .ok (.aload_n 0, 1) := by decide +kernel
theorem dX6_takes_83 : decode cX6_takes 83 = .ok (.iconst 0, 1) := by decide +kernel
theorem dX6_takes_84 : decode cX6_takes 84 = .ok (.putfield 109, 3) := by decide +kernel
theorem dX6_takes_87 : decode cX6_takes 87 = .ok (.aload_n 0, 1) := by decide +kernel
theorem dX6_takes_88 : decode cX6_takes 88 = .ok (.getfield 109, 3) := by decide +kernel
theorem dX6_takes_91 : decode cX6_takes 91 = .ok (.aload_n 0, 1) := by decide +kernel
theorem dX6_takes_92 : decode cX6_takes 92 = .ok (.getfield 9, 3) := by decide +kernel
theorem dX6_takes_95 : decode cX6_takes 95 = .ok (.iconst 3, 1) := by decide +kernel
theorem dX6_takes_96 : decode cX6_takes 96 = .ok (.iaload, 1) := by decide +kernel
theorem dX6_takes_97 : decode cX6_takes 97 = .ok (.if_icmp .ge 90, 3) := by decide +kernel
theorem dX6_takes_100 : decode cX6_takes 100 = .ok (.aload_n 0, 1) := by decide +kernel
theorem dX6_takes_101 : decode cX6_takes 101 = .ok (.getfield 38, 3) := by decide +kernel
theorem dX6_takes_104 : decode cX6_takes 104 = .ok (.aload_n 0, 1) := by decide +kernel
theorem dX6_takes_105 : decode cX6_takes 105 = .ok (.getfield 109, 3) := by decide +kernel
theorem dX6_takes_108 : decode cX6_takes 108 = .ok (.iaload, 1) := by decide +kernel
theorem dX6_takes_109 : decode cX6_takes 109 = .ok (.iconst 1, 1) := by decide +kernel
theorem dX6_takes_110 : decode cX6_takes 110 = .ok (.if_icmp .gt 16, 3) := by decide +kernel
theorem dX6_takes_113 : decode cX6_takes 113 = .ok (.aload_n 0, 1) := by decide +kernel
theorem dX6_takes_114 : decode cX6_takes 114 = .ok (.getfield 41, 3) := by decide +kernel
theorem dX6_takes_117 : decode cX6_takes 117 = .ok (.aload_n 0, 1) := by decide +kernel
theorem dX6_takes_118 : decode cX6_takes 118 = .ok (.getfield 109, 3) := by decide +kernel
theorem dX6_takes_121 : decode cX6_takes 121 = .ok (.iaload, 1) := by decide +kernel
theorem dX6_takes_122 : decode cX6_takes 122 = .ok (.iconst 1, 1) := by decide +kernel
theorem dX6_takes_123 : decode cX6_takes 123 = .ok (.if_icmp .le 64, 3) := by decide +kernel
theorem dX6_takes_126 : decode cX6_takes 126 = .ok (.aload_n 0, 1) := by decide +kernel
theorem dX6_takes_127 : decode cX6_takes 127 = .ok (.getfield 38, 3) := by decide +kernel
theorem dX6_takes_130 : decode cX6_takes 130 = .ok (.aload_n 0, 1) := by decide +kernel
theorem dX6_takes_131 : decode cX6_takes 131 = .ok (.getfield 109, 3) := by decide +kernel
theorem dX6_takes_134 : decode cX6_takes 134 = .ok (.iconst 1, 1) := by decide +kernel
theorem dX6_takes_135 : decode cX6_takes 135 = .ok (.iadd, 1) := by decide +kernel
theorem dX6_takes_136 : decode cX6_takes 136 = .ok (.aload_n 0, 1) := by decide +kernel
theorem dX6_takes_137 : decode cX6_takes 137 = .ok (.getfield 38, 3) := by decide +kernel
theorem dX6_takes_140 : decode cX6_takes 140 = .ok (.aload_n 0, 1) := by decide +kernel
theorem dX6_takes_141 : decode cX6_takes 141 = .ok (.getfield 109, 3) := by decide +kernel
theorem dX6_takes_144 : decode cX6_takes 144 = .ok (.iaload, 1) := by decide +kernel
theorem dX6_takes_145 : decode cX6_takes 145 = .ok (.iconst 1, 1) := by decide +kernel
theorem dX6_takes_146 : decode cX6_takes 146 = .ok (.iadd, 1) := by decide +kernel
theorem dX6_takes_147 : decode cX6_takes 147 = .ok (.iconst 2, 1) := by decide +kernel
theorem dX6_takes_148 : decode cX6_takes 148 = .ok (.idiv, 1) := by decide +kernel
theorem dX6_takes_149 : decode cX6_takes 149 = .ok (.iastore, 1) := by decide +kernel
theorem dX6_takes_150 : decode cX6_takes 150 = .ok (.aload_n 0, 1) := by decide +kernel
theorem dX6_takes_151 : decode cX6_takes 151 = .ok (.getfield 41, 3) := by decide +kernel
theorem dX6_takes_154 : decode cX6_takes 154 = .ok (.aload_n 0, 1) := by decide +kernel
theorem dX6_takes_155 : decode cX6_takes 155 = .ok (.getfield 109, 3) := by decide +kernel
theorem dX6_takes_158 : decode cX6_takes 158 = .ok (.iconst 1, 1) := by decide +kernel
theorem dX6_takes_159 : decode cX6_takes 159 = .ok (.iadd, 1) := by decide +kernel
theorem dX6_takes_160 : decode cX6_takes 160 = .ok (.aload_n 0, 1) := by decide +kernel
theorem dX6_takes_161 : decode cX6_takes 161 = .ok (.getfield 41, 3) := by decide +kernel
theorem dX6_takes_164 : decode cX6_takes 164 = .ok (.aload_n 0, 1) := by decide +kernel
theorem dX6_takes_165 : decode cX6_takes 165 = .ok (.getfield 109, 3) := by decide +kernel
theorem dX6_takes_168 : decode cX6_takes 168 = .ok (.iaload, 1) := by decide +kernel
theorem dX6_takes_169 : decode cX6_takes 169 = .ok (.iconst 1, 1) := by decide +kernel
theorem dX6_takes_170 : decode cX6_takes 170 = .ok (.iadd, 1) := by decide +kernel
theorem dX6_takes_171 : decode cX6_takes 171 = .ok (.iconst 2, 1) := by decide +kernel
theorem dX6_takes_172 : decode cX6_takes 172 = .ok (.idiv, 1) := by decide +kernel
theorem dX6_takes_173 : decode cX6_takes 173 = .ok (.iastore, 1) := by decide +kernel
theorem dX6_takes_174 : decode cX6_takes 174 = .ok (.aload_n 0, 1) := by decide +kernel
theorem dX6_takes_175 : decode cX6_takes 175 = .ok (.dup, 1) := by decide +kernel
theorem dX6_takes_176 : decode cX6_takes 176 = .ok (.getfield 109, 3) := by decide +kernel
theorem dX6_takes_179 : decode cX6_takes 179 = .ok (.iconst 1, 1) := by decide +kernel
theorem dX6_takes_180 : decode cX6_takes 180 = .ok (.iadd, 1) := by decide +kernel
theorem dX6_takes_181 : decode cX6_takes 181 = .ok (.putfield 109, 3) := by decide +kernel
theorem dX6_takes_184 : decode cX6_takes 184 = .ok (.goto (-97), 3) := by decide +kernel
theorem dX6_takes_187 : decode cX6_takes 187 = .ok (.return_, 1) := by decide +kernel
theorem dX6_place_0 : decode cX6_place 0 = .ok (.bipush 8, 2) := by decide +kernel
theorem dX6_place_2 : decode cX6_place 2 = .ok (.iload_n 2, 1) := by decide +kernel
theorem dX6_place_3 : decode cX6_place 3 = .ok (.imul, 1) := by decide +kernel
theorem dX6_place_4 : decode cX6_place 4 = .ok (.iload_n 1, 1) := by decide +kernel
theorem dX6_place_5 : decode cX6_place 5 = .ok (.iadd, 1) := by decide +kernel
theorem dX6_place_6 : decode cX6_place 6 = .ok (.ireturn, 1) := by decide +kernel
theorem dX6_splits_0 : decode cX6_splits 0 = .ok (.iload_n 3, 1) := by decide +kernel
theorem dX6_splits_1 : decode cX6_splits 1 = .ok (.iconst 1, 1) := by decide +kernel
theorem dX6_splits_2 : decode cX6_splits 2 = .ok (.iadd, 1) := by decide +kernel
theorem dX6_splits_3 : decode cX6_splits 3 = .ok (.iconst 2, 1) := by decide +kernel
theorem dX6_splits_4 : decode cX6_splits 4 = .ok (.idiv, 1) := by decide +kernel
theorem dX6_splits_5 : decode cX6_splits 5 = .ok (.istore 4, 2) := by decide +kernel
theorem dX6_splits_7 : decode cX6_splits 7 = .ok (.iconst 0, 1) := by decide +kernel
theorem dX6_splits_8 : decode cX6_splits 8 = .ok (.istore 5, 2) := by decide +kernel
theorem dX6_splits_10 : decode cX6_splits 10 = .ok (.iload 5, 2) := by decide +kernel
theorem dX6_splits_12 : decode cX6_splits 12 = .ok (.iload_n 3, 1) := by decide +kernel
theorem dX6_splits_13 : decode cX6_splits 13 = .ok (.if_icmp .ge 45, 3) := by decide +kernel
theorem dX6_splits_16 : decode cX6_splits 16 = .ok (.aload_n 0, 1) := by decide +kernel
theorem dX6_splits_17 : decode cX6_splits 17 = .ok (.getfield 54, 3) := by decide +kernel
theorem dX6_splits_20 : decode cX6_splits 20 = .ok (.iload 5, 2) := by decide +kernel
theorem dX6_splits_22 : decode cX6_splits 22 = .ok (.aload_n 0, 1) := by decide +kernel
theorem dX6_splits_23 : decode cX6_splits 23 = .ok (.getfield 44, 3) := by decide +kernel
theorem dX6_splits_26 : decode cX6_splits 26 = .ok (.iload_n 1, 1) := by decide +kernel
theorem dX6_splits_27 : decode cX6_splits 27 = .ok (.iload_n 2, 1) := by decide +kernel
theorem dX6_splits_28 : decode cX6_splits 28 = .ok (.iload 5, 2) := by decide +kernel
theorem dX6_splits_30 : decode cX6_splits 30 = .ok (.imul, 1) := by decide +kernel
theorem dX6_splits_31 : decode cX6_splits 31 = .ok (.iadd, 1) := by decide +kernel
theorem dX6_splits_32 : decode cX6_splits 32 = .ok (.iaload, 1) := by decide +kernel
theorem dX6_splits_33 : decode cX6_splits 33 = .ok (.iastore, 1) := by decide +kernel
theorem dX6_splits_34 : decode cX6_splits 34 = .ok (.aload_n 0, 1) := by decide +kernel
theorem dX6_splits_35 : decode cX6_splits 35 = .ok (.getfield 57, 3) := by decide +kernel
theorem dX6_splits_38 : decode cX6_splits 38 = .ok (.iload 5, 2) := by decide +kernel
theorem dX6_splits_40 : decode cX6_splits 40 = .ok (.aload_n 0, 1) := by decide +kernel
theorem dX6_splits_41 : decode cX6_splits 41 = .ok (.getfield 47, 3) := by decide +kernel
theorem dX6_splits_44 : decode cX6_splits 44 = .ok (.iload_n 1, 1) := by decide +kernel
theorem dX6_splits_45 : decode cX6_splits 45 = .ok (.iload_n 2, 1) := by decide +kernel
theorem dX6_splits_46 : decode cX6_splits 46 = .ok (.iload 5, 2) := by decide +kernel
theorem dX6_splits_48 : decode cX6_splits 48 = .ok (.imul, 1) := by decide +kernel
theorem dX6_splits_49 : decode cX6_splits 49 = .ok (.iadd, 1) := by decide +kernel
theorem dX6_splits_50 : decode cX6_splits 50 = .ok (.baload, 1) := by decide +kernel
theorem dX6_splits_51 : decode cX6_splits 51 = .ok (.bastore, 1) := by decide +kernel
theorem dX6_splits_52 : decode cX6_splits 52 = .ok (.iinc 5 1, 3) := by decide +kernel
theorem dX6_splits_55 : decode cX6_splits 55 = .ok (.goto (-45), 3) := by decide +kernel
theorem dX6_splits_58 : decode cX6_splits 58 = .ok (.iconst 0, 1) := by decide +kernel
theorem dX6_splits_59 : decode cX6_splits 59 = .ok (.istore 5, 2) := by decide +kernel
theorem dX6_splits_61 : decode cX6_splits 61 = .ok (.iconst 2, 1) := by decide +kernel
theorem dX6_splits_62 : decode cX6_splits 62 = .ok (.iload 5, 2) := by decide +kernel
theorem dX6_splits_64 : decode cX6_splits 64 = .ok (.imul, 1) := by decide +kernel
theorem dX6_splits_65 : decode cX6_splits 65 = .ok (.iconst 1, 1) := by decide +kernel
theorem dX6_splits_66 : decode cX6_splits 66 = .ok (.iadd, 1) := by decide +kernel
theorem dX6_splits_67 : decode cX6_splits 67 = .ok (.iload_n 3, 1) := by decide +kernel
theorem dX6_splits_68 : decode cX6_splits 68 = .ok (.if_icmp .ge 132, 3) := by decide +kernel
theorem dX6_splits_71 : decode cX6_splits 71 = .ok (.aload_n 0, 1) := by decide +kernel
theorem dX6_splits_72 : decode cX6_splits 72 = .ok (.getfield 54, 3) := by decide +kernel
theorem dX6_splits_75 : decode cX6_splits 75 = .ok (.iconst 2, 1) := by decide +kernel
theorem dX6_splits_76 : decode cX6_splits 76 = .ok (.iload 5, 2) := by decide +kernel
theorem dX6_splits_78 : decode cX6_splits 78 = .ok (.imul, 1) := by decide +kernel
theorem dX6_splits_79 : decode cX6_splits 79 = .ok (.iaload, 1) := by decide +kernel
theorem dX6_splits_80 : decode cX6_splits 80 = .ok (.istore 6, 2) := by decide +kernel
theorem dX6_splits_82 : decode cX6_splits 82 = .ok (.aload_n 0, 1) := by decide +kernel
theorem dX6_splits_83 : decode cX6_splits 83 = .ok (.getfield 54, 3) := by decide +kernel
theorem dX6_splits_86 : decode cX6_splits 86 = .ok (.iconst 2, 1) := by decide +kernel
theorem dX6_splits_87 : decode cX6_splits 87 = .ok (.iload 5, 2) := by decide +kernel
theorem dX6_splits_89 : decode cX6_splits 89 = .ok (.imul, 1) := by decide +kernel
theorem dX6_splits_90 : decode cX6_splits 90 = .ok (.iconst 1, 1) := by decide +kernel
theorem dX6_splits_91 : decode cX6_splits 91 = .ok (.iadd, 1) := by decide +kernel
theorem dX6_splits_92 : decode cX6_splits 92 = .ok (.iaload, 1) := by decide +kernel
theorem dX6_splits_93 : decode cX6_splits 93 = .ok (.istore 7, 2) := by decide +kernel
theorem dX6_splits_95 : decode cX6_splits 95 = .ok (.aload_n 0, 1) := by decide +kernel
theorem dX6_splits_96 : decode cX6_splits 96 = .ok (.getfield 57, 3) := by decide +kernel
theorem dX6_splits_99 : decode cX6_splits 99 = .ok (.iconst 2, 1) := by decide +kernel
theorem dX6_splits_100 : decode cX6_splits 100 = .ok (.iload 5, 2) := by decide +kernel
theorem dX6_splits_102 : decode cX6_splits 102 = .ok (.imul, 1) := by decide +kernel
theorem dX6_splits_103 : decode cX6_splits 103 = .ok (.baload, 1) := by decide +kernel
theorem dX6_splits_104 : decode cX6_splits 104 = .ok (.ifCond .ne 17, 3) := by decide +kernel
theorem dX6_splits_107 : decode cX6_splits 107 = .ok (.aload_n 0, 1) := by decide +kernel
theorem dX6_splits_108 : decode cX6_splits 108 = .ok (.getfield 57, 3) := by decide +kernel
theorem dX6_splits_111 : decode cX6_splits 111 = .ok (.iconst 2, 1) := by decide +kernel
theorem dX6_splits_112 : decode cX6_splits 112 = .ok (.iload 5, 2) := by decide +kernel
theorem dX6_splits_114 : decode cX6_splits 114 = .ok (.imul, 1) := by decide +kernel
theorem dX6_splits_115 : decode cX6_splits 115 = .ok (.iconst 1, 1) := by decide +kernel
theorem dX6_splits_116 : decode cX6_splits 116 = .ok (.iadd, 1) := by decide +kernel
theorem dX6_splits_117 : decode cX6_splits 117 = .ok (.baload, 1) := by decide +kernel
theorem dX6_splits_118 : decode cX6_splits 118 = .ok (.ifCond .eq 7, 3) := by decide +kernel
theorem dX6_splits_121 : decode cX6_splits 121 = .ok (.iconst 1, 1) := by decide +kernel
theorem dX6_splits_122 : decode cX6_splits 122 = .ok (.goto 4, 3) := by decide +kernel
theorem dX6_splits_125 : decode cX6_splits 125 = .ok (.iconst 0, 1) := by decide +kernel
theorem dX6_splits_126 : decode cX6_splits 126 = .ok (.istore 8, 2) := by decide +kernel
theorem dX6_splits_128 : decode cX6_splits 128 = .ok (.aload_n 0, 1) := by decide +kernel
theorem dX6_splits_129 : decode cX6_splits 129 = .ok (.getfield 44, 3) := by decide +kernel
theorem dX6_splits_132 : decode cX6_splits 132 = .ok (.iload_n 1, 1) := by decide +kernel
theorem dX6_splits_133 : decode cX6_splits 133 = .ok (.iload_n 2, 1) := by decide +kernel
theorem dX6_splits_134 : decode cX6_splits 134 = .ok (.iload 5, 2) := by decide +kernel
theorem dX6_splits_136 : decode cX6_splits 136 = .ok (.imul, 1) := by decide +kernel
theorem dX6_splits_137 : decode cX6_splits 137 = .ok (.iadd, 1) := by decide +kernel
theorem dX6_splits_138 : decode cX6_splits 138 = .ok (.iload 6, 2) := by decide +kernel
theorem dX6_splits_140 : decode cX6_splits 140 = .ok (.iload 7, 2) := by decide +kernel
theorem dX6_splits_142 : decode cX6_splits 142 = .ok (.iadd, 1) := by decide +kernel
theorem dX6_splits_143 : decode cX6_splits 143 = .ok (.iconst 1, 1) := by decide +kernel
theorem dX6_splits_144 : decode cX6_splits 144 = .ok (.ishr, 1) := by decide +kernel
theorem dX6_splits_145 : decode cX6_splits 145 = .ok (.iastore, 1) := by decide +kernel
theorem dX6_splits_146 : decode cX6_splits 146 = .ok (.aload_n 0, 1) := by decide +kernel
theorem dX6_splits_147 : decode cX6_splits 147 = .ok (.getfield 44, 3) := by decide +kernel
theorem dX6_splits_150 : decode cX6_splits 150 = .ok (.iload_n 1, 1) := by decide +kernel
theorem dX6_splits_151 : decode cX6_splits 151 = .ok (.iload_n 2, 1) := by decide +kernel
theorem dX6_splits_152 : decode cX6_splits 152 = .ok (.iload 4, 2) := by decide +kernel
theorem dX6_splits_154 : decode cX6_splits 154 = .ok (.iload 5, 2) := by decide +kernel
theorem dX6_splits_156 : decode cX6_splits 156 = .ok (.iadd, 1) := by decide +kernel
theorem dX6_splits_157 : decode cX6_splits 157 = .ok (.imul, 1) := by decide +kernel
theorem dX6_splits_158 : decode cX6_splits 158 = .ok (.iadd, 1) := by decide +kernel
theorem dX6_splits_159 : decode cX6_splits 159 = .ok (.iload 6, 2) := by decide +kernel
theorem dX6_splits_161 : decode cX6_splits 161 = .ok (.iload 7, 2) := by decide +kernel
theorem dX6_splits_163 : decode cX6_splits 163 = .ok (.isub, 1) := by decide +kernel
theorem dX6_splits_164 : decode cX6_splits 164 = .ok (.iastore, 1) := by decide +kernel
theorem dX6_splits_165 : decode cX6_splits 165 = .ok (.aload_n 0, 1) := by decide +kernel
theorem dX6_splits_166 : decode cX6_splits 166 = .ok (.getfield 47, 3) := by decide +kernel
theorem dX6_splits_169 : decode cX6_splits 169 = .ok (.iload_n 1, 1) := by decide +kernel
theorem dX6_splits_170 : decode cX6_splits 170 = .ok (.iload_n 2, 1) := by decide +kernel
theorem dX6_splits_171 : decode cX6_splits 171 = .ok (.iload 5, 2) := by decide +kernel
theorem dX6_splits_173 : decode cX6_splits 173 = .ok (.imul, 1) := by decide +kernel
theorem dX6_splits_174 : decode cX6_splits 174 = .ok (.iadd, 1) := by decide +kernel
theorem dX6_splits_175 : decode cX6_splits 175 = .ok (.iload 8, 2) := by decide +kernel
theorem dX6_splits_177 : decode cX6_splits 177 = .ok (.bastore, 1) := by decide +kernel
theorem dX6_splits_178 : decode cX6_splits 178 = .ok (.aload_n 0, 1) := by decide +kernel
theorem dX6_splits_179 : decode cX6_splits 179 = .ok (.getfield 47, 3) := by decide +kernel
theorem dX6_splits_182 : decode cX6_splits 182 = .ok (.iload_n 1, 1) := by decide +kernel
theorem dX6_splits_183 : decode cX6_splits 183 = .ok (.iload_n 2, 1) := by decide +kernel
theorem dX6_splits_184 : decode cX6_splits 184 = .ok (.iload 4, 2) := by decide +kernel
theorem dX6_splits_186 : decode cX6_splits 186 = .ok (.iload 5, 2) := by decide +kernel
theorem dX6_splits_188 : decode cX6_splits 188 = .ok (.iadd, 1) := by decide +kernel
theorem dX6_splits_189 : decode cX6_splits 189 = .ok (.imul, 1) := by decide +kernel
theorem dX6_splits_190 : decode cX6_splits 190 = .ok (.iadd, 1) := by decide +kernel
theorem dX6_splits_191 : decode cX6_splits 191 = .ok (.iload 8, 2) := by decide +kernel
theorem dX6_splits_193 : decode cX6_splits 193 = .ok (.bastore, 1) := by decide +kernel
theorem dX6_splits_194 : decode cX6_splits 194 = .ok (.iinc 5 1, 3) := by decide +kernel
theorem dX6_splits_197 : decode cX6_splits 197 = .ok (.goto (-136), 3) := by decide +kernel
theorem dX6_splits_200 : decode cX6_splits 200 = .ok (.iload_n 3, 1) := by decide +kernel
theorem dX6_splits_201 : decode cX6_splits 201 = .ok (.iconst 2, 1) := by decide +kernel
theorem dX6_splits_202 : decode cX6_splits 202 = .ok (.irem, 1) := by decide +kernel
theorem dX6_splits_203 : decode cX6_splits 203 = .ok (.iconst 1, 1) := by decide +kernel
theorem dX6_splits_204 : decode cX6_splits 204 = .ok (.if_icmp .ne 45, 3) := by decide +kernel
theorem dX6_splits_207 : decode cX6_splits 207 = .ok (.aload_n 0, 1) := by decide +kernel
theorem dX6_splits_208 : decode cX6_splits 208 = .ok (.getfield 44, 3) := by decide +kernel
theorem dX6_splits_211 : decode cX6_splits 211 = .ok (.iload_n 1, 1) := by decide +kernel
theorem dX6_splits_212 : decode cX6_splits 212 = .ok (.iload_n 2, 1) := by decide +kernel
theorem dX6_splits_213 : decode cX6_splits 213 = .ok (.iload 4, 2) := by decide +kernel
theorem dX6_splits_215 : decode cX6_splits 215 = .ok (.iconst 1, 1) := by decide +kernel
theorem dX6_splits_216 : decode cX6_splits 216 = .ok (.isub, 1) := by decide +kernel
theorem dX6_splits_217 : decode cX6_splits 217 = .ok (.imul, 1) := by decide +kernel
theorem dX6_splits_218 : decode cX6_splits 218 = .ok (.iadd, 1) := by decide +kernel
theorem dX6_splits_219 : decode cX6_splits 219 = .ok (.aload_n 0, 1) := by decide +kernel
theorem dX6_splits_220 : decode cX6_splits 220 = .ok (.getfield 54, 3) := by decide +kernel
theorem dX6_splits_223 : decode cX6_splits 223 = .ok (.iload_n 3, 1) := by decide +kernel
theorem dX6_splits_224 : decode cX6_splits 224 = .ok (.iconst 1, 1) := by decide +kernel
theorem dX6_splits_225 : decode cX6_splits 225 = .ok (.isub, 1) := by decide +kernel
theorem dX6_splits_226 : decode cX6_splits 226 = .ok (.iaload, 1) := by decide +kernel
theorem dX6_splits_227 : decode cX6_splits 227 = .ok (.iastore, 1) := by decide +kernel
theorem dX6_splits_228 : decode cX6_splits 228 = .ok (.aload_n 0, 1) := by decide +kernel
theorem dX6_splits_229 : decode cX6_splits 229 = .ok (.getfield 47, 3) := by decide +kernel
theorem dX6_splits_232 : decode cX6_splits 232 = .ok (.iload_n 1, 1) := by decide +kernel
theorem dX6_splits_233 : decode cX6_splits 233 = .ok (.iload_n 2, 1) := by decide +kernel
theorem dX6_splits_234 : decode cX6_splits 234 = .ok (.iload 4, 2) := by decide +kernel
theorem dX6_splits_236 : decode cX6_splits 236 = .ok (.iconst 1, 1) := by decide +kernel
theorem dX6_splits_237 : decode cX6_splits 237 = .ok (.isub, 1) := by decide +kernel
theorem dX6_splits_238 : decode cX6_splits 238 = .ok (.imul, 1) := by decide +kernel
theorem dX6_splits_239 : decode cX6_splits 239 = .ok (.iadd, 1) := by decide +kernel
theorem dX6_splits_240 : decode cX6_splits 240 = .ok (.aload_n 0, 1) := by decide +kernel
theorem dX6_splits_241 : decode cX6_splits 241 = .ok (.getfield 57, 3) := by decide +kernel
theorem dX6_splits_244 : decode cX6_splits 244 = .ok (.iload_n 3, 1) := by decide +kernel
theorem dX6_splits_245 : decode cX6_splits 245 = .ok (.iconst 1, 1) := by decide +kernel
theorem dX6_splits_246 : decode cX6_splits 246 = .ok (.isub, 1) := by decide +kernel
theorem dX6_splits_247 : decode cX6_splits 247 = .ok (.baload, 1) := by decide +kernel
theorem dX6_splits_248 : decode cX6_splits 248 = .ok (.bastore, 1) := by decide +kernel
theorem dX6_splits_249 : decode cX6_splits 249 = .ok (.return_, 1) := by decide +kernel
theorem dX6_joins_0 : decode cX6_joins 0 = .ok (.iload_n 3, 1) := by decide +kernel
theorem dX6_joins_1 : decode cX6_joins 1 = .ok (.iconst 1, 1) := by decide +kernel
theorem dX6_joins_2 : decode cX6_joins 2 = .ok (.iadd, 1) := by decide +kernel
theorem dX6_joins_3 : decode cX6_joins 3 = .ok (.iconst 2, 1) := by decide +kernel
theorem dX6_joins_4 : decode cX6_joins 4 = .ok (.idiv, 1) := by decide +kernel
theorem dX6_joins_5 : decode cX6_joins 5 = .ok (.istore 4, 2) := by decide +kernel
theorem dX6_joins_7 : decode cX6_joins 7 = .ok (.iconst 0, 1) := by decide +kernel
theorem dX6_joins_8 : decode cX6_joins 8 = .ok (.istore 5, 2) := by decide +kernel
theorem dX6_joins_10 : decode cX6_joins 10 = .ok (.iload 5, 2) := by decide +kernel
theorem dX6_joins_12 : decode cX6_joins 12 = .ok (.iload_n 3, 1) := by decide +kernel
theorem dX6_joins_13 : decode cX6_joins 13 = .ok (.if_icmp .ge 27, 3) := by decide +kernel
theorem dX6_joins_16 : decode cX6_joins 16 = .ok (.aload_n 0, 1) := by decide +kernel
theorem dX6_joins_17 : decode cX6_joins 17 = .ok (.getfield 54, 3) := by decide +kernel
theorem dX6_joins_20 : decode cX6_joins 20 = .ok (.iload 5, 2) := by decide +kernel
theorem dX6_joins_22 : decode cX6_joins 22 = .ok (.aload_n 0, 1) := by decide +kernel
theorem dX6_joins_23 : decode cX6_joins 23 = .ok (.getfield 51, 3) := by decide +kernel
theorem dX6_joins_26 : decode cX6_joins 26 = .ok (.iload_n 1, 1) := by decide +kernel
theorem dX6_joins_27 : decode cX6_joins 27 = .ok (.iload_n 2, 1) := by decide +kernel
theorem dX6_joins_28 : decode cX6_joins 28 = .ok (.iload 5, 2) := by decide +kernel
theorem dX6_joins_30 : decode cX6_joins 30 = .ok (.imul, 1) := by decide +kernel
theorem dX6_joins_31 : decode cX6_joins 31 = .ok (.iadd, 1) := by decide +kernel
theorem dX6_joins_32 : decode cX6_joins 32 = .ok (.iaload, 1) := by decide +kernel
theorem dX6_joins_33 : decode cX6_joins 33 = .ok (.iastore, 1) := by decide +kernel
theorem dX6_joins_34 : decode cX6_joins 34 = .ok (.iinc 5 1, 3) := by decide +kernel
theorem dX6_joins_37 : decode cX6_joins 37 = .ok (.goto (-27), 3) := by decide +kernel
theorem dX6_joins_40 : decode cX6_joins 40 = .ok (.iconst 0, 1) := by decide +kernel
theorem dX6_joins_41 : decode cX6_joins 41 = .ok (.istore 5, 2) := by decide +kernel
theorem dX6_joins_43 : decode cX6_joins 43 = .ok (.iconst 2, 1) := by decide +kernel
theorem dX6_joins_44 : decode cX6_joins 44 = .ok (.iload 5, 2) := by decide +kernel
theorem dX6_joins_46 : decode cX6_joins 46 = .ok (.imul, 1) := by decide +kernel
theorem dX6_joins_47 : decode cX6_joins 47 = .ok (.iconst 1, 1) := by decide +kernel
theorem dX6_joins_48 : decode cX6_joins 48 = .ok (.iadd, 1) := by decide +kernel
theorem dX6_joins_49 : decode cX6_joins 49 = .ok (.iload_n 3, 1) := by decide +kernel
theorem dX6_joins_50 : decode cX6_joins 50 = .ok (.if_icmp .ge 76, 3) := by decide +kernel
theorem dX6_joins_53 : decode cX6_joins 53 = .ok (.aload_n 0, 1) := by decide +kernel
theorem dX6_joins_54 : decode cX6_joins 54 = .ok (.getfield 54, 3) := by decide +kernel
theorem dX6_joins_57 : decode cX6_joins 57 = .ok (.iload 5, 2) := by decide +kernel
theorem dX6_joins_59 : decode cX6_joins 59 = .ok (.iaload, 1) := by decide +kernel
theorem dX6_joins_60 : decode cX6_joins 60 = .ok (.aload_n 0, 1) := by decide +kernel
theorem dX6_joins_61 : decode cX6_joins 61 = .ok (.getfield 54, 3) := by decide +kernel
theorem dX6_joins_64 : decode cX6_joins 64 = .ok (.iload 4, 2) := by decide +kernel
theorem dX6_joins_66 : decode cX6_joins 66 = .ok (.iload 5, 2) := by decide +kernel
theorem dX6_joins_68 : decode cX6_joins 68 = .ok (.iadd, 1) := by decide +kernel
theorem dX6_joins_69 : decode cX6_joins 69 = .ok (.iaload, 1) := by decide +kernel
theorem dX6_joins_70 : decode cX6_joins 70 = .ok (.iconst 1, 1) := by decide +kernel
theorem dX6_joins_71 : decode cX6_joins 71 = .ok (.iadd, 1) := by decide +kernel
theorem dX6_joins_72 : decode cX6_joins 72 = .ok (.iconst 1, 1) := by decide +kernel
theorem dX6_joins_73 : decode cX6_joins 73 = .ok (.ishr, 1) := by decide +kernel
theorem dX6_joins_74 : decode cX6_joins 74 = .ok (.iadd, 1) := by decide +kernel
theorem dX6_joins_75 : decode cX6_joins 75 = .ok (.istore 6, 2) := by decide +kernel
theorem dX6_joins_77 : decode cX6_joins 77 = .ok (.aload_n 0, 1) := by decide +kernel
theorem dX6_joins_78 : decode cX6_joins 78 = .ok (.getfield 51, 3) := by decide +kernel
theorem dX6_joins_81 : decode cX6_joins 81 = .ok (.iload_n 1, 1) := by decide +kernel
theorem dX6_joins_82 : decode cX6_joins 82 = .ok (.iload_n 2, 1) := by decide +kernel
theorem dX6_joins_83 : decode cX6_joins 83 = .ok (.iconst 2, 1) := by decide +kernel
theorem dX6_joins_84 : decode cX6_joins 84 = .ok (.imul, 1) := by decide +kernel
theorem dX6_joins_85 : decode cX6_joins 85 = .ok (.iload 5, 2) := by decide +kernel
theorem dX6_joins_87 : decode cX6_joins 87 = .ok (.imul, 1) := by decide +kernel
theorem dX6_joins_88 : decode cX6_joins 88 = .ok (.iadd, 1) := by decide +kernel
theorem dX6_joins_89 : decode cX6_joins 89 = .ok (.iload 6, 2) := by decide +kernel
theorem dX6_joins_91 : decode cX6_joins 91 = .ok (.iastore, 1) := by decide +kernel
theorem dX6_joins_92 : decode cX6_joins 92 = .ok (.aload_n 0, 1) := by decide +kernel
theorem dX6_joins_93 : decode cX6_joins 93 = .ok (.getfield 51, 3) := by decide +kernel
theorem dX6_joins_96 : decode cX6_joins 96 = .ok (.iload_n 1, 1) := by decide +kernel
theorem dX6_joins_97 : decode cX6_joins 97 = .ok (.iload_n 2, 1) := by decide +kernel
theorem dX6_joins_98 : decode cX6_joins 98 = .ok (.iconst 2, 1) := by decide +kernel
theorem dX6_joins_99 : decode cX6_joins 99 = .ok (.iload 5, 2) := by decide +kernel
theorem dX6_joins_101 : decode cX6_joins 101 = .ok (.imul, 1) := by decide +kernel
theorem dX6_joins_102 : decode cX6_joins 102 = .ok (.iconst 1, 1) := by decide +kernel
theorem dX6_joins_103 : decode cX6_joins 103 = .ok (.iadd, 1) := by decide +kernel
theorem dX6_joins_104 : decode cX6_joins 104 = .ok (.imul, 1) := by decide +kernel
theorem dX6_joins_105 : decode cX6_joins 105 = .ok (.iadd, 1) := by decide +kernel
theorem dX6_joins_106 : decode cX6_joins 106 = .ok (.iload 6, 2) := by decide +kernel
theorem dX6_joins_108 : decode cX6_joins 108 = .ok (.aload_n 0, 1) := by decide +kernel
theorem dX6_joins_109 : decode cX6_joins 109 = .ok (.getfield 54, 3) := by decide +kernel
theorem dX6_joins_112 : decode cX6_joins 112 = .ok (.iload 4, 2) := by decide +kernel
theorem dX6_joins_114 : decode cX6_joins 114 = .ok (.iload 5, 2) := by decide +kernel
theorem dX6_joins_116 : decode cX6_joins 116 = .ok (.iadd, 1) := by decide +kernel
theorem dX6_joins_117 : decode cX6_joins 117 = .ok (.iaload, 1) := by decide +kernel
theorem dX6_joins_118 : decode cX6_joins 118 = .ok (.isub, 1) := by decide +kernel
theorem dX6_joins_119 : decode cX6_joins 119 = .ok (.iastore, 1) := by decide +kernel
theorem dX6_joins_120 : decode cX6_joins 120 = .ok (.iinc 5 1, 3) := by decide +kernel
theorem dX6_joins_123 : decode cX6_joins 123 = .ok (.goto (-80), 3) := by decide +kernel
theorem dX6_joins_126 : decode cX6_joins 126 = .ok (.iload_n 3, 1) := by decide +kernel
theorem dX6_joins_127 : decode cX6_joins 127 = .ok (.iconst 2, 1) := by decide +kernel
theorem dX6_joins_128 : decode cX6_joins 128 = .ok (.irem, 1) := by decide +kernel
theorem dX6_joins_129 : decode cX6_joins 129 = .ok (.iconst 1, 1) := by decide +kernel
theorem dX6_joins_130 : decode cX6_joins 130 = .ok (.if_icmp .ne 24, 3) := by decide +kernel
theorem dX6_joins_133 : decode cX6_joins 133 = .ok (.aload_n 0, 1) := by decide +kernel
theorem dX6_joins_134 : decode cX6_joins 134 = .ok (.getfield 51, 3) := by decide +kernel
theorem dX6_joins_137 : decode cX6_joins 137 = .ok (.iload_n 1, 1) := by decide +kernel
theorem dX6_joins_138 : decode cX6_joins 138 = .ok (.iload_n 2, 1) := by decide +kernel
theorem dX6_joins_139 : decode cX6_joins 139 = .ok (.iload_n 3, 1) := by decide +kernel
theorem dX6_joins_140 : decode cX6_joins 140 = .ok (.iconst 1, 1) := by decide +kernel
theorem dX6_joins_141 : decode cX6_joins 141 = .ok (.isub, 1) := by decide +kernel
theorem dX6_joins_142 : decode cX6_joins 142 = .ok (.imul, 1) := by decide +kernel
theorem dX6_joins_143 : decode cX6_joins 143 = .ok (.iadd, 1) := by decide +kernel
theorem dX6_joins_144 : decode cX6_joins 144 = .ok (.aload_n 0, 1) := by decide +kernel
theorem dX6_joins_145 : decode cX6_joins 145 = .ok (.getfield 54, 3) := by decide +kernel
theorem dX6_joins_148 : decode cX6_joins 148 = .ok (.iload 4, 2) := by decide +kernel
theorem dX6_joins_150 : decode cX6_joins 150 = .ok (.iconst 1, 1) := by decide +kernel
theorem dX6_joins_151 : decode cX6_joins 151 = .ok (.isub, 1) := by decide +kernel
theorem dX6_joins_152 : decode cX6_joins 152 = .ok (.iaload, 1) := by decide +kernel
theorem dX6_joins_153 : decode cX6_joins 153 = .ok (.iastore, 1) := by decide +kernel
theorem dX6_joins_154 : decode cX6_joins 154 = .ok (.return_, 1) := by decide +kernel
theorem dX6_looks_0 : decode cX6_looks 0 = .ok (.aload_n 0, 1) := by decide +kernel
theorem dX6_looks_1 : decode cX6_looks 1 = .ok (.iload_n 1, 1) := by decide +kernel
theorem dX6_looks_2 : decode cX6_looks 2 = .ok (.invokevirtual 112, 3) := by decide +kernel
theorem dX6_looks_5 : decode cX6_looks 5 = .ok (.iconst 0, 1) := by decide +kernel
theorem dX6_looks_6 : decode cX6_looks 6 = .ok (.istore_n 2, 1) := by decide +kernel
theorem dX6_looks_7 : decode cX6_looks 7 = .ok (.iload_n 2, 1) := by decide +kernel
theorem dX6_looks_8 : decode cX6_looks 8 = .ok (.aload_n 0, 1) := by decide +kernel
theorem dX6_looks_9 : decode cX6_looks 9 = .ok (.getfield 41, 3) := by decide +kernel
theorem dX6_looks_12 : decode cX6_looks 12 = .ok (.iconst 0, 1) := by decide +kernel
theorem dX6_looks_13 : decode cX6_looks 13 = .ok (.iaload, 1) := by decide +kernel
theorem dX6_looks_14 : decode cX6_looks 14 = .ok (.if_icmp .ge 101, 3) := by decide +kernel
theorem dX6_looks_17 : decode cX6_looks 17 = .ok (.iconst 0, 1) := by decide +kernel
theorem dX6_looks_18 : decode cX6_looks 18 = .ok (.istore_n 3, 1) := by decide +kernel
theorem dX6_looks_19 : decode cX6_looks 19 = .ok (.iload_n 3, 1) := by decide +kernel
theorem dX6_looks_20 : decode cX6_looks 20 = .ok (.aload_n 0, 1) := by decide +kernel
theorem dX6_looks_21 : decode cX6_looks 21 = .ok (.getfield 38, 3) := by decide +kernel
theorem dX6_looks_24 : decode cX6_looks 24 = .ok (.iconst 0, 1) := by decide +kernel
theorem dX6_looks_25 : decode cX6_looks 25 = .ok (.iaload, 1) := by decide +kernel
theorem dX6_looks_26 : decode cX6_looks 26 = .ok (.if_icmp .ge 83, 3) := by decide +kernel
theorem dX6_looks_29 : decode cX6_looks 29 = .ok (.aload_n 0, 1) := by decide +kernel
theorem dX6_looks_30 : decode cX6_looks 30 = .ok (.getfield 44, 3) := by decide +kernel
theorem dX6_looks_33 : decode cX6_looks 33 = .ok (.aload_n 0, 1) := by decide +kernel
theorem dX6_looks_34 : decode cX6_looks 34 = .ok (.iload_n 3, 1) := by decide +kernel
theorem dX6_looks_35 : decode cX6_looks 35 = .ok (.iload_n 2, 1) := by decide +kernel
theorem dX6_looks_36 : decode cX6_looks 36 = .ok (.invokevirtual 116, 3) := by decide +kernel
theorem dX6_looks_39 : decode cX6_looks 39 = .ok (.aload_n 0, 1) := by decide +kernel
theorem dX6_looks_40 : decode cX6_looks 40 = .ok (.aload_n 0, 1) := by decide +kernel
theorem dX6_looks_41 : decode cX6_looks 41 = .ok (.getfield 97, 3) := by decide +kernel
theorem dX6_looks_44 : decode cX6_looks 44 = .ok (.iload_n 3, 1) := by decide +kernel
theorem dX6_looks_45 : decode cX6_looks 45 = .ok (.iadd, 1) := by decide +kernel
theorem dX6_looks_46 : decode cX6_looks 46 = .ok (.aload_n 0, 1) := by decide +kernel
theorem dX6_looks_47 : decode cX6_looks 47 = .ok (.getfield 100, 3) := by decide +kernel
theorem dX6_looks_50 : decode cX6_looks 50 = .ok (.iload_n 2, 1) := by decide +kernel
theorem dX6_looks_51 : decode cX6_looks 51 = .ok (.iadd, 1) := by decide +kernel
theorem dX6_looks_52 : decode cX6_looks 52 = .ok (.invokevirtual 119, 3) := by decide +kernel
theorem dX6_looks_55 : decode cX6_looks 55 = .ok (.iastore, 1) := by decide +kernel
theorem dX6_looks_56 : decode cX6_looks 56 = .ok (.aload_n 0, 1) := by decide +kernel
theorem dX6_looks_57 : decode cX6_looks 57 = .ok (.getfield 47, 3) := by decide +kernel
theorem dX6_looks_60 : decode cX6_looks 60 = .ok (.aload_n 0, 1) := by decide +kernel
theorem dX6_looks_61 : decode cX6_looks 61 = .ok (.iload_n 3, 1) := by decide +kernel
theorem dX6_looks_62 : decode cX6_looks 62 = .ok (.iload_n 2, 1) := by decide +kernel
theorem dX6_looks_63 : decode cX6_looks 63 = .ok (.invokevirtual 116, 3) := by decide +kernel
theorem dX6_looks_66 : decode cX6_looks 66 = .ok (.aload_n 0, 1) := by decide +kernel
theorem dX6_looks_67 : decode cX6_looks 67 = .ok (.getfield 9, 3) := by decide +kernel
theorem dX6_looks_70 : decode cX6_looks 70 = .ok (.sipush 261, 3) := by decide +kernel
theorem dX6_looks_73 : decode cX6_looks 73 = .ok (.aload_n 0, 1) := by decide +kernel
theorem dX6_looks_74 : decode cX6_looks 74 = .ok (.invokevirtual 77, 3) := by decide +kernel
theorem dX6_looks_77 : decode cX6_looks 77 = .ok (.aload_n 0, 1) := by decide +kernel
theorem dX6_looks_78 : decode cX6_looks 78 = .ok (.getfield 100, 3) := by decide +kernel
theorem dX6_looks_81 : decode cX6_looks 81 = .ok (.iload_n 2, 1) := by decide +kernel
theorem dX6_looks_82 : decode cX6_looks 82 = .ok (.iadd, 1) := by decide +kernel
theorem dX6_looks_83 : decode cX6_looks 83 = .ok (.imul, 1) := by decide +kernel
theorem dX6_looks_84 : decode cX6_looks 84 = .ok (.iadd, 1) := by decide +kernel
theorem dX6_looks_85 : decode cX6_looks 85 = .ok (.aload_n 0, 1) := by decide +kernel
theorem dX6_looks_86 : decode cX6_looks 86 = .ok (.getfield 97, 3) := by decide +kernel
theorem dX6_looks_89 : decode cX6_looks 89 = .ok (.iadd, 1) := by decide +kernel
theorem dX6_looks_90 : decode cX6_looks 90 = .ok (.iload_n 3, 1) := by decide +kernel
theorem dX6_looks_91 : decode cX6_looks 91 = .ok (.iadd, 1) := by decide +kernel
theorem dX6_looks_92 : decode cX6_looks 92 = .ok (.iaload, 1) := by decide +kernel
theorem dX6_looks_93 : decode cX6_looks 93 = .ok (.iconst 1, 1) := by decide +kernel
theorem dX6_looks_94 : decode cX6_looks 94 = .ok (.if_icmp .ne 7, 3) := by decide +kernel
theorem dX6_looks_97 : decode cX6_looks 97 = .ok (.iconst 1, 1) := by decide +kernel
theorem dX6_looks_98 : decode cX6_looks 98 = .ok (.goto 4, 3) := by decide +kernel
theorem dX6_looks_101 : decode cX6_looks 101 = .ok (.iconst 0, 1) := by decide +kernel
theorem dX6_looks_102 : decode cX6_looks 102 = .ok (.bastore, 1) := by decide +kernel
theorem dX6_looks_103 : decode cX6_looks 103 = .ok (.iinc 3 1, 3) := by decide +kernel
theorem dX6_looks_106 : decode cX6_looks 106 = .ok (.goto (-87), 3) := by decide +kernel
theorem dX6_looks_109 : decode cX6_looks 109 = .ok (.iinc 2 1, 3) := by decide +kernel
theorem dX6_looks_112 : decode cX6_looks 112 = .ok (.goto (-105), 3) := by decide +kernel
theorem dX6_looks_115 : decode cX6_looks 115 = .ok (.iconst 0, 1) := by decide +kernel
theorem dX6_looks_116 : decode cX6_looks 116 = .ok (.istore_n 2, 1) := by decide +kernel
theorem dX6_looks_117 : decode cX6_looks 117 = .ok (.iload_n 2, 1) := by decide +kernel
theorem dX6_looks_118 : decode cX6_looks 118 = .ok (.aload_n 0, 1) := by decide +kernel
theorem dX6_looks_119 : decode cX6_looks 119 = .ok (.getfield 109, 3) := by decide +kernel
theorem dX6_looks_122 : decode cX6_looks 122 = .ok (.if_icmp .ge 80, 3) := by decide +kernel
theorem dX6_looks_125 : decode cX6_looks 125 = .ok (.iconst 0, 1) := by decide +kernel
theorem dX6_looks_126 : decode cX6_looks 126 = .ok (.istore_n 3, 1) := by decide +kernel
theorem dX6_looks_127 : decode cX6_looks 127 = .ok (.iload_n 3, 1) := by decide +kernel
theorem dX6_looks_128 : decode cX6_looks 128 = .ok (.aload_n 0, 1) := by decide +kernel
theorem dX6_looks_129 : decode cX6_looks 129 = .ok (.getfield 41, 3) := by decide +kernel
theorem dX6_looks_132 : decode cX6_looks 132 = .ok (.iload_n 2, 1) := by decide +kernel
theorem dX6_looks_133 : decode cX6_looks 133 = .ok (.iaload, 1) := by decide +kernel
theorem dX6_looks_134 : decode cX6_looks 134 = .ok (.if_icmp .ge 26, 3) := by decide +kernel
theorem dX6_looks_137 : decode cX6_looks 137 = .ok (.aload_n 0, 1) := by decide +kernel
theorem dX6_looks_138 : decode cX6_looks 138 = .ok (.aload_n 0, 1) := by decide +kernel
theorem dX6_looks_139 : decode cX6_looks 139 = .ok (.iconst 0, 1) := by decide +kernel
theorem dX6_looks_140 : decode cX6_looks 140 = .ok (.iload_n 3, 1) := by decide +kernel
theorem dX6_looks_141 : decode cX6_looks 141 = .ok (.invokevirtual 116, 3) := by decide +kernel
theorem dX6_looks_144 : decode cX6_looks 144 = .ok (.iconst 1, 1) := by decide +kernel
theorem dX6_looks_145 : decode cX6_looks 145 = .ok (.aload_n 0, 1) := by decide +kernel
theorem dX6_looks_146 : decode cX6_looks 146 = .ok (.getfield 38, 3) := by decide +kernel
theorem dX6_looks_149 : decode cX6_looks 149 = .ok (.iload_n 2, 1) := by decide +kernel
theorem dX6_looks_150 : decode cX6_looks 150 = .ok (.iaload, 1) := by decide +kernel
theorem dX6_looks_151 : decode cX6_looks 151 = .ok (.invokevirtual 122, 3) := by decide +kernel
theorem dX6_looks_154 : decode cX6_looks 154 = .ok (.iinc 3 1, 3) := by decide +kernel
theorem dX6_looks_157 : decode cX6_looks 157 = .ok (.goto (-30), 3) := by decide +kernel
theorem dX6_looks_160 : decode cX6_looks 160 = .ok (.iconst 0, 1) := by decide +kernel
theorem dX6_looks_161 : decode cX6_looks 161 = .ok (.istore_n 3, 1) := by decide +kernel
theorem dX6_looks_162 : decode cX6_looks 162 = .ok (.iload_n 3, 1) := by decide +kernel
theorem dX6_looks_163 : decode cX6_looks 163 = .ok (.aload_n 0, 1) := by decide +kernel
theorem dX6_looks_164 : decode cX6_looks 164 = .ok (.getfield 38, 3) := by decide +kernel
theorem dX6_looks_167 : decode cX6_looks 167 = .ok (.iload_n 2, 1) := by decide +kernel
theorem dX6_looks_168 : decode cX6_looks 168 = .ok (.iaload, 1) := by decide +kernel
theorem dX6_looks_169 : decode cX6_looks 169 = .ok (.if_icmp .ge 27, 3) := by decide +kernel
theorem dX6_looks_172 : decode cX6_looks 172 = .ok (.aload_n 0, 1) := by decide +kernel
theorem dX6_looks_173 : decode cX6_looks 173 = .ok (.aload_n 0, 1) := by decide +kernel
theorem dX6_looks_174 : decode cX6_looks 174 = .ok (.iload_n 3, 1) := by decide +kernel
theorem dX6_looks_175 : decode cX6_looks 175 = .ok (.iconst 0, 1) := by decide +kernel
theorem dX6_looks_176 : decode cX6_looks 176 = .ok (.invokevirtual 116, 3) := by decide +kernel
theorem dX6_looks_179 : decode cX6_looks 179 = .ok (.bipush 8, 2) := by decide +kernel
theorem dX6_looks_181 : decode cX6_looks 181 = .ok (.aload_n 0, 1) := by decide +kernel
theorem dX6_looks_182 : decode cX6_looks 182 = .ok (.getfield 41, 3) := by decide +kernel
theorem dX6_looks_185 : decode cX6_looks 185 = .ok (.iload_n 2, 1) := by decide +kernel
theorem dX6_looks_186 : decode cX6_looks 186 = .ok (.iaload, 1) := by decide +kernel
theorem dX6_looks_187 : decode cX6_looks 187 = .ok (.invokevirtual 122, 3) := by decide +kernel
theorem dX6_looks_190 : decode cX6_looks 190 = .ok (.iinc 3 1, 3) := by decide +kernel
theorem dX6_looks_193 : decode cX6_looks 193 = .ok (.goto (-31), 3) := by decide +kernel
theorem dX6_looks_196 : decode cX6_looks 196 = .ok (.iinc 2 1, 3) := by decide +kernel
theorem dX6_looks_199 : decode cX6_looks 199 = .ok (.goto (-82), 3) := by decide +kernel
theorem dX6_looks_202 : decode cX6_looks 202 = .ok (.return_, 1) := by decide +kernel
theorem dX6_layer_0 : decode cX6_layer 0 = .ok (.aload_n 0, 1) := by decide +kernel
theorem dX6_layer_1 : decode cX6_layer 1 = .ok (.getfield 47, 3) := by decide +kernel
theorem dX6_layer_4 : decode cX6_layer 4 = .ok (.iload_n 1, 1) := by decide +kernel
theorem dX6_layer_5 : decode cX6_layer 5 = .ok (.baload, 1) := by decide +kernel
theorem dX6_layer_6 : decode cX6_layer 6 = .ok (.ifCond .eq 21, 3) := by decide +kernel
theorem dX6_layer_9 : decode cX6_layer 9 = .ok (.iconst 0, 1) := by decide +kernel
theorem dX6_layer_10 : decode cX6_layer 10 = .ok (.bipush 8, 2) := by decide +kernel
theorem dX6_layer_12 : decode cX6_layer 12 = .ok (.iload_n 2, 1) := by decide +kernel
theorem dX6_layer_13 : decode cX6_layer 13 = .ok (.isub, 1) := by decide +kernel
theorem dX6_layer_14 : decode cX6_layer 14 = .ok (.aload_n 0, 1) := by decide +kernel
theorem dX6_layer_15 : decode cX6_layer 15 = .ok (.getfield 9, 3) := by decide +kernel
theorem dX6_layer_18 : decode cX6_layer 18 = .ok (.iconst 4, 1) := by decide +kernel
theorem dX6_layer_19 : decode cX6_layer 19 = .ok (.iaload, 1) := by decide +kernel
theorem dX6_layer_20 : decode cX6_layer 20 = .ok (.isub, 1) := by decide +kernel
theorem dX6_layer_21 : decode cX6_layer 21 = .ok (.invokestatic 126, 3) := by decide +kernel
theorem dX6_layer_24 : decode cX6_layer 24 = .ok (.goto 7, 3) := by decide +kernel
theorem dX6_layer_27 : decode cX6_layer 27 = .ok (.bipush 8, 2) := by decide +kernel
theorem dX6_layer_29 : decode cX6_layer 29 = .ok (.iload_n 2, 1) := by decide +kernel
theorem dX6_layer_30 : decode cX6_layer 30 = .ok (.isub, 1) := by decide +kernel
theorem dX6_layer_31 : decode cX6_layer 31 = .ok (.ireturn, 1) := by decide +kernel
theorem dX6_decodes_0 : decode cX6_decodes 0 = .ok (.iconst 0, 1) := by decide +kernel
theorem dX6_decodes_1 : decode cX6_decodes 1 = .ok (.istore_n 2, 1) := by decide +kernel
theorem dX6_decodes_2 : decode cX6_decodes 2 = .ok (.iload_n 2, 1) := by decide +kernel
theorem dX6_decodes_3 : decode cX6_decodes 3 = .ok (.aload_n 0, 1) := by decide +kernel
theorem dX6_decodes_4 : decode cX6_decodes 4 = .ok (.getfield 41, 3) := by decide +kernel
theorem dX6_decodes_7 : decode cX6_decodes 7 = .ok (.iconst 0, 1) := by decide +kernel
theorem dX6_decodes_8 : decode cX6_decodes 8 = .ok (.iaload, 1) := by decide +kernel
theorem dX6_decodes_9 : decode cX6_decodes 9 = .ok (.if_icmp .ge 111, 3) := by decide +kernel
theorem dX6_decodes_12 : decode cX6_decodes 12 = .ok (.iconst 0, 1) := by decide +kernel
theorem dX6_decodes_13 : decode cX6_decodes 13 = .ok (.istore_n 3, 1) := by decide +kernel
theorem dX6_decodes_14 : decode cX6_decodes 14 = .ok (.iload_n 3, 1) := by decide +kernel
theorem dX6_decodes_15 : decode cX6_decodes 15 = .ok (.aload_n 0, 1) := by decide +kernel
theorem dX6_decodes_16 : decode cX6_decodes 16 = .ok (.getfield 38, 3) := by decide +kernel
theorem dX6_decodes_19 : decode cX6_decodes 19 = .ok (.iconst 0, 1) := by decide +kernel
theorem dX6_decodes_20 : decode cX6_decodes 20 = .ok (.iaload, 1) := by decide +kernel
theorem dX6_decodes_21 : decode cX6_decodes 21 = .ok (.if_icmp .ge 93, 3) := by decide +kernel
theorem dX6_decodes_24 : decode cX6_decodes 24 = .ok (.aload_n 0, 1) := by decide +kernel
theorem dX6_decodes_25 : decode cX6_decodes 25 = .ok (.iload_n 3, 1) := by decide +kernel
theorem dX6_decodes_26 : decode cX6_decodes 26 = .ok (.iload_n 2, 1) := by decide +kernel
theorem dX6_decodes_27 : decode cX6_decodes 27 = .ok (.invokevirtual 116, 3) := by decide +kernel
theorem dX6_decodes_30 : decode cX6_decodes 30 = .ok (.istore 4, 2) := by decide +kernel
theorem dX6_decodes_32 : decode cX6_decodes 32 = .ok (.iconst 0, 1) := by decide +kernel
theorem dX6_decodes_33 : decode cX6_decodes 33 = .ok (.istore 5, 2) := by decide +kernel
theorem dX6_decodes_35 : decode cX6_decodes 35 = .ok (.iconst 0, 1) := by decide +kernel
theorem dX6_decodes_36 : decode cX6_decodes 36 = .ok (.istore 6, 2) := by decide +kernel
theorem dX6_decodes_38 : decode cX6_decodes 38 = .ok (.iload 6, 2) := by decide +kernel
theorem dX6_decodes_40 : decode cX6_decodes 40 = .ok (.bipush 9, 2) := by decide +kernel
theorem dX6_decodes_42 : decode cX6_decodes 42 = .ok (.if_icmp .ge 41, 3) := by decide +kernel
theorem dX6_decodes_45 : decode cX6_decodes 45 = .ok (.aload_n 0, 1) := by decide +kernel
theorem dX6_decodes_46 : decode cX6_decodes 46 = .ok (.iload 4, 2) := by decide +kernel
theorem dX6_decodes_48 : decode cX6_decodes 48 = .ok (.iload 6, 2) := by decide +kernel
theorem dX6_decodes_50 : decode cX6_decodes 50 = .ok (.invokevirtual 129, 3) := by decide +kernel
theorem dX6_decodes_53 : decode cX6_decodes 53 = .ok (.iload_n 1, 1) := by decide +kernel
theorem dX6_decodes_54 : decode cX6_decodes 54 = .ok (.if_icmp .ge 23, 3) := by decide +kernel
theorem dX6_decodes_57 : decode cX6_decodes 57 = .ok (.iload 5, 2) := by decide +kernel
theorem dX6_decodes_59 : decode cX6_decodes 59 = .ok (.aload_n 0, 1) := by decide +kernel
theorem dX6_decodes_60 : decode cX6_decodes 60 = .ok (.getfield 44, 3) := by decide +kernel
theorem dX6_decodes_63 : decode cX6_decodes 63 = .ok (.iload 4, 2) := by decide +kernel
theorem dX6_decodes_65 : decode cX6_decodes 65 = .ok (.iaload, 1) := by decide +kernel
theorem dX6_decodes_66 : decode cX6_decodes 66 = .ok (.invokestatic 132, 3) := by decide +kernel
theorem dX6_decodes_69 : decode cX6_decodes 69 = .ok (.iconst 1, 1) := by decide +kernel
theorem dX6_decodes_70 : decode cX6_decodes 70 = .ok (.iload 6, 2) := by decide +kernel
theorem dX6_decodes_72 : decode cX6_decodes 72 = .ok (.ishl, 1) := by decide +kernel
theorem dX6_decodes_73 : decode cX6_decodes 73 = .ok (.iand, 1) := by decide +kernel
theorem dX6_decodes_74 : decode cX6_decodes 74 = .ok (.iadd, 1) := by decide +kernel
theorem dX6_decodes_75 : decode cX6_decodes 75 = .ok (.istore 5, 2) := by decide +kernel
theorem dX6_decodes_77 : decode cX6_decodes 77 = .ok (.iinc 6 1, 3) := by decide +kernel
theorem dX6_decodes_80 : decode cX6_decodes 80 = .ok (.goto (-42), 3) := by decide +kernel
theorem dX6_decodes_83 : decode cX6_decodes 83 = .ok (.aload_n 0, 1) := by decide +kernel
theorem dX6_decodes_84 : decode cX6_decodes 84 = .ok (.getfield 51, 3) := by decide +kernel
theorem dX6_decodes_87 : decode cX6_decodes 87 = .ok (.iload 4, 2) := by decide +kernel
theorem dX6_decodes_89 : decode cX6_decodes 89 = .ok (.aload_n 0, 1) := by decide +kernel
theorem dX6_decodes_90 : decode cX6_decodes 90 = .ok (.getfield 44, 3) := by decide +kernel
theorem dX6_decodes_93 : decode cX6_decodes 93 = .ok (.iload 4, 2) := by decide +kernel
theorem dX6_decodes_95 : decode cX6_decodes 95 = .ok (.iaload, 1) := by decide +kernel
theorem dX6_decodes_96 : decode cX6_decodes 96 = .ok (.ifCond .ge 9, 3) := by decide +kernel
theorem dX6_decodes_99 : decode cX6_decodes 99 = .ok (.iload 5, 2) := by decide +kernel
theorem dX6_decodes_101 : decode cX6_decodes 101 = .ok (.ineg, 1) := by decide +kernel
theorem dX6_decodes_102 : decode cX6_decodes 102 = .ok (.goto 5, 3) := by decide +kernel
theorem dX6_decodes_105 : decode cX6_decodes 105 = .ok (.iload 5, 2) := by decide +kernel
theorem dX6_decodes_107 : decode cX6_decodes 107 = .ok (.iastore, 1) := by decide +kernel
theorem dX6_decodes_108 : decode cX6_decodes 108 = .ok (.iinc 3 1, 3) := by decide +kernel
theorem dX6_decodes_111 : decode cX6_decodes 111 = .ok (.goto (-97), 3) := by decide +kernel
theorem dX6_decodes_114 : decode cX6_decodes 114 = .ok (.iinc 2 1, 3) := by decide +kernel
theorem dX6_decodes_117 : decode cX6_decodes 117 = .ok (.goto (-115), 3) := by decide +kernel
theorem dX6_decodes_120 : decode cX6_decodes 120 = .ok (.aload_n 0, 1) := by decide +kernel
theorem dX6_decodes_121 : decode cX6_decodes 121 = .ok (.getfield 109, 3) := by decide +kernel
theorem dX6_decodes_124 : decode cX6_decodes 124 = .ok (.iconst 1, 1) := by decide +kernel
theorem dX6_decodes_125 : decode cX6_decodes 125 = .ok (.isub, 1) := by decide +kernel
theorem dX6_decodes_126 : decode cX6_decodes 126 = .ok (.istore_n 2, 1) := by decide +kernel
theorem dX6_decodes_127 : decode cX6_decodes 127 = .ok (.iload_n 2, 1) := by decide +kernel
theorem dX6_decodes_128 : decode cX6_decodes 128 = .ok (.ifCond .lt 80, 3) := by decide +kernel
theorem dX6_decodes_131 : decode cX6_decodes 131 = .ok (.iconst 0, 1) := by decide +kernel
theorem dX6_decodes_132 : decode cX6_decodes 132 = .ok (.istore_n 3, 1) := by decide +kernel
theorem dX6_decodes_133 : decode cX6_decodes 133 = .ok (.iload_n 3, 1) := by decide +kernel
theorem dX6_decodes_134 : decode cX6_decodes 134 = .ok (.aload_n 0, 1) := by decide +kernel
theorem dX6_decodes_135 : decode cX6_decodes 135 = .ok (.getfield 38, 3) := by decide +kernel
theorem dX6_decodes_138 : decode cX6_decodes 138 = .ok (.iload_n 2, 1) := by decide +kernel
theorem dX6_decodes_139 : decode cX6_decodes 139 = .ok (.iaload, 1) := by decide +kernel
theorem dX6_decodes_140 : decode cX6_decodes 140 = .ok (.if_icmp .ge 27, 3) := by decide +kernel
theorem dX6_decodes_143 : decode cX6_decodes 143 = .ok (.aload_n 0, 1) := by decide +kernel
theorem dX6_decodes_144 : decode cX6_decodes 144 = .ok (.aload_n 0, 1) := by decide +kernel
theorem dX6_decodes_145 : decode cX6_decodes 145 = .ok (.iload_n 3, 1) := by decide +kernel
theorem dX6_decodes_146 : decode cX6_decodes 146 = .ok (.iconst 0, 1) := by decide +kernel
theorem dX6_decodes_147 : decode cX6_decodes 147 = .ok (.invokevirtual 116, 3) := by decide +kernel
theorem dX6_decodes_150 : decode cX6_decodes 150 = .ok (.bipush 8, 2) := by decide +kernel
theorem dX6_decodes_152 : decode cX6_decodes 152 = .ok (.aload_n 0, 1) := by decide +kernel
theorem dX6_decodes_153 : decode cX6_decodes 153 = .ok (.getfield 41, 3) := by decide +kernel
theorem dX6_decodes_156 : decode cX6_decodes 156 = .ok (.iload_n 2, 1) := by decide +kernel
theorem dX6_decodes_157 : decode cX6_decodes 157 = .ok (.iaload, 1) := by decide +kernel
theorem dX6_decodes_158 : decode cX6_decodes 158 = .ok (.invokevirtual 136, 3) := by decide +kernel
theorem dX6_decodes_161 : decode cX6_decodes 161 = .ok (.iinc 3 1, 3) := by decide +kernel
theorem dX6_decodes_164 : decode cX6_decodes 164 = .ok (.goto (-31), 3) := by decide +kernel
theorem dX6_decodes_167 : decode cX6_decodes 167 = .ok (.iconst 0, 1) := by decide +kernel
theorem dX6_decodes_168 : decode cX6_decodes 168 = .ok (.istore_n 3, 1) := by decide +kernel
theorem dX6_decodes_169 : decode cX6_decodes 169 = .ok (.iload_n 3, 1) := by decide +kernel
theorem dX6_decodes_170 : decode cX6_decodes 170 = .ok (.aload_n 0, 1) := by decide +kernel
theorem dX6_decodes_171 : decode cX6_decodes 171 = .ok (.getfield 41, 3) := by decide +kernel
theorem dX6_decodes_174 : decode cX6_decodes 174 = .ok (.iload_n 2, 1) := by decide +kernel
theorem dX6_decodes_175 : decode cX6_decodes 175 = .ok (.iaload, 1) := by decide +kernel
theorem dX6_decodes_176 : decode cX6_decodes 176 = .ok (.if_icmp .ge 26, 3) := by decide +kernel
theorem dX6_decodes_179 : decode cX6_decodes 179 = .ok (.aload_n 0, 1) := by decide +kernel
theorem dX6_decodes_180 : decode cX6_decodes 180 = .ok (.aload_n 0, 1) := by decide +kernel
theorem dX6_decodes_181 : decode cX6_decodes 181 = .ok (.iconst 0, 1) := by decide +kernel
theorem dX6_decodes_182 : decode cX6_decodes 182 = .ok (.iload_n 3, 1) := by decide +kernel
theorem dX6_decodes_183 : decode cX6_decodes 183 = .ok (.invokevirtual 116, 3) := by decide +kernel
theorem dX6_decodes_186 : decode cX6_decodes 186 = .ok (.iconst 1, 1) := by decide +kernel
theorem dX6_decodes_187 : decode cX6_decodes 187 = .ok (.aload_n 0, 1) := by decide +kernel
theorem dX6_decodes_188 : decode cX6_decodes 188 = .ok (.getfield 38, 3) := by decide +kernel
theorem dX6_decodes_191 : decode cX6_decodes 191 = .ok (.iload_n 2, 1) := by decide +kernel
theorem dX6_decodes_192 : decode cX6_decodes 192 = .ok (.iaload, 1) := by decide +kernel
theorem dX6_decodes_193 : decode cX6_decodes 193 = .ok (.invokevirtual 136, 3) := by decide +kernel
theorem dX6_decodes_196 : decode cX6_decodes 196 = .ok (.iinc 3 1, 3) := by decide +kernel
theorem dX6_decodes_199 : decode cX6_decodes 199 = .ok (.goto (-30), 3) := by decide +kernel
theorem dX6_decodes_202 : decode cX6_decodes 202 = .ok (.iinc 2 (-1), 3) := by decide +kernel
theorem dX6_decodes_205 : decode cX6_decodes 205 = .ok (.goto (-78), 3) := by decide +kernel
theorem dX6_decodes_208 : decode cX6_decodes 208 = .ok (.iconst 0, 1) := by decide +kernel
theorem dX6_decodes_209 : decode cX6_decodes 209 = .ok (.istore_n 2, 1) := by decide +kernel
theorem dX6_decodes_210 : decode cX6_decodes 210 = .ok (.iload_n 2, 1) := by decide +kernel
theorem dX6_decodes_211 : decode cX6_decodes 211 = .ok (.aload_n 0, 1) := by decide +kernel
theorem dX6_decodes_212 : decode cX6_decodes 212 = .ok (.getfield 41, 3) := by decide +kernel
theorem dX6_decodes_215 : decode cX6_decodes 215 = .ok (.iconst 0, 1) := by decide +kernel
theorem dX6_decodes_216 : decode cX6_decodes 216 = .ok (.iaload, 1) := by decide +kernel
theorem dX6_decodes_217 : decode cX6_decodes 217 = .ok (.if_icmp .ge 59, 3) := by decide +kernel
theorem dX6_decodes_220 : decode cX6_decodes 220 = .ok (.iconst 0, 1) := by decide +kernel
theorem dX6_decodes_221 : decode cX6_decodes 221 = .ok (.istore_n 3, 1) := by decide +kernel
theorem dX6_decodes_222 : decode cX6_decodes 222 = .ok (.iload_n 3, 1) := by decide +kernel
theorem dX6_decodes_223 : decode cX6_decodes 223 = .ok (.aload_n 0, 1) := by decide +kernel
theorem dX6_decodes_224 : decode cX6_decodes 224 = .ok (.getfield 38, 3) := by decide +kernel
theorem dX6_decodes_227 : decode cX6_decodes 227 = .ok (.iconst 0, 1) := by decide +kernel
theorem dX6_decodes_228 : decode cX6_decodes 228 = .ok (.iaload, 1) := by decide +kernel
theorem dX6_decodes_229 : decode cX6_decodes 229 = .ok (.if_icmp .ge 41, 3) := by decide +kernel
theorem dX6_decodes_232 : decode cX6_decodes 232 = .ok (.aload_n 0, 1) := by decide +kernel
theorem dX6_decodes_233 : decode cX6_decodes 233 = .ok (.getfield 51, 3) := by decide +kernel
theorem dX6_decodes_236 : decode cX6_decodes 236 = .ok (.aload_n 0, 1) := by decide +kernel
theorem dX6_decodes_237 : decode cX6_decodes 237 = .ok (.iload_n 3, 1) := by decide +kernel
theorem dX6_decodes_238 : decode cX6_decodes 238 = .ok (.iload_n 2, 1) := by decide +kernel
theorem dX6_decodes_239 : decode cX6_decodes 239 = .ok (.invokevirtual 116, 3) := by decide +kernel
theorem dX6_decodes_242 : decode cX6_decodes 242 = .ok (.iconst 0, 1) := by decide +kernel
theorem dX6_decodes_243 : decode cX6_decodes 243 = .ok (.sipush 255, 3) := by decide +kernel
theorem dX6_decodes_246 : decode cX6_decodes 246 = .ok (.aload_n 0, 1) := by decide +kernel
theorem dX6_decodes_247 : decode cX6_decodes 247 = .ok (.getfield 51, 3) := by decide +kernel
theorem dX6_decodes_250 : decode cX6_decodes 250 = .ok (.aload_n 0, 1) := by decide +kernel
theorem dX6_decodes_251 : decode cX6_decodes 251 = .ok (.iload_n 3, 1) := by decide +kernel
theorem dX6_decodes_252 : decode cX6_decodes 252 = .ok (.iload_n 2, 1) := by decide +kernel
theorem dX6_decodes_253 : decode cX6_decodes 253 = .ok (.invokevirtual 116, 3) := by decide +kernel
theorem dX6_decodes_256 : decode cX6_decodes 256 = .ok (.iaload, 1) := by decide +kernel
theorem dX6_decodes_257 : decode cX6_decodes 257 = .ok (.invokestatic 103, 3) := by decide +kernel
theorem dX6_decodes_260 : decode cX6_decodes 260 = .ok (.invokestatic 126, 3) := by decide +kernel
theorem dX6_decodes_263 : decode cX6_decodes 263 = .ok (.iastore, 1) := by decide +kernel
theorem dX6_decodes_264 : decode cX6_decodes 264 = .ok (.iinc 3 1, 3) := by decide +kernel
theorem dX6_decodes_267 : decode cX6_decodes 267 = .ok (.goto (-45), 3) := by decide +kernel
theorem dX6_decodes_270 : decode cX6_decodes 270 = .ok (.iinc 2 1, 3) := by decide +kernel
theorem dX6_decodes_273 : decode cX6_decodes 273 = .ok (.goto (-63), 3) := by decide +kernel
theorem dX6_decodes_276 : decode cX6_decodes 276 = .ok (.return_, 1) := by decide +kernel
theorem dX6_differs_0 : decode cX6_differs 0 = .ok (.aload_n 0, 1) := by decide +kernel
theorem dX6_differs_1 : decode cX6_differs 1 = .ok (.getfield 51, 3) := by decide +kernel
theorem dX6_differs_4 : decode cX6_differs 4 = .ok (.aload_n 0, 1) := by decide +kernel
theorem dX6_differs_5 : decode cX6_differs 5 = .ok (.iload_n 1, 1) := by decide +kernel
theorem dX6_differs_6 : decode cX6_differs 6 = .ok (.iload_n 2, 1) := by decide +kernel
theorem dX6_differs_7 : decode cX6_differs 7 = .ok (.invokevirtual 116, 3) := by decide +kernel
theorem dX6_differs_10 : decode cX6_differs 10 = .ok (.iaload, 1) := by decide +kernel
theorem dX6_differs_11 : decode cX6_differs 11 = .ok (.aload_n 0, 1) := by decide +kernel
theorem dX6_differs_12 : decode cX6_differs 12 = .ok (.aload_n 0, 1) := by decide +kernel
theorem dX6_differs_13 : decode cX6_differs 13 = .ok (.getfield 97, 3) := by decide +kernel
theorem dX6_differs_16 : decode cX6_differs 16 = .ok (.iload_n 1, 1) := by decide +kernel
theorem dX6_differs_17 : decode cX6_differs 17 = .ok (.iadd, 1) := by decide +kernel
theorem dX6_differs_18 : decode cX6_differs 18 = .ok (.aload_n 0, 1) := by decide +kernel
theorem dX6_differs_19 : decode cX6_differs 19 = .ok (.getfield 100, 3) := by decide +kernel
theorem dX6_differs_22 : decode cX6_differs 22 = .ok (.iload_n 2, 1) := by decide +kernel
theorem dX6_differs_23 : decode cX6_differs 23 = .ok (.iadd, 1) := by decide +kernel
theorem dX6_differs_24 : decode cX6_differs 24 = .ok (.invokevirtual 119, 3) := by decide +kernel
theorem dX6_differs_27 : decode cX6_differs 27 = .ok (.isub, 1) := by decide +kernel
theorem dX6_differs_28 : decode cX6_differs 28 = .ok (.invokestatic 132, 3) := by decide +kernel
theorem dX6_differs_31 : decode cX6_differs 31 = .ok (.ireturn, 1) := by decide +kernel
theorem dX6_worstOf_0 : decode cX6_worstOf 0 = .ok (.iconst 0, 1) := by decide +kernel
theorem dX6_worstOf_1 : decode cX6_worstOf 1 = .ok (.istore_n 1, 1) := by decide +kernel
theorem dX6_worstOf_2 : decode cX6_worstOf 2 = .ok (.iconst 0, 1) := by decide +kernel
theorem dX6_worstOf_3 : decode cX6_worstOf 3 = .ok (.istore_n 2, 1) := by decide +kernel
theorem dX6_worstOf_4 : decode cX6_worstOf 4 = .ok (.iload_n 2, 1) := by decide +kernel
theorem dX6_worstOf_5 : decode cX6_worstOf 5 = .ok (.aload_n 0, 1) := by decide +kernel
theorem dX6_worstOf_6 : decode cX6_worstOf 6 = .ok (.getfield 41, 3) := by decide +kernel
theorem dX6_worstOf_9 : decode cX6_worstOf 9 = .ok (.iconst 0, 1) := by decide +kernel
theorem dX6_worstOf_10 : decode cX6_worstOf 10 = .ok (.iaload, 1) := by decide +kernel
theorem dX6_worstOf_11 : decode cX6_worstOf 11 = .ok (.if_icmp .ge 38, 3) := by decide +kernel
theorem dX6_worstOf_14 : decode cX6_worstOf 14 = .ok (.iconst 0, 1) := by decide +kernel
theorem dX6_worstOf_15 : decode cX6_worstOf 15 = .ok (.istore_n 3, 1) := by decide +kernel
theorem dX6_worstOf_16 : decode cX6_worstOf 16 = .ok (.iload_n 3, 1) := by decide +kernel
theorem dX6_worstOf_17 : decode cX6_worstOf 17 = .ok (.aload_n 0, 1) := by decide +kernel
theorem dX6_worstOf_18 : decode cX6_worstOf 18 = .ok (.getfield 38, 3) := by decide +kernel
theorem dX6_worstOf_21 : decode cX6_worstOf 21 = .ok (.iconst 0, 1) := by decide +kernel
theorem dX6_worstOf_22 : decode cX6_worstOf 22 = .ok (.iaload, 1) := by decide +kernel
theorem dX6_worstOf_23 : decode cX6_worstOf 23 = .ok (.if_icmp .ge 20, 3) := by decide +kernel
theorem dX6_worstOf_26 : decode cX6_worstOf 26 = .ok (.iload_n 1, 1) := by decide +kernel
theorem dX6_worstOf_27 : decode cX6_worstOf 27 = .ok (.aload_n 0, 1) := by decide +kernel
theorem dX6_worstOf_28 : decode cX6_worstOf 28 = .ok (.iload_n 3, 1) := by decide +kernel
theorem dX6_worstOf_29 : decode cX6_worstOf 29 = .ok (.iload_n 2, 1) := by decide +kernel
theorem dX6_worstOf_30 : decode cX6_worstOf 30 = .ok (.invokevirtual 139, 3) := by decide +kernel
theorem dX6_worstOf_33 : decode cX6_worstOf 33 = .ok (.invokestatic 126, 3) := by decide +kernel
theorem dX6_worstOf_36 : decode cX6_worstOf 36 = .ok (.istore_n 1, 1) := by decide +kernel
theorem dX6_worstOf_37 : decode cX6_worstOf 37 = .ok (.iinc 3 1, 3) := by decide +kernel
theorem dX6_worstOf_40 : decode cX6_worstOf 40 = .ok (.goto (-24), 3) := by decide +kernel
theorem dX6_worstOf_43 : decode cX6_worstOf 43 = .ok (.iinc 2 1, 3) := by decide +kernel
theorem dX6_worstOf_46 : decode cX6_worstOf 46 = .ok (.goto (-42), 3) := by decide +kernel
theorem dX6_worstOf_49 : decode cX6_worstOf 49 = .ok (.iload_n 1, 1) := by decide +kernel
theorem dX6_worstOf_50 : decode cX6_worstOf 50 = .ok (.ireturn, 1) := by decide +kernel
theorem dX6_bitsOf_0 : decode cX6_bitsOf 0 = .ok (.iconst 0, 1) := by decide +kernel
theorem dX6_bitsOf_1 : decode cX6_bitsOf 1 = .ok (.istore_n 2, 1) := by decide +kernel
theorem dX6_bitsOf_2 : decode cX6_bitsOf 2 = .ok (.iconst 0, 1) := by decide +kernel
theorem dX6_bitsOf_3 : decode cX6_bitsOf 3 = .ok (.istore_n 3, 1) := by decide +kernel
theorem dX6_bitsOf_4 : decode cX6_bitsOf 4 = .ok (.iload_n 3, 1) := by decide +kernel
theorem dX6_bitsOf_5 : decode cX6_bitsOf 5 = .ok (.aload_n 0, 1) := by decide +kernel
theorem dX6_bitsOf_6 : decode cX6_bitsOf 6 = .ok (.getfield 41, 3) := by decide +kernel
theorem dX6_bitsOf_9 : decode cX6_bitsOf 9 = .ok (.iconst 0, 1) := by decide +kernel
theorem dX6_bitsOf_10 : decode cX6_bitsOf 10 = .ok (.iaload, 1) := by decide +kernel
theorem dX6_bitsOf_11 : decode cX6_bitsOf 11 = .ok (.if_icmp .ge 98, 3) := by decide +kernel
theorem dX6_bitsOf_14 : decode cX6_bitsOf 14 = .ok (.iconst 0, 1) := by decide +kernel
theorem dX6_bitsOf_15 : decode cX6_bitsOf 15 = .ok (.istore 4, 2) := by decide +kernel
theorem dX6_bitsOf_17 : decode cX6_bitsOf 17 = .ok (.iload 4, 2) := by decide +kernel
theorem dX6_bitsOf_19 : decode cX6_bitsOf 19 = .ok (.aload_n 0, 1) := by decide +kernel
theorem dX6_bitsOf_20 : decode cX6_bitsOf 20 = .ok (.getfield 38, 3) := by decide +kernel
theorem dX6_bitsOf_23 : decode cX6_bitsOf 23 = .ok (.iconst 0, 1) := by decide +kernel
theorem dX6_bitsOf_24 : decode cX6_bitsOf 24 = .ok (.iaload, 1) := by decide +kernel
theorem dX6_bitsOf_25 : decode cX6_bitsOf 25 = .ok (.if_icmp .ge 78, 3) := by decide +kernel
theorem dX6_bitsOf_28 : decode cX6_bitsOf 28 = .ok (.aload_n 0, 1) := by decide +kernel
theorem dX6_bitsOf_29 : decode cX6_bitsOf 29 = .ok (.iload 4, 2) := by decide +kernel
theorem dX6_bitsOf_31 : decode cX6_bitsOf 31 = .ok (.iload_n 3, 1) := by decide +kernel
theorem dX6_bitsOf_32 : decode cX6_bitsOf 32 = .ok (.invokevirtual 116, 3) := by decide +kernel
theorem dX6_bitsOf_35 : decode cX6_bitsOf 35 = .ok (.istore 5, 2) := by decide +kernel
theorem dX6_bitsOf_37 : decode cX6_bitsOf 37 = .ok (.aload_n 0, 1) := by decide +kernel
theorem dX6_bitsOf_38 : decode cX6_bitsOf 38 = .ok (.getfield 44, 3) := by decide +kernel
theorem dX6_bitsOf_41 : decode cX6_bitsOf 41 = .ok (.iload 5, 2) := by decide +kernel
theorem dX6_bitsOf_43 : decode cX6_bitsOf 43 = .ok (.iaload, 1) := by decide +kernel
theorem dX6_bitsOf_44 : decode cX6_bitsOf 44 = .ok (.invokestatic 132, 3) := by decide +kernel
theorem dX6_bitsOf_47 : decode cX6_bitsOf 47 = .ok (.istore 6, 2) := by decide +kernel
theorem dX6_bitsOf_49 : decode cX6_bitsOf 49 = .ok (.iconst 0, 1) := by decide +kernel
theorem dX6_bitsOf_50 : decode cX6_bitsOf 50 = .ok (.istore 7, 2) := by decide +kernel
theorem dX6_bitsOf_52 : decode cX6_bitsOf 52 = .ok (.iload 7, 2) := by decide +kernel
theorem dX6_bitsOf_54 : decode cX6_bitsOf 54 = .ok (.bipush 9, 2) := by decide +kernel
theorem dX6_bitsOf_56 : decode cX6_bitsOf 56 = .ok (.if_icmp .ge 41, 3) := by decide +kernel
theorem dX6_bitsOf_59 : decode cX6_bitsOf 59 = .ok (.aload_n 0, 1) := by decide +kernel
theorem dX6_bitsOf_60 : decode cX6_bitsOf 60 = .ok (.iload 5, 2) := by decide +kernel
theorem dX6_bitsOf_62 : decode cX6_bitsOf 62 = .ok (.iload 7, 2) := by decide +kernel
theorem dX6_bitsOf_64 : decode cX6_bitsOf 64 = .ok (.invokevirtual 129, 3) := by decide +kernel
theorem dX6_bitsOf_67 : decode cX6_bitsOf 67 = .ok (.iload_n 1, 1) := by decide +kernel
theorem dX6_bitsOf_68 : decode cX6_bitsOf 68 = .ok (.if_icmp .eq 6, 3) := by decide +kernel
theorem dX6_bitsOf_71 : decode cX6_bitsOf 71 = .ok (.goto 20, 3) := by decide +kernel
theorem dX6_bitsOf_74 : decode cX6_bitsOf 74 = .ok (.iload_n 2, 1) := by decide +kernel
theorem dX6_bitsOf_75 : decode cX6_bitsOf 75 = .ok (.iload 6, 2) := by decide +kernel
theorem dX6_bitsOf_77 : decode cX6_bitsOf 77 = .ok (.iload 7, 2) := by decide +kernel
theorem dX6_bitsOf_79 : decode cX6_bitsOf 79 = .ok (.ishr, 1) := by decide +kernel
theorem dX6_bitsOf_80 : decode cX6_bitsOf 80 = .ok (.iconst 1, 1) := by decide +kernel
theorem dX6_bitsOf_81 : decode cX6_bitsOf 81 = .ok (.if_icmp .ne 7, 3) := by decide +kernel
theorem dX6_bitsOf_84 : decode cX6_bitsOf 84 = .ok (.iconst 2, 1) := by decide +kernel
theorem dX6_bitsOf_85 : decode cX6_bitsOf 85 = .ok (.goto 4, 3) := by decide +kernel
theorem dX6_bitsOf_88 : decode cX6_bitsOf 88 = .ok (.iconst 1, 1) := by decide +kernel
theorem dX6_bitsOf_89 : decode cX6_bitsOf 89 = .ok (.iadd, 1) := by decide +kernel
theorem dX6_bitsOf_90 : decode cX6_bitsOf 90 = .ok (.istore_n 2, 1) := by decide +kernel
theorem dX6_bitsOf_91 : decode cX6_bitsOf 91 = .ok (.iinc 7 1, 3) := by decide +kernel
theorem dX6_bitsOf_94 : decode cX6_bitsOf 94 = .ok (.goto (-42), 3) := by decide +kernel
theorem dX6_bitsOf_97 : decode cX6_bitsOf 97 = .ok (.iinc 4 1, 3) := by decide +kernel
theorem dX6_bitsOf_100 : decode cX6_bitsOf 100 = .ok (.goto (-83), 3) := by decide +kernel
theorem dX6_bitsOf_103 : decode cX6_bitsOf 103 = .ok (.iinc 3 1, 3) := by decide +kernel
theorem dX6_bitsOf_106 : decode cX6_bitsOf 106 = .ok (.goto (-102), 3) := by decide +kernel
theorem dX6_bitsOf_109 : decode cX6_bitsOf 109 = .ok (.iload_n 2, 1) := by decide +kernel
theorem dX6_bitsOf_110 : decode cX6_bitsOf 110 = .ok (.ireturn, 1) := by decide +kernel
theorem dX6_size_0 : decode cX6_size 0 = .ok (.aload_n 0, 1) := by decide +kernel
theorem dX6_size_1 : decode cX6_size 1 = .ok (.iconst 0, 1) := by decide +kernel
theorem dX6_size_2 : decode cX6_size 2 = .ok (.putfield 74, 3) := by decide +kernel
theorem dX6_size_5 : decode cX6_size 5 = .ok (.iload_n 1, 1) := by decide +kernel
theorem dX6_size_6 : decode cX6_size 6 = .ok (.iconst 2, 1) := by decide +kernel
theorem dX6_size_7 : decode cX6_size 7 = .ok (.bipush 16, 2) := by decide +kernel
theorem dX6_size_9 : decode cX6_size 9 = .ok (.invokestatic 81, 3) := by decide +kernel
theorem dX6_size_12 : decode cX6_size 12 = .ok (.ifCond .eq 13, 3) := by decide +kernel
theorem dX6_size_15 : decode cX6_size 15 = .ok (.iload_n 2, 1) := by decide +kernel
theorem dX6_size_16 : decode cX6_size 16 = .ok (.iconst 2, 1) := by decide +kernel
theorem dX6_size_17 : decode cX6_size 17 = .ok (.bipush 16, 2) := by decide +kernel
theorem dX6_size_19 : decode cX6_size 19 = .ok (.invokestatic 81, 3) := by decide +kernel
theorem dX6_size_22 : decode cX6_size 22 = .ok (.ifCond .ne 9, 3) := by decide +kernel
theorem dX6_size_25 : decode cX6_size 25 = .ok (.aload_n 0, 1) := by decide +kernel
theorem dX6_size_26 : decode cX6_size 26 = .ok (.iconst 1, 1) := by decide +kernel
theorem dX6_size_27 : decode cX6_size 27 = .ok (.invokevirtual 142, 3) := by decide +kernel
theorem dX6_size_30 : decode cX6_size 30 = .ok (.ireturn, 1) := by decide +kernel
theorem dX6_size_31 : decode cX6_size 31 = .ok (.aload_n 0, 1) := by decide +kernel
theorem dX6_size_32 : decode cX6_size 32 = .ok (.invokevirtual 145, 3) := by decide +kernel
theorem dX6_size_35 : decode cX6_size 35 = .ok (.aload_n 0, 1) := by decide +kernel
theorem dX6_size_36 : decode cX6_size 36 = .ok (.iload_n 1, 1) := by decide +kernel
theorem dX6_size_37 : decode cX6_size 37 = .ok (.iload_n 2, 1) := by decide +kernel
theorem dX6_size_38 : decode cX6_size 38 = .ok (.invokevirtual 70, 3) := by decide +kernel
theorem dX6_size_41 : decode cX6_size 41 = .ok (.aload_n 0, 1) := by decide +kernel
theorem dX6_size_42 : decode cX6_size 42 = .ok (.invokevirtual 91, 3) := by decide +kernel
theorem dX6_size_45 : decode cX6_size 45 = .ok (.ireturn, 1) := by decide +kernel
theorem dX6_isSetting_0 : decode cX6_isSetting 0 = .ok (.iload_n 0, 1) := by decide +kernel
theorem dX6_isSetting_1 : decode cX6_isSetting 1 = .ok (.ifCond .ne 27, 3) := by decide +kernel
theorem dX6_isSetting_4 : decode cX6_isSetting 4 = .ok (.iload_n 1, 1) := by decide +kernel
theorem dX6_isSetting_5 : decode cX6_isSetting 5 = .ok (.iconst 2, 1) := by decide +kernel
theorem dX6_isSetting_6 : decode cX6_isSetting 6 = .ok (.if_icmp .eq 14, 3) := by decide +kernel
theorem dX6_isSetting_9 : decode cX6_isSetting 9 = .ok (.iload_n 1, 1) := by decide +kernel
theorem dX6_isSetting_10 : decode cX6_isSetting 10 = .ok (.iconst 4, 1) := by decide +kernel
theorem dX6_isSetting_11 : decode cX6_isSetting 11 = .ok (.if_icmp .eq 9, 3) := by decide +kernel
theorem dX6_isSetting_14 : decode cX6_isSetting 14 = .ok (.iload_n 1, 1) := by decide +kernel
theorem dX6_isSetting_15 : decode cX6_isSetting 15 = .ok (.bipush 8, 2) := by decide +kernel
theorem dX6_isSetting_17 : decode cX6_isSetting 17 = .ok (.if_icmp .ne 7, 3) := by decide +kernel
theorem dX6_isSetting_20 : decode cX6_isSetting 20 = .ok (.iconst 1, 1) := by decide +kernel
theorem dX6_isSetting_21 : decode cX6_isSetting 21 = .ok (.goto 23, 3) := by decide +kernel
theorem dX6_isSetting_24 : decode cX6_isSetting 24 = .ok (.iconst 0, 1) := by decide +kernel
theorem dX6_isSetting_25 : decode cX6_isSetting 25 = .ok (.goto 19, 3) := by decide +kernel
theorem dX6_isSetting_28 : decode cX6_isSetting 28 = .ok (.iload_n 1, 1) := by decide +kernel
theorem dX6_isSetting_29 : decode cX6_isSetting 29 = .ok (.iconst 0, 1) := by decide +kernel
theorem dX6_isSetting_30 : decode cX6_isSetting 30 = .ok (.iload_n 0, 1) := by decide +kernel
theorem dX6_isSetting_31 : decode cX6_isSetting 31 = .ok (.iconst 1, 1) := by decide +kernel
theorem dX6_isSetting_32 : decode cX6_isSetting 32 = .ok (.if_icmp .ne 7, 3) := by decide +kernel
theorem dX6_isSetting_35 : decode cX6_isSetting 35 = .ok (.iconst 3, 1) := by decide +kernel
theorem dX6_isSetting_36 : decode cX6_isSetting 36 = .ok (.goto 5, 3) := by decide +kernel
theorem dX6_isSetting_39 : decode cX6_isSetting 39 = .ok (.bipush 8, 2) := by decide +kernel
theorem dX6_isSetting_41 : decode cX6_isSetting 41 = .ok (.invokestatic 81, 3) := by decide +kernel
theorem dX6_isSetting_44 : decode cX6_isSetting 44 = .ok (.ireturn, 1) := by decide +kernel
theorem dX6_setting_0 : decode cX6_setting 0 = .ok (.aload_n 0, 1) := by decide +kernel
theorem dX6_setting_1 : decode cX6_setting 1 = .ok (.iconst 0, 1) := by decide +kernel
theorem dX6_setting_2 : decode cX6_setting 2 = .ok (.putfield 74, 3) := by decide +kernel
theorem dX6_setting_5 : decode cX6_setting 5 = .ok (.iload_n 1, 1) := by decide +kernel
theorem dX6_setting_6 : decode cX6_setting 6 = .ok (.iconst 0, 1) := by decide +kernel
theorem dX6_setting_7 : decode cX6_setting 7 = .ok (.iconst 2, 1) := by decide +kernel
theorem dX6_setting_8 : decode cX6_setting 8 = .ok (.invokestatic 81, 3) := by decide +kernel
theorem dX6_setting_11 : decode cX6_setting 11 = .ok (.ifCond .eq 11, 3) := by decide +kernel
theorem dX6_setting_14 : decode cX6_setting 14 = .ok (.iload_n 1, 1) := by decide +kernel
theorem dX6_setting_15 : decode cX6_setting 15 = .ok (.iload_n 2, 1) := by decide +kernel
theorem dX6_setting_16 : decode cX6_setting 16 = .ok (.invokestatic 148, 3) := by decide +kernel
theorem dX6_setting_19 : decode cX6_setting 19 = .ok (.ifCond .ne 9, 3) := by decide +kernel
theorem dX6_setting_22 : decode cX6_setting 22 = .ok (.aload_n 0, 1) := by decide +kernel
theorem dX6_setting_23 : decode cX6_setting 23 = .ok (.iconst 1, 1) := by decide +kernel
theorem dX6_setting_24 : decode cX6_setting 24 = .ok (.invokevirtual 142, 3) := by decide +kernel
theorem dX6_setting_27 : decode cX6_setting 27 = .ok (.ireturn, 1) := by decide +kernel
theorem dX6_setting_28 : decode cX6_setting 28 = .ok (.aload_n 0, 1) := by decide +kernel
theorem dX6_setting_29 : decode cX6_setting 29 = .ok (.invokevirtual 145, 3) := by decide +kernel
theorem dX6_setting_32 : decode cX6_setting 32 = .ok (.aload_n 0, 1) := by decide +kernel
theorem dX6_setting_33 : decode cX6_setting 33 = .ok (.getfield 9, 3) := by decide +kernel
theorem dX6_setting_36 : decode cX6_setting 36 = .ok (.iconst 2, 1) := by decide +kernel
theorem dX6_setting_37 : decode cX6_setting 37 = .ok (.iload_n 1, 1) := by decide +kernel
theorem dX6_setting_38 : decode cX6_setting 38 = .ok (.iadd, 1) := by decide +kernel
theorem dX6_setting_39 : decode cX6_setting 39 = .ok (.iaload, 1) := by decide +kernel
theorem dX6_setting_40 : decode cX6_setting 40 = .ok (.istore_n 3, 1) := by decide +kernel
theorem dX6_setting_41 : decode cX6_setting 41 = .ok (.aload_n 0, 1) := by decide +kernel
theorem dX6_setting_42 : decode cX6_setting 42 = .ok (.getfield 9, 3) := by decide +kernel
theorem dX6_setting_45 : decode cX6_setting 45 = .ok (.iconst 2, 1) := by decide +kernel
theorem dX6_setting_46 : decode cX6_setting 46 = .ok (.iload_n 1, 1) := by decide +kernel
theorem dX6_setting_47 : decode cX6_setting 47 = .ok (.iadd, 1) := by decide +kernel
theorem dX6_setting_48 : decode cX6_setting 48 = .ok (.iload_n 2, 1) := by decide +kernel
theorem dX6_setting_49 : decode cX6_setting 49 = .ok (.iastore, 1) := by decide +kernel
theorem dX6_setting_50 : decode cX6_setting 50 = .ok (.iload_n 3, 1) := by decide +kernel
theorem dX6_setting_51 : decode cX6_setting 51 = .ok (.ireturn, 1) := by decide +kernel
theorem dX6_masked_0 : decode cX6_masked 0 = .ok (.iconst 0, 1) := by decide +kernel
theorem dX6_masked_1 : decode cX6_masked 1 = .ok (.istore_n 1, 1) := by decide +kernel
theorem dX6_masked_2 : decode cX6_masked 2 = .ok (.iconst 0, 1) := by decide +kernel
theorem dX6_masked_3 : decode cX6_masked 3 = .ok (.istore_n 2, 1) := by decide +kernel
theorem dX6_masked_4 : decode cX6_masked 4 = .ok (.iload_n 2, 1) := by decide +kernel
theorem dX6_masked_5 : decode cX6_masked 5 = .ok (.aload_n 0, 1) := by decide +kernel
theorem dX6_masked_6 : decode cX6_masked 6 = .ok (.invokevirtual 77, 3) := by decide +kernel
theorem dX6_masked_9 : decode cX6_masked 9 = .ok (.aload_n 0, 1) := by decide +kernel
theorem dX6_masked_10 : decode cX6_masked 10 = .ok (.invokevirtual 85, 3) := by decide +kernel
theorem dX6_masked_13 : decode cX6_masked 13 = .ok (.imul, 1) := by decide +kernel
theorem dX6_masked_14 : decode cX6_masked 14 = .ok (.if_icmp .ge 22, 3) := by decide +kernel
theorem dX6_masked_17 : decode cX6_masked 17 = .ok (.iload_n 1, 1) := by decide +kernel
theorem dX6_masked_18 : decode cX6_masked 18 = .ok (.aload_n 0, 1) := by decide +kernel
theorem dX6_masked_19 : decode cX6_masked 19 = .ok (.getfield 9, 3) := by decide +kernel
theorem dX6_masked_22 : decode cX6_masked 22 = .ok (.sipush 261, 3) := by decide +kernel
theorem dX6_masked_25 : decode cX6_masked 25 = .ok (.iload_n 2, 1) := by decide +kernel
theorem dX6_masked_26 : decode cX6_masked 26 = .ok (.iadd, 1) := by decide +kernel
theorem dX6_masked_27 : decode cX6_masked 27 = .ok (.iaload, 1) := by decide +kernel
theorem dX6_masked_28 : decode cX6_masked 28 = .ok (.iadd, 1) := by decide +kernel
theorem dX6_masked_29 : decode cX6_masked 29 = .ok (.istore_n 1, 1) := by decide +kernel
theorem dX6_masked_30 : decode cX6_masked 30 = .ok (.iinc 2 1, 3) := by decide +kernel
theorem dX6_masked_33 : decode cX6_masked 33 = .ok (.goto (-29), 3) := by decide +kernel
theorem dX6_masked_36 : decode cX6_masked 36 = .ok (.iload_n 1, 1) := by decide +kernel
theorem dX6_masked_37 : decode cX6_masked 37 = .ok (.ireturn, 1) := by decide +kernel
theorem dX6_number_0 : decode cX6_number 0 = .ok (.aload_n 0, 1) := by decide +kernel
theorem dX6_number_1 : decode cX6_number 1 = .ok (.iconst 0, 1) := by decide +kernel
theorem dX6_number_2 : decode cX6_number 2 = .ok (.putfield 74, 3) := by decide +kernel
theorem dX6_number_5 : decode cX6_number 5 = .ok (.iload_n 1, 1) := by decide +kernel
theorem dX6_number_6 : decode cX6_number 6 = .ok (.tableswitch 117 0 9 #[54, 54, 54, 54, 54, 61, 66, 71, 107, 112], 54) := by decide +kernel
theorem dX6_number_60 : decode cX6_number 60 = .ok (.aload_n 0, 1) := by decide +kernel
theorem dX6_number_61 : decode cX6_number 61 = .ok (.getfield 9, 3) := by decide +kernel
theorem dX6_number_64 : decode cX6_number 64 = .ok (.iload_n 1, 1) := by decide +kernel
theorem dX6_number_65 : decode cX6_number 65 = .ok (.iaload, 1) := by decide +kernel
theorem dX6_number_66 : decode cX6_number 66 = .ok (.ireturn, 1) := by decide +kernel
theorem dX6_number_67 : decode cX6_number 67 = .ok (.aload_n 0, 1) := by decide +kernel
theorem dX6_number_68 : decode cX6_number 68 = .ok (.invokevirtual 91, 3) := by decide +kernel
theorem dX6_number_71 : decode cX6_number 71 = .ok (.ireturn, 1) := by decide +kernel
theorem dX6_number_72 : decode cX6_number 72 = .ok (.aload_n 0, 1) := by decide +kernel
theorem dX6_number_73 : decode cX6_number 73 = .ok (.invokevirtual 152, 3) := by decide +kernel
theorem dX6_number_76 : decode cX6_number 76 = .ok (.ireturn, 1) := by decide +kernel
theorem dX6_number_77 : decode cX6_number 77 = .ok (.iconst 0, 1) := by decide +kernel
theorem dX6_number_78 : decode cX6_number 78 = .ok (.istore_n 2, 1) := by decide +kernel
theorem dX6_number_79 : decode cX6_number 79 = .ok (.iconst 0, 1) := by decide +kernel
theorem dX6_number_80 : decode cX6_number 80 = .ok (.istore_n 3, 1) := by decide +kernel
theorem dX6_number_81 : decode cX6_number 81 = .ok (.iload_n 3, 1) := by decide +kernel
theorem dX6_number_82 : decode cX6_number 82 = .ok (.aload_n 0, 1) := by decide +kernel
theorem dX6_number_83 : decode cX6_number 83 = .ok (.invokevirtual 77, 3) := by decide +kernel
theorem dX6_number_86 : decode cX6_number 86 = .ok (.aload_n 0, 1) := by decide +kernel
theorem dX6_number_87 : decode cX6_number 87 = .ok (.invokevirtual 85, 3) := by decide +kernel
theorem dX6_number_90 : decode cX6_number 90 = .ok (.imul, 1) := by decide +kernel
theorem dX6_number_91 : decode cX6_number 91 = .ok (.if_icmp .ge 20, 3) := by decide +kernel
theorem dX6_number_94 : decode cX6_number 94 = .ok (.iload_n 2, 1) := by decide +kernel
theorem dX6_number_95 : decode cX6_number 95 = .ok (.aload_n 0, 1) := by decide +kernel
theorem dX6_number_96 : decode cX6_number 96 = .ok (.getfield 9, 3) := by decide +kernel
theorem dX6_number_99 : decode cX6_number 99 = .ok (.iconst 5, 1) := by decide +kernel
theorem dX6_number_100 : decode cX6_number 100 = .ok (.iload_n 3, 1) := by decide +kernel
theorem dX6_number_101 : decode cX6_number 101 = .ok (.iadd, 1) := by decide +kernel
theorem dX6_number_102 : decode cX6_number 102 = .ok (.iaload, 1) := by decide +kernel
theorem dX6_number_103 : decode cX6_number 103 = .ok (.iadd, 1) := by decide +kernel
theorem dX6_number_104 : decode cX6_number 104 = .ok (.istore_n 2, 1) := by decide +kernel
theorem dX6_number_105 : decode cX6_number 105 = .ok (.iinc 3 1, 3) := by decide +kernel
theorem dX6_number_108 : decode cX6_number 108 = .ok (.goto (-27), 3) := by decide +kernel
theorem dX6_number_111 : decode cX6_number 111 = .ok (.iload_n 2, 1) := by decide +kernel
theorem dX6_number_112 : decode cX6_number 112 = .ok (.ireturn, 1) := by decide +kernel
theorem dX6_number_113 : decode cX6_number 113 = .ok (.aload_n 0, 1) := by decide +kernel
theorem dX6_number_114 : decode cX6_number 114 = .ok (.getfield 94, 3) := by decide +kernel
theorem dX6_number_117 : decode cX6_number 117 = .ok (.ireturn, 1) := by decide +kernel
theorem dX6_number_118 : decode cX6_number 118 = .ok (.aload_n 0, 1) := by decide +kernel
theorem dX6_number_119 : decode cX6_number 119 = .ok (.getfield 155, 3) := by decide +kernel
theorem dX6_number_122 : decode cX6_number 122 = .ok (.ireturn, 1) := by decide +kernel
theorem dX6_number_123 : decode cX6_number 123 = .ok (.aload_n 0, 1) := by decide +kernel
theorem dX6_number_124 : decode cX6_number 124 = .ok (.iconst 1, 1) := by decide +kernel
theorem dX6_number_125 : decode cX6_number 125 = .ok (.invokevirtual 142, 3) := by decide +kernel
theorem dX6_number_128 : decode cX6_number 128 = .ok (.ireturn, 1) := by decide +kernel
theorem dX6_set_0 : decode cX6_set 0 = .ok (.aload_n 0, 1) := by decide +kernel
theorem dX6_set_1 : decode cX6_set 1 = .ok (.iconst 0, 1) := by decide +kernel
theorem dX6_set_2 : decode cX6_set 2 = .ok (.putfield 74, 3) := by decide +kernel
theorem dX6_set_5 : decode cX6_set 5 = .ok (.aload_n 0, 1) := by decide +kernel
theorem dX6_set_6 : decode cX6_set 6 = .ok (.iload_n 1, 1) := by decide +kernel
theorem dX6_set_7 : decode cX6_set 7 = .ok (.iload_n 2, 1) := by decide +kernel
theorem dX6_set_8 : decode cX6_set 8 = .ok (.invokevirtual 158, 3) := by decide +kernel
theorem dX6_set_11 : decode cX6_set 11 = .ok (.ifCond .ne 9, 3) := by decide +kernel
theorem dX6_set_14 : decode cX6_set 14 = .ok (.aload_n 0, 1) := by decide +kernel
theorem dX6_set_15 : decode cX6_set 15 = .ok (.iconst 1, 1) := by decide +kernel
theorem dX6_set_16 : decode cX6_set 16 = .ok (.invokevirtual 142, 3) := by decide +kernel
theorem dX6_set_19 : decode cX6_set 19 = .ok (.ireturn, 1) := by decide +kernel
theorem dX6_set_20 : decode cX6_set 20 = .ok (.iload_n 3, 1) := by decide +kernel
theorem dX6_set_21 : decode cX6_set 21 = .ok (.iconst 0, 1) := by decide +kernel
theorem dX6_set_22 : decode cX6_set 22 = .ok (.sipush 255, 3) := by decide +kernel
theorem dX6_set_25 : decode cX6_set 25 = .ok (.invokestatic 81, 3) := by decide +kernel
theorem dX6_set_28 : decode cX6_set 28 = .ok (.ifCond .ne 9, 3) := by decide +kernel
theorem dX6_set_31 : decode cX6_set 31 = .ok (.aload_n 0, 1) := by decide +kernel
theorem dX6_set_32 : decode cX6_set 32 = .ok (.iconst 2, 1) := by decide +kernel
theorem dX6_set_33 : decode cX6_set 33 = .ok (.invokevirtual 142, 3) := by decide +kernel
theorem dX6_set_36 : decode cX6_set 36 = .ok (.ireturn, 1) := by decide +kernel
theorem dX6_set_37 : decode cX6_set 37 = .ok (.aload_n 0, 1) := by decide +kernel
theorem dX6_set_38 : decode cX6_set 38 = .ok (.invokevirtual 145, 3) := by decide +kernel
theorem dX6_set_41 : decode cX6_set 41 = .ok (.aload_n 0, 1) := by decide +kernel
theorem dX6_set_42 : decode cX6_set 42 = .ok (.iload_n 1, 1) := by decide +kernel
theorem dX6_set_43 : decode cX6_set 43 = .ok (.iload_n 2, 1) := by decide +kernel
theorem dX6_set_44 : decode cX6_set 44 = .ok (.invokevirtual 119, 3) := by decide +kernel
theorem dX6_set_47 : decode cX6_set 47 = .ok (.istore 4, 2) := by decide +kernel
theorem dX6_set_49 : decode cX6_set 49 = .ok (.aload_n 0, 1) := by decide +kernel
theorem dX6_set_50 : decode cX6_set 50 = .ok (.getfield 9, 3) := by decide +kernel
theorem dX6_set_53 : decode cX6_set 53 = .ok (.iconst 5, 1) := by decide +kernel
theorem dX6_set_54 : decode cX6_set 54 = .ok (.aload_n 0, 1) := by decide +kernel
theorem dX6_set_55 : decode cX6_set 55 = .ok (.invokevirtual 77, 3) := by decide +kernel
theorem dX6_set_58 : decode cX6_set 58 = .ok (.iload_n 2, 1) := by decide +kernel
theorem dX6_set_59 : decode cX6_set 59 = .ok (.imul, 1) := by decide +kernel
theorem dX6_set_60 : decode cX6_set 60 = .ok (.iadd, 1) := by decide +kernel
theorem dX6_set_61 : decode cX6_set 61 = .ok (.iload_n 1, 1) := by decide +kernel
theorem dX6_set_62 : decode cX6_set 62 = .ok (.iadd, 1) := by decide +kernel
theorem dX6_set_63 : decode cX6_set 63 = .ok (.iload_n 3, 1) := by decide +kernel
theorem dX6_set_64 : decode cX6_set 64 = .ok (.iastore, 1) := by decide +kernel
theorem dX6_set_65 : decode cX6_set 65 = .ok (.iload 4, 2) := by decide +kernel
theorem dX6_set_67 : decode cX6_set 67 = .ok (.ireturn, 1) := by decide +kernel
theorem dX6_pixel_0 : decode cX6_pixel 0 = .ok (.aload_n 0, 1) := by decide +kernel
theorem dX6_pixel_1 : decode cX6_pixel 1 = .ok (.iconst 0, 1) := by decide +kernel
theorem dX6_pixel_2 : decode cX6_pixel 2 = .ok (.putfield 74, 3) := by decide +kernel
theorem dX6_pixel_5 : decode cX6_pixel 5 = .ok (.aload_n 0, 1) := by decide +kernel
theorem dX6_pixel_6 : decode cX6_pixel 6 = .ok (.iload_n 1, 1) := by decide +kernel
theorem dX6_pixel_7 : decode cX6_pixel 7 = .ok (.iload_n 2, 1) := by decide +kernel
theorem dX6_pixel_8 : decode cX6_pixel 8 = .ok (.invokevirtual 158, 3) := by decide +kernel
theorem dX6_pixel_11 : decode cX6_pixel 11 = .ok (.ifCond .eq 12, 3) := by decide +kernel
theorem dX6_pixel_14 : decode cX6_pixel 14 = .ok (.aload_n 0, 1) := by decide +kernel
theorem dX6_pixel_15 : decode cX6_pixel 15 = .ok (.iload_n 1, 1) := by decide +kernel
theorem dX6_pixel_16 : decode cX6_pixel 16 = .ok (.iload_n 2, 1) := by decide +kernel
theorem dX6_pixel_17 : decode cX6_pixel 17 = .ok (.invokevirtual 119, 3) := by decide +kernel
theorem dX6_pixel_20 : decode cX6_pixel 20 = .ok (.goto 8, 3) := by decide +kernel
theorem dX6_pixel_23 : decode cX6_pixel 23 = .ok (.aload_n 0, 1) := by decide +kernel
theorem dX6_pixel_24 : decode cX6_pixel 24 = .ok (.iconst 1, 1) := by decide +kernel
theorem dX6_pixel_25 : decode cX6_pixel 25 = .ok (.invokevirtual 142, 3) := by decide +kernel
theorem dX6_pixel_28 : decode cX6_pixel 28 = .ok (.ireturn, 1) := by decide +kernel
theorem dX6_fills_0 : decode cX6_fills 0 = .ok (.iconst 0, 1) := by decide +kernel
theorem dX6_fills_1 : decode cX6_fills 1 = .ok (.istore 8, 2) := by decide +kernel
theorem dX6_fills_3 : decode cX6_fills 3 = .ok (.iload 4, 2) := by decide +kernel
theorem dX6_fills_5 : decode cX6_fills 5 = .ok (.istore 9, 2) := by decide +kernel
theorem dX6_fills_7 : decode cX6_fills 7 = .ok (.iload 9, 2) := by decide +kernel
theorem dX6_fills_9 : decode cX6_fills 9 = .ok (.iload 6, 2) := by decide +kernel
theorem dX6_fills_11 : decode cX6_fills 11 = .ok (.if_icmp .gt 56, 3) := by decide +kernel
theorem dX6_fills_14 : decode cX6_fills 14 = .ok (.iload_n 3, 1) := by decide +kernel
theorem dX6_fills_15 : decode cX6_fills 15 = .ok (.istore 10, 2) := by decide +kernel
theorem dX6_fills_17 : decode cX6_fills 17 = .ok (.iload 10, 2) := by decide +kernel
theorem dX6_fills_19 : decode cX6_fills 19 = .ok (.iload 5, 2) := by decide +kernel
theorem dX6_fills_21 : decode cX6_fills 21 = .ok (.if_icmp .gt 40, 3) := by decide +kernel
theorem dX6_fills_24 : decode cX6_fills 24 = .ok (.iload_n 2, 1) := by decide +kernel
theorem dX6_fills_25 : decode cX6_fills 25 = .ok (.aload_n 1, 1) := by decide +kernel
theorem dX6_fills_26 : decode cX6_fills 26 = .ok (.iconst 0, 1) := by decide +kernel
theorem dX6_fills_27 : decode cX6_fills 27 = .ok (.iaload, 1) := by decide +kernel
theorem dX6_fills_28 : decode cX6_fills 28 = .ok (.iload 9, 2) := by decide +kernel
theorem dX6_fills_30 : decode cX6_fills 30 = .ok (.imul, 1) := by decide +kernel
theorem dX6_fills_31 : decode cX6_fills 31 = .ok (.iadd, 1) := by decide +kernel
theorem dX6_fills_32 : decode cX6_fills 32 = .ok (.iload 10, 2) := by decide +kernel
theorem dX6_fills_34 : decode cX6_fills 34 = .ok (.iadd, 1) := by decide +kernel
theorem dX6_fills_35 : decode cX6_fills 35 = .ok (.istore 11, 2) := by decide +kernel
theorem dX6_fills_37 : decode cX6_fills 37 = .ok (.aload_n 1, 1) := by decide +kernel
theorem dX6_fills_38 : decode cX6_fills 38 = .ok (.iload 11, 2) := by decide +kernel
theorem dX6_fills_40 : decode cX6_fills 40 = .ok (.iaload, 1) := by decide +kernel
theorem dX6_fills_41 : decode cX6_fills 41 = .ok (.iload 7, 2) := by decide +kernel
theorem dX6_fills_43 : decode cX6_fills 43 = .ok (.if_icmp .eq 6, 3) := by decide +kernel
theorem dX6_fills_46 : decode cX6_fills 46 = .ok (.iinc 8 1, 3) := by decide +kernel
theorem dX6_fills_49 : decode cX6_fills 49 = .ok (.aload_n 1, 1) := by decide +kernel
theorem dX6_fills_50 : decode cX6_fills 50 = .ok (.iload 11, 2) := by decide +kernel
theorem dX6_fills_52 : decode cX6_fills 52 = .ok (.iload 7, 2) := by decide +kernel
theorem dX6_fills_54 : decode cX6_fills 54 = .ok (.iastore, 1) := by decide +kernel
theorem dX6_fills_55 : decode cX6_fills 55 = .ok (.iinc 10 1, 3) := by decide +kernel
theorem dX6_fills_58 : decode cX6_fills 58 = .ok (.goto (-41), 3) := by decide +kernel
theorem dX6_fills_61 : decode cX6_fills 61 = .ok (.iinc 9 1, 3) := by decide +kernel
theorem dX6_fills_64 : decode cX6_fills 64 = .ok (.goto (-57), 3) := by decide +kernel
theorem dX6_fills_67 : decode cX6_fills 67 = .ok (.iload 8, 2) := by decide +kernel
theorem dX6_fills_69 : decode cX6_fills 69 = .ok (.ireturn, 1) := by decide +kernel
theorem dX6_fill_0 : decode cX6_fill 0 = .ok (.aload_n 0, 1) := by decide +kernel
theorem dX6_fill_1 : decode cX6_fill 1 = .ok (.iconst 0, 1) := by decide +kernel
theorem dX6_fill_2 : decode cX6_fill 2 = .ok (.putfield 74, 3) := by decide +kernel
theorem dX6_fill_5 : decode cX6_fill 5 = .ok (.aload_n 0, 1) := by decide +kernel
theorem dX6_fill_6 : decode cX6_fill 6 = .ok (.iload_n 1, 1) := by decide +kernel
theorem dX6_fill_7 : decode cX6_fill 7 = .ok (.iload_n 2, 1) := by decide +kernel
theorem dX6_fill_8 : decode cX6_fill 8 = .ok (.invokevirtual 158, 3) := by decide +kernel
theorem dX6_fill_11 : decode cX6_fill 11 = .ok (.ifCond .eq 13, 3) := by decide +kernel
theorem dX6_fill_14 : decode cX6_fill 14 = .ok (.aload_n 0, 1) := by decide +kernel
theorem dX6_fill_15 : decode cX6_fill 15 = .ok (.iload_n 3, 1) := by decide +kernel
theorem dX6_fill_16 : decode cX6_fill 16 = .ok (.iload 4, 2) := by decide +kernel
theorem dX6_fill_18 : decode cX6_fill 18 = .ok (.invokevirtual 158, 3) := by decide +kernel
theorem dX6_fill_21 : decode cX6_fill 21 = .ok (.ifCond .ne 9, 3) := by decide +kernel
theorem dX6_fill_24 : decode cX6_fill 24 = .ok (.aload_n 0, 1) := by decide +kernel
theorem dX6_fill_25 : decode cX6_fill 25 = .ok (.iconst 1, 1) := by decide +kernel
theorem dX6_fill_26 : decode cX6_fill 26 = .ok (.invokevirtual 142, 3) := by decide +kernel
theorem dX6_fill_29 : decode cX6_fill 29 = .ok (.ireturn, 1) := by decide +kernel
theorem dX6_fill_30 : decode cX6_fill 30 = .ok (.iload_n 1, 1) := by decide +kernel
theorem dX6_fill_31 : decode cX6_fill 31 = .ok (.iload_n 3, 1) := by decide +kernel
theorem dX6_fill_32 : decode cX6_fill 32 = .ok (.if_icmp .gt 21, 3) := by decide +kernel
theorem dX6_fill_35 : decode cX6_fill 35 = .ok (.iload_n 2, 1) := by decide +kernel
theorem dX6_fill_36 : decode cX6_fill 36 = .ok (.iload 4, 2) := by decide +kernel
theorem dX6_fill_38 : decode cX6_fill 38 = .ok (.if_icmp .gt 15, 3) := by decide +kernel
theorem dX6_fill_41 : decode cX6_fill 41 = .ok (.iload 5, 2) := by decide +kernel
theorem dX6_fill_43 : decode cX6_fill 43 = .ok (.iconst 0, 1) := by decide +kernel
theorem dX6_fill_44 : decode cX6_fill 44 = .ok (.sipush 255, 3) := by decide +kernel
theorem dX6_fill_47 : decode cX6_fill 47 = .ok (.invokestatic 81, 3) := by decide +kernel
theorem dX6_fill_50 : decode cX6_fill 50 = .ok (.ifCond .ne 9, 3) := by decide +kernel
theorem dX6_fill_53 : decode cX6_fill 53 = .ok (.aload_n 0, 1) := by decide +kernel
theorem dX6_fill_54 : decode cX6_fill 54 = .ok (.iconst 2, 1) := by decide +kernel
theorem dX6_fill_55 : decode cX6_fill 55 = .ok (.invokevirtual 142, 3) := by decide +kernel
theorem dX6_fill_58 : decode cX6_fill 58 = .ok (.ireturn, 1) := by decide +kernel
theorem dX6_fill_59 : decode cX6_fill 59 = .ok (.aload_n 0, 1) := by decide +kernel
theorem dX6_fill_60 : decode cX6_fill 60 = .ok (.invokevirtual 145, 3) := by decide +kernel
theorem dX6_fill_63 : decode cX6_fill 63 = .ok (.aload_n 0, 1) := by decide +kernel
theorem dX6_fill_64 : decode cX6_fill 64 = .ok (.aload_n 0, 1) := by decide +kernel
theorem dX6_fill_65 : decode cX6_fill 65 = .ok (.getfield 9, 3) := by decide +kernel
theorem dX6_fill_68 : decode cX6_fill 68 = .ok (.iconst 5, 1) := by decide +kernel
theorem dX6_fill_69 : decode cX6_fill 69 = .ok (.iload_n 1, 1) := by decide +kernel
theorem dX6_fill_70 : decode cX6_fill 70 = .ok (.iload_n 2, 1) := by decide +kernel
theorem dX6_fill_71 : decode cX6_fill 71 = .ok (.iload_n 3, 1) := by decide +kernel
theorem dX6_fill_72 : decode cX6_fill 72 = .ok (.iload 4, 2) := by decide +kernel
theorem dX6_fill_74 : decode cX6_fill 74 = .ok (.iload 5, 2) := by decide +kernel
theorem dX6_fill_76 : decode cX6_fill 76 = .ok (.invokevirtual 161, 3) := by decide +kernel
theorem dX6_fill_79 : decode cX6_fill 79 = .ok (.ireturn, 1) := by decide +kernel
theorem dX6_mask_0 : decode cX6_mask 0 = .ok (.aload_n 0, 1) := by decide +kernel
theorem dX6_mask_1 : decode cX6_mask 1 = .ok (.iconst 0, 1) := by decide +kernel
theorem dX6_mask_2 : decode cX6_mask 2 = .ok (.putfield 74, 3) := by decide +kernel
theorem dX6_mask_5 : decode cX6_mask 5 = .ok (.aload_n 0, 1) := by decide +kernel
theorem dX6_mask_6 : decode cX6_mask 6 = .ok (.iload_n 1, 1) := by decide +kernel
theorem dX6_mask_7 : decode cX6_mask 7 = .ok (.iload_n 2, 1) := by decide +kernel
theorem dX6_mask_8 : decode cX6_mask 8 = .ok (.invokevirtual 158, 3) := by decide +kernel
theorem dX6_mask_11 : decode cX6_mask 11 = .ok (.ifCond .eq 13, 3) := by decide +kernel
theorem dX6_mask_14 : decode cX6_mask 14 = .ok (.aload_n 0, 1) := by decide +kernel
theorem dX6_mask_15 : decode cX6_mask 15 = .ok (.iload_n 3, 1) := by decide +kernel
theorem dX6_mask_16 : decode cX6_mask 16 = .ok (.iload 4, 2) := by decide +kernel
theorem dX6_mask_18 : decode cX6_mask 18 = .ok (.invokevirtual 158, 3) := by decide +kernel
theorem dX6_mask_21 : decode cX6_mask 21 = .ok (.ifCond .ne 9, 3) := by decide +kernel
theorem dX6_mask_24 : decode cX6_mask 24 = .ok (.aload_n 0, 1) := by decide +kernel
theorem dX6_mask_25 : decode cX6_mask 25 = .ok (.iconst 1, 1) := by decide +kernel
theorem dX6_mask_26 : decode cX6_mask 26 = .ok (.invokevirtual 142, 3) := by decide +kernel
theorem dX6_mask_29 : decode cX6_mask 29 = .ok (.ireturn, 1) := by decide +kernel
theorem dX6_mask_30 : decode cX6_mask 30 = .ok (.iload_n 1, 1) := by decide +kernel
theorem dX6_mask_31 : decode cX6_mask 31 = .ok (.iload_n 3, 1) := by decide +kernel
theorem dX6_mask_32 : decode cX6_mask 32 = .ok (.if_icmp .gt 9, 3) := by decide +kernel
theorem dX6_mask_35 : decode cX6_mask 35 = .ok (.iload_n 2, 1) := by decide +kernel
theorem dX6_mask_36 : decode cX6_mask 36 = .ok (.iload 4, 2) := by decide +kernel
theorem dX6_mask_38 : decode cX6_mask 38 = .ok (.if_icmp .le 9, 3) := by decide +kernel
theorem dX6_mask_41 : decode cX6_mask 41 = .ok (.aload_n 0, 1) := by decide +kernel
theorem dX6_mask_42 : decode cX6_mask 42 = .ok (.iconst 2, 1) := by decide +kernel
theorem dX6_mask_43 : decode cX6_mask 43 = .ok (.invokevirtual 142, 3) := by decide +kernel
theorem dX6_mask_46 : decode cX6_mask 46 = .ok (.ireturn, 1) := by decide +kernel
theorem dX6_mask_47 : decode cX6_mask 47 = .ok (.aload_n 0, 1) := by decide +kernel
theorem dX6_mask_48 : decode cX6_mask 48 = .ok (.invokevirtual 145, 3) := by decide +kernel
theorem dX6_mask_51 : decode cX6_mask 51 = .ok (.aload_n 0, 1) := by decide +kernel
theorem dX6_mask_52 : decode cX6_mask 52 = .ok (.aload_n 0, 1) := by decide +kernel
theorem dX6_mask_53 : decode cX6_mask 53 = .ok (.getfield 9, 3) := by decide +kernel
theorem dX6_mask_56 : decode cX6_mask 56 = .ok (.sipush 261, 3) := by decide +kernel
theorem dX6_mask_59 : decode cX6_mask 59 = .ok (.iload_n 1, 1) := by decide +kernel
theorem dX6_mask_60 : decode cX6_mask 60 = .ok (.iload_n 2, 1) := by decide +kernel
theorem dX6_mask_61 : decode cX6_mask 61 = .ok (.iload_n 3, 1) := by decide +kernel
theorem dX6_mask_62 : decode cX6_mask 62 = .ok (.iload 4, 2) := by decide +kernel
theorem dX6_mask_64 : decode cX6_mask 64 = .ok (.iload 5, 2) := by decide +kernel
theorem dX6_mask_66 : decode cX6_mask 66 = .ok (.ifCond .eq 7, 3) := by decide +kernel
theorem dX6_mask_69 : decode cX6_mask 69 = .ok (.iconst 1, 1) := by decide +kernel
theorem dX6_mask_70 : decode cX6_mask 70 = .ok (.goto 4, 3) := by decide +kernel
theorem dX6_mask_73 : decode cX6_mask 73 = .ok (.iconst 0, 1) := by decide +kernel
theorem dX6_mask_74 : decode cX6_mask 74 = .ok (.invokevirtual 161, 3) := by decide +kernel
theorem dX6_mask_77 : decode cX6_mask 77 = .ok (.istore 6, 2) := by decide +kernel
theorem dX6_mask_79 : decode cX6_mask 79 = .ok (.iload 6, 2) := by decide +kernel
theorem dX6_mask_81 : decode cX6_mask 81 = .ok (.ifCond .ge 7, 3) := by decide +kernel
theorem dX6_mask_84 : decode cX6_mask 84 = .ok (.iconst 0, 1) := by decide +kernel
theorem dX6_mask_85 : decode cX6_mask 85 = .ok (.goto 7, 3) := by decide +kernel
theorem dX6_mask_88 : decode cX6_mask 88 = .ok (.aload_n 0, 1) := by decide +kernel
theorem dX6_mask_89 : decode cX6_mask 89 = .ok (.invokevirtual 152, 3) := by decide +kernel
theorem dX6_mask_92 : decode cX6_mask 92 = .ok (.ireturn, 1) := by decide +kernel
theorem dX6_tileOf_0 : decode cX6_tileOf 0 = .ok (.aload_n 0, 1) := by decide +kernel
theorem dX6_tileOf_1 : decode cX6_tileOf 1 = .ok (.iconst 0, 1) := by decide +kernel
theorem dX6_tileOf_2 : decode cX6_tileOf 2 = .ok (.putfield 74, 3) := by decide +kernel
theorem dX6_tileOf_5 : decode cX6_tileOf 5 = .ok (.aload_n 0, 1) := by decide +kernel
theorem dX6_tileOf_6 : decode cX6_tileOf 6 = .ok (.iload_n 1, 1) := by decide +kernel
theorem dX6_tileOf_7 : decode cX6_tileOf 7 = .ok (.iload_n 2, 1) := by decide +kernel
theorem dX6_tileOf_8 : decode cX6_tileOf 8 = .ok (.invokevirtual 158, 3) := by decide +kernel
theorem dX6_tileOf_11 : decode cX6_tileOf 11 = .ok (.ifCond .eq 28, 3) := by decide +kernel
theorem dX6_tileOf_14 : decode cX6_tileOf 14 = .ok (.iload_n 2, 1) := by decide +kernel
theorem dX6_tileOf_15 : decode cX6_tileOf 15 = .ok (.aload_n 0, 1) := by decide +kernel
theorem dX6_tileOf_16 : decode cX6_tileOf 16 = .ok (.getfield 9, 3) := by decide +kernel
theorem dX6_tileOf_19 : decode cX6_tileOf 19 = .ok (.iconst 2, 1) := by decide +kernel
theorem dX6_tileOf_20 : decode cX6_tileOf 20 = .ok (.iaload, 1) := by decide +kernel
theorem dX6_tileOf_21 : decode cX6_tileOf 21 = .ok (.idiv, 1) := by decide +kernel
theorem dX6_tileOf_22 : decode cX6_tileOf 22 = .ok (.aload_n 0, 1) := by decide +kernel
theorem dX6_tileOf_23 : decode cX6_tileOf 23 = .ok (.invokevirtual 88, 3) := by decide +kernel
theorem dX6_tileOf_26 : decode cX6_tileOf 26 = .ok (.imul, 1) := by decide +kernel
theorem dX6_tileOf_27 : decode cX6_tileOf 27 = .ok (.iload_n 1, 1) := by decide +kernel
theorem dX6_tileOf_28 : decode cX6_tileOf 28 = .ok (.aload_n 0, 1) := by decide +kernel
theorem dX6_tileOf_29 : decode cX6_tileOf 29 = .ok (.getfield 9, 3) := by decide +kernel
theorem dX6_tileOf_32 : decode cX6_tileOf 32 = .ok (.iconst 2, 1) := by decide +kernel
theorem dX6_tileOf_33 : decode cX6_tileOf 33 = .ok (.iaload, 1) := by decide +kernel
theorem dX6_tileOf_34 : decode cX6_tileOf 34 = .ok (.idiv, 1) := by decide +kernel
theorem dX6_tileOf_35 : decode cX6_tileOf 35 = .ok (.iadd, 1) := by decide +kernel
theorem dX6_tileOf_36 : decode cX6_tileOf 36 = .ok (.goto 8, 3) := by decide +kernel
theorem dX6_tileOf_39 : decode cX6_tileOf 39 = .ok (.aload_n 0, 1) := by decide +kernel
theorem dX6_tileOf_40 : decode cX6_tileOf 40 = .ok (.iconst 1, 1) := by decide +kernel
theorem dX6_tileOf_41 : decode cX6_tileOf 41 = .ok (.invokevirtual 142, 3) := by decide +kernel
theorem dX6_tileOf_44 : decode cX6_tileOf 44 = .ok (.ireturn, 1) := by decide +kernel
theorem dX6_tile_0 : decode cX6_tile 0 = .ok (.aload_n 0, 1) := by decide +kernel
theorem dX6_tile_1 : decode cX6_tile 1 = .ok (.iconst 0, 1) := by decide +kernel
theorem dX6_tile_2 : decode cX6_tile 2 = .ok (.putfield 74, 3) := by decide +kernel
theorem dX6_tile_5 : decode cX6_tile 5 = .ok (.aload_n 0, 1) := by decide +kernel
theorem dX6_tile_6 : decode cX6_tile 6 = .ok (.iload_n 1, 1) := by decide +kernel
theorem dX6_tile_7 : decode cX6_tile 7 = .ok (.invokevirtual 165, 3) := by decide +kernel
theorem dX6_tile_10 : decode cX6_tile 10 = .ok (.ifCond .ne 9, 3) := by decide +kernel
theorem dX6_tile_13 : decode cX6_tile 13 = .ok (.aload_n 0, 1) := by decide +kernel
theorem dX6_tile_14 : decode cX6_tile 14 = .ok (.iconst 1, 1) := by decide +kernel
theorem dX6_tile_15 : decode cX6_tile 15 = .ok (.invokevirtual 142, 3) := by decide +kernel
theorem dX6_tile_18 : decode cX6_tile 18 = .ok (.ireturn, 1) := by decide +kernel
theorem dX6_tile_19 : decode cX6_tile 19 = .ok (.iload_n 2, 1) := by decide +kernel
theorem dX6_tile_20 : decode cX6_tile 20 = .ok (.iconst 0, 1) := by decide +kernel
theorem dX6_tile_21 : decode cX6_tile 21 = .ok (.bipush 8, 2) := by decide +kernel
theorem dX6_tile_23 : decode cX6_tile 23 = .ok (.invokestatic 81, 3) := by decide +kernel
theorem dX6_tile_26 : decode cX6_tile 26 = .ok (.ifCond .ne 9, 3) := by decide +kernel
theorem dX6_tile_29 : decode cX6_tile 29 = .ok (.aload_n 0, 1) := by decide +kernel
theorem dX6_tile_30 : decode cX6_tile 30 = .ok (.iconst 2, 1) := by decide +kernel
theorem dX6_tile_31 : decode cX6_tile 31 = .ok (.invokevirtual 142, 3) := by decide +kernel
theorem dX6_tile_34 : decode cX6_tile 34 = .ok (.ireturn, 1) := by decide +kernel
theorem dX6_tile_35 : decode cX6_tile 35 = .ok (.aload_n 0, 1) := by decide +kernel
theorem dX6_tile_36 : decode cX6_tile 36 = .ok (.iload_n 1, 1) := by decide +kernel
theorem dX6_tile_37 : decode cX6_tile 37 = .ok (.invokevirtual 169, 3) := by decide +kernel
theorem dX6_tile_40 : decode cX6_tile 40 = .ok (.iload_n 2, 1) := by decide +kernel
theorem dX6_tile_41 : decode cX6_tile 41 = .ok (.ifCond .ne 8, 3) := by decide +kernel
theorem dX6_tile_44 : decode cX6_tile 44 = .ok (.aload_n 0, 1) := by decide +kernel
theorem dX6_tile_45 : decode cX6_tile 45 = .ok (.getfield 97, 3) := by decide +kernel
theorem dX6_tile_48 : decode cX6_tile 48 = .ok (.ireturn, 1) := by decide +kernel
theorem dX6_tile_49 : decode cX6_tile 49 = .ok (.iload_n 2, 1) := by decide +kernel
theorem dX6_tile_50 : decode cX6_tile 50 = .ok (.iconst 1, 1) := by decide +kernel
theorem dX6_tile_51 : decode cX6_tile 51 = .ok (.if_icmp .ne 8, 3) := by decide +kernel
theorem dX6_tile_54 : decode cX6_tile 54 = .ok (.aload_n 0, 1) := by decide +kernel
theorem dX6_tile_55 : decode cX6_tile 55 = .ok (.getfield 100, 3) := by decide +kernel
theorem dX6_tile_58 : decode cX6_tile 58 = .ok (.ireturn, 1) := by decide +kernel
theorem dX6_tile_59 : decode cX6_tile 59 = .ok (.iload_n 2, 1) := by decide +kernel
theorem dX6_tile_60 : decode cX6_tile 60 = .ok (.iconst 2, 1) := by decide +kernel
theorem dX6_tile_61 : decode cX6_tile 61 = .ok (.if_icmp .ne 10, 3) := by decide +kernel
theorem dX6_tile_64 : decode cX6_tile 64 = .ok (.aload_n 0, 1) := by decide +kernel
theorem dX6_tile_65 : decode cX6_tile 65 = .ok (.getfield 38, 3) := by decide +kernel
theorem dX6_tile_68 : decode cX6_tile 68 = .ok (.iconst 0, 1) := by decide +kernel
theorem dX6_tile_69 : decode cX6_tile 69 = .ok (.iaload, 1) := by decide +kernel
theorem dX6_tile_70 : decode cX6_tile 70 = .ok (.ireturn, 1) := by decide +kernel
theorem dX6_tile_71 : decode cX6_tile 71 = .ok (.iload_n 2, 1) := by decide +kernel
theorem dX6_tile_72 : decode cX6_tile 72 = .ok (.iconst 3, 1) := by decide +kernel
theorem dX6_tile_73 : decode cX6_tile 73 = .ok (.if_icmp .ne 10, 3) := by decide +kernel
theorem dX6_tile_76 : decode cX6_tile 76 = .ok (.aload_n 0, 1) := by decide +kernel
theorem dX6_tile_77 : decode cX6_tile 77 = .ok (.getfield 41, 3) := by decide +kernel
theorem dX6_tile_80 : decode cX6_tile 80 = .ok (.iconst 0, 1) := by decide +kernel
theorem dX6_tile_81 : decode cX6_tile 81 = .ok (.iaload, 1) := by decide +kernel
theorem dX6_tile_82 : decode cX6_tile 82 = .ok (.ireturn, 1) := by decide +kernel
theorem dX6_tile_83 : decode cX6_tile 83 = .ok (.iload_n 2, 1) := by decide +kernel
theorem dX6_tile_84 : decode cX6_tile 84 = .ok (.iconst 4, 1) := by decide +kernel
theorem dX6_tile_85 : decode cX6_tile 85 = .ok (.if_icmp .ne 8, 3) := by decide +kernel
theorem dX6_tile_88 : decode cX6_tile 88 = .ok (.aload_n 0, 1) := by decide +kernel
theorem dX6_tile_89 : decode cX6_tile 89 = .ok (.getfield 109, 3) := by decide +kernel
theorem dX6_tile_92 : decode cX6_tile 92 = .ok (.ireturn, 1) := by decide +kernel
theorem dX6_tile_93 : decode cX6_tile 93 = .ok (.iconst 0, 1) := by decide +kernel
theorem dX6_tile_94 : decode cX6_tile 94 = .ok (.istore_n 3, 1) := by decide +kernel
theorem dX6_tile_95 : decode cX6_tile 95 = .ok (.iconst 0, 1) := by decide +kernel
theorem dX6_tile_96 : decode cX6_tile 96 = .ok (.istore 4, 2) := by decide +kernel
theorem dX6_tile_98 : decode cX6_tile 98 = .ok (.iload 4, 2) := by decide +kernel
theorem dX6_tile_100 : decode cX6_tile 100 = .ok (.aload_n 0, 1) := by decide +kernel
theorem dX6_tile_101 : decode cX6_tile 101 = .ok (.getfield 41, 3) := by decide +kernel
theorem dX6_tile_104 : decode cX6_tile 104 = .ok (.iconst 0, 1) := by decide +kernel
theorem dX6_tile_105 : decode cX6_tile 105 = .ok (.iaload, 1) := by decide +kernel
theorem dX6_tile_106 : decode cX6_tile 106 = .ok (.if_icmp .ge 143, 3) := by decide +kernel
theorem dX6_tile_109 : decode cX6_tile 109 = .ok (.iconst 0, 1) := by decide +kernel
theorem dX6_tile_110 : decode cX6_tile 110 = .ok (.istore 5, 2) := by decide +kernel
theorem dX6_tile_112 : decode cX6_tile 112 = .ok (.iload 5, 2) := by decide +kernel
theorem dX6_tile_114 : decode cX6_tile 114 = .ok (.aload_n 0, 1) := by decide +kernel
theorem dX6_tile_115 : decode cX6_tile 115 = .ok (.getfield 38, 3) := by decide +kernel
theorem dX6_tile_118 : decode cX6_tile 118 = .ok (.iconst 0, 1) := by decide +kernel
theorem dX6_tile_119 : decode cX6_tile 119 = .ok (.iaload, 1) := by decide +kernel
theorem dX6_tile_120 : decode cX6_tile 120 = .ok (.if_icmp .ge 123, 3) := by decide +kernel
theorem dX6_tile_123 : decode cX6_tile 123 = .ok (.iload_n 2, 1) := by decide +kernel
theorem dX6_tile_124 : decode cX6_tile 124 = .ok (.iconst 5, 1) := by decide +kernel
theorem dX6_tile_125 : decode cX6_tile 125 = .ok (.if_icmp .ne 35, 3) := by decide +kernel
theorem dX6_tile_128 : decode cX6_tile 128 = .ok (.iload_n 3, 1) := by decide +kernel
theorem dX6_tile_129 : decode cX6_tile 129 = .ok (.aload_n 0, 1) := by decide +kernel
theorem dX6_tile_130 : decode cX6_tile 130 = .ok (.getfield 9, 3) := by decide +kernel
theorem dX6_tile_133 : decode cX6_tile 133 = .ok (.sipush 261, 3) := by decide +kernel
theorem dX6_tile_136 : decode cX6_tile 136 = .ok (.aload_n 0, 1) := by decide +kernel
theorem dX6_tile_137 : decode cX6_tile 137 = .ok (.invokevirtual 77, 3) := by decide +kernel
theorem dX6_tile_140 : decode cX6_tile 140 = .ok (.aload_n 0, 1) := by decide +kernel
theorem dX6_tile_141 : decode cX6_tile 141 = .ok (.getfield 100, 3) := by decide +kernel
theorem dX6_tile_144 : decode cX6_tile 144 = .ok (.iload 4, 2) := by decide +kernel
theorem dX6_tile_146 : decode cX6_tile 146 = .ok (.iadd, 1) := by decide +kernel
theorem dX6_tile_147 : decode cX6_tile 147 = .ok (.imul, 1) := by decide +kernel
theorem dX6_tile_148 : decode cX6_tile 148 = .ok (.iadd, 1) := by decide +kernel
theorem dX6_tile_149 : decode cX6_tile 149 = .ok (.aload_n 0, 1) := by decide +kernel
theorem dX6_tile_150 : decode cX6_tile 150 = .ok (.getfield 97, 3) := by decide +kernel
theorem dX6_tile_153 : decode cX6_tile 153 = .ok (.iadd, 1) := by decide +kernel
theorem dX6_tile_154 : decode cX6_tile 154 = .ok (.iload 5, 2) := by decide +kernel
theorem dX6_tile_156 : decode cX6_tile 156 = .ok (.iadd, 1) := by decide +kernel
theorem dX6_tile_157 : decode cX6_tile 157 = .ok (.iaload, 1) := by decide +kernel
theorem dX6_tile_158 : decode cX6_tile 158 = .ok (.iadd, 1) := by decide +kernel
theorem dX6_tile_159 : decode cX6_tile 159 = .ok (.istore_n 3, 1) := by decide +kernel
theorem dX6_tile_160 : decode cX6_tile 160 = .ok (.iload_n 2, 1) := by decide +kernel
theorem dX6_tile_161 : decode cX6_tile 161 = .ok (.bipush 6, 2) := by decide +kernel
theorem dX6_tile_163 : decode cX6_tile 163 = .ok (.if_icmp .ne 22, 3) := by decide +kernel
theorem dX6_tile_166 : decode cX6_tile 166 = .ok (.aload_n 0, 1) := by decide +kernel
theorem dX6_tile_167 : decode cX6_tile 167 = .ok (.getfield 47, 3) := by decide +kernel
theorem dX6_tile_170 : decode cX6_tile 170 = .ok (.aload_n 0, 1) := by decide +kernel
theorem dX6_tile_171 : decode cX6_tile 171 = .ok (.iload 5, 2) := by decide +kernel
theorem dX6_tile_173 : decode cX6_tile 173 = .ok (.iload 4, 2) := by decide +kernel
theorem dX6_tile_175 : decode cX6_tile 175 = .ok (.invokevirtual 116, 3) := by decide +kernel
theorem dX6_tile_178 : decode cX6_tile 178 = .ok (.baload, 1) := by decide +kernel
theorem dX6_tile_179 : decode cX6_tile 179 = .ok (.ifCond .eq 6, 3) := by decide +kernel
theorem dX6_tile_182 : decode cX6_tile 182 = .ok (.iinc 3 1, 3) := by decide +kernel
theorem dX6_tile_185 : decode cX6_tile 185 = .ok (.iload_n 2, 1) := by decide +kernel
theorem dX6_tile_186 : decode cX6_tile 186 = .ok (.bipush 7, 2) := by decide +kernel
theorem dX6_tile_188 : decode cX6_tile 188 = .ok (.if_icmp .ne 22, 3) := by decide +kernel
theorem dX6_tile_191 : decode cX6_tile 191 = .ok (.aload_n 0, 1) := by decide +kernel
theorem dX6_tile_192 : decode cX6_tile 192 = .ok (.getfield 44, 3) := by decide +kernel
theorem dX6_tile_195 : decode cX6_tile 195 = .ok (.aload_n 0, 1) := by decide +kernel
theorem dX6_tile_196 : decode cX6_tile 196 = .ok (.iload 5, 2) := by decide +kernel
theorem dX6_tile_198 : decode cX6_tile 198 = .ok (.iload 4, 2) := by decide +kernel
theorem dX6_tile_200 : decode cX6_tile 200 = .ok (.invokevirtual 116, 3) := by decide +kernel
theorem dX6_tile_203 : decode cX6_tile 203 = .ok (.iaload, 1) := by decide +kernel
theorem dX6_tile_204 : decode cX6_tile 204 = .ok (.ifCond .eq 6, 3) := by decide +kernel
theorem dX6_tile_207 : decode cX6_tile 207 = .ok (.iinc 3 1, 3) := by decide +kernel
theorem dX6_tile_210 : decode cX6_tile 210 = .ok (.iload_n 2, 1) := by decide +kernel
theorem dX6_tile_211 : decode cX6_tile 211 = .ok (.bipush 8, 2) := by decide +kernel
theorem dX6_tile_213 : decode cX6_tile 213 = .ok (.if_icmp .ne 24, 3) := by decide +kernel
theorem dX6_tile_216 : decode cX6_tile 216 = .ok (.iload_n 3, 1) := by decide +kernel
theorem dX6_tile_217 : decode cX6_tile 217 = .ok (.aload_n 0, 1) := by decide +kernel
theorem dX6_tile_218 : decode cX6_tile 218 = .ok (.aload_n 0, 1) := by decide +kernel
theorem dX6_tile_219 : decode cX6_tile 219 = .ok (.getfield 97, 3) := by decide +kernel
theorem dX6_tile_222 : decode cX6_tile 222 = .ok (.iload 5, 2) := by decide +kernel
theorem dX6_tile_224 : decode cX6_tile 224 = .ok (.iadd, 1) := by decide +kernel
theorem dX6_tile_225 : decode cX6_tile 225 = .ok (.aload_n 0, 1) := by decide +kernel
theorem dX6_tile_226 : decode cX6_tile 226 = .ok (.getfield 100, 3) := by decide +kernel
theorem dX6_tile_229 : decode cX6_tile 229 = .ok (.iload 4, 2) := by decide +kernel
theorem dX6_tile_231 : decode cX6_tile 231 = .ok (.iadd, 1) := by decide +kernel
theorem dX6_tile_232 : decode cX6_tile 232 = .ok (.invokevirtual 119, 3) := by decide +kernel
theorem dX6_tile_235 : decode cX6_tile 235 = .ok (.iadd, 1) := by decide +kernel
theorem dX6_tile_236 : decode cX6_tile 236 = .ok (.istore_n 3, 1) := by decide +kernel
theorem dX6_tile_237 : decode cX6_tile 237 = .ok (.iinc 5 1, 3) := by decide +kernel
theorem dX6_tile_240 : decode cX6_tile 240 = .ok (.goto (-128), 3) := by decide +kernel
theorem dX6_tile_243 : decode cX6_tile 243 = .ok (.iinc 4 1, 3) := by decide +kernel
theorem dX6_tile_246 : decode cX6_tile 246 = .ok (.goto (-148), 3) := by decide +kernel
theorem dX6_tile_249 : decode cX6_tile 249 = .ok (.iload_n 3, 1) := by decide +kernel
theorem dX6_tile_250 : decode cX6_tile 250 = .ok (.ireturn, 1) := by decide +kernel
theorem dX6_refuses_0 : decode cX6_refuses 0 = .ok (.aload_n 0, 1) := by decide +kernel
theorem dX6_refuses_1 : decode cX6_refuses 1 = .ok (.iload_n 1, 1) := by decide +kernel
theorem dX6_refuses_2 : decode cX6_refuses 2 = .ok (.putfield 172, 3) := by decide +kernel
theorem dX6_refuses_5 : decode cX6_refuses 5 = .ok (.aload_n 0, 1) := by decide +kernel
theorem dX6_refuses_6 : decode cX6_refuses 6 = .ok (.iload_n 2, 1) := by decide +kernel
theorem dX6_refuses_7 : decode cX6_refuses 7 = .ok (.putfield 175, 3) := by decide +kernel
theorem dX6_refuses_10 : decode cX6_refuses 10 = .ok (.aload_n 0, 1) := by decide +kernel
theorem dX6_refuses_11 : decode cX6_refuses 11 = .ok (.iload_n 1, 1) := by decide +kernel
theorem dX6_refuses_12 : decode cX6_refuses 12 = .ok (.iconst 4, 1) := by decide +kernel
theorem dX6_refuses_13 : decode cX6_refuses 13 = .ok (.if_icmp .ge 7, 3) := by decide +kernel
theorem dX6_refuses_16 : decode cX6_refuses 16 = .ok (.iconst 2, 1) := by decide +kernel
theorem dX6_refuses_17 : decode cX6_refuses 17 = .ok (.goto 14, 3) := by decide +kernel
theorem dX6_refuses_20 : decode cX6_refuses 20 = .ok (.iload_n 1, 1) := by decide +kernel
theorem dX6_refuses_21 : decode cX6_refuses 21 = .ok (.bipush 6, 2) := by decide +kernel
theorem dX6_refuses_23 : decode cX6_refuses 23 = .ok (.if_icmp .ne 7, 3) := by decide +kernel
theorem dX6_refuses_26 : decode cX6_refuses 26 = .ok (.iconst 2, 1) := by decide +kernel
theorem dX6_refuses_27 : decode cX6_refuses 27 = .ok (.goto 4, 3) := by decide +kernel
theorem dX6_refuses_30 : decode cX6_refuses 30 = .ok (.iconst 3, 1) := by decide +kernel
theorem dX6_refuses_31 : decode cX6_refuses 31 = .ok (.invokevirtual 142, 3) := by decide +kernel
theorem dX6_refuses_34 : decode cX6_refuses 34 = .ok (.ireturn, 1) := by decide +kernel
theorem dX6_raise_0 : decode cX6_raise 0 = .ok (.aload_n 0, 1) := by decide +kernel
theorem dX6_raise_1 : decode cX6_raise 1 = .ok (.iconst 0, 1) := by decide +kernel
theorem dX6_raise_2 : decode cX6_raise 2 = .ok (.putfield 74, 3) := by decide +kernel
theorem dX6_raise_5 : decode cX6_raise 5 = .ok (.aload_n 0, 1) := by decide +kernel
theorem dX6_raise_6 : decode cX6_raise 6 = .ok (.iload_n 1, 1) := by decide +kernel
theorem dX6_raise_7 : decode cX6_raise 7 = .ok (.invokevirtual 165, 3) := by decide +kernel
theorem dX6_raise_10 : decode cX6_raise 10 = .ok (.ifCond .ne 9, 3) := by decide +kernel
theorem dX6_raise_13 : decode cX6_raise 13 = .ok (.aload_n 0, 1) := by decide +kernel
theorem dX6_raise_14 : decode cX6_raise 14 = .ok (.iconst 1, 1) := by decide +kernel
theorem dX6_raise_15 : decode cX6_raise 15 = .ok (.invokevirtual 142, 3) := by decide +kernel
theorem dX6_raise_18 : decode cX6_raise 18 = .ok (.ireturn, 1) := by decide +kernel
theorem dX6_raise_19 : decode cX6_raise 19 = .ok (.iload_n 2, 1) := by decide +kernel
theorem dX6_raise_20 : decode cX6_raise 20 = .ok (.sipush (-255), 3) := by decide +kernel
theorem dX6_raise_23 : decode cX6_raise 23 = .ok (.sipush 255, 3) := by decide +kernel
theorem dX6_raise_26 : decode cX6_raise 26 = .ok (.invokestatic 81, 3) := by decide +kernel
theorem dX6_raise_29 : decode cX6_raise 29 = .ok (.ifCond .ne 9, 3) := by decide +kernel
theorem dX6_raise_32 : decode cX6_raise 32 = .ok (.aload_n 0, 1) := by decide +kernel
theorem dX6_raise_33 : decode cX6_raise 33 = .ok (.iconst 2, 1) := by decide +kernel
theorem dX6_raise_34 : decode cX6_raise 34 = .ok (.invokevirtual 142, 3) := by decide +kernel
theorem dX6_raise_37 : decode cX6_raise 37 = .ok (.ireturn, 1) := by decide +kernel
theorem dX6_raise_38 : decode cX6_raise 38 = .ok (.aload_n 0, 1) := by decide +kernel
theorem dX6_raise_39 : decode cX6_raise 39 = .ok (.iload_n 1, 1) := by decide +kernel
theorem dX6_raise_40 : decode cX6_raise 40 = .ok (.invokevirtual 112, 3) := by decide +kernel
theorem dX6_raise_43 : decode cX6_raise 43 = .ok (.iconst 0, 1) := by decide +kernel
theorem dX6_raise_44 : decode cX6_raise 44 = .ok (.istore_n 3, 1) := by decide +kernel
theorem dX6_raise_45 : decode cX6_raise 45 = .ok (.iconst 0, 1) := by decide +kernel
theorem dX6_raise_46 : decode cX6_raise 46 = .ok (.istore 4, 2) := by decide +kernel
theorem dX6_raise_48 : decode cX6_raise 48 = .ok (.iload 4, 2) := by decide +kernel
theorem dX6_raise_50 : decode cX6_raise 50 = .ok (.aload_n 0, 1) := by decide +kernel
theorem dX6_raise_51 : decode cX6_raise 51 = .ok (.getfield 41, 3) := by decide +kernel
theorem dX6_raise_54 : decode cX6_raise 54 = .ok (.iconst 0, 1) := by decide +kernel
theorem dX6_raise_55 : decode cX6_raise 55 = .ok (.iaload, 1) := by decide +kernel
theorem dX6_raise_56 : decode cX6_raise 56 = .ok (.if_icmp .ge 103, 3) := by decide +kernel
theorem dX6_raise_59 : decode cX6_raise 59 = .ok (.iconst 0, 1) := by decide +kernel
theorem dX6_raise_60 : decode cX6_raise 60 = .ok (.istore 5, 2) := by decide +kernel
theorem dX6_raise_62 : decode cX6_raise 62 = .ok (.iload 5, 2) := by decide +kernel
theorem dX6_raise_64 : decode cX6_raise 64 = .ok (.aload_n 0, 1) := by decide +kernel
theorem dX6_raise_65 : decode cX6_raise 65 = .ok (.getfield 38, 3) := by decide +kernel
theorem dX6_raise_68 : decode cX6_raise 68 = .ok (.iconst 0, 1) := by decide +kernel
theorem dX6_raise_69 : decode cX6_raise 69 = .ok (.iaload, 1) := by decide +kernel
theorem dX6_raise_70 : decode cX6_raise 70 = .ok (.if_icmp .ge 83, 3) := by decide +kernel
theorem dX6_raise_73 : decode cX6_raise 73 = .ok (.aload_n 0, 1) := by decide +kernel
theorem dX6_raise_74 : decode cX6_raise 74 = .ok (.aload_n 0, 1) := by decide +kernel
theorem dX6_raise_75 : decode cX6_raise 75 = .ok (.getfield 97, 3) := by decide +kernel
theorem dX6_raise_78 : decode cX6_raise 78 = .ok (.iload 5, 2) := by decide +kernel
theorem dX6_raise_80 : decode cX6_raise 80 = .ok (.iadd, 1) := by decide +kernel
theorem dX6_raise_81 : decode cX6_raise 81 = .ok (.aload_n 0, 1) := by decide +kernel
theorem dX6_raise_82 : decode cX6_raise 82 = .ok (.getfield 100, 3) := by decide +kernel
theorem dX6_raise_85 : decode cX6_raise 85 = .ok (.iload 4, 2) := by decide +kernel
theorem dX6_raise_87 : decode cX6_raise 87 = .ok (.iadd, 1) := by decide +kernel
theorem dX6_raise_88 : decode cX6_raise 88 = .ok (.invokevirtual 119, 3) := by decide +kernel
theorem dX6_raise_91 : decode cX6_raise 91 = .ok (.iload_n 2, 1) := by decide +kernel
theorem dX6_raise_92 : decode cX6_raise 92 = .ok (.iadd, 1) := by decide +kernel
theorem dX6_raise_93 : decode cX6_raise 93 = .ok (.istore 6, 2) := by decide +kernel
theorem dX6_raise_95 : decode cX6_raise 95 = .ok (.iload 6, 2) := by decide +kernel
theorem dX6_raise_97 : decode cX6_raise 97 = .ok (.iconst 0, 1) := by decide +kernel
theorem dX6_raise_98 : decode cX6_raise 98 = .ok (.sipush 255, 3) := by decide +kernel
theorem dX6_raise_101 : decode cX6_raise 101 = .ok (.invokestatic 81, 3) := by decide +kernel
theorem dX6_raise_104 : decode cX6_raise 104 = .ok (.ifCond .ne 38, 3) := by decide +kernel
theorem dX6_raise_107 : decode cX6_raise 107 = .ok (.aload_n 0, 1) := by decide +kernel
theorem dX6_raise_108 : decode cX6_raise 108 = .ok (.iload 6, 2) := by decide +kernel
theorem dX6_raise_110 : decode cX6_raise 110 = .ok (.ifCond .ge 7, 3) := by decide +kernel
theorem dX6_raise_113 : decode cX6_raise 113 = .ok (.iconst 4, 1) := by decide +kernel
theorem dX6_raise_114 : decode cX6_raise 114 = .ok (.goto 4, 3) := by decide +kernel
theorem dX6_raise_117 : decode cX6_raise 117 = .ok (.iconst 5, 1) := by decide +kernel
theorem dX6_raise_118 : decode cX6_raise 118 = .ok (.aload_n 0, 1) := by decide +kernel
theorem dX6_raise_119 : decode cX6_raise 119 = .ok (.invokevirtual 77, 3) := by decide +kernel
theorem dX6_raise_122 : decode cX6_raise 122 = .ok (.aload_n 0, 1) := by decide +kernel
theorem dX6_raise_123 : decode cX6_raise 123 = .ok (.getfield 100, 3) := by decide +kernel
theorem dX6_raise_126 : decode cX6_raise 126 = .ok (.iload 4, 2) := by decide +kernel
theorem dX6_raise_128 : decode cX6_raise 128 = .ok (.iadd, 1) := by decide +kernel
theorem dX6_raise_129 : decode cX6_raise 129 = .ok (.imul, 1) := by decide +kernel
theorem dX6_raise_130 : decode cX6_raise 130 = .ok (.aload_n 0, 1) := by decide +kernel
theorem dX6_raise_131 : decode cX6_raise 131 = .ok (.getfield 97, 3) := by decide +kernel
theorem dX6_raise_134 : decode cX6_raise 134 = .ok (.iadd, 1) := by decide +kernel
theorem dX6_raise_135 : decode cX6_raise 135 = .ok (.iload 5, 2) := by decide +kernel
theorem dX6_raise_137 : decode cX6_raise 137 = .ok (.iadd, 1) := by decide +kernel
theorem dX6_raise_138 : decode cX6_raise 138 = .ok (.invokevirtual 178, 3) := by decide +kernel
theorem dX6_raise_141 : decode cX6_raise 141 = .ok (.ireturn, 1) := by decide +kernel
theorem dX6_raise_142 : decode cX6_raise 142 = .ok (.iload_n 3, 1) := by decide +kernel
theorem dX6_raise_143 : decode cX6_raise 143 = .ok (.iload 6, 2) := by decide +kernel
theorem dX6_raise_145 : decode cX6_raise 145 = .ok (.iadd, 1) := by decide +kernel
theorem dX6_raise_146 : decode cX6_raise 146 = .ok (.istore_n 3, 1) := by decide +kernel
theorem dX6_raise_147 : decode cX6_raise 147 = .ok (.iinc 5 1, 3) := by decide +kernel
theorem dX6_raise_150 : decode cX6_raise 150 = .ok (.goto (-88), 3) := by decide +kernel
theorem dX6_raise_153 : decode cX6_raise 153 = .ok (.iinc 4 1, 3) := by decide +kernel
theorem dX6_raise_156 : decode cX6_raise 156 = .ok (.goto (-108), 3) := by decide +kernel
theorem dX6_raise_159 : decode cX6_raise 159 = .ok (.aload_n 0, 1) := by decide +kernel
theorem dX6_raise_160 : decode cX6_raise 160 = .ok (.invokevirtual 145, 3) := by decide +kernel
theorem dX6_raise_163 : decode cX6_raise 163 = .ok (.iconst 0, 1) := by decide +kernel
theorem dX6_raise_164 : decode cX6_raise 164 = .ok (.istore 4, 2) := by decide +kernel
theorem dX6_raise_166 : decode cX6_raise 166 = .ok (.iload 4, 2) := by decide +kernel
theorem dX6_raise_168 : decode cX6_raise 168 = .ok (.aload_n 0, 1) := by decide +kernel
theorem dX6_raise_169 : decode cX6_raise 169 = .ok (.getfield 41, 3) := by decide +kernel
theorem dX6_raise_172 : decode cX6_raise 172 = .ok (.iconst 0, 1) := by decide +kernel
theorem dX6_raise_173 : decode cX6_raise 173 = .ok (.iaload, 1) := by decide +kernel
theorem dX6_raise_174 : decode cX6_raise 174 = .ok (.if_icmp .ge 60, 3) := by decide +kernel
theorem dX6_raise_177 : decode cX6_raise 177 = .ok (.iconst 0, 1) := by decide +kernel
theorem dX6_raise_178 : decode cX6_raise 178 = .ok (.istore 5, 2) := by decide +kernel
theorem dX6_raise_180 : decode cX6_raise 180 = .ok (.iload 5, 2) := by decide +kernel
theorem dX6_raise_182 : decode cX6_raise 182 = .ok (.aload_n 0, 1) := by decide +kernel
theorem dX6_raise_183 : decode cX6_raise 183 = .ok (.getfield 38, 3) := by decide +kernel
theorem dX6_raise_186 : decode cX6_raise 186 = .ok (.iconst 0, 1) := by decide +kernel
theorem dX6_raise_187 : decode cX6_raise 187 = .ok (.iaload, 1) := by decide +kernel
theorem dX6_raise_188 : decode cX6_raise 188 = .ok (.if_icmp .ge 40, 3) := by decide +kernel
theorem dX6_raise_191 : decode cX6_raise 191 = .ok (.aload_n 0, 1) := by decide +kernel
theorem dX6_raise_192 : decode cX6_raise 192 = .ok (.getfield 9, 3) := by decide +kernel
theorem dX6_raise_195 : decode cX6_raise 195 = .ok (.iconst 5, 1) := by decide +kernel
theorem dX6_raise_196 : decode cX6_raise 196 = .ok (.aload_n 0, 1) := by decide +kernel
theorem dX6_raise_197 : decode cX6_raise 197 = .ok (.invokevirtual 77, 3) := by decide +kernel
theorem dX6_raise_200 : decode cX6_raise 200 = .ok (.aload_n 0, 1) := by decide +kernel
theorem dX6_raise_201 : decode cX6_raise 201 = .ok (.getfield 100, 3) := by decide +kernel
theorem dX6_raise_204 : decode cX6_raise 204 = .ok (.iload 4, 2) := by decide +kernel
theorem dX6_raise_206 : decode cX6_raise 206 = .ok (.iadd, 1) := by decide +kernel
theorem dX6_raise_207 : decode cX6_raise 207 = .ok (.imul, 1) := by decide +kernel
theorem dX6_raise_208 : decode cX6_raise 208 = .ok (.iadd, 1) := by decide +kernel
theorem dX6_raise_209 : decode cX6_raise 209 = .ok (.aload_n 0, 1) := by decide +kernel
theorem dX6_raise_210 : decode cX6_raise 210 = .ok (.getfield 97, 3) := by decide +kernel
theorem dX6_raise_213 : decode cX6_raise 213 = .ok (.iadd, 1) := by decide +kernel
theorem dX6_raise_214 : decode cX6_raise 214 = .ok (.iload 5, 2) := by decide +kernel
theorem dX6_raise_216 : decode cX6_raise 216 = .ok (.iadd, 1) := by decide +kernel
theorem dX6_raise_217 : decode cX6_raise 217 = .ok (.dup2, 1) := by decide +kernel
theorem dX6_raise_218 : decode cX6_raise 218 = .ok (.iaload, 1) := by decide +kernel
theorem dX6_raise_219 : decode cX6_raise 219 = .ok (.iload_n 2, 1) := by decide +kernel
theorem dX6_raise_220 : decode cX6_raise 220 = .ok (.iadd, 1) := by decide +kernel
theorem dX6_raise_221 : decode cX6_raise 221 = .ok (.iastore, 1) := by decide +kernel
theorem dX6_raise_222 : decode cX6_raise 222 = .ok (.iinc 5 1, 3) := by decide +kernel
theorem dX6_raise_225 : decode cX6_raise 225 = .ok (.goto (-45), 3) := by decide +kernel
theorem dX6_raise_228 : decode cX6_raise 228 = .ok (.iinc 4 1, 3) := by decide +kernel
theorem dX6_raise_231 : decode cX6_raise 231 = .ok (.goto (-65), 3) := by decide +kernel
theorem dX6_raise_234 : decode cX6_raise 234 = .ok (.iload_n 3, 1) := by decide +kernel
theorem dX6_raise_235 : decode cX6_raise 235 = .ok (.ireturn, 1) := by decide +kernel
theorem dX6_swap_0 : decode cX6_swap 0 = .ok (.aload_n 0, 1) := by decide +kernel
theorem dX6_swap_1 : decode cX6_swap 1 = .ok (.iconst 0, 1) := by decide +kernel
theorem dX6_swap_2 : decode cX6_swap 2 = .ok (.putfield 74, 3) := by decide +kernel
theorem dX6_swap_5 : decode cX6_swap 5 = .ok (.aload_n 0, 1) := by decide +kernel
theorem dX6_swap_6 : decode cX6_swap 6 = .ok (.iload_n 1, 1) := by decide +kernel
theorem dX6_swap_7 : decode cX6_swap 7 = .ok (.invokevirtual 165, 3) := by decide +kernel
theorem dX6_swap_10 : decode cX6_swap 10 = .ok (.ifCond .eq 11, 3) := by decide +kernel
theorem dX6_swap_13 : decode cX6_swap 13 = .ok (.aload_n 0, 1) := by decide +kernel
theorem dX6_swap_14 : decode cX6_swap 14 = .ok (.iload_n 2, 1) := by decide +kernel
theorem dX6_swap_15 : decode cX6_swap 15 = .ok (.invokevirtual 165, 3) := by decide +kernel
theorem dX6_swap_18 : decode cX6_swap 18 = .ok (.ifCond .ne 9, 3) := by decide +kernel
theorem dX6_swap_21 : decode cX6_swap 21 = .ok (.aload_n 0, 1) := by decide +kernel
theorem dX6_swap_22 : decode cX6_swap 22 = .ok (.iconst 1, 1) := by decide +kernel
theorem dX6_swap_23 : decode cX6_swap 23 = .ok (.invokevirtual 142, 3) := by decide +kernel
theorem dX6_swap_26 : decode cX6_swap 26 = .ok (.ireturn, 1) := by decide +kernel
theorem dX6_swap_27 : decode cX6_swap 27 = .ok (.aload_n 0, 1) := by decide +kernel
theorem dX6_swap_28 : decode cX6_swap 28 = .ok (.iload_n 2, 1) := by decide +kernel
theorem dX6_swap_29 : decode cX6_swap 29 = .ok (.invokevirtual 112, 3) := by decide +kernel
theorem dX6_swap_32 : decode cX6_swap 32 = .ok (.aload_n 0, 1) := by decide +kernel
theorem dX6_swap_33 : decode cX6_swap 33 = .ok (.getfield 97, 3) := by decide +kernel
theorem dX6_swap_36 : decode cX6_swap 36 = .ok (.istore_n 3, 1) := by decide +kernel
theorem dX6_swap_37 : decode cX6_swap 37 = .ok (.aload_n 0, 1) := by decide +kernel
theorem dX6_swap_38 : decode cX6_swap 38 = .ok (.getfield 100, 3) := by decide +kernel
theorem dX6_swap_41 : decode cX6_swap 41 = .ok (.istore 4, 2) := by decide +kernel
theorem dX6_swap_43 : decode cX6_swap 43 = .ok (.aload_n 0, 1) := by decide +kernel
theorem dX6_swap_44 : decode cX6_swap 44 = .ok (.getfield 38, 3) := by decide +kernel
theorem dX6_swap_47 : decode cX6_swap 47 = .ok (.iconst 0, 1) := by decide +kernel
theorem dX6_swap_48 : decode cX6_swap 48 = .ok (.iaload, 1) := by decide +kernel
theorem dX6_swap_49 : decode cX6_swap 49 = .ok (.istore 5, 2) := by decide +kernel
theorem dX6_swap_51 : decode cX6_swap 51 = .ok (.aload_n 0, 1) := by decide +kernel
theorem dX6_swap_52 : decode cX6_swap 52 = .ok (.getfield 41, 3) := by decide +kernel
theorem dX6_swap_55 : decode cX6_swap 55 = .ok (.iconst 0, 1) := by decide +kernel
theorem dX6_swap_56 : decode cX6_swap 56 = .ok (.iaload, 1) := by decide +kernel
theorem dX6_swap_57 : decode cX6_swap 57 = .ok (.istore 6, 2) := by decide +kernel
theorem dX6_swap_59 : decode cX6_swap 59 = .ok (.aload_n 0, 1) := by decide +kernel
theorem dX6_swap_60 : decode cX6_swap 60 = .ok (.iload_n 1, 1) := by decide +kernel
theorem dX6_swap_61 : decode cX6_swap 61 = .ok (.invokevirtual 112, 3) := by decide +kernel
theorem dX6_swap_64 : decode cX6_swap 64 = .ok (.aload_n 0, 1) := by decide +kernel
theorem dX6_swap_65 : decode cX6_swap 65 = .ok (.getfield 38, 3) := by decide +kernel
theorem dX6_swap_68 : decode cX6_swap 68 = .ok (.iconst 0, 1) := by decide +kernel
theorem dX6_swap_69 : decode cX6_swap 69 = .ok (.iaload, 1) := by decide +kernel
theorem dX6_swap_70 : decode cX6_swap 70 = .ok (.iload 5, 2) := by decide +kernel
theorem dX6_swap_72 : decode cX6_swap 72 = .ok (.if_icmp .ne 14, 3) := by decide +kernel
theorem dX6_swap_75 : decode cX6_swap 75 = .ok (.aload_n 0, 1) := by decide +kernel
theorem dX6_swap_76 : decode cX6_swap 76 = .ok (.getfield 41, 3) := by decide +kernel
theorem dX6_swap_79 : decode cX6_swap 79 = .ok (.iconst 0, 1) := by decide +kernel
theorem dX6_swap_80 : decode cX6_swap 80 = .ok (.iaload, 1) := by decide +kernel
theorem dX6_swap_81 : decode cX6_swap 81 = .ok (.iload 6, 2) := by decide +kernel
theorem dX6_swap_83 : decode cX6_swap 83 = .ok (.if_icmp .eq 11, 3) := by decide +kernel
theorem dX6_swap_86 : decode cX6_swap 86 = .ok (.aload_n 0, 1) := by decide +kernel
theorem dX6_swap_87 : decode cX6_swap 87 = .ok (.bipush 6, 2) := by decide +kernel
theorem dX6_swap_89 : decode cX6_swap 89 = .ok (.iconst 0, 1) := by decide +kernel
theorem dX6_swap_90 : decode cX6_swap 90 = .ok (.invokevirtual 178, 3) := by decide +kernel
theorem dX6_swap_93 : decode cX6_swap 93 = .ok (.ireturn, 1) := by decide +kernel
theorem dX6_swap_94 : decode cX6_swap 94 = .ok (.aload_n 0, 1) := by decide +kernel
theorem dX6_swap_95 : decode cX6_swap 95 = .ok (.invokevirtual 145, 3) := by decide +kernel
theorem dX6_swap_98 : decode cX6_swap 98 = .ok (.iconst 0, 1) := by decide +kernel
theorem dX6_swap_99 : decode cX6_swap 99 = .ok (.istore 7, 2) := by decide +kernel
theorem dX6_swap_101 : decode cX6_swap 101 = .ok (.iconst 0, 1) := by decide +kernel
theorem dX6_swap_102 : decode cX6_swap 102 = .ok (.istore 8, 2) := by decide +kernel
theorem dX6_swap_104 : decode cX6_swap 104 = .ok (.iload 8, 2) := by decide +kernel
theorem dX6_swap_106 : decode cX6_swap 106 = .ok (.iload 6, 2) := by decide +kernel
theorem dX6_swap_108 : decode cX6_swap 108 = .ok (.if_icmp .ge 115, 3) := by decide +kernel
theorem dX6_swap_111 : decode cX6_swap 111 = .ok (.iconst 0, 1) := by decide +kernel
theorem dX6_swap_112 : decode cX6_swap 112 = .ok (.istore 9, 2) := by decide +kernel
theorem dX6_swap_114 : decode cX6_swap 114 = .ok (.iload 9, 2) := by decide +kernel
theorem dX6_swap_116 : decode cX6_swap 116 = .ok (.iload 5, 2) := by decide +kernel
theorem dX6_swap_118 : decode cX6_swap 118 = .ok (.if_icmp .ge 99, 3) := by decide +kernel
theorem dX6_swap_121 : decode cX6_swap 121 = .ok (.iconst 5, 1) := by decide +kernel
theorem dX6_swap_122 : decode cX6_swap 122 = .ok (.aload_n 0, 1) := by decide +kernel
theorem dX6_swap_123 : decode cX6_swap 123 = .ok (.invokevirtual 77, 3) := by decide +kernel
theorem dX6_swap_126 : decode cX6_swap 126 = .ok (.aload_n 0, 1) := by decide +kernel
theorem dX6_swap_127 : decode cX6_swap 127 = .ok (.getfield 100, 3) := by decide +kernel
theorem dX6_swap_130 : decode cX6_swap 130 = .ok (.iload 8, 2) := by decide +kernel
theorem dX6_swap_132 : decode cX6_swap 132 = .ok (.iadd, 1) := by decide +kernel
theorem dX6_swap_133 : decode cX6_swap 133 = .ok (.imul, 1) := by decide +kernel
theorem dX6_swap_134 : decode cX6_swap 134 = .ok (.iadd, 1) := by decide +kernel
theorem dX6_swap_135 : decode cX6_swap 135 = .ok (.aload_n 0, 1) := by decide +kernel
theorem dX6_swap_136 : decode cX6_swap 136 = .ok (.getfield 97, 3) := by decide +kernel
theorem dX6_swap_139 : decode cX6_swap 139 = .ok (.iadd, 1) := by decide +kernel
theorem dX6_swap_140 : decode cX6_swap 140 = .ok (.iload 9, 2) := by decide +kernel
theorem dX6_swap_142 : decode cX6_swap 142 = .ok (.iadd, 1) := by decide +kernel
theorem dX6_swap_143 : decode cX6_swap 143 = .ok (.istore 10, 2) := by decide +kernel
theorem dX6_swap_145 : decode cX6_swap 145 = .ok (.iconst 5, 1) := by decide +kernel
theorem dX6_swap_146 : decode cX6_swap 146 = .ok (.aload_n 0, 1) := by decide +kernel
theorem dX6_swap_147 : decode cX6_swap 147 = .ok (.invokevirtual 77, 3) := by decide +kernel
theorem dX6_swap_150 : decode cX6_swap 150 = .ok (.iload 4, 2) := by decide +kernel
theorem dX6_swap_152 : decode cX6_swap 152 = .ok (.iload 8, 2) := by decide +kernel
theorem dX6_swap_154 : decode cX6_swap 154 = .ok (.iadd, 1) := by decide +kernel
theorem dX6_swap_155 : decode cX6_swap 155 = .ok (.imul, 1) := by decide +kernel
theorem dX6_swap_156 : decode cX6_swap 156 = .ok (.iadd, 1) := by decide +kernel
theorem dX6_swap_157 : decode cX6_swap 157 = .ok (.iload_n 3, 1) := by decide +kernel
theorem dX6_swap_158 : decode cX6_swap 158 = .ok (.iadd, 1) := by decide +kernel
theorem dX6_swap_159 : decode cX6_swap 159 = .ok (.iload 9, 2) := by decide +kernel
theorem dX6_swap_161 : decode cX6_swap 161 = .ok (.iadd, 1) := by decide +kernel
theorem dX6_swap_162 : decode cX6_swap 162 = .ok (.istore 11, 2) := by decide +kernel
theorem dX6_swap_164 : decode cX6_swap 164 = .ok (.aload_n 0, 1) := by decide +kernel
theorem dX6_swap_165 : decode cX6_swap 165 = .ok (.getfield 9, 3) := by decide +kernel
theorem dX6_swap_168 : decode cX6_swap 168 = .ok (.iload 10, 2) := by decide +kernel
theorem dX6_swap_170 : decode cX6_swap 170 = .ok (.iaload, 1) := by decide +kernel
theorem dX6_swap_171 : decode cX6_swap 171 = .ok (.istore 12, 2) := by decide +kernel
theorem dX6_swap_173 : decode cX6_swap 173 = .ok (.iload 12, 2) := by decide +kernel
theorem dX6_swap_175 : decode cX6_swap 175 = .ok (.aload_n 0, 1) := by decide +kernel
theorem dX6_swap_176 : decode cX6_swap 176 = .ok (.getfield 9, 3) := by decide +kernel
theorem dX6_swap_179 : decode cX6_swap 179 = .ok (.iload 11, 2) := by decide +kernel
theorem dX6_swap_181 : decode cX6_swap 181 = .ok (.iaload, 1) := by decide +kernel
theorem dX6_swap_182 : decode cX6_swap 182 = .ok (.if_icmp .eq 6, 3) := by decide +kernel
theorem dX6_swap_185 : decode cX6_swap 185 = .ok (.iinc 7 1, 3) := by decide +kernel
theorem dX6_swap_188 : decode cX6_swap 188 = .ok (.aload_n 0, 1) := by decide +kernel
theorem dX6_swap_189 : decode cX6_swap 189 = .ok (.getfield 9, 3) := by decide +kernel
theorem dX6_swap_192 : decode cX6_swap 192 = .ok (.iload 10, 2) := by decide +kernel
theorem dX6_swap_194 : decode cX6_swap 194 = .ok (.aload_n 0, 1) := by decide +kernel
theorem dX6_swap_195 : decode cX6_swap 195 = .ok (.getfield 9, 3) := by decide +kernel
theorem dX6_swap_198 : decode cX6_swap 198 = .ok (.iload 11, 2) := by decide +kernel
theorem dX6_swap_200 : decode cX6_swap 200 = .ok (.iaload, 1) := by decide +kernel
theorem dX6_swap_201 : decode cX6_swap 201 = .ok (.iastore, 1) := by decide +kernel
theorem dX6_swap_202 : decode cX6_swap 202 = .ok (.aload_n 0, 1) := by decide +kernel
theorem dX6_swap_203 : decode cX6_swap 203 = .ok (.getfield 9, 3) := by decide +kernel
theorem dX6_swap_206 : decode cX6_swap 206 = .ok (.iload 11, 2) := by decide +kernel
theorem dX6_swap_208 : decode cX6_swap 208 = .ok (.iload 12, 2) := by decide +kernel
theorem dX6_swap_210 : decode cX6_swap 210 = .ok (.iastore, 1) := by decide +kernel
theorem dX6_swap_211 : decode cX6_swap 211 = .ok (.iinc 9 1, 3) := by decide +kernel
theorem dX6_swap_214 : decode cX6_swap 214 = .ok (.goto (-100), 3) := by decide +kernel
theorem dX6_swap_217 : decode cX6_swap 217 = .ok (.iinc 8 1, 3) := by decide +kernel
theorem dX6_swap_220 : decode cX6_swap 220 = .ok (.goto (-116), 3) := by decide +kernel
theorem dX6_swap_223 : decode cX6_swap 223 = .ok (.iload 7, 2) := by decide +kernel
theorem dX6_swap_225 : decode cX6_swap 225 = .ok (.ireturn, 1) := by decide +kernel
theorem dX6_soften_0 : decode cX6_soften 0 = .ok (.aload_n 0, 1) := by decide +kernel
theorem dX6_soften_1 : decode cX6_soften 1 = .ok (.iconst 0, 1) := by decide +kernel
theorem dX6_soften_2 : decode cX6_soften 2 = .ok (.putfield 74, 3) := by decide +kernel
theorem dX6_soften_5 : decode cX6_soften 5 = .ok (.aload_n 0, 1) := by decide +kernel
theorem dX6_soften_6 : decode cX6_soften 6 = .ok (.iload_n 1, 1) := by decide +kernel
theorem dX6_soften_7 : decode cX6_soften 7 = .ok (.invokevirtual 165, 3) := by decide +kernel
theorem dX6_soften_10 : decode cX6_soften 10 = .ok (.ifCond .ne 9, 3) := by decide +kernel
theorem dX6_soften_13 : decode cX6_soften 13 = .ok (.aload_n 0, 1) := by decide +kernel
theorem dX6_soften_14 : decode cX6_soften 14 = .ok (.iconst 1, 1) := by decide +kernel
theorem dX6_soften_15 : decode cX6_soften 15 = .ok (.invokevirtual 142, 3) := by decide +kernel
theorem dX6_soften_18 : decode cX6_soften 18 = .ok (.ireturn, 1) := by decide +kernel
theorem dX6_soften_19 : decode cX6_soften 19 = .ok (.iload_n 2, 1) := by decide +kernel
theorem dX6_soften_20 : decode cX6_soften 20 = .ok (.iconst 0, 1) := by decide +kernel
theorem dX6_soften_21 : decode cX6_soften 21 = .ok (.bipush 9, 2) := by decide +kernel
theorem dX6_soften_23 : decode cX6_soften 23 = .ok (.invokestatic 81, 3) := by decide +kernel
theorem dX6_soften_26 : decode cX6_soften 26 = .ok (.ifCond .ne 9, 3) := by decide +kernel
theorem dX6_soften_29 : decode cX6_soften 29 = .ok (.aload_n 0, 1) := by decide +kernel
theorem dX6_soften_30 : decode cX6_soften 30 = .ok (.iconst 2, 1) := by decide +kernel
theorem dX6_soften_31 : decode cX6_soften 31 = .ok (.invokevirtual 142, 3) := by decide +kernel
theorem dX6_soften_34 : decode cX6_soften 34 = .ok (.ireturn, 1) := by decide +kernel
theorem dX6_soften_35 : decode cX6_soften 35 = .ok (.aload_n 0, 1) := by decide +kernel
theorem dX6_soften_36 : decode cX6_soften 36 = .ok (.invokevirtual 145, 3) := by decide +kernel
theorem dX6_soften_39 : decode cX6_soften 39 = .ok (.aload_n 0, 1) := by decide +kernel
theorem dX6_soften_40 : decode cX6_soften 40 = .ok (.iload_n 1, 1) := by decide +kernel
theorem dX6_soften_41 : decode cX6_soften 41 = .ok (.invokevirtual 169, 3) := by decide +kernel
theorem dX6_soften_44 : decode cX6_soften 44 = .ok (.aload_n 0, 1) := by decide +kernel
theorem dX6_soften_45 : decode cX6_soften 45 = .ok (.iload_n 2, 1) := by decide +kernel
theorem dX6_soften_46 : decode cX6_soften 46 = .ok (.invokevirtual 181, 3) := by decide +kernel
theorem dX6_soften_49 : decode cX6_soften 49 = .ok (.iconst 0, 1) := by decide +kernel
theorem dX6_soften_50 : decode cX6_soften 50 = .ok (.istore_n 3, 1) := by decide +kernel
theorem dX6_soften_51 : decode cX6_soften 51 = .ok (.iconst 0, 1) := by decide +kernel
theorem dX6_soften_52 : decode cX6_soften 52 = .ok (.istore 4, 2) := by decide +kernel
theorem dX6_soften_54 : decode cX6_soften 54 = .ok (.iload 4, 2) := by decide +kernel
theorem dX6_soften_56 : decode cX6_soften 56 = .ok (.aload_n 0, 1) := by decide +kernel
theorem dX6_soften_57 : decode cX6_soften 57 = .ok (.getfield 41, 3) := by decide +kernel
theorem dX6_soften_60 : decode cX6_soften 60 = .ok (.iconst 0, 1) := by decide +kernel
theorem dX6_soften_61 : decode cX6_soften 61 = .ok (.iaload, 1) := by decide +kernel
theorem dX6_soften_62 : decode cX6_soften 62 = .ok (.if_icmp .ge 83, 3) := by decide +kernel
theorem dX6_soften_65 : decode cX6_soften 65 = .ok (.iconst 0, 1) := by decide +kernel
theorem dX6_soften_66 : decode cX6_soften 66 = .ok (.istore 5, 2) := by decide +kernel
theorem dX6_soften_68 : decode cX6_soften 68 = .ok (.iload 5, 2) := by decide +kernel
theorem dX6_soften_70 : decode cX6_soften 70 = .ok (.aload_n 0, 1) := by decide +kernel
theorem dX6_soften_71 : decode cX6_soften 71 = .ok (.getfield 38, 3) := by decide +kernel
theorem dX6_soften_74 : decode cX6_soften 74 = .ok (.iconst 0, 1) := by decide +kernel
theorem dX6_soften_75 : decode cX6_soften 75 = .ok (.iaload, 1) := by decide +kernel
theorem dX6_soften_76 : decode cX6_soften 76 = .ok (.if_icmp .ge 63, 3) := by decide +kernel
theorem dX6_soften_79 : decode cX6_soften 79 = .ok (.aload_n 0, 1) := by decide +kernel
theorem dX6_soften_80 : decode cX6_soften 80 = .ok (.iload 5, 2) := by decide +kernel
theorem dX6_soften_82 : decode cX6_soften 82 = .ok (.iload 4, 2) := by decide +kernel
theorem dX6_soften_84 : decode cX6_soften 84 = .ok (.invokevirtual 139, 3) := by decide +kernel
theorem dX6_soften_87 : decode cX6_soften 87 = .ok (.ifCond .le 6, 3) := by decide +kernel
theorem dX6_soften_90 : decode cX6_soften 90 = .ok (.iinc 3 1, 3) := by decide +kernel
theorem dX6_soften_93 : decode cX6_soften 93 = .ok (.aload_n 0, 1) := by decide +kernel
theorem dX6_soften_94 : decode cX6_soften 94 = .ok (.getfield 9, 3) := by decide +kernel
theorem dX6_soften_97 : decode cX6_soften 97 = .ok (.iconst 5, 1) := by decide +kernel
theorem dX6_soften_98 : decode cX6_soften 98 = .ok (.aload_n 0, 1) := by decide +kernel
theorem dX6_soften_99 : decode cX6_soften 99 = .ok (.invokevirtual 77, 3) := by decide +kernel
theorem dX6_soften_102 : decode cX6_soften 102 = .ok (.aload_n 0, 1) := by decide +kernel
theorem dX6_soften_103 : decode cX6_soften 103 = .ok (.getfield 100, 3) := by decide +kernel
theorem dX6_soften_106 : decode cX6_soften 106 = .ok (.iload 4, 2) := by decide +kernel
theorem dX6_soften_108 : decode cX6_soften 108 = .ok (.iadd, 1) := by decide +kernel
theorem dX6_soften_109 : decode cX6_soften 109 = .ok (.imul, 1) := by decide +kernel
theorem dX6_soften_110 : decode cX6_soften 110 = .ok (.iadd, 1) := by decide +kernel
theorem dX6_soften_111 : decode cX6_soften 111 = .ok (.aload_n 0, 1) := by decide +kernel
theorem dX6_soften_112 : decode cX6_soften 112 = .ok (.getfield 97, 3) := by decide +kernel
theorem dX6_soften_115 : decode cX6_soften 115 = .ok (.iadd, 1) := by decide +kernel
theorem dX6_soften_116 : decode cX6_soften 116 = .ok (.iload 5, 2) := by decide +kernel
theorem dX6_soften_118 : decode cX6_soften 118 = .ok (.iadd, 1) := by decide +kernel
theorem dX6_soften_119 : decode cX6_soften 119 = .ok (.aload_n 0, 1) := by decide +kernel
theorem dX6_soften_120 : decode cX6_soften 120 = .ok (.getfield 51, 3) := by decide +kernel
theorem dX6_soften_123 : decode cX6_soften 123 = .ok (.aload_n 0, 1) := by decide +kernel
theorem dX6_soften_124 : decode cX6_soften 124 = .ok (.iload 5, 2) := by decide +kernel
theorem dX6_soften_126 : decode cX6_soften 126 = .ok (.iload 4, 2) := by decide +kernel
theorem dX6_soften_128 : decode cX6_soften 128 = .ok (.invokevirtual 116, 3) := by decide +kernel
theorem dX6_soften_131 : decode cX6_soften 131 = .ok (.iaload, 1) := by decide +kernel
theorem dX6_soften_132 : decode cX6_soften 132 = .ok (.iastore, 1) := by decide +kernel
theorem dX6_soften_133 : decode cX6_soften 133 = .ok (.iinc 5 1, 3) := by decide +kernel
theorem dX6_soften_136 : decode cX6_soften 136 = .ok (.goto (-68), 3) := by decide +kernel
theorem dX6_soften_139 : decode cX6_soften 139 = .ok (.iinc 4 1, 3) := by decide +kernel
theorem dX6_soften_142 : decode cX6_soften 142 = .ok (.goto (-88), 3) := by decide +kernel
theorem dX6_soften_145 : decode cX6_soften 145 = .ok (.iload_n 3, 1) := by decide +kernel
theorem dX6_soften_146 : decode cX6_soften 146 = .ok (.ireturn, 1) := by decide +kernel
theorem dX6_hasPlace_0 : decode cX6_hasPlace 0 = .ok (.aload_n 0, 1) := by decide +kernel
theorem dX6_hasPlace_1 : decode cX6_hasPlace 1 = .ok (.iload_n 1, 1) := by decide +kernel
theorem dX6_hasPlace_2 : decode cX6_hasPlace 2 = .ok (.invokevirtual 165, 3) := by decide +kernel
theorem dX6_hasPlace_5 : decode cX6_hasPlace 5 = .ok (.ifCond .ne 5, 3) := by decide +kernel
theorem dX6_hasPlace_8 : decode cX6_hasPlace 8 = .ok (.iconst 0, 1) := by decide +kernel
theorem dX6_hasPlace_9 : decode cX6_hasPlace 9 = .ok (.ireturn, 1) := by decide +kernel
theorem dX6_hasPlace_10 : decode cX6_hasPlace 10 = .ok (.aload_n 0, 1) := by decide +kernel
theorem dX6_hasPlace_11 : decode cX6_hasPlace 11 = .ok (.iload_n 1, 1) := by decide +kernel
theorem dX6_hasPlace_12 : decode cX6_hasPlace 12 = .ok (.invokevirtual 169, 3) := by decide +kernel
theorem dX6_hasPlace_15 : decode cX6_hasPlace 15 = .ok (.iload_n 2, 1) := by decide +kernel
theorem dX6_hasPlace_16 : decode cX6_hasPlace 16 = .ok (.iconst 0, 1) := by decide +kernel
theorem dX6_hasPlace_17 : decode cX6_hasPlace 17 = .ok (.aload_n 0, 1) := by decide +kernel
theorem dX6_hasPlace_18 : decode cX6_hasPlace 18 = .ok (.getfield 38, 3) := by decide +kernel
theorem dX6_hasPlace_21 : decode cX6_hasPlace 21 = .ok (.iconst 0, 1) := by decide +kernel
theorem dX6_hasPlace_22 : decode cX6_hasPlace 22 = .ok (.iaload, 1) := by decide +kernel
theorem dX6_hasPlace_23 : decode cX6_hasPlace 23 = .ok (.iconst 1, 1) := by decide +kernel
theorem dX6_hasPlace_24 : decode cX6_hasPlace 24 = .ok (.isub, 1) := by decide +kernel
theorem dX6_hasPlace_25 : decode cX6_hasPlace 25 = .ok (.invokestatic 81, 3) := by decide +kernel
theorem dX6_hasPlace_28 : decode cX6_hasPlace 28 = .ok (.ifCond .eq 23, 3) := by decide +kernel
theorem dX6_hasPlace_31 : decode cX6_hasPlace 31 = .ok (.iload_n 3, 1) := by decide +kernel
theorem dX6_hasPlace_32 : decode cX6_hasPlace 32 = .ok (.iconst 0, 1) := by decide +kernel
theorem dX6_hasPlace_33 : decode cX6_hasPlace 33 = .ok (.aload_n 0, 1) := by decide +kernel
theorem dX6_hasPlace_34 : decode cX6_hasPlace 34 = .ok (.getfield 41, 3) := by decide +kernel
theorem dX6_hasPlace_37 : decode cX6_hasPlace 37 = .ok (.iconst 0, 1) := by decide +kernel
theorem dX6_hasPlace_38 : decode cX6_hasPlace 38 = .ok (.iaload, 1) := by decide +kernel
theorem dX6_hasPlace_39 : decode cX6_hasPlace 39 = .ok (.iconst 1, 1) := by decide +kernel
theorem dX6_hasPlace_40 : decode cX6_hasPlace 40 = .ok (.isub, 1) := by decide +kernel
theorem dX6_hasPlace_41 : decode cX6_hasPlace 41 = .ok (.invokestatic 81, 3) := by decide +kernel
theorem dX6_hasPlace_44 : decode cX6_hasPlace 44 = .ok (.ifCond .eq 7, 3) := by decide +kernel
theorem dX6_hasPlace_47 : decode cX6_hasPlace 47 = .ok (.iconst 1, 1) := by decide +kernel
theorem dX6_hasPlace_48 : decode cX6_hasPlace 48 = .ok (.goto 4, 3) := by decide +kernel
theorem dX6_hasPlace_51 : decode cX6_hasPlace 51 = .ok (.iconst 0, 1) := by decide +kernel
theorem dX6_hasPlace_52 : decode cX6_hasPlace 52 = .ok (.ireturn, 1) := by decide +kernel
theorem dX6_coefficient_0 : decode cX6_coefficient 0 = .ok (.aload_n 0, 1) := by decide +kernel
theorem dX6_coefficient_1 : decode cX6_coefficient 1 = .ok (.iconst 0, 1) := by decide +kernel
theorem dX6_coefficient_2 : decode cX6_coefficient 2 = .ok (.putfield 74, 3) := by decide +kernel
theorem dX6_coefficient_5 : decode cX6_coefficient 5 = .ok (.aload_n 0, 1) := by decide +kernel
theorem dX6_coefficient_6 : decode cX6_coefficient 6 = .ok (.iload_n 1, 1) := by decide +kernel
theorem dX6_coefficient_7 : decode cX6_coefficient 7 = .ok (.iload_n 2, 1) := by decide +kernel
theorem dX6_coefficient_8 : decode cX6_coefficient 8 = .ok (.iload_n 3, 1) := by decide +kernel
theorem dX6_coefficient_9 : decode cX6_coefficient 9 = .ok (.invokevirtual 184, 3) := by decide +kernel
theorem dX6_coefficient_12 : decode cX6_coefficient 12 = .ok (.ifCond .eq 17, 3) := by decide +kernel
theorem dX6_coefficient_15 : decode cX6_coefficient 15 = .ok (.aload_n 0, 1) := by decide +kernel
theorem dX6_coefficient_16 : decode cX6_coefficient 16 = .ok (.getfield 44, 3) := by decide +kernel
theorem dX6_coefficient_19 : decode cX6_coefficient 19 = .ok (.aload_n 0, 1) := by decide +kernel
theorem dX6_coefficient_20 : decode cX6_coefficient 20 = .ok (.iload_n 2, 1) := by decide +kernel
theorem dX6_coefficient_21 : decode cX6_coefficient 21 = .ok (.iload_n 3, 1) := by decide +kernel
theorem dX6_coefficient_22 : decode cX6_coefficient 22 = .ok (.invokevirtual 116, 3) := by decide +kernel
theorem dX6_coefficient_25 : decode cX6_coefficient 25 = .ok (.iaload, 1) := by decide +kernel
theorem dX6_coefficient_26 : decode cX6_coefficient 26 = .ok (.goto 8, 3) := by decide +kernel
theorem dX6_coefficient_29 : decode cX6_coefficient 29 = .ok (.aload_n 0, 1) := by decide +kernel
theorem dX6_coefficient_30 : decode cX6_coefficient 30 = .ok (.iconst 1, 1) := by decide +kernel
theorem dX6_coefficient_31 : decode cX6_coefficient 31 = .ok (.invokevirtual 142, 3) := by decide +kernel
theorem dX6_coefficient_34 : decode cX6_coefficient 34 = .ok (.ireturn, 1) := by decide +kernel
theorem dX6_bandOf_0 : decode cX6_bandOf 0 = .ok (.iconst 1, 1) := by decide +kernel
theorem dX6_bandOf_1 : decode cX6_bandOf 1 = .ok (.istore_n 3, 1) := by decide +kernel
theorem dX6_bandOf_2 : decode cX6_bandOf 2 = .ok (.iload_n 3, 1) := by decide +kernel
theorem dX6_bandOf_3 : decode cX6_bandOf 3 = .ok (.aload_n 0, 1) := by decide +kernel
theorem dX6_bandOf_4 : decode cX6_bandOf 4 = .ok (.getfield 109, 3) := by decide +kernel
theorem dX6_bandOf_7 : decode cX6_bandOf 7 = .ok (.if_icmp .gt 55, 3) := by decide +kernel
theorem dX6_bandOf_10 : decode cX6_bandOf 10 = .ok (.iload_n 1, 1) := by decide +kernel
theorem dX6_bandOf_11 : decode cX6_bandOf 11 = .ok (.aload_n 0, 1) := by decide +kernel
theorem dX6_bandOf_12 : decode cX6_bandOf 12 = .ok (.getfield 38, 3) := by decide +kernel
theorem dX6_bandOf_15 : decode cX6_bandOf 15 = .ok (.iload_n 3, 1) := by decide +kernel
theorem dX6_bandOf_16 : decode cX6_bandOf 16 = .ok (.iaload, 1) := by decide +kernel
theorem dX6_bandOf_17 : decode cX6_bandOf 17 = .ok (.if_icmp .lt 7, 3) := by decide +kernel
theorem dX6_bandOf_20 : decode cX6_bandOf 20 = .ok (.iconst 1, 1) := by decide +kernel
theorem dX6_bandOf_21 : decode cX6_bandOf 21 = .ok (.goto 4, 3) := by decide +kernel
theorem dX6_bandOf_24 : decode cX6_bandOf 24 = .ok (.iconst 0, 1) := by decide +kernel
theorem dX6_bandOf_25 : decode cX6_bandOf 25 = .ok (.iload_n 2, 1) := by decide +kernel
theorem dX6_bandOf_26 : decode cX6_bandOf 26 = .ok (.aload_n 0, 1) := by decide +kernel
theorem dX6_bandOf_27 : decode cX6_bandOf 27 = .ok (.getfield 41, 3) := by decide +kernel
theorem dX6_bandOf_30 : decode cX6_bandOf 30 = .ok (.iload_n 3, 1) := by decide +kernel
theorem dX6_bandOf_31 : decode cX6_bandOf 31 = .ok (.iaload, 1) := by decide +kernel
theorem dX6_bandOf_32 : decode cX6_bandOf 32 = .ok (.if_icmp .lt 7, 3) := by decide +kernel
theorem dX6_bandOf_35 : decode cX6_bandOf 35 = .ok (.iconst 2, 1) := by decide +kernel
theorem dX6_bandOf_36 : decode cX6_bandOf 36 = .ok (.goto 4, 3) := by decide +kernel
theorem dX6_bandOf_39 : decode cX6_bandOf 39 = .ok (.iconst 0, 1) := by decide +kernel
theorem dX6_bandOf_40 : decode cX6_bandOf 40 = .ok (.iadd, 1) := by decide +kernel
theorem dX6_bandOf_41 : decode cX6_bandOf 41 = .ok (.istore 4, 2) := by decide +kernel
theorem dX6_bandOf_43 : decode cX6_bandOf 43 = .ok (.iload 4, 2) := by decide +kernel
theorem dX6_bandOf_45 : decode cX6_bandOf 45 = .ok (.ifCond .le 11, 3) := by decide +kernel
theorem dX6_bandOf_48 : decode cX6_bandOf 48 = .ok (.bipush 10, 2) := by decide +kernel
theorem dX6_bandOf_50 : decode cX6_bandOf 50 = .ok (.iload_n 3, 1) := by decide +kernel
theorem dX6_bandOf_51 : decode cX6_bandOf 51 = .ok (.imul, 1) := by decide +kernel
theorem dX6_bandOf_52 : decode cX6_bandOf 52 = .ok (.iload 4, 2) := by decide +kernel
theorem dX6_bandOf_54 : decode cX6_bandOf 54 = .ok (.iadd, 1) := by decide +kernel
theorem dX6_bandOf_55 : decode cX6_bandOf 55 = .ok (.ireturn, 1) := by decide +kernel
theorem dX6_bandOf_56 : decode cX6_bandOf 56 = .ok (.iinc 3 1, 3) := by decide +kernel
theorem dX6_bandOf_59 : decode cX6_bandOf 59 = .ok (.goto (-57), 3) := by decide +kernel
theorem dX6_bandOf_62 : decode cX6_bandOf 62 = .ok (.iconst 0, 1) := by decide +kernel
theorem dX6_bandOf_63 : decode cX6_bandOf 63 = .ok (.ireturn, 1) := by decide +kernel
theorem dX6_band_0 : decode cX6_band 0 = .ok (.aload_n 0, 1) := by decide +kernel
theorem dX6_band_1 : decode cX6_band 1 = .ok (.iconst 0, 1) := by decide +kernel
theorem dX6_band_2 : decode cX6_band 2 = .ok (.putfield 74, 3) := by decide +kernel
theorem dX6_band_5 : decode cX6_band 5 = .ok (.aload_n 0, 1) := by decide +kernel
theorem dX6_band_6 : decode cX6_band 6 = .ok (.iload_n 1, 1) := by decide +kernel
theorem dX6_band_7 : decode cX6_band 7 = .ok (.iload_n 2, 1) := by decide +kernel
theorem dX6_band_8 : decode cX6_band 8 = .ok (.iload_n 3, 1) := by decide +kernel
theorem dX6_band_9 : decode cX6_band 9 = .ok (.invokevirtual 184, 3) := by decide +kernel
theorem dX6_band_12 : decode cX6_band 12 = .ok (.ifCond .eq 12, 3) := by decide +kernel
theorem dX6_band_15 : decode cX6_band 15 = .ok (.aload_n 0, 1) := by decide +kernel
theorem dX6_band_16 : decode cX6_band 16 = .ok (.iload_n 2, 1) := by decide +kernel
theorem dX6_band_17 : decode cX6_band 17 = .ok (.iload_n 3, 1) := by decide +kernel
theorem dX6_band_18 : decode cX6_band 18 = .ok (.invokevirtual 187, 3) := by decide +kernel
theorem dX6_band_21 : decode cX6_band 21 = .ok (.goto 8, 3) := by decide +kernel
theorem dX6_band_24 : decode cX6_band 24 = .ok (.aload_n 0, 1) := by decide +kernel
theorem dX6_band_25 : decode cX6_band 25 = .ok (.iconst 1, 1) := by decide +kernel
theorem dX6_band_26 : decode cX6_band 26 = .ok (.invokevirtual 142, 3) := by decide +kernel
theorem dX6_band_29 : decode cX6_band 29 = .ok (.ireturn, 1) := by decide +kernel
theorem dX6_layerOf_0 : decode cX6_layerOf 0 = .ok (.aload_n 0, 1) := by decide +kernel
theorem dX6_layerOf_1 : decode cX6_layerOf 1 = .ok (.iconst 0, 1) := by decide +kernel
theorem dX6_layerOf_2 : decode cX6_layerOf 2 = .ok (.putfield 74, 3) := by decide +kernel
theorem dX6_layerOf_5 : decode cX6_layerOf 5 = .ok (.aload_n 0, 1) := by decide +kernel
theorem dX6_layerOf_6 : decode cX6_layerOf 6 = .ok (.iload_n 1, 1) := by decide +kernel
theorem dX6_layerOf_7 : decode cX6_layerOf 7 = .ok (.iload_n 2, 1) := by decide +kernel
theorem dX6_layerOf_8 : decode cX6_layerOf 8 = .ok (.iload_n 3, 1) := by decide +kernel
theorem dX6_layerOf_9 : decode cX6_layerOf 9 = .ok (.invokevirtual 184, 3) := by decide +kernel
theorem dX6_layerOf_12 : decode cX6_layerOf 12 = .ok (.ifCond .ne 9, 3) := by decide +kernel
theorem dX6_layerOf_15 : decode cX6_layerOf 15 = .ok (.aload_n 0, 1) := by decide +kernel
theorem dX6_layerOf_16 : decode cX6_layerOf 16 = .ok (.iconst 1, 1) := by decide +kernel
theorem dX6_layerOf_17 : decode cX6_layerOf 17 = .ok (.invokevirtual 142, 3) := by decide +kernel
theorem dX6_layerOf_20 : decode cX6_layerOf 20 = .ok (.ireturn, 1) := by decide +kernel
theorem dX6_layerOf_21 : decode cX6_layerOf 21 = .ok (.iload 4, 2) := by decide +kernel
theorem dX6_layerOf_23 : decode cX6_layerOf 23 = .ok (.iconst 0, 1) := by decide +kernel
theorem dX6_layerOf_24 : decode cX6_layerOf 24 = .ok (.bipush 8, 2) := by decide +kernel
theorem dX6_layerOf_26 : decode cX6_layerOf 26 = .ok (.invokestatic 81, 3) := by decide +kernel
theorem dX6_layerOf_29 : decode cX6_layerOf 29 = .ok (.ifCond .eq 18, 3) := by decide +kernel
theorem dX6_layerOf_32 : decode cX6_layerOf 32 = .ok (.aload_n 0, 1) := by decide +kernel
theorem dX6_layerOf_33 : decode cX6_layerOf 33 = .ok (.aload_n 0, 1) := by decide +kernel
theorem dX6_layerOf_34 : decode cX6_layerOf 34 = .ok (.iload_n 2, 1) := by decide +kernel
theorem dX6_layerOf_35 : decode cX6_layerOf 35 = .ok (.iload_n 3, 1) := by decide +kernel
theorem dX6_layerOf_36 : decode cX6_layerOf 36 = .ok (.invokevirtual 116, 3) := by decide +kernel
theorem dX6_layerOf_39 : decode cX6_layerOf 39 = .ok (.iload 4, 2) := by decide +kernel
theorem dX6_layerOf_41 : decode cX6_layerOf 41 = .ok (.invokevirtual 129, 3) := by decide +kernel
theorem dX6_layerOf_44 : decode cX6_layerOf 44 = .ok (.goto 8, 3) := by decide +kernel
theorem dX6_layerOf_47 : decode cX6_layerOf 47 = .ok (.aload_n 0, 1) := by decide +kernel
theorem dX6_layerOf_48 : decode cX6_layerOf 48 = .ok (.iconst 2, 1) := by decide +kernel
theorem dX6_layerOf_49 : decode cX6_layerOf 49 = .ok (.invokevirtual 142, 3) := by decide +kernel
theorem dX6_layerOf_52 : decode cX6_layerOf 52 = .ok (.ireturn, 1) := by decide +kernel
theorem dX6_bits_0 : decode cX6_bits 0 = .ok (.aload_n 0, 1) := by decide +kernel
theorem dX6_bits_1 : decode cX6_bits 1 = .ok (.iconst 0, 1) := by decide +kernel
theorem dX6_bits_2 : decode cX6_bits 2 = .ok (.putfield 74, 3) := by decide +kernel
theorem dX6_bits_5 : decode cX6_bits 5 = .ok (.aload_n 0, 1) := by decide +kernel
theorem dX6_bits_6 : decode cX6_bits 6 = .ok (.iload_n 1, 1) := by decide +kernel
theorem dX6_bits_7 : decode cX6_bits 7 = .ok (.invokevirtual 165, 3) := by decide +kernel
theorem dX6_bits_10 : decode cX6_bits 10 = .ok (.ifCond .ne 9, 3) := by decide +kernel
theorem dX6_bits_13 : decode cX6_bits 13 = .ok (.aload_n 0, 1) := by decide +kernel
theorem dX6_bits_14 : decode cX6_bits 14 = .ok (.iconst 1, 1) := by decide +kernel
theorem dX6_bits_15 : decode cX6_bits 15 = .ok (.invokevirtual 142, 3) := by decide +kernel
theorem dX6_bits_18 : decode cX6_bits 18 = .ok (.ireturn, 1) := by decide +kernel
theorem dX6_bits_19 : decode cX6_bits 19 = .ok (.iload_n 2, 1) := by decide +kernel
theorem dX6_bits_20 : decode cX6_bits 20 = .ok (.iconst (-1), 1) := by decide +kernel
theorem dX6_bits_21 : decode cX6_bits 21 = .ok (.bipush 8, 2) := by decide +kernel
theorem dX6_bits_23 : decode cX6_bits 23 = .ok (.invokestatic 81, 3) := by decide +kernel
theorem dX6_bits_26 : decode cX6_bits 26 = .ok (.ifCond .ne 9, 3) := by decide +kernel
theorem dX6_bits_29 : decode cX6_bits 29 = .ok (.aload_n 0, 1) := by decide +kernel
theorem dX6_bits_30 : decode cX6_bits 30 = .ok (.iconst 2, 1) := by decide +kernel
theorem dX6_bits_31 : decode cX6_bits 31 = .ok (.invokevirtual 142, 3) := by decide +kernel
theorem dX6_bits_34 : decode cX6_bits 34 = .ok (.ireturn, 1) := by decide +kernel
theorem dX6_bits_35 : decode cX6_bits 35 = .ok (.aload_n 0, 1) := by decide +kernel
theorem dX6_bits_36 : decode cX6_bits 36 = .ok (.iload_n 1, 1) := by decide +kernel
theorem dX6_bits_37 : decode cX6_bits 37 = .ok (.invokevirtual 169, 3) := by decide +kernel
theorem dX6_bits_40 : decode cX6_bits 40 = .ok (.iload_n 2, 1) := by decide +kernel
theorem dX6_bits_41 : decode cX6_bits 41 = .ok (.ifCond .lt 9, 3) := by decide +kernel
theorem dX6_bits_44 : decode cX6_bits 44 = .ok (.aload_n 0, 1) := by decide +kernel
theorem dX6_bits_45 : decode cX6_bits 45 = .ok (.iload_n 2, 1) := by decide +kernel
theorem dX6_bits_46 : decode cX6_bits 46 = .ok (.invokevirtual 190, 3) := by decide +kernel
theorem dX6_bits_49 : decode cX6_bits 49 = .ok (.ireturn, 1) := by decide +kernel
theorem dX6_bits_50 : decode cX6_bits 50 = .ok (.iconst 0, 1) := by decide +kernel
theorem dX6_bits_51 : decode cX6_bits 51 = .ok (.istore_n 3, 1) := by decide +kernel
theorem dX6_bits_52 : decode cX6_bits 52 = .ok (.iconst 0, 1) := by decide +kernel
theorem dX6_bits_53 : decode cX6_bits 53 = .ok (.istore 4, 2) := by decide +kernel
theorem dX6_bits_55 : decode cX6_bits 55 = .ok (.iload 4, 2) := by decide +kernel
theorem dX6_bits_57 : decode cX6_bits 57 = .ok (.bipush 9, 2) := by decide +kernel
theorem dX6_bits_59 : decode cX6_bits 59 = .ok (.if_icmp .ge 18, 3) := by decide +kernel
theorem dX6_bits_62 : decode cX6_bits 62 = .ok (.iload_n 3, 1) := by decide +kernel
theorem dX6_bits_63 : decode cX6_bits 63 = .ok (.aload_n 0, 1) := by decide +kernel
theorem dX6_bits_64 : decode cX6_bits 64 = .ok (.iload 4, 2) := by decide +kernel
theorem dX6_bits_66 : decode cX6_bits 66 = .ok (.invokevirtual 190, 3) := by decide +kernel
theorem dX6_bits_69 : decode cX6_bits 69 = .ok (.iadd, 1) := by decide +kernel
theorem dX6_bits_70 : decode cX6_bits 70 = .ok (.istore_n 3, 1) := by decide +kernel
theorem dX6_bits_71 : decode cX6_bits 71 = .ok (.iinc 4 1, 3) := by decide +kernel
theorem dX6_bits_74 : decode cX6_bits 74 = .ok (.goto (-19), 3) := by decide +kernel
theorem dX6_bits_77 : decode cX6_bits 77 = .ok (.iload_n 3, 1) := by decide +kernel
theorem dX6_bits_78 : decode cX6_bits 78 = .ok (.ireturn, 1) := by decide +kernel
theorem dX6_parent_0 : decode cX6_parent 0 = .ok (.aload_n 0, 1) := by decide +kernel
theorem dX6_parent_1 : decode cX6_parent 1 = .ok (.iload_n 1, 1) := by decide +kernel
theorem dX6_parent_2 : decode cX6_parent 2 = .ok (.iload_n 2, 1) := by decide +kernel
theorem dX6_parent_3 : decode cX6_parent 3 = .ok (.invokevirtual 187, 3) := by decide +kernel
theorem dX6_parent_6 : decode cX6_parent 6 = .ok (.istore_n 3, 1) := by decide +kernel
theorem dX6_parent_7 : decode cX6_parent 7 = .ok (.iload_n 3, 1) := by decide +kernel
theorem dX6_parent_8 : decode cX6_parent 8 = .ok (.ifCond .ne 5, 3) := by decide +kernel
theorem dX6_parent_11 : decode cX6_parent 11 = .ok (.iconst (-1), 1) := by decide +kernel
theorem dX6_parent_12 : decode cX6_parent 12 = .ok (.ireturn, 1) := by decide +kernel
theorem dX6_parent_13 : decode cX6_parent 13 = .ok (.iload_n 3, 1) := by decide +kernel
theorem dX6_parent_14 : decode cX6_parent 14 = .ok (.bipush 10, 2) := by decide +kernel
theorem dX6_parent_16 : decode cX6_parent 16 = .ok (.idiv, 1) := by decide +kernel
theorem dX6_parent_17 : decode cX6_parent 17 = .ok (.istore 4, 2) := by decide +kernel
theorem dX6_parent_19 : decode cX6_parent 19 = .ok (.iload_n 3, 1) := by decide +kernel
theorem dX6_parent_20 : decode cX6_parent 20 = .ok (.iconst 2, 1) := by decide +kernel
theorem dX6_parent_21 : decode cX6_parent 21 = .ok (.irem, 1) := by decide +kernel
theorem dX6_parent_22 : decode cX6_parent 22 = .ok (.iconst 1, 1) := by decide +kernel
theorem dX6_parent_23 : decode cX6_parent 23 = .ok (.if_icmp .ne 15, 3) := by decide +kernel
theorem dX6_parent_26 : decode cX6_parent 26 = .ok (.iload_n 1, 1) := by decide +kernel
theorem dX6_parent_27 : decode cX6_parent 27 = .ok (.aload_n 0, 1) := by decide +kernel
theorem dX6_parent_28 : decode cX6_parent 28 = .ok (.getfield 38, 3) := by decide +kernel
theorem dX6_parent_31 : decode cX6_parent 31 = .ok (.iload 4, 2) := by decide +kernel
theorem dX6_parent_33 : decode cX6_parent 33 = .ok (.iaload, 1) := by decide +kernel
theorem dX6_parent_34 : decode cX6_parent 34 = .ok (.isub, 1) := by decide +kernel
theorem dX6_parent_35 : decode cX6_parent 35 = .ok (.goto 4, 3) := by decide +kernel
theorem dX6_parent_38 : decode cX6_parent 38 = .ok (.iload_n 1, 1) := by decide +kernel
theorem dX6_parent_39 : decode cX6_parent 39 = .ok (.istore 5, 2) := by decide +kernel
theorem dX6_parent_41 : decode cX6_parent 41 = .ok (.iload_n 3, 1) := by decide +kernel
theorem dX6_parent_42 : decode cX6_parent 42 = .ok (.bipush 10, 2) := by decide +kernel
theorem dX6_parent_44 : decode cX6_parent 44 = .ok (.irem, 1) := by decide +kernel
theorem dX6_parent_45 : decode cX6_parent 45 = .ok (.iconst 1, 1) := by decide +kernel
theorem dX6_parent_46 : decode cX6_parent 46 = .ok (.if_icmp .le 15, 3) := by decide +kernel
theorem dX6_parent_49 : decode cX6_parent 49 = .ok (.iload_n 2, 1) := by decide +kernel
theorem dX6_parent_50 : decode cX6_parent 50 = .ok (.aload_n 0, 1) := by decide +kernel
theorem dX6_parent_51 : decode cX6_parent 51 = .ok (.getfield 41, 3) := by decide +kernel
theorem dX6_parent_54 : decode cX6_parent 54 = .ok (.iload 4, 2) := by decide +kernel
theorem dX6_parent_56 : decode cX6_parent 56 = .ok (.iaload, 1) := by decide +kernel
theorem dX6_parent_57 : decode cX6_parent 57 = .ok (.isub, 1) := by decide +kernel
theorem dX6_parent_58 : decode cX6_parent 58 = .ok (.goto 4, 3) := by decide +kernel
theorem dX6_parent_61 : decode cX6_parent 61 = .ok (.iload_n 2, 1) := by decide +kernel
theorem dX6_parent_62 : decode cX6_parent 62 = .ok (.istore 6, 2) := by decide +kernel
theorem dX6_parent_64 : decode cX6_parent 64 = .ok (.iload 4, 2) := by decide +kernel
theorem dX6_parent_66 : decode cX6_parent 66 = .ok (.aload_n 0, 1) := by decide +kernel
theorem dX6_parent_67 : decode cX6_parent 67 = .ok (.getfield 109, 3) := by decide +kernel
theorem dX6_parent_70 : decode cX6_parent 70 = .ok (.if_icmp .ne 40, 3) := by decide +kernel
theorem dX6_parent_73 : decode cX6_parent 73 = .ok (.iload 5, 2) := by decide +kernel
theorem dX6_parent_75 : decode cX6_parent 75 = .ok (.aload_n 0, 1) := by decide +kernel
theorem dX6_parent_76 : decode cX6_parent 76 = .ok (.getfield 38, 3) := by decide +kernel
theorem dX6_parent_79 : decode cX6_parent 79 = .ok (.iload 4, 2) := by decide +kernel
theorem dX6_parent_81 : decode cX6_parent 81 = .ok (.iaload, 1) := by decide +kernel
theorem dX6_parent_82 : decode cX6_parent 82 = .ok (.if_icmp .ge 26, 3) := by decide +kernel
theorem dX6_parent_85 : decode cX6_parent 85 = .ok (.iload 6, 2) := by decide +kernel
theorem dX6_parent_87 : decode cX6_parent 87 = .ok (.aload_n 0, 1) := by decide +kernel
theorem dX6_parent_88 : decode cX6_parent 88 = .ok (.getfield 41, 3) := by decide +kernel
theorem dX6_parent_91 : decode cX6_parent 91 = .ok (.iload 4, 2) := by decide +kernel
theorem dX6_parent_93 : decode cX6_parent 93 = .ok (.iaload, 1) := by decide +kernel
theorem dX6_parent_94 : decode cX6_parent 94 = .ok (.if_icmp .ge 14, 3) := by decide +kernel
theorem dX6_parent_97 : decode cX6_parent 97 = .ok (.aload_n 0, 1) := by decide +kernel
theorem dX6_parent_98 : decode cX6_parent 98 = .ok (.iload 5, 2) := by decide +kernel
theorem dX6_parent_100 : decode cX6_parent 100 = .ok (.iload 6, 2) := by decide +kernel
theorem dX6_parent_102 : decode cX6_parent 102 = .ok (.invokevirtual 116, 3) := by decide +kernel
theorem dX6_parent_105 : decode cX6_parent 105 = .ok (.goto 4, 3) := by decide +kernel
theorem dX6_parent_108 : decode cX6_parent 108 = .ok (.iconst (-1), 1) := by decide +kernel
theorem dX6_parent_109 : decode cX6_parent 109 = .ok (.ireturn, 1) := by decide +kernel
theorem dX6_parent_110 : decode cX6_parent 110 = .ok (.iload 5, 2) := by decide +kernel
theorem dX6_parent_112 : decode cX6_parent 112 = .ok (.iconst 2, 1) := by decide +kernel
theorem dX6_parent_113 : decode cX6_parent 113 = .ok (.idiv, 1) := by decide +kernel
theorem dX6_parent_114 : decode cX6_parent 114 = .ok (.istore 5, 2) := by decide +kernel
theorem dX6_parent_116 : decode cX6_parent 116 = .ok (.iload 6, 2) := by decide +kernel
theorem dX6_parent_118 : decode cX6_parent 118 = .ok (.iconst 2, 1) := by decide +kernel
theorem dX6_parent_119 : decode cX6_parent 119 = .ok (.idiv, 1) := by decide +kernel
theorem dX6_parent_120 : decode cX6_parent 120 = .ok (.istore 6, 2) := by decide +kernel
theorem dX6_parent_122 : decode cX6_parent 122 = .ok (.iload_n 3, 1) := by decide +kernel
theorem dX6_parent_123 : decode cX6_parent 123 = .ok (.iconst 2, 1) := by decide +kernel
theorem dX6_parent_124 : decode cX6_parent 124 = .ok (.irem, 1) := by decide +kernel
theorem dX6_parent_125 : decode cX6_parent 125 = .ok (.iconst 1, 1) := by decide +kernel
theorem dX6_parent_126 : decode cX6_parent 126 = .ok (.if_icmp .ne 18, 3) := by decide +kernel
theorem dX6_parent_129 : decode cX6_parent 129 = .ok (.aload_n 0, 1) := by decide +kernel
theorem dX6_parent_130 : decode cX6_parent 130 = .ok (.getfield 38, 3) := by decide +kernel
theorem dX6_parent_133 : decode cX6_parent 133 = .ok (.iload 4, 2) := by decide +kernel
theorem dX6_parent_135 : decode cX6_parent 135 = .ok (.iconst 1, 1) := by decide +kernel
theorem dX6_parent_136 : decode cX6_parent 136 = .ok (.iadd, 1) := by decide +kernel
theorem dX6_parent_137 : decode cX6_parent 137 = .ok (.iaload, 1) := by decide +kernel
theorem dX6_parent_138 : decode cX6_parent 138 = .ok (.iload 5, 2) := by decide +kernel
theorem dX6_parent_140 : decode cX6_parent 140 = .ok (.iadd, 1) := by decide +kernel
theorem dX6_parent_141 : decode cX6_parent 141 = .ok (.goto 5, 3) := by decide +kernel
theorem dX6_parent_144 : decode cX6_parent 144 = .ok (.iload 5, 2) := by decide +kernel
theorem dX6_parent_146 : decode cX6_parent 146 = .ok (.istore 7, 2) := by decide +kernel
theorem dX6_parent_148 : decode cX6_parent 148 = .ok (.iload_n 3, 1) := by decide +kernel
theorem dX6_parent_149 : decode cX6_parent 149 = .ok (.bipush 10, 2) := by decide +kernel
theorem dX6_parent_151 : decode cX6_parent 151 = .ok (.irem, 1) := by decide +kernel
theorem dX6_parent_152 : decode cX6_parent 152 = .ok (.iconst 1, 1) := by decide +kernel
theorem dX6_parent_153 : decode cX6_parent 153 = .ok (.if_icmp .le 18, 3) := by decide +kernel
theorem dX6_parent_156 : decode cX6_parent 156 = .ok (.aload_n 0, 1) := by decide +kernel
theorem dX6_parent_157 : decode cX6_parent 157 = .ok (.getfield 41, 3) := by decide +kernel
theorem dX6_parent_160 : decode cX6_parent 160 = .ok (.iload 4, 2) := by decide +kernel
theorem dX6_parent_162 : decode cX6_parent 162 = .ok (.iconst 1, 1) := by decide +kernel
theorem dX6_parent_163 : decode cX6_parent 163 = .ok (.iadd, 1) := by decide +kernel
theorem dX6_parent_164 : decode cX6_parent 164 = .ok (.iaload, 1) := by decide +kernel
theorem dX6_parent_165 : decode cX6_parent 165 = .ok (.iload 6, 2) := by decide +kernel
theorem dX6_parent_167 : decode cX6_parent 167 = .ok (.iadd, 1) := by decide +kernel
theorem dX6_parent_168 : decode cX6_parent 168 = .ok (.goto 5, 3) := by decide +kernel
theorem dX6_parent_171 : decode cX6_parent 171 = .ok (.iload 6, 2) := by decide +kernel
theorem dX6_parent_173 : decode cX6_parent 173 = .ok (.istore 8, 2) := by decide +kernel
theorem dX6_parent_175 : decode cX6_parent 175 = .ok (.iload 7, 2) := by decide +kernel
theorem dX6_parent_177 : decode cX6_parent 177 = .ok (.iload_n 3, 1) := by decide +kernel
theorem dX6_parent_178 : decode cX6_parent 178 = .ok (.iconst 2, 1) := by decide +kernel
theorem dX6_parent_179 : decode cX6_parent 179 = .ok (.irem, 1) := by decide +kernel
theorem dX6_parent_180 : decode cX6_parent 180 = .ok (.iconst 1, 1) := by decide +kernel
theorem dX6_parent_181 : decode cX6_parent 181 = .ok (.if_icmp .ne 13, 3) := by decide +kernel
theorem dX6_parent_184 : decode cX6_parent 184 = .ok (.aload_n 0, 1) := by decide +kernel
theorem dX6_parent_185 : decode cX6_parent 185 = .ok (.getfield 38, 3) := by decide +kernel
theorem dX6_parent_188 : decode cX6_parent 188 = .ok (.iload 4, 2) := by decide +kernel
theorem dX6_parent_190 : decode cX6_parent 190 = .ok (.iaload, 1) := by decide +kernel
theorem dX6_parent_191 : decode cX6_parent 191 = .ok (.goto 12, 3) := by decide +kernel
theorem dX6_parent_194 : decode cX6_parent 194 = .ok (.aload_n 0, 1) := by decide +kernel
theorem dX6_parent_195 : decode cX6_parent 195 = .ok (.getfield 38, 3) := by decide +kernel
theorem dX6_parent_198 : decode cX6_parent 198 = .ok (.iload 4, 2) := by decide +kernel
theorem dX6_parent_200 : decode cX6_parent 200 = .ok (.iconst 1, 1) := by decide +kernel
theorem dX6_parent_201 : decode cX6_parent 201 = .ok (.iadd, 1) := by decide +kernel
theorem dX6_parent_202 : decode cX6_parent 202 = .ok (.iaload, 1) := by decide +kernel
theorem dX6_parent_203 : decode cX6_parent 203 = .ok (.if_icmp .ge 39, 3) := by decide +kernel
theorem dX6_parent_206 : decode cX6_parent 206 = .ok (.iload 8, 2) := by decide +kernel
theorem dX6_parent_208 : decode cX6_parent 208 = .ok (.iload_n 3, 1) := by decide +kernel
theorem dX6_parent_209 : decode cX6_parent 209 = .ok (.bipush 10, 2) := by decide +kernel
theorem dX6_parent_211 : decode cX6_parent 211 = .ok (.irem, 1) := by decide +kernel
theorem dX6_parent_212 : decode cX6_parent 212 = .ok (.iconst 1, 1) := by decide +kernel
theorem dX6_parent_213 : decode cX6_parent 213 = .ok (.if_icmp .le 13, 3) := by decide +kernel
theorem dX6_parent_216 : decode cX6_parent 216 = .ok (.aload_n 0, 1) := by decide +kernel
theorem dX6_parent_217 : decode cX6_parent 217 = .ok (.getfield 41, 3) := by decide +kernel
theorem dX6_parent_220 : decode cX6_parent 220 = .ok (.iload 4, 2) := by decide +kernel
theorem dX6_parent_222 : decode cX6_parent 222 = .ok (.iaload, 1) := by decide +kernel
theorem dX6_parent_223 : decode cX6_parent 223 = .ok (.goto 12, 3) := by decide +kernel
theorem dX6_parent_226 : decode cX6_parent 226 = .ok (.aload_n 0, 1) := by decide +kernel
theorem dX6_parent_227 : decode cX6_parent 227 = .ok (.getfield 41, 3) := by decide +kernel
theorem dX6_parent_230 : decode cX6_parent 230 = .ok (.iload 4, 2) := by decide +kernel
theorem dX6_parent_232 : decode cX6_parent 232 = .ok (.iconst 1, 1) := by decide +kernel
theorem dX6_parent_233 : decode cX6_parent 233 = .ok (.iadd, 1) := by decide +kernel
theorem dX6_parent_234 : decode cX6_parent 234 = .ok (.iaload, 1) := by decide +kernel
theorem dX6_parent_235 : decode cX6_parent 235 = .ok (.if_icmp .ge 7, 3) := by decide +kernel
theorem dX6_parent_238 : decode cX6_parent 238 = .ok (.iconst 1, 1) := by decide +kernel
theorem dX6_parent_239 : decode cX6_parent 239 = .ok (.goto 4, 3) := by decide +kernel
theorem dX6_parent_242 : decode cX6_parent 242 = .ok (.iconst 0, 1) := by decide +kernel
theorem dX6_parent_243 : decode cX6_parent 243 = .ok (.istore 9, 2) := by decide +kernel
theorem dX6_parent_245 : decode cX6_parent 245 = .ok (.iload 9, 2) := by decide +kernel
theorem dX6_parent_247 : decode cX6_parent 247 = .ok (.ifCond .eq 14, 3) := by decide +kernel
theorem dX6_parent_250 : decode cX6_parent 250 = .ok (.aload_n 0, 1) := by decide +kernel
theorem dX6_parent_251 : decode cX6_parent 251 = .ok (.iload 7, 2) := by decide +kernel
theorem dX6_parent_253 : decode cX6_parent 253 = .ok (.iload 8, 2) := by decide +kernel
theorem dX6_parent_255 : decode cX6_parent 255 = .ok (.invokevirtual 116, 3) := by decide +kernel
theorem dX6_parent_258 : decode cX6_parent 258 = .ok (.goto 4, 3) := by decide +kernel
theorem dX6_parent_261 : decode cX6_parent 261 = .ok (.iconst (-1), 1) := by decide +kernel
theorem dX6_parent_262 : decode cX6_parent 262 = .ok (.ireturn, 1) := by decide +kernel
theorem dX6_isUnder_0 : decode cX6_isUnder 0 = .ok (.aload_n 0, 1) := by decide +kernel
theorem dX6_isUnder_1 : decode cX6_isUnder 1 = .ok (.iload_n 1, 1) := by decide +kernel
theorem dX6_isUnder_2 : decode cX6_isUnder 2 = .ok (.iload_n 2, 1) := by decide +kernel
theorem dX6_isUnder_3 : decode cX6_isUnder 3 = .ok (.invokevirtual 193, 3) := by decide +kernel
theorem dX6_isUnder_6 : decode cX6_isUnder 6 = .ok (.istore 4, 2) := by decide +kernel
theorem dX6_isUnder_8 : decode cX6_isUnder 8 = .ok (.iload 4, 2) := by decide +kernel
theorem dX6_isUnder_10 : decode cX6_isUnder 10 = .ok (.ifCond .lt 28, 3) := by decide +kernel
theorem dX6_isUnder_13 : decode cX6_isUnder 13 = .ok (.iload 4, 2) := by decide +kernel
theorem dX6_isUnder_15 : decode cX6_isUnder 15 = .ok (.iload_n 3, 1) := by decide +kernel
theorem dX6_isUnder_16 : decode cX6_isUnder 16 = .ok (.if_icmp .eq 22, 3) := by decide +kernel
theorem dX6_isUnder_19 : decode cX6_isUnder 19 = .ok (.aload_n 0, 1) := by decide +kernel
theorem dX6_isUnder_20 : decode cX6_isUnder 20 = .ok (.iload 4, 2) := by decide +kernel
theorem dX6_isUnder_22 : decode cX6_isUnder 22 = .ok (.bipush 8, 2) := by decide +kernel
theorem dX6_isUnder_24 : decode cX6_isUnder 24 = .ok (.irem, 1) := by decide +kernel
theorem dX6_isUnder_25 : decode cX6_isUnder 25 = .ok (.iload 4, 2) := by decide +kernel
theorem dX6_isUnder_27 : decode cX6_isUnder 27 = .ok (.bipush 8, 2) := by decide +kernel
theorem dX6_isUnder_29 : decode cX6_isUnder 29 = .ok (.idiv, 1) := by decide +kernel
theorem dX6_isUnder_30 : decode cX6_isUnder 30 = .ok (.invokevirtual 193, 3) := by decide +kernel
theorem dX6_isUnder_33 : decode cX6_isUnder 33 = .ok (.istore 4, 2) := by decide +kernel
theorem dX6_isUnder_35 : decode cX6_isUnder 35 = .ok (.goto (-27), 3) := by decide +kernel
theorem dX6_isUnder_38 : decode cX6_isUnder 38 = .ok (.iload 4, 2) := by decide +kernel
theorem dX6_isUnder_40 : decode cX6_isUnder 40 = .ok (.iload_n 3, 1) := by decide +kernel
theorem dX6_isUnder_41 : decode cX6_isUnder 41 = .ok (.if_icmp .ne 7, 3) := by decide +kernel
theorem dX6_isUnder_44 : decode cX6_isUnder 44 = .ok (.iconst 1, 1) := by decide +kernel
theorem dX6_isUnder_45 : decode cX6_isUnder 45 = .ok (.goto 4, 3) := by decide +kernel
theorem dX6_isUnder_48 : decode cX6_isUnder 48 = .ok (.iconst 0, 1) := by decide +kernel
theorem dX6_isUnder_49 : decode cX6_isUnder 49 = .ok (.ireturn, 1) := by decide +kernel
theorem dX6_descendants_0 : decode cX6_descendants 0 = .ok (.aload_n 0, 1) := by decide +kernel
theorem dX6_descendants_1 : decode cX6_descendants 1 = .ok (.iconst 0, 1) := by decide +kernel
theorem dX6_descendants_2 : decode cX6_descendants 2 = .ok (.putfield 74, 3) := by decide +kernel
theorem dX6_descendants_5 : decode cX6_descendants 5 = .ok (.aload_n 0, 1) := by decide +kernel
theorem dX6_descendants_6 : decode cX6_descendants 6 = .ok (.iload_n 1, 1) := by decide +kernel
theorem dX6_descendants_7 : decode cX6_descendants 7 = .ok (.iload_n 2, 1) := by decide +kernel
theorem dX6_descendants_8 : decode cX6_descendants 8 = .ok (.iload_n 3, 1) := by decide +kernel
theorem dX6_descendants_9 : decode cX6_descendants 9 = .ok (.invokevirtual 184, 3) := by decide +kernel
theorem dX6_descendants_12 : decode cX6_descendants 12 = .ok (.ifCond .ne 9, 3) := by decide +kernel
theorem dX6_descendants_15 : decode cX6_descendants 15 = .ok (.aload_n 0, 1) := by decide +kernel
theorem dX6_descendants_16 : decode cX6_descendants 16 = .ok (.iconst 1, 1) := by decide +kernel
theorem dX6_descendants_17 : decode cX6_descendants 17 = .ok (.invokevirtual 142, 3) := by decide +kernel
theorem dX6_descendants_20 : decode cX6_descendants 20 = .ok (.ireturn, 1) := by decide +kernel
theorem dX6_descendants_21 : decode cX6_descendants 21 = .ok (.iconst 0, 1) := by decide +kernel
theorem dX6_descendants_22 : decode cX6_descendants 22 = .ok (.istore 4, 2) := by decide +kernel
theorem dX6_descendants_24 : decode cX6_descendants 24 = .ok (.iconst 0, 1) := by decide +kernel
theorem dX6_descendants_25 : decode cX6_descendants 25 = .ok (.istore 5, 2) := by decide +kernel
theorem dX6_descendants_27 : decode cX6_descendants 27 = .ok (.iload 5, 2) := by decide +kernel
theorem dX6_descendants_29 : decode cX6_descendants 29 = .ok (.aload_n 0, 1) := by decide +kernel
theorem dX6_descendants_30 : decode cX6_descendants 30 = .ok (.getfield 41, 3) := by decide +kernel
theorem dX6_descendants_33 : decode cX6_descendants 33 = .ok (.iconst 0, 1) := by decide +kernel
theorem dX6_descendants_34 : decode cX6_descendants 34 = .ok (.iaload, 1) := by decide +kernel
theorem dX6_descendants_35 : decode cX6_descendants 35 = .ok (.if_icmp .ge 49, 3) := by decide +kernel
theorem dX6_descendants_38 : decode cX6_descendants 38 = .ok (.iconst 0, 1) := by decide +kernel
theorem dX6_descendants_39 : decode cX6_descendants 39 = .ok (.istore 6, 2) := by decide +kernel
theorem dX6_descendants_41 : decode cX6_descendants 41 = .ok (.iload 6, 2) := by decide +kernel
theorem dX6_descendants_43 : decode cX6_descendants 43 = .ok (.aload_n 0, 1) := by decide +kernel
theorem dX6_descendants_44 : decode cX6_descendants 44 = .ok (.getfield 38, 3) := by decide +kernel
theorem dX6_descendants_47 : decode cX6_descendants 47 = .ok (.iconst 0, 1) := by decide +kernel
theorem dX6_descendants_48 : decode cX6_descendants 48 = .ok (.iaload, 1) := by decide +kernel
theorem dX6_descendants_49 : decode cX6_descendants 49 = .ok (.if_icmp .ge 29, 3) := by decide +kernel
theorem dX6_descendants_52 : decode cX6_descendants 52 = .ok (.aload_n 0, 1) := by decide +kernel
theorem dX6_descendants_53 : decode cX6_descendants 53 = .ok (.iload 6, 2) := by decide +kernel
theorem dX6_descendants_55 : decode cX6_descendants 55 = .ok (.iload 5, 2) := by decide +kernel
theorem dX6_descendants_57 : decode cX6_descendants 57 = .ok (.aload_n 0, 1) := by decide +kernel
theorem dX6_descendants_58 : decode cX6_descendants 58 = .ok (.iload_n 2, 1) := by decide +kernel
theorem dX6_descendants_59 : decode cX6_descendants 59 = .ok (.iload_n 3, 1) := by decide +kernel
theorem dX6_descendants_60 : decode cX6_descendants 60 = .ok (.invokevirtual 116, 3) := by decide +kernel
theorem dX6_descendants_63 : decode cX6_descendants 63 = .ok (.invokevirtual 196, 3) := by decide +kernel
theorem dX6_descendants_66 : decode cX6_descendants 66 = .ok (.ifCond .eq 6, 3) := by decide +kernel
theorem dX6_descendants_69 : decode cX6_descendants 69 = .ok (.iinc 4 1, 3) := by decide +kernel
theorem dX6_descendants_72 : decode cX6_descendants 72 = .ok (.iinc 6 1, 3) := by decide +kernel
theorem dX6_descendants_75 : decode cX6_descendants 75 = .ok (.goto (-34), 3) := by decide +kernel
theorem dX6_descendants_78 : decode cX6_descendants 78 = .ok (.iinc 5 1, 3) := by decide +kernel
theorem dX6_descendants_81 : decode cX6_descendants 81 = .ok (.goto (-54), 3) := by decide +kernel
theorem dX6_descendants_84 : decode cX6_descendants 84 = .ok (.iload 4, 2) := by decide +kernel
theorem dX6_descendants_86 : decode cX6_descendants 86 = .ok (.ireturn, 1) := by decide +kernel
theorem dX6_isQuiet_0 : decode cX6_isQuiet 0 = .ok (.iconst 0, 1) := by decide +kernel
theorem dX6_isQuiet_1 : decode cX6_isQuiet 1 = .ok (.istore_n 3, 1) := by decide +kernel
theorem dX6_isQuiet_2 : decode cX6_isQuiet 2 = .ok (.iload_n 3, 1) := by decide +kernel
theorem dX6_isQuiet_3 : decode cX6_isQuiet 3 = .ok (.aload_n 0, 1) := by decide +kernel
theorem dX6_isQuiet_4 : decode cX6_isQuiet 4 = .ok (.getfield 41, 3) := by decide +kernel
theorem dX6_isQuiet_7 : decode cX6_isQuiet 7 = .ok (.iconst 0, 1) := by decide +kernel
theorem dX6_isQuiet_8 : decode cX6_isQuiet 8 = .ok (.iaload, 1) := by decide +kernel
theorem dX6_isQuiet_9 : decode cX6_isQuiet 9 = .ok (.if_icmp .ge 76, 3) := by decide +kernel
theorem dX6_isQuiet_12 : decode cX6_isQuiet 12 = .ok (.iconst 0, 1) := by decide +kernel
theorem dX6_isQuiet_13 : decode cX6_isQuiet 13 = .ok (.istore 4, 2) := by decide +kernel
theorem dX6_isQuiet_15 : decode cX6_isQuiet 15 = .ok (.iload 4, 2) := by decide +kernel
theorem dX6_isQuiet_17 : decode cX6_isQuiet 17 = .ok (.aload_n 0, 1) := by decide +kernel
theorem dX6_isQuiet_18 : decode cX6_isQuiet 18 = .ok (.getfield 38, 3) := by decide +kernel
theorem dX6_isQuiet_21 : decode cX6_isQuiet 21 = .ok (.iconst 0, 1) := by decide +kernel
theorem dX6_isQuiet_22 : decode cX6_isQuiet 22 = .ok (.iaload, 1) := by decide +kernel
theorem dX6_isQuiet_23 : decode cX6_isQuiet 23 = .ok (.if_icmp .ge 56, 3) := by decide +kernel
theorem dX6_isQuiet_26 : decode cX6_isQuiet 26 = .ok (.aload_n 0, 1) := by decide +kernel
theorem dX6_isQuiet_27 : decode cX6_isQuiet 27 = .ok (.getfield 44, 3) := by decide +kernel
theorem dX6_isQuiet_30 : decode cX6_isQuiet 30 = .ok (.aload_n 0, 1) := by decide +kernel
theorem dX6_isQuiet_31 : decode cX6_isQuiet 31 = .ok (.iload 4, 2) := by decide +kernel
theorem dX6_isQuiet_33 : decode cX6_isQuiet 33 = .ok (.iload_n 3, 1) := by decide +kernel
theorem dX6_isQuiet_34 : decode cX6_isQuiet 34 = .ok (.invokevirtual 116, 3) := by decide +kernel
theorem dX6_isQuiet_37 : decode cX6_isQuiet 37 = .ok (.iaload, 1) := by decide +kernel
theorem dX6_isQuiet_38 : decode cX6_isQuiet 38 = .ok (.invokestatic 132, 3) := by decide +kernel
theorem dX6_isQuiet_41 : decode cX6_isQuiet 41 = .ok (.iload_n 2, 1) := by decide +kernel
theorem dX6_isQuiet_42 : decode cX6_isQuiet 42 = .ok (.ishr, 1) := by decide +kernel
theorem dX6_isQuiet_43 : decode cX6_isQuiet 43 = .ok (.ifCond .ne 6, 3) := by decide +kernel
theorem dX6_isQuiet_46 : decode cX6_isQuiet 46 = .ok (.goto 27, 3) := by decide +kernel
theorem dX6_isQuiet_49 : decode cX6_isQuiet 49 = .ok (.aload_n 0, 1) := by decide +kernel
theorem dX6_isQuiet_50 : decode cX6_isQuiet 50 = .ok (.iload 4, 2) := by decide +kernel
theorem dX6_isQuiet_52 : decode cX6_isQuiet 52 = .ok (.iload_n 3, 1) := by decide +kernel
theorem dX6_isQuiet_53 : decode cX6_isQuiet 53 = .ok (.invokevirtual 116, 3) := by decide +kernel
theorem dX6_isQuiet_56 : decode cX6_isQuiet 56 = .ok (.iload_n 1, 1) := by decide +kernel
theorem dX6_isQuiet_57 : decode cX6_isQuiet 57 = .ok (.if_icmp .eq 14, 3) := by decide +kernel
theorem dX6_isQuiet_60 : decode cX6_isQuiet 60 = .ok (.aload_n 0, 1) := by decide +kernel
theorem dX6_isQuiet_61 : decode cX6_isQuiet 61 = .ok (.iload 4, 2) := by decide +kernel
theorem dX6_isQuiet_63 : decode cX6_isQuiet 63 = .ok (.iload_n 3, 1) := by decide +kernel
theorem dX6_isQuiet_64 : decode cX6_isQuiet 64 = .ok (.iload_n 1, 1) := by decide +kernel
theorem dX6_isQuiet_65 : decode cX6_isQuiet 65 = .ok (.invokevirtual 196, 3) := by decide +kernel
theorem dX6_isQuiet_68 : decode cX6_isQuiet 68 = .ok (.ifCond .eq 5, 3) := by decide +kernel
theorem dX6_isQuiet_71 : decode cX6_isQuiet 71 = .ok (.iconst 0, 1) := by decide +kernel
theorem dX6_isQuiet_72 : decode cX6_isQuiet 72 = .ok (.ireturn, 1) := by decide +kernel
theorem dX6_isQuiet_73 : decode cX6_isQuiet 73 = .ok (.iinc 4 1, 3) := by decide +kernel
theorem dX6_isQuiet_76 : decode cX6_isQuiet 76 = .ok (.goto (-61), 3) := by decide +kernel
theorem dX6_isQuiet_79 : decode cX6_isQuiet 79 = .ok (.iinc 3 1, 3) := by decide +kernel
theorem dX6_isQuiet_82 : decode cX6_isQuiet 82 = .ok (.goto (-80), 3) := by decide +kernel
theorem dX6_isQuiet_85 : decode cX6_isQuiet 85 = .ok (.iconst 1, 1) := by decide +kernel
theorem dX6_isQuiet_86 : decode cX6_isQuiet 86 = .ok (.ireturn, 1) := by decide +kernel
theorem dX6_roots_0 : decode cX6_roots 0 = .ok (.aload_n 0, 1) := by decide +kernel
theorem dX6_roots_1 : decode cX6_roots 1 = .ok (.iconst 0, 1) := by decide +kernel
theorem dX6_roots_2 : decode cX6_roots 2 = .ok (.putfield 74, 3) := by decide +kernel
theorem dX6_roots_5 : decode cX6_roots 5 = .ok (.aload_n 0, 1) := by decide +kernel
theorem dX6_roots_6 : decode cX6_roots 6 = .ok (.iload_n 1, 1) := by decide +kernel
theorem dX6_roots_7 : decode cX6_roots 7 = .ok (.invokevirtual 165, 3) := by decide +kernel
theorem dX6_roots_10 : decode cX6_roots 10 = .ok (.ifCond .ne 9, 3) := by decide +kernel
theorem dX6_roots_13 : decode cX6_roots 13 = .ok (.aload_n 0, 1) := by decide +kernel
theorem dX6_roots_14 : decode cX6_roots 14 = .ok (.iconst 1, 1) := by decide +kernel
theorem dX6_roots_15 : decode cX6_roots 15 = .ok (.invokevirtual 142, 3) := by decide +kernel
theorem dX6_roots_18 : decode cX6_roots 18 = .ok (.ireturn, 1) := by decide +kernel
theorem dX6_roots_19 : decode cX6_roots 19 = .ok (.iload_n 2, 1) := by decide +kernel
theorem dX6_roots_20 : decode cX6_roots 20 = .ok (.iconst 0, 1) := by decide +kernel
theorem dX6_roots_21 : decode cX6_roots 21 = .ok (.bipush 9, 2) := by decide +kernel
theorem dX6_roots_23 : decode cX6_roots 23 = .ok (.invokestatic 81, 3) := by decide +kernel
theorem dX6_roots_26 : decode cX6_roots 26 = .ok (.ifCond .ne 9, 3) := by decide +kernel
theorem dX6_roots_29 : decode cX6_roots 29 = .ok (.aload_n 0, 1) := by decide +kernel
theorem dX6_roots_30 : decode cX6_roots 30 = .ok (.iconst 2, 1) := by decide +kernel
theorem dX6_roots_31 : decode cX6_roots 31 = .ok (.invokevirtual 142, 3) := by decide +kernel
theorem dX6_roots_34 : decode cX6_roots 34 = .ok (.ireturn, 1) := by decide +kernel
theorem dX6_roots_35 : decode cX6_roots 35 = .ok (.aload_n 0, 1) := by decide +kernel
theorem dX6_roots_36 : decode cX6_roots 36 = .ok (.iload_n 1, 1) := by decide +kernel
theorem dX6_roots_37 : decode cX6_roots 37 = .ok (.invokevirtual 169, 3) := by decide +kernel
theorem dX6_roots_40 : decode cX6_roots 40 = .ok (.iconst 0, 1) := by decide +kernel
theorem dX6_roots_41 : decode cX6_roots 41 = .ok (.istore_n 3, 1) := by decide +kernel
theorem dX6_roots_42 : decode cX6_roots 42 = .ok (.iconst 0, 1) := by decide +kernel
theorem dX6_roots_43 : decode cX6_roots 43 = .ok (.istore 4, 2) := by decide +kernel
theorem dX6_roots_45 : decode cX6_roots 45 = .ok (.iload 4, 2) := by decide +kernel
theorem dX6_roots_47 : decode cX6_roots 47 = .ok (.aload_n 0, 1) := by decide +kernel
theorem dX6_roots_48 : decode cX6_roots 48 = .ok (.getfield 41, 3) := by decide +kernel
theorem dX6_roots_51 : decode cX6_roots 51 = .ok (.iconst 0, 1) := by decide +kernel
theorem dX6_roots_52 : decode cX6_roots 52 = .ok (.iaload, 1) := by decide +kernel
theorem dX6_roots_53 : decode cX6_roots 53 = .ok (.if_icmp .ge 73, 3) := by decide +kernel
theorem dX6_roots_56 : decode cX6_roots 56 = .ok (.iconst 0, 1) := by decide +kernel
theorem dX6_roots_57 : decode cX6_roots 57 = .ok (.istore 5, 2) := by decide +kernel
theorem dX6_roots_59 : decode cX6_roots 59 = .ok (.iload 5, 2) := by decide +kernel
theorem dX6_roots_61 : decode cX6_roots 61 = .ok (.aload_n 0, 1) := by decide +kernel
theorem dX6_roots_62 : decode cX6_roots 62 = .ok (.getfield 38, 3) := by decide +kernel
theorem dX6_roots_65 : decode cX6_roots 65 = .ok (.iconst 0, 1) := by decide +kernel
theorem dX6_roots_66 : decode cX6_roots 66 = .ok (.iaload, 1) := by decide +kernel
theorem dX6_roots_67 : decode cX6_roots 67 = .ok (.if_icmp .ge 53, 3) := by decide +kernel
theorem dX6_roots_70 : decode cX6_roots 70 = .ok (.aload_n 0, 1) := by decide +kernel
theorem dX6_roots_71 : decode cX6_roots 71 = .ok (.iload 5, 2) := by decide +kernel
theorem dX6_roots_73 : decode cX6_roots 73 = .ok (.iload 4, 2) := by decide +kernel
theorem dX6_roots_75 : decode cX6_roots 75 = .ok (.invokevirtual 193, 3) := by decide +kernel
theorem dX6_roots_78 : decode cX6_roots 78 = .ok (.istore 6, 2) := by decide +kernel
theorem dX6_roots_80 : decode cX6_roots 80 = .ok (.aload_n 0, 1) := by decide +kernel
theorem dX6_roots_81 : decode cX6_roots 81 = .ok (.aload_n 0, 1) := by decide +kernel
theorem dX6_roots_82 : decode cX6_roots 82 = .ok (.iload 5, 2) := by decide +kernel
theorem dX6_roots_84 : decode cX6_roots 84 = .ok (.iload 4, 2) := by decide +kernel
theorem dX6_roots_86 : decode cX6_roots 86 = .ok (.invokevirtual 116, 3) := by decide +kernel
theorem dX6_roots_89 : decode cX6_roots 89 = .ok (.iload_n 2, 1) := by decide +kernel
theorem dX6_roots_90 : decode cX6_roots 90 = .ok (.invokevirtual 199, 3) := by decide +kernel
theorem dX6_roots_93 : decode cX6_roots 93 = .ok (.ifCond .eq 21, 3) := by decide +kernel
theorem dX6_roots_96 : decode cX6_roots 96 = .ok (.iload 6, 2) := by decide +kernel
theorem dX6_roots_98 : decode cX6_roots 98 = .ok (.ifCond .lt 13, 3) := by decide +kernel
theorem dX6_roots_101 : decode cX6_roots 101 = .ok (.aload_n 0, 1) := by decide +kernel
theorem dX6_roots_102 : decode cX6_roots 102 = .ok (.iload 6, 2) := by decide +kernel
theorem dX6_roots_104 : decode cX6_roots 104 = .ok (.iload_n 2, 1) := by decide +kernel
theorem dX6_roots_105 : decode cX6_roots 105 = .ok (.invokevirtual 199, 3) := by decide +kernel
theorem dX6_roots_108 : decode cX6_roots 108 = .ok (.ifCond .ne 6, 3) := by decide +kernel
theorem dX6_roots_111 : decode cX6_roots 111 = .ok (.iinc 3 1, 3) := by decide +kernel
theorem dX6_roots_114 : decode cX6_roots 114 = .ok (.iinc 5 1, 3) := by decide +kernel
theorem dX6_roots_117 : decode cX6_roots 117 = .ok (.goto (-58), 3) := by decide +kernel
theorem dX6_roots_120 : decode cX6_roots 120 = .ok (.iinc 4 1, 3) := by decide +kernel
theorem dX6_roots_123 : decode cX6_roots 123 = .ok (.goto (-78), 3) := by decide +kernel
theorem dX6_roots_126 : decode cX6_roots 126 = .ok (.iload_n 3, 1) := by decide +kernel
theorem dX6_roots_127 : decode cX6_roots 127 = .ok (.ireturn, 1) := by decide +kernel
theorem dX6_joinsParts_0 : decode cX6_joinsParts 0 = .ok (.iload_n 3, 1) := by decide +kernel
theorem dX6_joinsParts_1 : decode cX6_joinsParts 1 = .ok (.iconst 1, 1) := by decide +kernel
theorem dX6_joinsParts_2 : decode cX6_joinsParts 2 = .ok (.iadd, 1) := by decide +kernel
theorem dX6_joinsParts_3 : decode cX6_joinsParts 3 = .ok (.iconst 2, 1) := by decide +kernel
theorem dX6_joinsParts_4 : decode cX6_joinsParts 4 = .ok (.idiv, 1) := by decide +kernel
theorem dX6_joinsParts_5 : decode cX6_joinsParts 5 = .ok (.istore 4, 2) := by decide +kernel
theorem dX6_joinsParts_7 : decode cX6_joinsParts 7 = .ok (.iconst 0, 1) := by decide +kernel
theorem dX6_joinsParts_8 : decode cX6_joinsParts 8 = .ok (.istore 5, 2) := by decide +kernel
theorem dX6_joinsParts_10 : decode cX6_joinsParts 10 = .ok (.iload 5, 2) := by decide +kernel
theorem dX6_joinsParts_12 : decode cX6_joinsParts 12 = .ok (.iload_n 3, 1) := by decide +kernel
theorem dX6_joinsParts_13 : decode cX6_joinsParts 13 = .ok (.if_icmp .ge 27, 3) := by decide +kernel
theorem dX6_joinsParts_16 : decode cX6_joinsParts 16 = .ok (.aload_n 0, 1) := by decide +kernel
theorem dX6_joinsParts_17 : decode cX6_joinsParts 17 = .ok (.getfield 64, 3) := by decide +kernel
theorem dX6_joinsParts_20 : decode cX6_joinsParts 20 = .ok (.iload 5, 2) := by decide +kernel
theorem dX6_joinsParts_22 : decode cX6_joinsParts 22 = .ok (.aload_n 0, 1) := by decide +kernel
theorem dX6_joinsParts_23 : decode cX6_joinsParts 23 = .ok (.getfield 60, 3) := by decide +kernel
theorem dX6_joinsParts_26 : decode cX6_joinsParts 26 = .ok (.iload_n 1, 1) := by decide +kernel
theorem dX6_joinsParts_27 : decode cX6_joinsParts 27 = .ok (.iload_n 2, 1) := by decide +kernel
theorem dX6_joinsParts_28 : decode cX6_joinsParts 28 = .ok (.iload 5, 2) := by decide +kernel
theorem dX6_joinsParts_30 : decode cX6_joinsParts 30 = .ok (.imul, 1) := by decide +kernel
theorem dX6_joinsParts_31 : decode cX6_joinsParts 31 = .ok (.iadd, 1) := by decide +kernel
theorem dX6_joinsParts_32 : decode cX6_joinsParts 32 = .ok (.laload, 1) := by decide +kernel
theorem dX6_joinsParts_33 : decode cX6_joinsParts 33 = .ok (.lastore, 1) := by decide +kernel
theorem dX6_joinsParts_34 : decode cX6_joinsParts 34 = .ok (.iinc 5 1, 3) := by decide +kernel
theorem dX6_joinsParts_37 : decode cX6_joinsParts 37 = .ok (.goto (-27), 3) := by decide +kernel
theorem dX6_joinsParts_40 : decode cX6_joinsParts 40 = .ok (.iconst 0, 1) := by decide +kernel
theorem dX6_joinsParts_41 : decode cX6_joinsParts 41 = .ok (.istore 5, 2) := by decide +kernel
theorem dX6_joinsParts_43 : decode cX6_joinsParts 43 = .ok (.iload 5, 2) := by decide +kernel
theorem dX6_joinsParts_45 : decode cX6_joinsParts 45 = .ok (.iload_n 3, 1) := by decide +kernel
theorem dX6_joinsParts_46 : decode cX6_joinsParts 46 = .ok (.if_icmp .ge 72, 3) := by decide +kernel
theorem dX6_joinsParts_49 : decode cX6_joinsParts 49 = .ok (.aload_n 0, 1) := by decide +kernel
theorem dX6_joinsParts_50 : decode cX6_joinsParts 50 = .ok (.getfield 60, 3) := by decide +kernel
theorem dX6_joinsParts_53 : decode cX6_joinsParts 53 = .ok (.iload_n 1, 1) := by decide +kernel
theorem dX6_joinsParts_54 : decode cX6_joinsParts 54 = .ok (.iload_n 2, 1) := by decide +kernel
theorem dX6_joinsParts_55 : decode cX6_joinsParts 55 = .ok (.iload 5, 2) := by decide +kernel
theorem dX6_joinsParts_57 : decode cX6_joinsParts 57 = .ok (.imul, 1) := by decide +kernel
theorem dX6_joinsParts_58 : decode cX6_joinsParts 58 = .ok (.iadd, 1) := by decide +kernel
theorem dX6_joinsParts_59 : decode cX6_joinsParts 59 = .ok (.iload 5, 2) := by decide +kernel
theorem dX6_joinsParts_61 : decode cX6_joinsParts 61 = .ok (.iconst 2, 1) := by decide +kernel
theorem dX6_joinsParts_62 : decode cX6_joinsParts 62 = .ok (.iload 4, 2) := by decide +kernel
theorem dX6_joinsParts_64 : decode cX6_joinsParts 64 = .ok (.imul, 1) := by decide +kernel
theorem dX6_joinsParts_65 : decode cX6_joinsParts 65 = .ok (.iconst 2, 1) := by decide +kernel
theorem dX6_joinsParts_66 : decode cX6_joinsParts 66 = .ok (.isub, 1) := by decide +kernel
theorem dX6_joinsParts_67 : decode cX6_joinsParts 67 = .ok (.if_icmp .ne 22, 3) := by decide +kernel
theorem dX6_joinsParts_70 : decode cX6_joinsParts 70 = .ok (.iload_n 3, 1) := by decide +kernel
theorem dX6_joinsParts_71 : decode cX6_joinsParts 71 = .ok (.iconst 2, 1) := by decide +kernel
theorem dX6_joinsParts_72 : decode cX6_joinsParts 72 = .ok (.irem, 1) := by decide +kernel
theorem dX6_joinsParts_73 : decode cX6_joinsParts 73 = .ok (.iconst 1, 1) := by decide +kernel
theorem dX6_joinsParts_74 : decode cX6_joinsParts 74 = .ok (.if_icmp .ne 15, 3) := by decide +kernel
theorem dX6_joinsParts_77 : decode cX6_joinsParts 77 = .ok (.aload_n 0, 1) := by decide +kernel
theorem dX6_joinsParts_78 : decode cX6_joinsParts 78 = .ok (.getfield 64, 3) := by decide +kernel
theorem dX6_joinsParts_81 : decode cX6_joinsParts 81 = .ok (.iload 4, 2) := by decide +kernel
theorem dX6_joinsParts_83 : decode cX6_joinsParts 83 = .ok (.iconst 1, 1) := by decide +kernel
theorem dX6_joinsParts_84 : decode cX6_joinsParts 84 = .ok (.isub, 1) := by decide +kernel
theorem dX6_joinsParts_85 : decode cX6_joinsParts 85 = .ok (.laload, 1) := by decide +kernel
theorem dX6_joinsParts_86 : decode cX6_joinsParts 86 = .ok (.goto 25, 3) := by decide +kernel
theorem dX6_joinsParts_89 : decode cX6_joinsParts 89 = .ok (.aload_n 0, 1) := by decide +kernel
theorem dX6_joinsParts_90 : decode cX6_joinsParts 90 = .ok (.getfield 64, 3) := by decide +kernel
theorem dX6_joinsParts_93 : decode cX6_joinsParts 93 = .ok (.iload 5, 2) := by decide +kernel
theorem dX6_joinsParts_95 : decode cX6_joinsParts 95 = .ok (.iconst 2, 1) := by decide +kernel
theorem dX6_joinsParts_96 : decode cX6_joinsParts 96 = .ok (.idiv, 1) := by decide +kernel
theorem dX6_joinsParts_97 : decode cX6_joinsParts 97 = .ok (.laload, 1) := by decide +kernel
theorem dX6_joinsParts_98 : decode cX6_joinsParts 98 = .ok (.aload_n 0, 1) := by decide +kernel
theorem dX6_joinsParts_99 : decode cX6_joinsParts 99 = .ok (.getfield 64, 3) := by decide +kernel
theorem dX6_joinsParts_102 : decode cX6_joinsParts 102 = .ok (.iload 4, 2) := by decide +kernel
theorem dX6_joinsParts_104 : decode cX6_joinsParts 104 = .ok (.iload 5, 2) := by decide +kernel
theorem dX6_joinsParts_106 : decode cX6_joinsParts 106 = .ok (.iconst 2, 1) := by decide +kernel
theorem dX6_joinsParts_107 : decode cX6_joinsParts 107 = .ok (.idiv, 1) := by decide +kernel
theorem dX6_joinsParts_108 : decode cX6_joinsParts 108 = .ok (.iadd, 1) := by decide +kernel
theorem dX6_joinsParts_109 : decode cX6_joinsParts 109 = .ok (.laload, 1) := by decide +kernel
theorem dX6_joinsParts_110 : decode cX6_joinsParts 110 = .ok (.lor, 1) := by decide +kernel
theorem dX6_joinsParts_111 : decode cX6_joinsParts 111 = .ok (.lastore, 1) := by decide +kernel
theorem dX6_joinsParts_112 : decode cX6_joinsParts 112 = .ok (.iinc 5 1, 3) := by decide +kernel
theorem dX6_joinsParts_115 : decode cX6_joinsParts 115 = .ok (.goto (-72), 3) := by decide +kernel
theorem dX6_joinsParts_118 : decode cX6_joinsParts 118 = .ok (.return_, 1) := by decide +kernel
theorem dX6_needed_0 : decode cX6_needed 0 = .ok (.aload_n 0, 1) := by decide +kernel
theorem dX6_needed_1 : decode cX6_needed 1 = .ok (.iconst 0, 1) := by decide +kernel
theorem dX6_needed_2 : decode cX6_needed 2 = .ok (.putfield 74, 3) := by decide +kernel
theorem dX6_needed_5 : decode cX6_needed 5 = .ok (.aload_n 0, 1) := by decide +kernel
theorem dX6_needed_6 : decode cX6_needed 6 = .ok (.iload_n 1, 1) := by decide +kernel
theorem dX6_needed_7 : decode cX6_needed 7 = .ok (.iload_n 2, 1) := by decide +kernel
theorem dX6_needed_8 : decode cX6_needed 8 = .ok (.invokevirtual 158, 3) := by decide +kernel
theorem dX6_needed_11 : decode cX6_needed 11 = .ok (.ifCond .ne 9, 3) := by decide +kernel
theorem dX6_needed_14 : decode cX6_needed 14 = .ok (.aload_n 0, 1) := by decide +kernel
theorem dX6_needed_15 : decode cX6_needed 15 = .ok (.iconst 1, 1) := by decide +kernel
theorem dX6_needed_16 : decode cX6_needed 16 = .ok (.invokevirtual 142, 3) := by decide +kernel
theorem dX6_needed_19 : decode cX6_needed 19 = .ok (.ireturn, 1) := by decide +kernel
theorem dX6_needed_20 : decode cX6_needed 20 = .ok (.aload_n 0, 1) := by decide +kernel
theorem dX6_needed_21 : decode cX6_needed 21 = .ok (.iload_n 2, 1) := by decide +kernel
theorem dX6_needed_22 : decode cX6_needed 22 = .ok (.aload_n 0, 1) := by decide +kernel
theorem dX6_needed_23 : decode cX6_needed 23 = .ok (.getfield 9, 3) := by decide +kernel
theorem dX6_needed_26 : decode cX6_needed 26 = .ok (.iconst 2, 1) := by decide +kernel
theorem dX6_needed_27 : decode cX6_needed 27 = .ok (.iaload, 1) := by decide +kernel
theorem dX6_needed_28 : decode cX6_needed 28 = .ok (.idiv, 1) := by decide +kernel
theorem dX6_needed_29 : decode cX6_needed 29 = .ok (.aload_n 0, 1) := by decide +kernel
theorem dX6_needed_30 : decode cX6_needed 30 = .ok (.invokevirtual 88, 3) := by decide +kernel
theorem dX6_needed_33 : decode cX6_needed 33 = .ok (.imul, 1) := by decide +kernel
theorem dX6_needed_34 : decode cX6_needed 34 = .ok (.iload_n 1, 1) := by decide +kernel
theorem dX6_needed_35 : decode cX6_needed 35 = .ok (.aload_n 0, 1) := by decide +kernel
theorem dX6_needed_36 : decode cX6_needed 36 = .ok (.getfield 9, 3) := by decide +kernel
theorem dX6_needed_39 : decode cX6_needed 39 = .ok (.iconst 2, 1) := by decide +kernel
theorem dX6_needed_40 : decode cX6_needed 40 = .ok (.iaload, 1) := by decide +kernel
theorem dX6_needed_41 : decode cX6_needed 41 = .ok (.idiv, 1) := by decide +kernel
theorem dX6_needed_42 : decode cX6_needed 42 = .ok (.iadd, 1) := by decide +kernel
theorem dX6_needed_43 : decode cX6_needed 43 = .ok (.invokevirtual 112, 3) := by decide +kernel
theorem dX6_needed_46 : decode cX6_needed 46 = .ok (.iconst 0, 1) := by decide +kernel
theorem dX6_needed_47 : decode cX6_needed 47 = .ok (.istore_n 3, 1) := by decide +kernel
theorem dX6_needed_48 : decode cX6_needed 48 = .ok (.iload_n 3, 1) := by decide +kernel
theorem dX6_needed_49 : decode cX6_needed 49 = .ok (.bipush 64, 2) := by decide +kernel
theorem dX6_needed_51 : decode cX6_needed 51 = .ok (.if_icmp .ge 18, 3) := by decide +kernel
theorem dX6_needed_54 : decode cX6_needed 54 = .ok (.aload_n 0, 1) := by decide +kernel
theorem dX6_needed_55 : decode cX6_needed 55 = .ok (.getfield 60, 3) := by decide +kernel
theorem dX6_needed_58 : decode cX6_needed 58 = .ok (.iload_n 3, 1) := by decide +kernel
theorem dX6_needed_59 : decode cX6_needed 59 = .ok (.lconst 1, 1) := by decide +kernel
theorem dX6_needed_60 : decode cX6_needed 60 = .ok (.iload_n 3, 1) := by decide +kernel
theorem dX6_needed_61 : decode cX6_needed 61 = .ok (.lshl, 1) := by decide +kernel
theorem dX6_needed_62 : decode cX6_needed 62 = .ok (.lastore, 1) := by decide +kernel
theorem dX6_needed_63 : decode cX6_needed 63 = .ok (.iinc 3 1, 3) := by decide +kernel
theorem dX6_needed_66 : decode cX6_needed 66 = .ok (.goto (-18), 3) := by decide +kernel
theorem dX6_needed_69 : decode cX6_needed 69 = .ok (.aload_n 0, 1) := by decide +kernel
theorem dX6_needed_70 : decode cX6_needed 70 = .ok (.getfield 109, 3) := by decide +kernel
theorem dX6_needed_73 : decode cX6_needed 73 = .ok (.iconst 1, 1) := by decide +kernel
theorem dX6_needed_74 : decode cX6_needed 74 = .ok (.isub, 1) := by decide +kernel
theorem dX6_needed_75 : decode cX6_needed 75 = .ok (.istore_n 3, 1) := by decide +kernel
theorem dX6_needed_76 : decode cX6_needed 76 = .ok (.iload_n 3, 1) := by decide +kernel
theorem dX6_needed_77 : decode cX6_needed 77 = .ok (.ifCond .lt 86, 3) := by decide +kernel
theorem dX6_needed_80 : decode cX6_needed 80 = .ok (.iconst 0, 1) := by decide +kernel
theorem dX6_needed_81 : decode cX6_needed 81 = .ok (.istore 4, 2) := by decide +kernel
theorem dX6_needed_83 : decode cX6_needed 83 = .ok (.iload 4, 2) := by decide +kernel
theorem dX6_needed_85 : decode cX6_needed 85 = .ok (.aload_n 0, 1) := by decide +kernel
theorem dX6_needed_86 : decode cX6_needed 86 = .ok (.getfield 38, 3) := by decide +kernel
theorem dX6_needed_89 : decode cX6_needed 89 = .ok (.iload_n 3, 1) := by decide +kernel
theorem dX6_needed_90 : decode cX6_needed 90 = .ok (.iaload, 1) := by decide +kernel
theorem dX6_needed_91 : decode cX6_needed 91 = .ok (.if_icmp .ge 28, 3) := by decide +kernel
theorem dX6_needed_94 : decode cX6_needed 94 = .ok (.aload_n 0, 1) := by decide +kernel
theorem dX6_needed_95 : decode cX6_needed 95 = .ok (.aload_n 0, 1) := by decide +kernel
theorem dX6_needed_96 : decode cX6_needed 96 = .ok (.iload 4, 2) := by decide +kernel
theorem dX6_needed_98 : decode cX6_needed 98 = .ok (.iconst 0, 1) := by decide +kernel
theorem dX6_needed_99 : decode cX6_needed 99 = .ok (.invokevirtual 116, 3) := by decide +kernel
theorem dX6_needed_102 : decode cX6_needed 102 = .ok (.bipush 8, 2) := by decide +kernel
theorem dX6_needed_104 : decode cX6_needed 104 = .ok (.aload_n 0, 1) := by decide +kernel
theorem dX6_needed_105 : decode cX6_needed 105 = .ok (.getfield 41, 3) := by decide +kernel
theorem dX6_needed_108 : decode cX6_needed 108 = .ok (.iload_n 3, 1) := by decide +kernel
theorem dX6_needed_109 : decode cX6_needed 109 = .ok (.iaload, 1) := by decide +kernel
theorem dX6_needed_110 : decode cX6_needed 110 = .ok (.invokevirtual 202, 3) := by decide +kernel
theorem dX6_needed_113 : decode cX6_needed 113 = .ok (.iinc 4 1, 3) := by decide +kernel
theorem dX6_needed_116 : decode cX6_needed 116 = .ok (.goto (-33), 3) := by decide +kernel
theorem dX6_needed_119 : decode cX6_needed 119 = .ok (.iconst 0, 1) := by decide +kernel
theorem dX6_needed_120 : decode cX6_needed 120 = .ok (.istore 4, 2) := by decide +kernel
theorem dX6_needed_122 : decode cX6_needed 122 = .ok (.iload 4, 2) := by decide +kernel
theorem dX6_needed_124 : decode cX6_needed 124 = .ok (.aload_n 0, 1) := by decide +kernel
theorem dX6_needed_125 : decode cX6_needed 125 = .ok (.getfield 41, 3) := by decide +kernel
theorem dX6_needed_128 : decode cX6_needed 128 = .ok (.iload_n 3, 1) := by decide +kernel
theorem dX6_needed_129 : decode cX6_needed 129 = .ok (.iaload, 1) := by decide +kernel
theorem dX6_needed_130 : decode cX6_needed 130 = .ok (.if_icmp .ge 27, 3) := by decide +kernel
theorem dX6_needed_133 : decode cX6_needed 133 = .ok (.aload_n 0, 1) := by decide +kernel
theorem dX6_needed_134 : decode cX6_needed 134 = .ok (.aload_n 0, 1) := by decide +kernel
theorem dX6_needed_135 : decode cX6_needed 135 = .ok (.iconst 0, 1) := by decide +kernel
theorem dX6_needed_136 : decode cX6_needed 136 = .ok (.iload 4, 2) := by decide +kernel
theorem dX6_needed_138 : decode cX6_needed 138 = .ok (.invokevirtual 116, 3) := by decide +kernel
theorem dX6_needed_141 : decode cX6_needed 141 = .ok (.iconst 1, 1) := by decide +kernel
theorem dX6_needed_142 : decode cX6_needed 142 = .ok (.aload_n 0, 1) := by decide +kernel
theorem dX6_needed_143 : decode cX6_needed 143 = .ok (.getfield 38, 3) := by decide +kernel
theorem dX6_needed_146 : decode cX6_needed 146 = .ok (.iload_n 3, 1) := by decide +kernel
theorem dX6_needed_147 : decode cX6_needed 147 = .ok (.iaload, 1) := by decide +kernel
theorem dX6_needed_148 : decode cX6_needed 148 = .ok (.invokevirtual 202, 3) := by decide +kernel
theorem dX6_needed_151 : decode cX6_needed 151 = .ok (.iinc 4 1, 3) := by decide +kernel
theorem dX6_needed_154 : decode cX6_needed 154 = .ok (.goto (-32), 3) := by decide +kernel
theorem dX6_needed_157 : decode cX6_needed 157 = .ok (.iinc 3 (-1), 3) := by decide +kernel
theorem dX6_needed_160 : decode cX6_needed 160 = .ok (.goto (-84), 3) := by decide +kernel
theorem dX6_needed_163 : decode cX6_needed 163 = .ok (.aload_n 0, 1) := by decide +kernel
theorem dX6_needed_164 : decode cX6_needed 164 = .ok (.getfield 60, 3) := by decide +kernel
theorem dX6_needed_167 : decode cX6_needed 167 = .ok (.aload_n 0, 1) := by decide +kernel
theorem dX6_needed_168 : decode cX6_needed 168 = .ok (.iload_n 1, 1) := by decide +kernel
theorem dX6_needed_169 : decode cX6_needed 169 = .ok (.aload_n 0, 1) := by decide +kernel
