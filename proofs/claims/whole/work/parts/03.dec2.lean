theorem dX6_needed_170 : decode cX6_needed 170 = .ok (.getfield 97, 3) := by decide +kernel
theorem dX6_needed_173 : decode cX6_needed 173 = .ok (.isub, 1) := by decide +kernel
theorem dX6_needed_174 : decode cX6_needed 174 = .ok (.iload_n 2, 1) := by decide +kernel
theorem dX6_needed_175 : decode cX6_needed 175 = .ok (.aload_n 0, 1) := by decide +kernel
theorem dX6_needed_176 : decode cX6_needed 176 = .ok (.getfield 100, 3) := by decide +kernel
theorem dX6_needed_179 : decode cX6_needed 179 = .ok (.isub, 1) := by decide +kernel
theorem dX6_needed_180 : decode cX6_needed 180 = .ok (.invokevirtual 116, 3) := by decide +kernel
theorem dX6_needed_183 : decode cX6_needed 183 = .ok (.laload, 1) := by decide +kernel
theorem dX6_needed_184 : decode cX6_needed 184 = .ok (.invokestatic 205, 3) := by decide +kernel
theorem dX6_needed_187 : decode cX6_needed 187 = .ok (.ireturn, 1) := by decide +kernel
theorem dX6_decoded_0 : decode cX6_decoded 0 = .ok (.aload_n 0, 1) := by decide +kernel
theorem dX6_decoded_1 : decode cX6_decoded 1 = .ok (.iconst 0, 1) := by decide +kernel
theorem dX6_decoded_2 : decode cX6_decoded 2 = .ok (.putfield 74, 3) := by decide +kernel
theorem dX6_decoded_5 : decode cX6_decoded 5 = .ok (.iload_n 1, 1) := by decide +kernel
theorem dX6_decoded_6 : decode cX6_decoded 6 = .ok (.iconst 0, 1) := by decide +kernel
theorem dX6_decoded_7 : decode cX6_decoded 7 = .ok (.bipush 9, 2) := by decide +kernel
theorem dX6_decoded_9 : decode cX6_decoded 9 = .ok (.invokestatic 81, 3) := by decide +kernel
theorem dX6_decoded_12 : decode cX6_decoded 12 = .ok (.ifCond .ne 9, 3) := by decide +kernel
theorem dX6_decoded_15 : decode cX6_decoded 15 = .ok (.aload_n 0, 1) := by decide +kernel
theorem dX6_decoded_16 : decode cX6_decoded 16 = .ok (.iconst 1, 1) := by decide +kernel
theorem dX6_decoded_17 : decode cX6_decoded 17 = .ok (.invokevirtual 142, 3) := by decide +kernel
theorem dX6_decoded_20 : decode cX6_decoded 20 = .ok (.ireturn, 1) := by decide +kernel
theorem dX6_decoded_21 : decode cX6_decoded 21 = .ok (.aload_n 0, 1) := by decide +kernel
theorem dX6_decoded_22 : decode cX6_decoded 22 = .ok (.iload_n 2, 1) := by decide +kernel
theorem dX6_decoded_23 : decode cX6_decoded 23 = .ok (.iload_n 3, 1) := by decide +kernel
theorem dX6_decoded_24 : decode cX6_decoded 24 = .ok (.invokevirtual 158, 3) := by decide +kernel
theorem dX6_decoded_27 : decode cX6_decoded 27 = .ok (.ifCond .ne 9, 3) := by decide +kernel
theorem dX6_decoded_30 : decode cX6_decoded 30 = .ok (.aload_n 0, 1) := by decide +kernel
theorem dX6_decoded_31 : decode cX6_decoded 31 = .ok (.iconst 2, 1) := by decide +kernel
theorem dX6_decoded_32 : decode cX6_decoded 32 = .ok (.invokevirtual 142, 3) := by decide +kernel
theorem dX6_decoded_35 : decode cX6_decoded 35 = .ok (.ireturn, 1) := by decide +kernel
theorem dX6_decoded_36 : decode cX6_decoded 36 = .ok (.aload_n 0, 1) := by decide +kernel
theorem dX6_decoded_37 : decode cX6_decoded 37 = .ok (.iload_n 3, 1) := by decide +kernel
theorem dX6_decoded_38 : decode cX6_decoded 38 = .ok (.aload_n 0, 1) := by decide +kernel
theorem dX6_decoded_39 : decode cX6_decoded 39 = .ok (.getfield 9, 3) := by decide +kernel
theorem dX6_decoded_42 : decode cX6_decoded 42 = .ok (.iconst 2, 1) := by decide +kernel
theorem dX6_decoded_43 : decode cX6_decoded 43 = .ok (.iaload, 1) := by decide +kernel
theorem dX6_decoded_44 : decode cX6_decoded 44 = .ok (.idiv, 1) := by decide +kernel
theorem dX6_decoded_45 : decode cX6_decoded 45 = .ok (.aload_n 0, 1) := by decide +kernel
theorem dX6_decoded_46 : decode cX6_decoded 46 = .ok (.invokevirtual 88, 3) := by decide +kernel
theorem dX6_decoded_49 : decode cX6_decoded 49 = .ok (.imul, 1) := by decide +kernel
theorem dX6_decoded_50 : decode cX6_decoded 50 = .ok (.iload_n 2, 1) := by decide +kernel
theorem dX6_decoded_51 : decode cX6_decoded 51 = .ok (.aload_n 0, 1) := by decide +kernel
theorem dX6_decoded_52 : decode cX6_decoded 52 = .ok (.getfield 9, 3) := by decide +kernel
theorem dX6_decoded_55 : decode cX6_decoded 55 = .ok (.iconst 2, 1) := by decide +kernel
theorem dX6_decoded_56 : decode cX6_decoded 56 = .ok (.iaload, 1) := by decide +kernel
theorem dX6_decoded_57 : decode cX6_decoded 57 = .ok (.idiv, 1) := by decide +kernel
theorem dX6_decoded_58 : decode cX6_decoded 58 = .ok (.iadd, 1) := by decide +kernel
theorem dX6_decoded_59 : decode cX6_decoded 59 = .ok (.invokevirtual 169, 3) := by decide +kernel
theorem dX6_decoded_62 : decode cX6_decoded 62 = .ok (.aload_n 0, 1) := by decide +kernel
theorem dX6_decoded_63 : decode cX6_decoded 63 = .ok (.iload_n 1, 1) := by decide +kernel
theorem dX6_decoded_64 : decode cX6_decoded 64 = .ok (.invokevirtual 181, 3) := by decide +kernel
theorem dX6_decoded_67 : decode cX6_decoded 67 = .ok (.aload_n 0, 1) := by decide +kernel
theorem dX6_decoded_68 : decode cX6_decoded 68 = .ok (.getfield 51, 3) := by decide +kernel
theorem dX6_decoded_71 : decode cX6_decoded 71 = .ok (.aload_n 0, 1) := by decide +kernel
theorem dX6_decoded_72 : decode cX6_decoded 72 = .ok (.iload_n 2, 1) := by decide +kernel
theorem dX6_decoded_73 : decode cX6_decoded 73 = .ok (.aload_n 0, 1) := by decide +kernel
theorem dX6_decoded_74 : decode cX6_decoded 74 = .ok (.getfield 97, 3) := by decide +kernel
theorem dX6_decoded_77 : decode cX6_decoded 77 = .ok (.isub, 1) := by decide +kernel
theorem dX6_decoded_78 : decode cX6_decoded 78 = .ok (.iload_n 3, 1) := by decide +kernel
theorem dX6_decoded_79 : decode cX6_decoded 79 = .ok (.aload_n 0, 1) := by decide +kernel
theorem dX6_decoded_80 : decode cX6_decoded 80 = .ok (.getfield 100, 3) := by decide +kernel
theorem dX6_decoded_83 : decode cX6_decoded 83 = .ok (.isub, 1) := by decide +kernel
theorem dX6_decoded_84 : decode cX6_decoded 84 = .ok (.invokevirtual 116, 3) := by decide +kernel
theorem dX6_decoded_87 : decode cX6_decoded 87 = .ok (.iaload, 1) := by decide +kernel
theorem dX6_decoded_88 : decode cX6_decoded 88 = .ok (.ireturn, 1) := by decide +kernel
theorem dX6_joinsDoubts_0 : decode cX6_joinsDoubts 0 = .ok (.iload_n 3, 1) := by decide +kernel
theorem dX6_joinsDoubts_1 : decode cX6_joinsDoubts 1 = .ok (.iconst 1, 1) := by decide +kernel
theorem dX6_joinsDoubts_2 : decode cX6_joinsDoubts 2 = .ok (.iadd, 1) := by decide +kernel
theorem dX6_joinsDoubts_3 : decode cX6_joinsDoubts 3 = .ok (.iconst 2, 1) := by decide +kernel
theorem dX6_joinsDoubts_4 : decode cX6_joinsDoubts 4 = .ok (.idiv, 1) := by decide +kernel
theorem dX6_joinsDoubts_5 : decode cX6_joinsDoubts 5 = .ok (.istore 4, 2) := by decide +kernel
theorem dX6_joinsDoubts_7 : decode cX6_joinsDoubts 7 = .ok (.iconst 0, 1) := by decide +kernel
theorem dX6_joinsDoubts_8 : decode cX6_joinsDoubts 8 = .ok (.istore 5, 2) := by decide +kernel
theorem dX6_joinsDoubts_10 : decode cX6_joinsDoubts 10 = .ok (.iload 5, 2) := by decide +kernel
theorem dX6_joinsDoubts_12 : decode cX6_joinsDoubts 12 = .ok (.iload_n 3, 1) := by decide +kernel
theorem dX6_joinsDoubts_13 : decode cX6_joinsDoubts 13 = .ok (.if_icmp .ge 27, 3) := by decide +kernel
theorem dX6_joinsDoubts_16 : decode cX6_joinsDoubts 16 = .ok (.aload_n 0, 1) := by decide +kernel
theorem dX6_joinsDoubts_17 : decode cX6_joinsDoubts 17 = .ok (.getfield 54, 3) := by decide +kernel
theorem dX6_joinsDoubts_20 : decode cX6_joinsDoubts 20 = .ok (.iload 5, 2) := by decide +kernel
theorem dX6_joinsDoubts_22 : decode cX6_joinsDoubts 22 = .ok (.aload_n 0, 1) := by decide +kernel
theorem dX6_joinsDoubts_23 : decode cX6_joinsDoubts 23 = .ok (.getfield 51, 3) := by decide +kernel
theorem dX6_joinsDoubts_26 : decode cX6_joinsDoubts 26 = .ok (.iload_n 1, 1) := by decide +kernel
theorem dX6_joinsDoubts_27 : decode cX6_joinsDoubts 27 = .ok (.iload_n 2, 1) := by decide +kernel
theorem dX6_joinsDoubts_28 : decode cX6_joinsDoubts 28 = .ok (.iload 5, 2) := by decide +kernel
theorem dX6_joinsDoubts_30 : decode cX6_joinsDoubts 30 = .ok (.imul, 1) := by decide +kernel
theorem dX6_joinsDoubts_31 : decode cX6_joinsDoubts 31 = .ok (.iadd, 1) := by decide +kernel
theorem dX6_joinsDoubts_32 : decode cX6_joinsDoubts 32 = .ok (.iaload, 1) := by decide +kernel
theorem dX6_joinsDoubts_33 : decode cX6_joinsDoubts 33 = .ok (.iastore, 1) := by decide +kernel
theorem dX6_joinsDoubts_34 : decode cX6_joinsDoubts 34 = .ok (.iinc 5 1, 3) := by decide +kernel
theorem dX6_joinsDoubts_37 : decode cX6_joinsDoubts 37 = .ok (.goto (-27), 3) := by decide +kernel
theorem dX6_joinsDoubts_40 : decode cX6_joinsDoubts 40 = .ok (.iconst 0, 1) := by decide +kernel
theorem dX6_joinsDoubts_41 : decode cX6_joinsDoubts 41 = .ok (.istore 5, 2) := by decide +kernel
theorem dX6_joinsDoubts_43 : decode cX6_joinsDoubts 43 = .ok (.iload 5, 2) := by decide +kernel
theorem dX6_joinsDoubts_45 : decode cX6_joinsDoubts 45 = .ok (.iload_n 3, 1) := by decide +kernel
theorem dX6_joinsDoubts_46 : decode cX6_joinsDoubts 46 = .ok (.if_icmp .ge 73, 3) := by decide +kernel
theorem dX6_joinsDoubts_49 : decode cX6_joinsDoubts 49 = .ok (.aload_n 0, 1) := by decide +kernel
theorem dX6_joinsDoubts_50 : decode cX6_joinsDoubts 50 = .ok (.getfield 51, 3) := by decide +kernel
theorem dX6_joinsDoubts_53 : decode cX6_joinsDoubts 53 = .ok (.iload_n 1, 1) := by decide +kernel
theorem dX6_joinsDoubts_54 : decode cX6_joinsDoubts 54 = .ok (.iload_n 2, 1) := by decide +kernel
theorem dX6_joinsDoubts_55 : decode cX6_joinsDoubts 55 = .ok (.iload 5, 2) := by decide +kernel
theorem dX6_joinsDoubts_57 : decode cX6_joinsDoubts 57 = .ok (.imul, 1) := by decide +kernel
theorem dX6_joinsDoubts_58 : decode cX6_joinsDoubts 58 = .ok (.iadd, 1) := by decide +kernel
theorem dX6_joinsDoubts_59 : decode cX6_joinsDoubts 59 = .ok (.iload_n 3, 1) := by decide +kernel
theorem dX6_joinsDoubts_60 : decode cX6_joinsDoubts 60 = .ok (.iconst 2, 1) := by decide +kernel
theorem dX6_joinsDoubts_61 : decode cX6_joinsDoubts 61 = .ok (.irem, 1) := by decide +kernel
theorem dX6_joinsDoubts_62 : decode cX6_joinsDoubts 62 = .ok (.iconst 1, 1) := by decide +kernel
theorem dX6_joinsDoubts_63 : decode cX6_joinsDoubts 63 = .ok (.if_icmp .ne 23, 3) := by decide +kernel
theorem dX6_joinsDoubts_66 : decode cX6_joinsDoubts 66 = .ok (.iload 5, 2) := by decide +kernel
theorem dX6_joinsDoubts_68 : decode cX6_joinsDoubts 68 = .ok (.iload_n 3, 1) := by decide +kernel
theorem dX6_joinsDoubts_69 : decode cX6_joinsDoubts 69 = .ok (.iconst 1, 1) := by decide +kernel
theorem dX6_joinsDoubts_70 : decode cX6_joinsDoubts 70 = .ok (.isub, 1) := by decide +kernel
theorem dX6_joinsDoubts_71 : decode cX6_joinsDoubts 71 = .ok (.if_icmp .ne 15, 3) := by decide +kernel
theorem dX6_joinsDoubts_74 : decode cX6_joinsDoubts 74 = .ok (.aload_n 0, 1) := by decide +kernel
theorem dX6_joinsDoubts_75 : decode cX6_joinsDoubts 75 = .ok (.getfield 54, 3) := by decide +kernel
theorem dX6_joinsDoubts_78 : decode cX6_joinsDoubts 78 = .ok (.iload 4, 2) := by decide +kernel
theorem dX6_joinsDoubts_80 : decode cX6_joinsDoubts 80 = .ok (.iconst 1, 1) := by decide +kernel
theorem dX6_joinsDoubts_81 : decode cX6_joinsDoubts 81 = .ok (.isub, 1) := by decide +kernel
theorem dX6_joinsDoubts_82 : decode cX6_joinsDoubts 82 = .ok (.iaload, 1) := by decide +kernel
theorem dX6_joinsDoubts_83 : decode cX6_joinsDoubts 83 = .ok (.goto 29, 3) := by decide +kernel
theorem dX6_joinsDoubts_86 : decode cX6_joinsDoubts 86 = .ok (.aload_n 0, 1) := by decide +kernel
theorem dX6_joinsDoubts_87 : decode cX6_joinsDoubts 87 = .ok (.getfield 54, 3) := by decide +kernel
theorem dX6_joinsDoubts_90 : decode cX6_joinsDoubts 90 = .ok (.iload 5, 2) := by decide +kernel
theorem dX6_joinsDoubts_92 : decode cX6_joinsDoubts 92 = .ok (.iconst 2, 1) := by decide +kernel
theorem dX6_joinsDoubts_93 : decode cX6_joinsDoubts 93 = .ok (.idiv, 1) := by decide +kernel
theorem dX6_joinsDoubts_94 : decode cX6_joinsDoubts 94 = .ok (.iaload, 1) := by decide +kernel
theorem dX6_joinsDoubts_95 : decode cX6_joinsDoubts 95 = .ok (.aload_n 0, 1) := by decide +kernel
theorem dX6_joinsDoubts_96 : decode cX6_joinsDoubts 96 = .ok (.getfield 54, 3) := by decide +kernel
theorem dX6_joinsDoubts_99 : decode cX6_joinsDoubts 99 = .ok (.iload 4, 2) := by decide +kernel
theorem dX6_joinsDoubts_101 : decode cX6_joinsDoubts 101 = .ok (.iload 5, 2) := by decide +kernel
theorem dX6_joinsDoubts_103 : decode cX6_joinsDoubts 103 = .ok (.iconst 2, 1) := by decide +kernel
theorem dX6_joinsDoubts_104 : decode cX6_joinsDoubts 104 = .ok (.idiv, 1) := by decide +kernel
theorem dX6_joinsDoubts_105 : decode cX6_joinsDoubts 105 = .ok (.iadd, 1) := by decide +kernel
theorem dX6_joinsDoubts_106 : decode cX6_joinsDoubts 106 = .ok (.iaload, 1) := by decide +kernel
theorem dX6_joinsDoubts_107 : decode cX6_joinsDoubts 107 = .ok (.iconst 1, 1) := by decide +kernel
theorem dX6_joinsDoubts_108 : decode cX6_joinsDoubts 108 = .ok (.iadd, 1) := by decide +kernel
theorem dX6_joinsDoubts_109 : decode cX6_joinsDoubts 109 = .ok (.iconst 2, 1) := by decide +kernel
theorem dX6_joinsDoubts_110 : decode cX6_joinsDoubts 110 = .ok (.idiv, 1) := by decide +kernel
theorem dX6_joinsDoubts_111 : decode cX6_joinsDoubts 111 = .ok (.iadd, 1) := by decide +kernel
theorem dX6_joinsDoubts_112 : decode cX6_joinsDoubts 112 = .ok (.iastore, 1) := by decide +kernel
theorem dX6_joinsDoubts_113 : decode cX6_joinsDoubts 113 = .ok (.iinc 5 1, 3) := by decide +kernel
theorem dX6_joinsDoubts_116 : decode cX6_joinsDoubts 116 = .ok (.goto (-73), 3) := by decide +kernel
theorem dX6_joinsDoubts_119 : decode cX6_joinsDoubts 119 = .ok (.return_, 1) := by decide +kernel
theorem dX6_bound_0 : decode cX6_bound 0 = .ok (.iconst 0, 1) := by decide +kernel
theorem dX6_bound_1 : decode cX6_bound 1 = .ok (.istore_n 2, 1) := by decide +kernel
theorem dX6_bound_2 : decode cX6_bound 2 = .ok (.iload_n 2, 1) := by decide +kernel
theorem dX6_bound_3 : decode cX6_bound 3 = .ok (.bipush 64, 2) := by decide +kernel
theorem dX6_bound_5 : decode cX6_bound 5 = .ok (.if_icmp .ge 52, 3) := by decide +kernel
theorem dX6_bound_8 : decode cX6_bound 8 = .ok (.iconst 0, 1) := by decide +kernel
theorem dX6_bound_9 : decode cX6_bound 9 = .ok (.istore_n 3, 1) := by decide +kernel
theorem dX6_bound_10 : decode cX6_bound 10 = .ok (.iconst 0, 1) := by decide +kernel
theorem dX6_bound_11 : decode cX6_bound 11 = .ok (.istore 4, 2) := by decide +kernel
theorem dX6_bound_13 : decode cX6_bound 13 = .ok (.iload 4, 2) := by decide +kernel
theorem dX6_bound_15 : decode cX6_bound 15 = .ok (.bipush 9, 2) := by decide +kernel
theorem dX6_bound_17 : decode cX6_bound 17 = .ok (.if_icmp .ge 23, 3) := by decide +kernel
theorem dX6_bound_20 : decode cX6_bound 20 = .ok (.aload_n 0, 1) := by decide +kernel
theorem dX6_bound_21 : decode cX6_bound 21 = .ok (.iload_n 2, 1) := by decide +kernel
theorem dX6_bound_22 : decode cX6_bound 22 = .ok (.iload 4, 2) := by decide +kernel
theorem dX6_bound_24 : decode cX6_bound 24 = .ok (.invokevirtual 129, 3) := by decide +kernel
theorem dX6_bound_27 : decode cX6_bound 27 = .ok (.iload_n 1, 1) := by decide +kernel
theorem dX6_bound_28 : decode cX6_bound 28 = .ok (.if_icmp .lt 6, 3) := by decide +kernel
theorem dX6_bound_31 : decode cX6_bound 31 = .ok (.iinc 3 1, 3) := by decide +kernel
theorem dX6_bound_34 : decode cX6_bound 34 = .ok (.iinc 4 1, 3) := by decide +kernel
theorem dX6_bound_37 : decode cX6_bound 37 = .ok (.goto (-24), 3) := by decide +kernel
theorem dX6_bound_40 : decode cX6_bound 40 = .ok (.aload_n 0, 1) := by decide +kernel
theorem dX6_bound_41 : decode cX6_bound 41 = .ok (.getfield 51, 3) := by decide +kernel
theorem dX6_bound_44 : decode cX6_bound 44 = .ok (.iload_n 2, 1) := by decide +kernel
theorem dX6_bound_45 : decode cX6_bound 45 = .ok (.iconst 1, 1) := by decide +kernel
theorem dX6_bound_46 : decode cX6_bound 46 = .ok (.iload_n 3, 1) := by decide +kernel
theorem dX6_bound_47 : decode cX6_bound 47 = .ok (.ishl, 1) := by decide +kernel
theorem dX6_bound_48 : decode cX6_bound 48 = .ok (.iconst 1, 1) := by decide +kernel
theorem dX6_bound_49 : decode cX6_bound 49 = .ok (.isub, 1) := by decide +kernel
theorem dX6_bound_50 : decode cX6_bound 50 = .ok (.iastore, 1) := by decide +kernel
theorem dX6_bound_51 : decode cX6_bound 51 = .ok (.iinc 2 1, 3) := by decide +kernel
theorem dX6_bound_54 : decode cX6_bound 54 = .ok (.goto (-52), 3) := by decide +kernel
theorem dX6_bound_57 : decode cX6_bound 57 = .ok (.aload_n 0, 1) := by decide +kernel
theorem dX6_bound_58 : decode cX6_bound 58 = .ok (.getfield 109, 3) := by decide +kernel
theorem dX6_bound_61 : decode cX6_bound 61 = .ok (.iconst 1, 1) := by decide +kernel
theorem dX6_bound_62 : decode cX6_bound 62 = .ok (.isub, 1) := by decide +kernel
theorem dX6_bound_63 : decode cX6_bound 63 = .ok (.istore_n 2, 1) := by decide +kernel
theorem dX6_bound_64 : decode cX6_bound 64 = .ok (.iload_n 2, 1) := by decide +kernel
theorem dX6_bound_65 : decode cX6_bound 65 = .ok (.ifCond .lt 80, 3) := by decide +kernel
theorem dX6_bound_68 : decode cX6_bound 68 = .ok (.iconst 0, 1) := by decide +kernel
theorem dX6_bound_69 : decode cX6_bound 69 = .ok (.istore_n 3, 1) := by decide +kernel
theorem dX6_bound_70 : decode cX6_bound 70 = .ok (.iload_n 3, 1) := by decide +kernel
theorem dX6_bound_71 : decode cX6_bound 71 = .ok (.aload_n 0, 1) := by decide +kernel
theorem dX6_bound_72 : decode cX6_bound 72 = .ok (.getfield 38, 3) := by decide +kernel
theorem dX6_bound_75 : decode cX6_bound 75 = .ok (.iload_n 2, 1) := by decide +kernel
theorem dX6_bound_76 : decode cX6_bound 76 = .ok (.iaload, 1) := by decide +kernel
theorem dX6_bound_77 : decode cX6_bound 77 = .ok (.if_icmp .ge 27, 3) := by decide +kernel
theorem dX6_bound_80 : decode cX6_bound 80 = .ok (.aload_n 0, 1) := by decide +kernel
theorem dX6_bound_81 : decode cX6_bound 81 = .ok (.aload_n 0, 1) := by decide +kernel
theorem dX6_bound_82 : decode cX6_bound 82 = .ok (.iload_n 3, 1) := by decide +kernel
theorem dX6_bound_83 : decode cX6_bound 83 = .ok (.iconst 0, 1) := by decide +kernel
theorem dX6_bound_84 : decode cX6_bound 84 = .ok (.invokevirtual 116, 3) := by decide +kernel
theorem dX6_bound_87 : decode cX6_bound 87 = .ok (.bipush 8, 2) := by decide +kernel
theorem dX6_bound_89 : decode cX6_bound 89 = .ok (.aload_n 0, 1) := by decide +kernel
theorem dX6_bound_90 : decode cX6_bound 90 = .ok (.getfield 41, 3) := by decide +kernel
theorem dX6_bound_93 : decode cX6_bound 93 = .ok (.iload_n 2, 1) := by decide +kernel
theorem dX6_bound_94 : decode cX6_bound 94 = .ok (.iaload, 1) := by decide +kernel
theorem dX6_bound_95 : decode cX6_bound 95 = .ok (.invokevirtual 211, 3) := by decide +kernel
theorem dX6_bound_98 : decode cX6_bound 98 = .ok (.iinc 3 1, 3) := by decide +kernel
theorem dX6_bound_101 : decode cX6_bound 101 = .ok (.goto (-31), 3) := by decide +kernel
theorem dX6_bound_104 : decode cX6_bound 104 = .ok (.iconst 0, 1) := by decide +kernel
theorem dX6_bound_105 : decode cX6_bound 105 = .ok (.istore_n 3, 1) := by decide +kernel
theorem dX6_bound_106 : decode cX6_bound 106 = .ok (.iload_n 3, 1) := by decide +kernel
theorem dX6_bound_107 : decode cX6_bound 107 = .ok (.aload_n 0, 1) := by decide +kernel
theorem dX6_bound_108 : decode cX6_bound 108 = .ok (.getfield 41, 3) := by decide +kernel
theorem dX6_bound_111 : decode cX6_bound 111 = .ok (.iload_n 2, 1) := by decide +kernel
theorem dX6_bound_112 : decode cX6_bound 112 = .ok (.iaload, 1) := by decide +kernel
theorem dX6_bound_113 : decode cX6_bound 113 = .ok (.if_icmp .ge 26, 3) := by decide +kernel
theorem dX6_bound_116 : decode cX6_bound 116 = .ok (.aload_n 0, 1) := by decide +kernel
theorem dX6_bound_117 : decode cX6_bound 117 = .ok (.aload_n 0, 1) := by decide +kernel
theorem dX6_bound_118 : decode cX6_bound 118 = .ok (.iconst 0, 1) := by decide +kernel
theorem dX6_bound_119 : decode cX6_bound 119 = .ok (.iload_n 3, 1) := by decide +kernel
theorem dX6_bound_120 : decode cX6_bound 120 = .ok (.invokevirtual 116, 3) := by decide +kernel
theorem dX6_bound_123 : decode cX6_bound 123 = .ok (.iconst 1, 1) := by decide +kernel
theorem dX6_bound_124 : decode cX6_bound 124 = .ok (.aload_n 0, 1) := by decide +kernel
theorem dX6_bound_125 : decode cX6_bound 125 = .ok (.getfield 38, 3) := by decide +kernel
theorem dX6_bound_128 : decode cX6_bound 128 = .ok (.iload_n 2, 1) := by decide +kernel
theorem dX6_bound_129 : decode cX6_bound 129 = .ok (.iaload, 1) := by decide +kernel
theorem dX6_bound_130 : decode cX6_bound 130 = .ok (.invokevirtual 211, 3) := by decide +kernel
theorem dX6_bound_133 : decode cX6_bound 133 = .ok (.iinc 3 1, 3) := by decide +kernel
theorem dX6_bound_136 : decode cX6_bound 136 = .ok (.goto (-30), 3) := by decide +kernel
theorem dX6_bound_139 : decode cX6_bound 139 = .ok (.iinc 2 (-1), 3) := by decide +kernel
theorem dX6_bound_142 : decode cX6_bound 142 = .ok (.goto (-78), 3) := by decide +kernel
theorem dX6_bound_145 : decode cX6_bound 145 = .ok (.iconst 0, 1) := by decide +kernel
theorem dX6_bound_146 : decode cX6_bound 146 = .ok (.istore_n 2, 1) := by decide +kernel
theorem dX6_bound_147 : decode cX6_bound 147 = .ok (.iconst 0, 1) := by decide +kernel
theorem dX6_bound_148 : decode cX6_bound 148 = .ok (.istore_n 3, 1) := by decide +kernel
theorem dX6_bound_149 : decode cX6_bound 149 = .ok (.iload_n 3, 1) := by decide +kernel
theorem dX6_bound_150 : decode cX6_bound 150 = .ok (.aload_n 0, 1) := by decide +kernel
theorem dX6_bound_151 : decode cX6_bound 151 = .ok (.getfield 41, 3) := by decide +kernel
theorem dX6_bound_154 : decode cX6_bound 154 = .ok (.iconst 0, 1) := by decide +kernel
theorem dX6_bound_155 : decode cX6_bound 155 = .ok (.iaload, 1) := by decide +kernel
theorem dX6_bound_156 : decode cX6_bound 156 = .ok (.if_icmp .ge 46, 3) := by decide +kernel
theorem dX6_bound_159 : decode cX6_bound 159 = .ok (.iconst 0, 1) := by decide +kernel
theorem dX6_bound_160 : decode cX6_bound 160 = .ok (.istore 4, 2) := by decide +kernel
theorem dX6_bound_162 : decode cX6_bound 162 = .ok (.iload 4, 2) := by decide +kernel
theorem dX6_bound_164 : decode cX6_bound 164 = .ok (.aload_n 0, 1) := by decide +kernel
theorem dX6_bound_165 : decode cX6_bound 165 = .ok (.getfield 38, 3) := by decide +kernel
theorem dX6_bound_168 : decode cX6_bound 168 = .ok (.iconst 0, 1) := by decide +kernel
theorem dX6_bound_169 : decode cX6_bound 169 = .ok (.iaload, 1) := by decide +kernel
theorem dX6_bound_170 : decode cX6_bound 170 = .ok (.if_icmp .ge 26, 3) := by decide +kernel
theorem dX6_bound_173 : decode cX6_bound 173 = .ok (.iload_n 2, 1) := by decide +kernel
theorem dX6_bound_174 : decode cX6_bound 174 = .ok (.aload_n 0, 1) := by decide +kernel
theorem dX6_bound_175 : decode cX6_bound 175 = .ok (.getfield 51, 3) := by decide +kernel
theorem dX6_bound_178 : decode cX6_bound 178 = .ok (.aload_n 0, 1) := by decide +kernel
theorem dX6_bound_179 : decode cX6_bound 179 = .ok (.iload 4, 2) := by decide +kernel
theorem dX6_bound_181 : decode cX6_bound 181 = .ok (.iload_n 3, 1) := by decide +kernel
theorem dX6_bound_182 : decode cX6_bound 182 = .ok (.invokevirtual 116, 3) := by decide +kernel
theorem dX6_bound_185 : decode cX6_bound 185 = .ok (.iaload, 1) := by decide +kernel
theorem dX6_bound_186 : decode cX6_bound 186 = .ok (.invokestatic 126, 3) := by decide +kernel
theorem dX6_bound_189 : decode cX6_bound 189 = .ok (.istore_n 2, 1) := by decide +kernel
theorem dX6_bound_190 : decode cX6_bound 190 = .ok (.iinc 4 1, 3) := by decide +kernel
theorem dX6_bound_193 : decode cX6_bound 193 = .ok (.goto (-31), 3) := by decide +kernel
theorem dX6_bound_196 : decode cX6_bound 196 = .ok (.iinc 3 1, 3) := by decide +kernel
theorem dX6_bound_199 : decode cX6_bound 199 = .ok (.goto (-50), 3) := by decide +kernel
theorem dX6_bound_202 : decode cX6_bound 202 = .ok (.sipush 255, 3) := by decide +kernel
theorem dX6_bound_205 : decode cX6_bound 205 = .ok (.iload_n 2, 1) := by decide +kernel
theorem dX6_bound_206 : decode cX6_bound 206 = .ok (.invokestatic 103, 3) := by decide +kernel
theorem dX6_bound_209 : decode cX6_bound 209 = .ok (.ireturn, 1) := by decide +kernel
theorem dX6_worst_0 : decode cX6_worst 0 = .ok (.aload_n 0, 1) := by decide +kernel
theorem dX6_worst_1 : decode cX6_worst 1 = .ok (.iconst 0, 1) := by decide +kernel
theorem dX6_worst_2 : decode cX6_worst 2 = .ok (.putfield 74, 3) := by decide +kernel
theorem dX6_worst_5 : decode cX6_worst 5 = .ok (.iload_n 1, 1) := by decide +kernel
theorem dX6_worst_6 : decode cX6_worst 6 = .ok (.iconst 0, 1) := by decide +kernel
theorem dX6_worst_7 : decode cX6_worst 7 = .ok (.bipush 9, 2) := by decide +kernel
theorem dX6_worst_9 : decode cX6_worst 9 = .ok (.invokestatic 81, 3) := by decide +kernel
theorem dX6_worst_12 : decode cX6_worst 12 = .ok (.ifCond .ne 9, 3) := by decide +kernel
theorem dX6_worst_15 : decode cX6_worst 15 = .ok (.aload_n 0, 1) := by decide +kernel
theorem dX6_worst_16 : decode cX6_worst 16 = .ok (.iconst 1, 1) := by decide +kernel
theorem dX6_worst_17 : decode cX6_worst 17 = .ok (.invokevirtual 142, 3) := by decide +kernel
theorem dX6_worst_20 : decode cX6_worst 20 = .ok (.ireturn, 1) := by decide +kernel
theorem dX6_worst_21 : decode cX6_worst 21 = .ok (.aload_n 0, 1) := by decide +kernel
theorem dX6_worst_22 : decode cX6_worst 22 = .ok (.iload_n 2, 1) := by decide +kernel
theorem dX6_worst_23 : decode cX6_worst 23 = .ok (.invokevirtual 165, 3) := by decide +kernel
theorem dX6_worst_26 : decode cX6_worst 26 = .ok (.ifCond .ne 9, 3) := by decide +kernel
theorem dX6_worst_29 : decode cX6_worst 29 = .ok (.aload_n 0, 1) := by decide +kernel
theorem dX6_worst_30 : decode cX6_worst 30 = .ok (.iconst 2, 1) := by decide +kernel
theorem dX6_worst_31 : decode cX6_worst 31 = .ok (.invokevirtual 142, 3) := by decide +kernel
theorem dX6_worst_34 : decode cX6_worst 34 = .ok (.ireturn, 1) := by decide +kernel
theorem dX6_worst_35 : decode cX6_worst 35 = .ok (.aload_n 0, 1) := by decide +kernel
theorem dX6_worst_36 : decode cX6_worst 36 = .ok (.iload_n 2, 1) := by decide +kernel
theorem dX6_worst_37 : decode cX6_worst 37 = .ok (.invokevirtual 169, 3) := by decide +kernel
theorem dX6_worst_40 : decode cX6_worst 40 = .ok (.iload_n 3, 1) := by decide +kernel
theorem dX6_worst_41 : decode cX6_worst 41 = .ok (.ifCond .eq 9, 3) := by decide +kernel
theorem dX6_worst_44 : decode cX6_worst 44 = .ok (.aload_n 0, 1) := by decide +kernel
theorem dX6_worst_45 : decode cX6_worst 45 = .ok (.iload_n 1, 1) := by decide +kernel
theorem dX6_worst_46 : decode cX6_worst 46 = .ok (.invokevirtual 214, 3) := by decide +kernel
theorem dX6_worst_49 : decode cX6_worst 49 = .ok (.ireturn, 1) := by decide +kernel
theorem dX6_worst_50 : decode cX6_worst 50 = .ok (.aload_n 0, 1) := by decide +kernel
theorem dX6_worst_51 : decode cX6_worst 51 = .ok (.iload_n 1, 1) := by decide +kernel
theorem dX6_worst_52 : decode cX6_worst 52 = .ok (.invokevirtual 181, 3) := by decide +kernel
theorem dX6_worst_55 : decode cX6_worst 55 = .ok (.aload_n 0, 1) := by decide +kernel
theorem dX6_worst_56 : decode cX6_worst 56 = .ok (.invokevirtual 217, 3) := by decide +kernel
theorem dX6_worst_59 : decode cX6_worst 59 = .ok (.ireturn, 1) := by decide +kernel
theorem dX6_meanSquare_0 : decode cX6_meanSquare 0 = .ok (.aload_n 0, 1) := by decide +kernel
theorem dX6_meanSquare_1 : decode cX6_meanSquare 1 = .ok (.iload_n 1, 1) := by decide +kernel
theorem dX6_meanSquare_2 : decode cX6_meanSquare 2 = .ok (.iconst 0, 1) := by decide +kernel
theorem dX6_meanSquare_3 : decode cX6_meanSquare 3 = .ok (.bipush 9, 2) := by decide +kernel
theorem dX6_meanSquare_5 : decode cX6_meanSquare 5 = .ok (.invokestatic 81, 3) := by decide +kernel
theorem dX6_meanSquare_8 : decode cX6_meanSquare 8 = .ok (.ifCond .eq 7, 3) := by decide +kernel
theorem dX6_meanSquare_11 : decode cX6_meanSquare 11 = .ok (.iconst 0, 1) := by decide +kernel
theorem dX6_meanSquare_12 : decode cX6_meanSquare 12 = .ok (.goto 4, 3) := by decide +kernel
theorem dX6_meanSquare_15 : decode cX6_meanSquare 15 = .ok (.iconst 1, 1) := by decide +kernel
theorem dX6_meanSquare_16 : decode cX6_meanSquare 16 = .ok (.putfield 74, 3) := by decide +kernel
theorem dX6_meanSquare_19 : decode cX6_meanSquare 19 = .ok (.aload_n 0, 1) := by decide +kernel
theorem dX6_meanSquare_20 : decode cX6_meanSquare 20 = .ok (.getfield 74, 3) := by decide +kernel
theorem dX6_meanSquare_23 : decode cX6_meanSquare 23 = .ok (.ifCond .le 5, 3) := by decide +kernel
theorem dX6_meanSquare_26 : decode cX6_meanSquare 26 = .ok (.dconst 0, 1) := by decide +kernel
theorem dX6_meanSquare_27 : decode cX6_meanSquare 27 = .ok (.dreturn, 1) := by decide +kernel
theorem dX6_meanSquare_28 : decode cX6_meanSquare 28 = .ok (.iconst 0, 1) := by decide +kernel
theorem dX6_meanSquare_29 : decode cX6_meanSquare 29 = .ok (.istore_n 2, 1) := by decide +kernel
theorem dX6_meanSquare_30 : decode cX6_meanSquare 30 = .ok (.iconst 0, 1) := by decide +kernel
theorem dX6_meanSquare_31 : decode cX6_meanSquare 31 = .ok (.istore_n 3, 1) := by decide +kernel
theorem dX6_meanSquare_32 : decode cX6_meanSquare 32 = .ok (.iload_n 3, 1) := by decide +kernel
theorem dX6_meanSquare_33 : decode cX6_meanSquare 33 = .ok (.aload_n 0, 1) := by decide +kernel
theorem dX6_meanSquare_34 : decode cX6_meanSquare 34 = .ok (.invokevirtual 91, 3) := by decide +kernel
theorem dX6_meanSquare_37 : decode cX6_meanSquare 37 = .ok (.if_icmp .ge 79, 3) := by decide +kernel
theorem dX6_meanSquare_40 : decode cX6_meanSquare 40 = .ok (.aload_n 0, 1) := by decide +kernel
theorem dX6_meanSquare_41 : decode cX6_meanSquare 41 = .ok (.iload_n 3, 1) := by decide +kernel
theorem dX6_meanSquare_42 : decode cX6_meanSquare 42 = .ok (.invokevirtual 169, 3) := by decide +kernel
theorem dX6_meanSquare_45 : decode cX6_meanSquare 45 = .ok (.aload_n 0, 1) := by decide +kernel
theorem dX6_meanSquare_46 : decode cX6_meanSquare 46 = .ok (.iload_n 1, 1) := by decide +kernel
theorem dX6_meanSquare_47 : decode cX6_meanSquare 47 = .ok (.invokevirtual 181, 3) := by decide +kernel
theorem dX6_meanSquare_50 : decode cX6_meanSquare 50 = .ok (.iconst 0, 1) := by decide +kernel
theorem dX6_meanSquare_51 : decode cX6_meanSquare 51 = .ok (.istore 4, 2) := by decide +kernel
theorem dX6_meanSquare_53 : decode cX6_meanSquare 53 = .ok (.iload 4, 2) := by decide +kernel
theorem dX6_meanSquare_55 : decode cX6_meanSquare 55 = .ok (.aload_n 0, 1) := by decide +kernel
theorem dX6_meanSquare_56 : decode cX6_meanSquare 56 = .ok (.getfield 41, 3) := by decide +kernel
theorem dX6_meanSquare_59 : decode cX6_meanSquare 59 = .ok (.iconst 0, 1) := by decide +kernel
theorem dX6_meanSquare_60 : decode cX6_meanSquare 60 = .ok (.iaload, 1) := by decide +kernel
theorem dX6_meanSquare_61 : decode cX6_meanSquare 61 = .ok (.if_icmp .ge 49, 3) := by decide +kernel
theorem dX6_meanSquare_64 : decode cX6_meanSquare 64 = .ok (.iconst 0, 1) := by decide +kernel
theorem dX6_meanSquare_65 : decode cX6_meanSquare 65 = .ok (.istore 5, 2) := by decide +kernel
theorem dX6_meanSquare_67 : decode cX6_meanSquare 67 = .ok (.iload 5, 2) := by decide +kernel
theorem dX6_meanSquare_69 : decode cX6_meanSquare 69 = .ok (.aload_n 0, 1) := by decide +kernel
theorem dX6_meanSquare_70 : decode cX6_meanSquare 70 = .ok (.getfield 38, 3) := by decide +kernel
theorem dX6_meanSquare_73 : decode cX6_meanSquare 73 = .ok (.iconst 0, 1) := by decide +kernel
theorem dX6_meanSquare_74 : decode cX6_meanSquare 74 = .ok (.iaload, 1) := by decide +kernel
theorem dX6_meanSquare_75 : decode cX6_meanSquare 75 = .ok (.if_icmp .ge 29, 3) := by decide +kernel
theorem dX6_meanSquare_78 : decode cX6_meanSquare 78 = .ok (.iload_n 2, 1) := by decide +kernel
theorem dX6_meanSquare_79 : decode cX6_meanSquare 79 = .ok (.aload_n 0, 1) := by decide +kernel
theorem dX6_meanSquare_80 : decode cX6_meanSquare 80 = .ok (.iload 5, 2) := by decide +kernel
theorem dX6_meanSquare_82 : decode cX6_meanSquare 82 = .ok (.iload 4, 2) := by decide +kernel
theorem dX6_meanSquare_84 : decode cX6_meanSquare 84 = .ok (.invokevirtual 139, 3) := by decide +kernel
theorem dX6_meanSquare_87 : decode cX6_meanSquare 87 = .ok (.aload_n 0, 1) := by decide +kernel
theorem dX6_meanSquare_88 : decode cX6_meanSquare 88 = .ok (.iload 5, 2) := by decide +kernel
theorem dX6_meanSquare_90 : decode cX6_meanSquare 90 = .ok (.iload 4, 2) := by decide +kernel
theorem dX6_meanSquare_92 : decode cX6_meanSquare 92 = .ok (.invokevirtual 139, 3) := by decide +kernel
theorem dX6_meanSquare_95 : decode cX6_meanSquare 95 = .ok (.imul, 1) := by decide +kernel
theorem dX6_meanSquare_96 : decode cX6_meanSquare 96 = .ok (.iadd, 1) := by decide +kernel
theorem dX6_meanSquare_97 : decode cX6_meanSquare 97 = .ok (.istore_n 2, 1) := by decide +kernel
theorem dX6_meanSquare_98 : decode cX6_meanSquare 98 = .ok (.iinc 5 1, 3) := by decide +kernel
theorem dX6_meanSquare_101 : decode cX6_meanSquare 101 = .ok (.goto (-34), 3) := by decide +kernel
theorem dX6_meanSquare_104 : decode cX6_meanSquare 104 = .ok (.iinc 4 1, 3) := by decide +kernel
theorem dX6_meanSquare_107 : decode cX6_meanSquare 107 = .ok (.goto (-54), 3) := by decide +kernel
theorem dX6_meanSquare_110 : decode cX6_meanSquare 110 = .ok (.iinc 3 1, 3) := by decide +kernel
theorem dX6_meanSquare_113 : decode cX6_meanSquare 113 = .ok (.goto (-81), 3) := by decide +kernel
theorem dX6_meanSquare_116 : decode cX6_meanSquare 116 = .ok (.iload_n 2, 1) := by decide +kernel
theorem dX6_meanSquare_117 : decode cX6_meanSquare 117 = .ok (.i2d, 1) := by decide +kernel
theorem dX6_meanSquare_118 : decode cX6_meanSquare 118 = .ok (.aload_n 0, 1) := by decide +kernel
theorem dX6_meanSquare_119 : decode cX6_meanSquare 119 = .ok (.invokevirtual 77, 3) := by decide +kernel
theorem dX6_meanSquare_122 : decode cX6_meanSquare 122 = .ok (.aload_n 0, 1) := by decide +kernel
theorem dX6_meanSquare_123 : decode cX6_meanSquare 123 = .ok (.invokevirtual 85, 3) := by decide +kernel
theorem dX6_meanSquare_126 : decode cX6_meanSquare 126 = .ok (.imul, 1) := by decide +kernel
theorem dX6_meanSquare_127 : decode cX6_meanSquare 127 = .ok (.i2d, 1) := by decide +kernel
theorem dX6_meanSquare_128 : decode cX6_meanSquare 128 = .ok (.ddiv, 1) := by decide +kernel
theorem dX6_meanSquare_129 : decode cX6_meanSquare 129 = .ok (.dreturn, 1) := by decide +kernel
theorem dX6_worstWith_0 : decode cX6_worstWith 0 = .ok (.aload_n 0, 1) := by decide +kernel
theorem dX6_worstWith_1 : decode cX6_worstWith 1 = .ok (.iload_n 1, 1) := by decide +kernel
theorem dX6_worstWith_2 : decode cX6_worstWith 2 = .ok (.invokevirtual 169, 3) := by decide +kernel
theorem dX6_worstWith_5 : decode cX6_worstWith 5 = .ok (.aload_n 0, 1) := by decide +kernel
theorem dX6_worstWith_6 : decode cX6_worstWith 6 = .ok (.iload_n 2, 1) := by decide +kernel
theorem dX6_worstWith_7 : decode cX6_worstWith 7 = .ok (.invokevirtual 181, 3) := by decide +kernel
theorem dX6_worstWith_10 : decode cX6_worstWith 10 = .ok (.aload_n 0, 1) := by decide +kernel
theorem dX6_worstWith_11 : decode cX6_worstWith 11 = .ok (.invokevirtual 217, 3) := by decide +kernel
theorem dX6_worstWith_14 : decode cX6_worstWith 14 = .ok (.ireturn, 1) := by decide +kernel
theorem dX6_plan_0 : decode cX6_plan 0 = .ok (.aload_n 0, 1) := by decide +kernel
theorem dX6_plan_1 : decode cX6_plan 1 = .ok (.iconst 0, 1) := by decide +kernel
theorem dX6_plan_2 : decode cX6_plan 2 = .ok (.putfield 74, 3) := by decide +kernel
theorem dX6_plan_5 : decode cX6_plan 5 = .ok (.iload_n 1, 1) := by decide +kernel
theorem dX6_plan_6 : decode cX6_plan 6 = .ok (.iconst 0, 1) := by decide +kernel
theorem dX6_plan_7 : decode cX6_plan 7 = .ok (.sipush 9999, 3) := by decide +kernel
theorem dX6_plan_10 : decode cX6_plan 10 = .ok (.invokestatic 81, 3) := by decide +kernel
theorem dX6_plan_13 : decode cX6_plan 13 = .ok (.ifCond .ne 9, 3) := by decide +kernel
theorem dX6_plan_16 : decode cX6_plan 16 = .ok (.aload_n 0, 1) := by decide +kernel
theorem dX6_plan_17 : decode cX6_plan 17 = .ok (.iconst 1, 1) := by decide +kernel
theorem dX6_plan_18 : decode cX6_plan 18 = .ok (.invokevirtual 142, 3) := by decide +kernel
theorem dX6_plan_21 : decode cX6_plan 21 = .ok (.ireturn, 1) := by decide +kernel
theorem dX6_plan_22 : decode cX6_plan 22 = .ok (.aload_n 0, 1) := by decide +kernel
theorem dX6_plan_23 : decode cX6_plan 23 = .ok (.aload_n 0, 1) := by decide +kernel
theorem dX6_plan_24 : decode cX6_plan 24 = .ok (.invokevirtual 91, 3) := by decide +kernel
theorem dX6_plan_27 : decode cX6_plan 27 = .ok (.putfield 29, 3) := by decide +kernel
theorem dX6_plan_30 : decode cX6_plan 30 = .ok (.iload_n 1, 1) := by decide +kernel
theorem dX6_plan_31 : decode cX6_plan 31 = .ok (.istore_n 2, 1) := by decide +kernel
theorem dX6_plan_32 : decode cX6_plan 32 = .ok (.iconst 0, 1) := by decide +kernel
theorem dX6_plan_33 : decode cX6_plan 33 = .ok (.istore_n 3, 1) := by decide +kernel
theorem dX6_plan_34 : decode cX6_plan 34 = .ok (.iload_n 3, 1) := by decide +kernel
theorem dX6_plan_35 : decode cX6_plan 35 = .ok (.aload_n 0, 1) := by decide +kernel
theorem dX6_plan_36 : decode cX6_plan 36 = .ok (.getfield 29, 3) := by decide +kernel
theorem dX6_plan_39 : decode cX6_plan 39 = .ok (.if_icmp .ge 28, 3) := by decide +kernel
theorem dX6_plan_42 : decode cX6_plan 42 = .ok (.aload_n 0, 1) := by decide +kernel
theorem dX6_plan_43 : decode cX6_plan 43 = .ok (.getfield 32, 3) := by decide +kernel
theorem dX6_plan_46 : decode cX6_plan 46 = .ok (.iload_n 3, 1) := by decide +kernel
theorem dX6_plan_47 : decode cX6_plan 47 = .ok (.iconst 0, 1) := by decide +kernel
theorem dX6_plan_48 : decode cX6_plan 48 = .ok (.iastore, 1) := by decide +kernel
theorem dX6_plan_49 : decode cX6_plan 49 = .ok (.aload_n 0, 1) := by decide +kernel
theorem dX6_plan_50 : decode cX6_plan 50 = .ok (.getfield 35, 3) := by decide +kernel
theorem dX6_plan_53 : decode cX6_plan 53 = .ok (.iload_n 3, 1) := by decide +kernel
theorem dX6_plan_54 : decode cX6_plan 54 = .ok (.aload_n 0, 1) := by decide +kernel
theorem dX6_plan_55 : decode cX6_plan 55 = .ok (.iload_n 3, 1) := by decide +kernel
theorem dX6_plan_56 : decode cX6_plan 56 = .ok (.iconst 0, 1) := by decide +kernel
theorem dX6_plan_57 : decode cX6_plan 57 = .ok (.invokevirtual 220, 3) := by decide +kernel
theorem dX6_plan_60 : decode cX6_plan 60 = .ok (.iastore, 1) := by decide +kernel
theorem dX6_plan_61 : decode cX6_plan 61 = .ok (.iinc 3 1, 3) := by decide +kernel
theorem dX6_plan_64 : decode cX6_plan 64 = .ok (.goto (-30), 3) := by decide +kernel
theorem dX6_plan_67 : decode cX6_plan 67 = .ok (.iconst 1, 1) := by decide +kernel
theorem dX6_plan_68 : decode cX6_plan 68 = .ok (.istore_n 3, 1) := by decide +kernel
theorem dX6_plan_69 : decode cX6_plan 69 = .ok (.iload_n 3, 1) := by decide +kernel
theorem dX6_plan_70 : decode cX6_plan 70 = .ok (.ifCond .eq 167, 3) := by decide +kernel
theorem dX6_plan_73 : decode cX6_plan 73 = .ok (.iconst (-1), 1) := by decide +kernel
theorem dX6_plan_74 : decode cX6_plan 74 = .ok (.istore 4, 2) := by decide +kernel
theorem dX6_plan_76 : decode cX6_plan 76 = .ok (.iconst 0, 1) := by decide +kernel
theorem dX6_plan_77 : decode cX6_plan 77 = .ok (.istore 5, 2) := by decide +kernel
theorem dX6_plan_79 : decode cX6_plan 79 = .ok (.iconst 0, 1) := by decide +kernel
theorem dX6_plan_80 : decode cX6_plan 80 = .ok (.istore 6, 2) := by decide +kernel
theorem dX6_plan_82 : decode cX6_plan 82 = .ok (.iload 6, 2) := by decide +kernel
theorem dX6_plan_84 : decode cX6_plan 84 = .ok (.aload_n 0, 1) := by decide +kernel
theorem dX6_plan_85 : decode cX6_plan 85 = .ok (.getfield 29, 3) := by decide +kernel
theorem dX6_plan_88 : decode cX6_plan 88 = .ok (.if_icmp .ge 92, 3) := by decide +kernel
theorem dX6_plan_91 : decode cX6_plan 91 = .ok (.aload_n 0, 1) := by decide +kernel
theorem dX6_plan_92 : decode cX6_plan 92 = .ok (.getfield 32, 3) := by decide +kernel
theorem dX6_plan_95 : decode cX6_plan 95 = .ok (.iload 6, 2) := by decide +kernel
theorem dX6_plan_97 : decode cX6_plan 97 = .ok (.iaload, 1) := by decide +kernel
theorem dX6_plan_98 : decode cX6_plan 98 = .ok (.bipush 9, 2) := by decide +kernel
theorem dX6_plan_100 : decode cX6_plan 100 = .ok (.if_icmp .eq 74, 3) := by decide +kernel
theorem dX6_plan_103 : decode cX6_plan 103 = .ok (.aload_n 0, 1) := by decide +kernel
theorem dX6_plan_104 : decode cX6_plan 104 = .ok (.getfield 35, 3) := by decide +kernel
theorem dX6_plan_107 : decode cX6_plan 107 = .ok (.iload 6, 2) := by decide +kernel
theorem dX6_plan_109 : decode cX6_plan 109 = .ok (.iaload, 1) := by decide +kernel
theorem dX6_plan_110 : decode cX6_plan 110 = .ok (.ifCond .eq 64, 3) := by decide +kernel
theorem dX6_plan_113 : decode cX6_plan 113 = .ok (.iload 4, 2) := by decide +kernel
theorem dX6_plan_115 : decode cX6_plan 115 = .ok (.ifCond .lt 23, 3) := by decide +kernel
theorem dX6_plan_118 : decode cX6_plan 118 = .ok (.aload_n 0, 1) := by decide +kernel
theorem dX6_plan_119 : decode cX6_plan 119 = .ok (.getfield 35, 3) := by decide +kernel
theorem dX6_plan_122 : decode cX6_plan 122 = .ok (.iload 6, 2) := by decide +kernel
theorem dX6_plan_124 : decode cX6_plan 124 = .ok (.iaload, 1) := by decide +kernel
theorem dX6_plan_125 : decode cX6_plan 125 = .ok (.aload_n 0, 1) := by decide +kernel
theorem dX6_plan_126 : decode cX6_plan 126 = .ok (.getfield 35, 3) := by decide +kernel
theorem dX6_plan_129 : decode cX6_plan 129 = .ok (.iload 4, 2) := by decide +kernel
theorem dX6_plan_131 : decode cX6_plan 131 = .ok (.iaload, 1) := by decide +kernel
theorem dX6_plan_132 : decode cX6_plan 132 = .ok (.if_icmp .gt 6, 3) := by decide +kernel
theorem dX6_plan_135 : decode cX6_plan 135 = .ok (.goto 39, 3) := by decide +kernel
theorem dX6_plan_138 : decode cX6_plan 138 = .ok (.aload_n 0, 1) := by decide +kernel
theorem dX6_plan_139 : decode cX6_plan 139 = .ok (.iload 6, 2) := by decide +kernel
theorem dX6_plan_141 : decode cX6_plan 141 = .ok (.invokevirtual 169, 3) := by decide +kernel
theorem dX6_plan_144 : decode cX6_plan 144 = .ok (.aload_n 0, 1) := by decide +kernel
theorem dX6_plan_145 : decode cX6_plan 145 = .ok (.aload_n 0, 1) := by decide +kernel
theorem dX6_plan_146 : decode cX6_plan 146 = .ok (.getfield 32, 3) := by decide +kernel
theorem dX6_plan_149 : decode cX6_plan 149 = .ok (.iload 6, 2) := by decide +kernel
theorem dX6_plan_151 : decode cX6_plan 151 = .ok (.iaload, 1) := by decide +kernel
theorem dX6_plan_152 : decode cX6_plan 152 = .ok (.invokevirtual 190, 3) := by decide +kernel
theorem dX6_plan_155 : decode cX6_plan 155 = .ok (.istore 7, 2) := by decide +kernel
theorem dX6_plan_157 : decode cX6_plan 157 = .ok (.iload 7, 2) := by decide +kernel
theorem dX6_plan_159 : decode cX6_plan 159 = .ok (.iload_n 2, 1) := by decide +kernel
theorem dX6_plan_160 : decode cX6_plan 160 = .ok (.if_icmp .le 6, 3) := by decide +kernel
theorem dX6_plan_163 : decode cX6_plan 163 = .ok (.goto 11, 3) := by decide +kernel
theorem dX6_plan_166 : decode cX6_plan 166 = .ok (.iload 6, 2) := by decide +kernel
theorem dX6_plan_168 : decode cX6_plan 168 = .ok (.istore 4, 2) := by decide +kernel
theorem dX6_plan_170 : decode cX6_plan 170 = .ok (.iload 7, 2) := by decide +kernel
theorem dX6_plan_172 : decode cX6_plan 172 = .ok (.istore 5, 2) := by decide +kernel
theorem dX6_plan_174 : decode cX6_plan 174 = .ok (.iinc 6 1, 3) := by decide +kernel
theorem dX6_plan_177 : decode cX6_plan 177 = .ok (.goto (-95), 3) := by decide +kernel
theorem dX6_plan_180 : decode cX6_plan 180 = .ok (.iload 4, 2) := by decide +kernel
theorem dX6_plan_182 : decode cX6_plan 182 = .ok (.ifCond .lt 7, 3) := by decide +kernel
theorem dX6_plan_185 : decode cX6_plan 185 = .ok (.iconst 1, 1) := by decide +kernel
theorem dX6_plan_186 : decode cX6_plan 186 = .ok (.goto 4, 3) := by decide +kernel
theorem dX6_plan_189 : decode cX6_plan 189 = .ok (.iconst 0, 1) := by decide +kernel
theorem dX6_plan_190 : decode cX6_plan 190 = .ok (.istore_n 3, 1) := by decide +kernel
theorem dX6_plan_191 : decode cX6_plan 191 = .ok (.iload_n 3, 1) := by decide +kernel
theorem dX6_plan_192 : decode cX6_plan 192 = .ok (.ifCond .ne 6, 3) := by decide +kernel
theorem dX6_plan_195 : decode cX6_plan 195 = .ok (.goto (-126), 3) := by decide +kernel
theorem dX6_plan_198 : decode cX6_plan 198 = .ok (.iload_n 2, 1) := by decide +kernel
theorem dX6_plan_199 : decode cX6_plan 199 = .ok (.iload 5, 2) := by decide +kernel
theorem dX6_plan_201 : decode cX6_plan 201 = .ok (.isub, 1) := by decide +kernel
theorem dX6_plan_202 : decode cX6_plan 202 = .ok (.istore_n 2, 1) := by decide +kernel
theorem dX6_plan_203 : decode cX6_plan 203 = .ok (.aload_n 0, 1) := by decide +kernel
theorem dX6_plan_204 : decode cX6_plan 204 = .ok (.getfield 32, 3) := by decide +kernel
theorem dX6_plan_207 : decode cX6_plan 207 = .ok (.iload 4, 2) := by decide +kernel
theorem dX6_plan_209 : decode cX6_plan 209 = .ok (.dup2, 1) := by decide +kernel
theorem dX6_plan_210 : decode cX6_plan 210 = .ok (.iaload, 1) := by decide +kernel
theorem dX6_plan_211 : decode cX6_plan 211 = .ok (.iconst 1, 1) := by decide +kernel
theorem dX6_plan_212 : decode cX6_plan 212 = .ok (.iadd, 1) := by decide +kernel
theorem dX6_plan_213 : decode cX6_plan 213 = .ok (.iastore, 1) := by decide +kernel
theorem dX6_plan_214 : decode cX6_plan 214 = .ok (.aload_n 0, 1) := by decide +kernel
theorem dX6_plan_215 : decode cX6_plan 215 = .ok (.getfield 35, 3) := by decide +kernel
theorem dX6_plan_218 : decode cX6_plan 218 = .ok (.iload 4, 2) := by decide +kernel
theorem dX6_plan_220 : decode cX6_plan 220 = .ok (.aload_n 0, 1) := by decide +kernel
theorem dX6_plan_221 : decode cX6_plan 221 = .ok (.iload 4, 2) := by decide +kernel
theorem dX6_plan_223 : decode cX6_plan 223 = .ok (.aload_n 0, 1) := by decide +kernel
theorem dX6_plan_224 : decode cX6_plan 224 = .ok (.getfield 32, 3) := by decide +kernel
theorem dX6_plan_227 : decode cX6_plan 227 = .ok (.iload 4, 2) := by decide +kernel
theorem dX6_plan_229 : decode cX6_plan 229 = .ok (.iaload, 1) := by decide +kernel
theorem dX6_plan_230 : decode cX6_plan 230 = .ok (.invokevirtual 220, 3) := by decide +kernel
theorem dX6_plan_233 : decode cX6_plan 233 = .ok (.iastore, 1) := by decide +kernel
theorem dX6_plan_234 : decode cX6_plan 234 = .ok (.goto (-165), 3) := by decide +kernel
theorem dX6_plan_237 : decode cX6_plan 237 = .ok (.iload_n 2, 1) := by decide +kernel
theorem dX6_plan_238 : decode cX6_plan 238 = .ok (.ireturn, 1) := by decide +kernel
theorem dX6_planned_0 : decode cX6_planned 0 = .ok (.aload_n 0, 1) := by decide +kernel
theorem dX6_planned_1 : decode cX6_planned 1 = .ok (.iconst 0, 1) := by decide +kernel
theorem dX6_planned_2 : decode cX6_planned 2 = .ok (.putfield 74, 3) := by decide +kernel
theorem dX6_planned_5 : decode cX6_planned 5 = .ok (.aload_n 0, 1) := by decide +kernel
theorem dX6_planned_6 : decode cX6_planned 6 = .ok (.getfield 29, 3) := by decide +kernel
theorem dX6_planned_9 : decode cX6_planned 9 = .ok (.ifCond .ge 9, 3) := by decide +kernel
theorem dX6_planned_12 : decode cX6_planned 12 = .ok (.aload_n 0, 1) := by decide +kernel
theorem dX6_planned_13 : decode cX6_planned 13 = .ok (.iconst 1, 1) := by decide +kernel
theorem dX6_planned_14 : decode cX6_planned 14 = .ok (.invokevirtual 142, 3) := by decide +kernel
theorem dX6_planned_17 : decode cX6_planned 17 = .ok (.ireturn, 1) := by decide +kernel
theorem dX6_planned_18 : decode cX6_planned 18 = .ok (.iload_n 1, 1) := by decide +kernel
theorem dX6_planned_19 : decode cX6_planned 19 = .ok (.iconst 0, 1) := by decide +kernel
theorem dX6_planned_20 : decode cX6_planned 20 = .ok (.aload_n 0, 1) := by decide +kernel
theorem dX6_planned_21 : decode cX6_planned 21 = .ok (.getfield 29, 3) := by decide +kernel
theorem dX6_planned_24 : decode cX6_planned 24 = .ok (.iconst 1, 1) := by decide +kernel
theorem dX6_planned_25 : decode cX6_planned 25 = .ok (.isub, 1) := by decide +kernel
theorem dX6_planned_26 : decode cX6_planned 26 = .ok (.invokestatic 81, 3) := by decide +kernel
theorem dX6_planned_29 : decode cX6_planned 29 = .ok (.ifCond .eq 12, 3) := by decide +kernel
theorem dX6_planned_32 : decode cX6_planned 32 = .ok (.aload_n 0, 1) := by decide +kernel
theorem dX6_planned_33 : decode cX6_planned 33 = .ok (.getfield 32, 3) := by decide +kernel
theorem dX6_planned_36 : decode cX6_planned 36 = .ok (.iload_n 1, 1) := by decide +kernel
theorem dX6_planned_37 : decode cX6_planned 37 = .ok (.iaload, 1) := by decide +kernel
theorem dX6_planned_38 : decode cX6_planned 38 = .ok (.goto 8, 3) := by decide +kernel
theorem dX6_planned_41 : decode cX6_planned 41 = .ok (.aload_n 0, 1) := by decide +kernel
theorem dX6_planned_42 : decode cX6_planned 42 = .ok (.iconst 2, 1) := by decide +kernel
theorem dX6_planned_43 : decode cX6_planned 43 = .ok (.invokevirtual 142, 3) := by decide +kernel
theorem dX6_planned_46 : decode cX6_planned 46 = .ok (.ireturn, 1) := by decide +kernel
theorem dX6_feed_0 : decode cX6_feed 0 = .ok (.aload_n 0, 1) := by decide +kernel
theorem dX6_feed_1 : decode cX6_feed 1 = .ok (.iconst 0, 1) := by decide +kernel
theorem dX6_feed_2 : decode cX6_feed 2 = .ok (.putfield 74, 3) := by decide +kernel
theorem dX6_feed_5 : decode cX6_feed 5 = .ok (.aload_n 0, 1) := by decide +kernel
theorem dX6_feed_6 : decode cX6_feed 6 = .ok (.getfield 155, 3) := by decide +kernel
theorem dX6_feed_9 : decode cX6_feed 9 = .ok (.bipush 60, 2) := by decide +kernel
theorem dX6_feed_11 : decode cX6_feed 11 = .ok (.if_icmp .ne 9, 3) := by decide +kernel
theorem dX6_feed_14 : decode cX6_feed 14 = .ok (.aload_n 0, 1) := by decide +kernel
theorem dX6_feed_15 : decode cX6_feed 15 = .ok (.iconst 1, 1) := by decide +kernel
theorem dX6_feed_16 : decode cX6_feed 16 = .ok (.invokevirtual 142, 3) := by decide +kernel
theorem dX6_feed_19 : decode cX6_feed 19 = .ok (.ireturn, 1) := by decide +kernel
theorem dX6_feed_20 : decode cX6_feed 20 = .ok (.aload_n 0, 1) := by decide +kernel
theorem dX6_feed_21 : decode cX6_feed 21 = .ok (.getfield 22, 3) := by decide +kernel
theorem dX6_feed_24 : decode cX6_feed 24 = .ok (.aload_n 0, 1) := by decide +kernel
theorem dX6_feed_25 : decode cX6_feed 25 = .ok (.dup, 1) := by decide +kernel
theorem dX6_feed_26 : decode cX6_feed 26 = .ok (.getfield 155, 3) := by decide +kernel
theorem dX6_feed_29 : decode cX6_feed 29 = .ok (.dup_x1, 1) := by decide +kernel
theorem dX6_feed_30 : decode cX6_feed 30 = .ok (.iconst 1, 1) := by decide +kernel
theorem dX6_feed_31 : decode cX6_feed 31 = .ok (.iadd, 1) := by decide +kernel
theorem dX6_feed_32 : decode cX6_feed 32 = .ok (.putfield 155, 3) := by decide +kernel
theorem dX6_feed_35 : decode cX6_feed 35 = .ok (.iload_n 1, 1) := by decide +kernel
theorem dX6_feed_36 : decode cX6_feed 36 = .ok (.iastore, 1) := by decide +kernel
theorem dX6_feed_37 : decode cX6_feed 37 = .ok (.aload_n 0, 1) := by decide +kernel
theorem dX6_feed_38 : decode cX6_feed 38 = .ok (.getfield 155, 3) := by decide +kernel
theorem dX6_feed_41 : decode cX6_feed 41 = .ok (.ireturn, 1) := by decide +kernel
theorem dX6_here_0 : decode cX6_here 0 = .ok (.aload_n 0, 1) := by decide +kernel
theorem dX6_here_1 : decode cX6_here 1 = .ok (.getfield 223, 3) := by decide +kernel
theorem dX6_here_4 : decode cX6_here 4 = .ok (.aload_n 0, 1) := by decide +kernel
theorem dX6_here_5 : decode cX6_here 5 = .ok (.getfield 155, 3) := by decide +kernel
theorem dX6_here_8 : decode cX6_here 8 = .ok (.if_icmp .ge 15, 3) := by decide +kernel
theorem dX6_here_11 : decode cX6_here 11 = .ok (.aload_n 0, 1) := by decide +kernel
theorem dX6_here_12 : decode cX6_here 12 = .ok (.getfield 22, 3) := by decide +kernel
theorem dX6_here_15 : decode cX6_here 15 = .ok (.aload_n 0, 1) := by decide +kernel
theorem dX6_here_16 : decode cX6_here 16 = .ok (.getfield 223, 3) := by decide +kernel
theorem dX6_here_19 : decode cX6_here 19 = .ok (.iaload, 1) := by decide +kernel
theorem dX6_here_20 : decode cX6_here 20 = .ok (.goto 4, 3) := by decide +kernel
theorem dX6_here_23 : decode cX6_here 23 = .ok (.iconst (-1), 1) := by decide +kernel
theorem dX6_here_24 : decode cX6_here 24 = .ok (.ireturn, 1) := by decide +kernel
theorem dX6_takesOne_0 : decode cX6_takesOne 0 = .ok (.aload_n 0, 1) := by decide +kernel
theorem dX6_takesOne_1 : decode cX6_takesOne 1 = .ok (.invokevirtual 226, 3) := by decide +kernel
theorem dX6_takesOne_4 : decode cX6_takesOne 4 = .ok (.iload_n 1, 1) := by decide +kernel
theorem dX6_takesOne_5 : decode cX6_takesOne 5 = .ok (.if_icmp .eq 5, 3) := by decide +kernel
theorem dX6_takesOne_8 : decode cX6_takesOne 8 = .ok (.iconst 0, 1) := by decide +kernel
theorem dX6_takesOne_9 : decode cX6_takesOne 9 = .ok (.ireturn, 1) := by decide +kernel
theorem dX6_takesOne_10 : decode cX6_takesOne 10 = .ok (.aload_n 0, 1) := by decide +kernel
theorem dX6_takesOne_11 : decode cX6_takesOne 11 = .ok (.dup, 1) := by decide +kernel
theorem dX6_takesOne_12 : decode cX6_takesOne 12 = .ok (.getfield 223, 3) := by decide +kernel
theorem dX6_takesOne_15 : decode cX6_takesOne 15 = .ok (.iconst 1, 1) := by decide +kernel
theorem dX6_takesOne_16 : decode cX6_takesOne 16 = .ok (.iadd, 1) := by decide +kernel
theorem dX6_takesOne_17 : decode cX6_takesOne 17 = .ok (.putfield 223, 3) := by decide +kernel
theorem dX6_takesOne_20 : decode cX6_takesOne 20 = .ok (.iconst 1, 1) := by decide +kernel
theorem dX6_takesOne_21 : decode cX6_takesOne 21 = .ok (.ireturn, 1) := by decide +kernel
theorem dX6_places_0 : decode cX6_places 0 = .ok (.iconst 0, 1) := by decide +kernel
theorem dX6_places_1 : decode cX6_places 1 = .ok (.istore_n 1, 1) := by decide +kernel
theorem dX6_places_2 : decode cX6_places 2 = .ok (.iload_n 1, 1) := by decide +kernel
theorem dX6_places_3 : decode cX6_places 3 = .ok (.iconst 4, 1) := by decide +kernel
theorem dX6_places_4 : decode cX6_places 4 = .ok (.if_icmp .ge 64, 3) := by decide +kernel
theorem dX6_places_7 : decode cX6_places 7 = .ok (.iload_n 1, 1) := by decide +kernel
theorem dX6_places_8 : decode cX6_places 8 = .ok (.iconst 2, 1) := by decide +kernel
theorem dX6_places_9 : decode cX6_places 9 = .ok (.irem, 1) := by decide +kernel
theorem dX6_places_10 : decode cX6_places 10 = .ok (.ifCond .ne 8, 3) := by decide +kernel
theorem dX6_places_13 : decode cX6_places 13 = .ok (.bipush 97, 2) := by decide +kernel
theorem dX6_places_15 : decode cX6_places 15 = .ok (.goto 5, 3) := by decide +kernel
theorem dX6_places_18 : decode cX6_places 18 = .ok (.bipush 65, 2) := by decide +kernel
theorem dX6_places_20 : decode cX6_places 20 = .ok (.istore_n 2, 1) := by decide +kernel
theorem dX6_places_21 : decode cX6_places 21 = .ok (.aload_n 0, 1) := by decide +kernel
theorem dX6_places_22 : decode cX6_places 22 = .ok (.invokevirtual 226, 3) := by decide +kernel
theorem dX6_places_25 : decode cX6_places 25 = .ok (.iload_n 2, 1) := by decide +kernel
theorem dX6_places_26 : decode cX6_places 26 = .ok (.iload_n 2, 1) := by decide +kernel
theorem dX6_places_27 : decode cX6_places 27 = .ok (.bipush 15, 2) := by decide +kernel
theorem dX6_places_29 : decode cX6_places 29 = .ok (.iadd, 1) := by decide +kernel
theorem dX6_places_30 : decode cX6_places 30 = .ok (.invokestatic 81, 3) := by decide +kernel
theorem dX6_places_33 : decode cX6_places 33 = .ok (.ifCond .ne 5, 3) := by decide +kernel
theorem dX6_places_36 : decode cX6_places 36 = .ok (.iconst 0, 1) := by decide +kernel
theorem dX6_places_37 : decode cX6_places 37 = .ok (.ireturn, 1) := by decide +kernel
theorem dX6_places_38 : decode cX6_places 38 = .ok (.aload_n 0, 1) := by decide +kernel
theorem dX6_places_39 : decode cX6_places 39 = .ok (.getfield 67, 3) := by decide +kernel
theorem dX6_places_42 : decode cX6_places 42 = .ok (.iload_n 1, 1) := by decide +kernel
theorem dX6_places_43 : decode cX6_places 43 = .ok (.aload_n 0, 1) := by decide +kernel
theorem dX6_places_44 : decode cX6_places 44 = .ok (.getfield 22, 3) := by decide +kernel
theorem dX6_places_47 : decode cX6_places 47 = .ok (.aload_n 0, 1) := by decide +kernel
theorem dX6_places_48 : decode cX6_places 48 = .ok (.dup, 1) := by decide +kernel
theorem dX6_places_49 : decode cX6_places 49 = .ok (.getfield 223, 3) := by decide +kernel
theorem dX6_places_52 : decode cX6_places 52 = .ok (.dup_x1, 1) := by decide +kernel
theorem dX6_places_53 : decode cX6_places 53 = .ok (.iconst 1, 1) := by decide +kernel
theorem dX6_places_54 : decode cX6_places 54 = .ok (.iadd, 1) := by decide +kernel
theorem dX6_places_55 : decode cX6_places 55 = .ok (.putfield 223, 3) := by decide +kernel
theorem dX6_places_58 : decode cX6_places 58 = .ok (.iaload, 1) := by decide +kernel
theorem dX6_places_59 : decode cX6_places 59 = .ok (.iload_n 2, 1) := by decide +kernel
theorem dX6_places_60 : decode cX6_places 60 = .ok (.isub, 1) := by decide +kernel
theorem dX6_places_61 : decode cX6_places 61 = .ok (.iastore, 1) := by decide +kernel
theorem dX6_places_62 : decode cX6_places 62 = .ok (.iinc 1 1, 3) := by decide +kernel
theorem dX6_places_65 : decode cX6_places 65 = .ok (.goto (-63), 3) := by decide +kernel
theorem dX6_places_68 : decode cX6_places 68 = .ok (.iconst 1, 1) := by decide +kernel
theorem dX6_places_69 : decode cX6_places 69 = .ok (.ireturn, 1) := by decide +kernel
theorem dX6_hex_0 : decode cX6_hex 0 = .ok (.aload_n 0, 1) := by decide +kernel
theorem dX6_hex_1 : decode cX6_hex 1 = .ok (.invokevirtual 226, 3) := by decide +kernel
theorem dX6_hex_4 : decode cX6_hex 4 = .ok (.istore_n 1, 1) := by decide +kernel
theorem dX6_hex_5 : decode cX6_hex 5 = .ok (.iload_n 1, 1) := by decide +kernel
theorem dX6_hex_6 : decode cX6_hex 6 = .ok (.bipush 48, 2) := by decide +kernel
theorem dX6_hex_8 : decode cX6_hex 8 = .ok (.bipush 57, 2) := by decide +kernel
theorem dX6_hex_10 : decode cX6_hex 10 = .ok (.invokestatic 81, 3) := by decide +kernel
theorem dX6_hex_13 : decode cX6_hex 13 = .ok (.ifCond .eq 10, 3) := by decide +kernel
theorem dX6_hex_16 : decode cX6_hex 16 = .ok (.iload_n 1, 1) := by decide +kernel
theorem dX6_hex_17 : decode cX6_hex 17 = .ok (.bipush 48, 2) := by decide +kernel
theorem dX6_hex_19 : decode cX6_hex 19 = .ok (.isub, 1) := by decide +kernel
theorem dX6_hex_20 : decode cX6_hex 20 = .ok (.goto 25, 3) := by decide +kernel
theorem dX6_hex_23 : decode cX6_hex 23 = .ok (.iload_n 1, 1) := by decide +kernel
theorem dX6_hex_24 : decode cX6_hex 24 = .ok (.bipush 97, 2) := by decide +kernel
theorem dX6_hex_26 : decode cX6_hex 26 = .ok (.bipush 102, 2) := by decide +kernel
theorem dX6_hex_28 : decode cX6_hex 28 = .ok (.invokestatic 81, 3) := by decide +kernel
theorem dX6_hex_31 : decode cX6_hex 31 = .ok (.ifCond .eq 13, 3) := by decide +kernel
theorem dX6_hex_34 : decode cX6_hex 34 = .ok (.iload_n 1, 1) := by decide +kernel
theorem dX6_hex_35 : decode cX6_hex 35 = .ok (.bipush 97, 2) := by decide +kernel
theorem dX6_hex_37 : decode cX6_hex 37 = .ok (.isub, 1) := by decide +kernel
theorem dX6_hex_38 : decode cX6_hex 38 = .ok (.bipush 10, 2) := by decide +kernel
theorem dX6_hex_40 : decode cX6_hex 40 = .ok (.iadd, 1) := by decide +kernel
theorem dX6_hex_41 : decode cX6_hex 41 = .ok (.goto 4, 3) := by decide +kernel
theorem dX6_hex_44 : decode cX6_hex 44 = .ok (.iconst (-1), 1) := by decide +kernel
theorem dX6_hex_45 : decode cX6_hex 45 = .ok (.istore_n 2, 1) := by decide +kernel
theorem dX6_hex_46 : decode cX6_hex 46 = .ok (.iload_n 2, 1) := by decide +kernel
theorem dX6_hex_47 : decode cX6_hex 47 = .ok (.ifCond .lt 13, 3) := by decide +kernel
theorem dX6_hex_50 : decode cX6_hex 50 = .ok (.aload_n 0, 1) := by decide +kernel
theorem dX6_hex_51 : decode cX6_hex 51 = .ok (.dup, 1) := by decide +kernel
theorem dX6_hex_52 : decode cX6_hex 52 = .ok (.getfield 223, 3) := by decide +kernel
theorem dX6_hex_55 : decode cX6_hex 55 = .ok (.iconst 1, 1) := by decide +kernel
theorem dX6_hex_56 : decode cX6_hex 56 = .ok (.iadd, 1) := by decide +kernel
theorem dX6_hex_57 : decode cX6_hex 57 = .ok (.putfield 223, 3) := by decide +kernel
theorem dX6_hex_60 : decode cX6_hex 60 = .ok (.iload_n 2, 1) := by decide +kernel
theorem dX6_hex_61 : decode cX6_hex 61 = .ok (.ireturn, 1) := by decide +kernel
theorem dX6_whyCorner_0 : decode cX6_whyCorner 0 = .ok (.aload_n 0, 1) := by decide +kernel
theorem dX6_whyCorner_1 : decode cX6_whyCorner 1 = .ok (.aload_n 0, 1) := by decide +kernel
theorem dX6_whyCorner_2 : decode cX6_whyCorner 2 = .ok (.getfield 67, 3) := by decide +kernel
theorem dX6_whyCorner_5 : decode cX6_whyCorner 5 = .ok (.iconst 0, 1) := by decide +kernel
theorem dX6_whyCorner_6 : decode cX6_whyCorner 6 = .ok (.iaload, 1) := by decide +kernel
theorem dX6_whyCorner_7 : decode cX6_whyCorner 7 = .ok (.aload_n 0, 1) := by decide +kernel
theorem dX6_whyCorner_8 : decode cX6_whyCorner 8 = .ok (.getfield 67, 3) := by decide +kernel
theorem dX6_whyCorner_11 : decode cX6_whyCorner 11 = .ok (.iconst 1, 1) := by decide +kernel
theorem dX6_whyCorner_12 : decode cX6_whyCorner 12 = .ok (.iaload, 1) := by decide +kernel
theorem dX6_whyCorner_13 : decode cX6_whyCorner 13 = .ok (.invokevirtual 158, 3) := by decide +kernel
theorem dX6_whyCorner_16 : decode cX6_whyCorner 16 = .ok (.ifCond .eq 22, 3) := by decide +kernel
theorem dX6_whyCorner_19 : decode cX6_whyCorner 19 = .ok (.aload_n 0, 1) := by decide +kernel
theorem dX6_whyCorner_20 : decode cX6_whyCorner 20 = .ok (.aload_n 0, 1) := by decide +kernel
theorem dX6_whyCorner_21 : decode cX6_whyCorner 21 = .ok (.getfield 67, 3) := by decide +kernel
theorem dX6_whyCorner_24 : decode cX6_whyCorner 24 = .ok (.iconst 2, 1) := by decide +kernel
theorem dX6_whyCorner_25 : decode cX6_whyCorner 25 = .ok (.iaload, 1) := by decide +kernel
theorem dX6_whyCorner_26 : decode cX6_whyCorner 26 = .ok (.aload_n 0, 1) := by decide +kernel
theorem dX6_whyCorner_27 : decode cX6_whyCorner 27 = .ok (.getfield 67, 3) := by decide +kernel
theorem dX6_whyCorner_30 : decode cX6_whyCorner 30 = .ok (.iconst 3, 1) := by decide +kernel
theorem dX6_whyCorner_31 : decode cX6_whyCorner 31 = .ok (.iaload, 1) := by decide +kernel
theorem dX6_whyCorner_32 : decode cX6_whyCorner 32 = .ok (.invokevirtual 158, 3) := by decide +kernel
theorem dX6_whyCorner_35 : decode cX6_whyCorner 35 = .ok (.ifCond .ne 5, 3) := by decide +kernel
theorem dX6_whyCorner_38 : decode cX6_whyCorner 38 = .ok (.iconst 1, 1) := by decide +kernel
theorem dX6_whyCorner_39 : decode cX6_whyCorner 39 = .ok (.ireturn, 1) := by decide +kernel
theorem dX6_whyCorner_40 : decode cX6_whyCorner 40 = .ok (.aload_n 0, 1) := by decide +kernel
theorem dX6_whyCorner_41 : decode cX6_whyCorner 41 = .ok (.getfield 67, 3) := by decide +kernel
theorem dX6_whyCorner_44 : decode cX6_whyCorner 44 = .ok (.iconst 0, 1) := by decide +kernel
theorem dX6_whyCorner_45 : decode cX6_whyCorner 45 = .ok (.iaload, 1) := by decide +kernel
theorem dX6_whyCorner_46 : decode cX6_whyCorner 46 = .ok (.aload_n 0, 1) := by decide +kernel
theorem dX6_whyCorner_47 : decode cX6_whyCorner 47 = .ok (.getfield 67, 3) := by decide +kernel
theorem dX6_whyCorner_50 : decode cX6_whyCorner 50 = .ok (.iconst 2, 1) := by decide +kernel
theorem dX6_whyCorner_51 : decode cX6_whyCorner 51 = .ok (.iaload, 1) := by decide +kernel
theorem dX6_whyCorner_52 : decode cX6_whyCorner 52 = .ok (.if_icmp .gt 18, 3) := by decide +kernel
theorem dX6_whyCorner_55 : decode cX6_whyCorner 55 = .ok (.aload_n 0, 1) := by decide +kernel
theorem dX6_whyCorner_56 : decode cX6_whyCorner 56 = .ok (.getfield 67, 3) := by decide +kernel
theorem dX6_whyCorner_59 : decode cX6_whyCorner 59 = .ok (.iconst 1, 1) := by decide +kernel
theorem dX6_whyCorner_60 : decode cX6_whyCorner 60 = .ok (.iaload, 1) := by decide +kernel
theorem dX6_whyCorner_61 : decode cX6_whyCorner 61 = .ok (.aload_n 0, 1) := by decide +kernel
theorem dX6_whyCorner_62 : decode cX6_whyCorner 62 = .ok (.getfield 67, 3) := by decide +kernel
theorem dX6_whyCorner_65 : decode cX6_whyCorner 65 = .ok (.iconst 3, 1) := by decide +kernel
theorem dX6_whyCorner_66 : decode cX6_whyCorner 66 = .ok (.iaload, 1) := by decide +kernel
theorem dX6_whyCorner_67 : decode cX6_whyCorner 67 = .ok (.if_icmp .le 7, 3) := by decide +kernel
theorem dX6_whyCorner_70 : decode cX6_whyCorner 70 = .ok (.iconst 2, 1) := by decide +kernel
theorem dX6_whyCorner_71 : decode cX6_whyCorner 71 = .ok (.goto 4, 3) := by decide +kernel
theorem dX6_whyCorner_74 : decode cX6_whyCorner 74 = .ok (.iconst 0, 1) := by decide +kernel
theorem dX6_whyCorner_75 : decode cX6_whyCorner 75 = .ok (.ireturn, 1) := by decide +kernel
theorem dX6_item_0 : decode cX6_item 0 = .ok (.aload_n 0, 1) := by decide +kernel
theorem dX6_item_1 : decode cX6_item 1 = .ok (.invokevirtual 226, 3) := by decide +kernel
theorem dX6_item_4 : decode cX6_item 4 = .ok (.istore_n 1, 1) := by decide +kernel
theorem dX6_item_5 : decode cX6_item 5 = .ok (.iload_n 1, 1) := by decide +kernel
theorem dX6_item_6 : decode cX6_item 6 = .ok (.bipush 114, 2) := by decide +kernel
theorem dX6_item_8 : decode cX6_item 8 = .ok (.if_icmp .eq 15, 3) := by decide +kernel
theorem dX6_item_11 : decode cX6_item 11 = .ok (.iload_n 1, 1) := by decide +kernel
theorem dX6_item_12 : decode cX6_item 12 = .ok (.bipush 109, 2) := by decide +kernel
theorem dX6_item_14 : decode cX6_item 14 = .ok (.if_icmp .eq 9, 3) := by decide +kernel
theorem dX6_item_17 : decode cX6_item 17 = .ok (.iload_n 1, 1) := by decide +kernel
theorem dX6_item_18 : decode cX6_item 18 = .ok (.bipush 117, 2) := by decide +kernel
theorem dX6_item_20 : decode cX6_item 20 = .ok (.if_icmp .ne 147, 3) := by decide +kernel
theorem dX6_item_23 : decode cX6_item 23 = .ok (.aload_n 0, 1) := by decide +kernel
theorem dX6_item_24 : decode cX6_item 24 = .ok (.dup, 1) := by decide +kernel
theorem dX6_item_25 : decode cX6_item 25 = .ok (.getfield 223, 3) := by decide +kernel
theorem dX6_item_28 : decode cX6_item 28 = .ok (.iconst 1, 1) := by decide +kernel
theorem dX6_item_29 : decode cX6_item 29 = .ok (.iadd, 1) := by decide +kernel
theorem dX6_item_30 : decode cX6_item 30 = .ok (.putfield 223, 3) := by decide +kernel
theorem dX6_item_33 : decode cX6_item 33 = .ok (.aload_n 0, 1) := by decide +kernel
theorem dX6_item_34 : decode cX6_item 34 = .ok (.invokevirtual 229, 3) := by decide +kernel
theorem dX6_item_37 : decode cX6_item 37 = .ok (.ifCond .ne 5, 3) := by decide +kernel
theorem dX6_item_40 : decode cX6_item 40 = .ok (.iconst (-1), 1) := by decide +kernel
theorem dX6_item_41 : decode cX6_item 41 = .ok (.ireturn, 1) := by decide +kernel
theorem dX6_item_42 : decode cX6_item 42 = .ok (.iload_n 1, 1) := by decide +kernel
theorem dX6_item_43 : decode cX6_item 43 = .ok (.bipush 109, 2) := by decide +kernel
theorem dX6_item_45 : decode cX6_item 45 = .ok (.if_icmp .ne 7, 3) := by decide +kernel
theorem dX6_item_48 : decode cX6_item 48 = .ok (.iconst 1, 1) := by decide +kernel
theorem dX6_item_49 : decode cX6_item 49 = .ok (.goto 4, 3) := by decide +kernel
theorem dX6_item_52 : decode cX6_item 52 = .ok (.iconst 0, 1) := by decide +kernel
theorem dX6_item_53 : decode cX6_item 53 = .ok (.istore_n 2, 1) := by decide +kernel
theorem dX6_item_54 : decode cX6_item 54 = .ok (.iload_n 1, 1) := by decide +kernel
theorem dX6_item_55 : decode cX6_item 55 = .ok (.bipush 114, 2) := by decide +kernel
theorem dX6_item_57 : decode cX6_item 57 = .ok (.if_icmp .ne 48, 3) := by decide +kernel
theorem dX6_item_60 : decode cX6_item 60 = .ok (.aload_n 0, 1) := by decide +kernel
theorem dX6_item_61 : decode cX6_item 61 = .ok (.bipush 61, 2) := by decide +kernel
theorem dX6_item_63 : decode cX6_item 63 = .ok (.invokevirtual 233, 3) := by decide +kernel
theorem dX6_item_66 : decode cX6_item 66 = .ok (.ifCond .ne 5, 3) := by decide +kernel
theorem dX6_item_69 : decode cX6_item 69 = .ok (.iconst (-1), 1) := by decide +kernel
theorem dX6_item_70 : decode cX6_item 70 = .ok (.ireturn, 1) := by decide +kernel
theorem dX6_item_71 : decode cX6_item 71 = .ok (.aload_n 0, 1) := by decide +kernel
theorem dX6_item_72 : decode cX6_item 72 = .ok (.invokevirtual 236, 3) := by decide +kernel
theorem dX6_item_75 : decode cX6_item 75 = .ok (.istore_n 3, 1) := by decide +kernel
theorem dX6_item_76 : decode cX6_item 76 = .ok (.iload_n 3, 1) := by decide +kernel
theorem dX6_item_77 : decode cX6_item 77 = .ok (.ifCond .ge 7, 3) := by decide +kernel
theorem dX6_item_80 : decode cX6_item 80 = .ok (.iconst (-1), 1) := by decide +kernel
theorem dX6_item_81 : decode cX6_item 81 = .ok (.goto 7, 3) := by decide +kernel
theorem dX6_item_84 : decode cX6_item 84 = .ok (.aload_n 0, 1) := by decide +kernel
theorem dX6_item_85 : decode cX6_item 85 = .ok (.invokevirtual 236, 3) := by decide +kernel
theorem dX6_item_88 : decode cX6_item 88 = .ok (.istore 4, 2) := by decide +kernel
theorem dX6_item_90 : decode cX6_item 90 = .ok (.iload 4, 2) := by decide +kernel
theorem dX6_item_92 : decode cX6_item 92 = .ok (.ifCond .ge 5, 3) := by decide +kernel
theorem dX6_item_95 : decode cX6_item 95 = .ok (.iconst (-1), 1) := by decide +kernel
theorem dX6_item_96 : decode cX6_item 96 = .ok (.ireturn, 1) := by decide +kernel
theorem dX6_item_97 : decode cX6_item 97 = .ok (.bipush 16, 2) := by decide +kernel
theorem dX6_item_99 : decode cX6_item 99 = .ok (.iload_n 3, 1) := by decide +kernel
theorem dX6_item_100 : decode cX6_item 100 = .ok (.imul, 1) := by decide +kernel
theorem dX6_item_101 : decode cX6_item 101 = .ok (.iload 4, 2) := by decide +kernel
theorem dX6_item_103 : decode cX6_item 103 = .ok (.iadd, 1) := by decide +kernel
theorem dX6_item_104 : decode cX6_item 104 = .ok (.istore_n 2, 1) := by decide +kernel
theorem dX6_item_105 : decode cX6_item 105 = .ok (.aload_n 0, 1) := by decide +kernel
theorem dX6_item_106 : decode cX6_item 106 = .ok (.invokevirtual 239, 3) := by decide +kernel
theorem dX6_item_109 : decode cX6_item 109 = .ok (.istore_n 3, 1) := by decide +kernel
theorem dX6_item_110 : decode cX6_item 110 = .ok (.iload_n 3, 1) := by decide +kernel
theorem dX6_item_111 : decode cX6_item 111 = .ok (.ifCond .ne 54, 3) := by decide +kernel
theorem dX6_item_114 : decode cX6_item 114 = .ok (.aload_n 0, 1) := by decide +kernel
theorem dX6_item_115 : decode cX6_item 115 = .ok (.aload_n 0, 1) := by decide +kernel
theorem dX6_item_116 : decode cX6_item 116 = .ok (.getfield 19, 3) := by decide +kernel
theorem dX6_item_119 : decode cX6_item 119 = .ok (.iload_n 1, 1) := by decide +kernel
theorem dX6_item_120 : decode cX6_item 120 = .ok (.bipush 114, 2) := by decide +kernel
theorem dX6_item_122 : decode cX6_item 122 = .ok (.if_icmp .ne 7, 3) := by decide +kernel
theorem dX6_item_125 : decode cX6_item 125 = .ok (.iconst 5, 1) := by decide +kernel
theorem dX6_item_126 : decode cX6_item 126 = .ok (.goto 6, 3) := by decide +kernel
theorem dX6_item_129 : decode cX6_item 129 = .ok (.sipush 261, 3) := by decide +kernel
theorem dX6_item_132 : decode cX6_item 132 = .ok (.aload_n 0, 1) := by decide +kernel
theorem dX6_item_133 : decode cX6_item 133 = .ok (.getfield 67, 3) := by decide +kernel
theorem dX6_item_136 : decode cX6_item 136 = .ok (.iconst 0, 1) := by decide +kernel
theorem dX6_item_137 : decode cX6_item 137 = .ok (.iaload, 1) := by decide +kernel
theorem dX6_item_138 : decode cX6_item 138 = .ok (.aload_n 0, 1) := by decide +kernel
theorem dX6_item_139 : decode cX6_item 139 = .ok (.getfield 67, 3) := by decide +kernel
theorem dX6_item_142 : decode cX6_item 142 = .ok (.iconst 1, 1) := by decide +kernel
theorem dX6_item_143 : decode cX6_item 143 = .ok (.iaload, 1) := by decide +kernel
theorem dX6_item_144 : decode cX6_item 144 = .ok (.aload_n 0, 1) := by decide +kernel
theorem dX6_item_145 : decode cX6_item 145 = .ok (.getfield 67, 3) := by decide +kernel
theorem dX6_item_148 : decode cX6_item 148 = .ok (.iconst 2, 1) := by decide +kernel
theorem dX6_item_149 : decode cX6_item 149 = .ok (.iaload, 1) := by decide +kernel
theorem dX6_item_150 : decode cX6_item 150 = .ok (.aload_n 0, 1) := by decide +kernel
theorem dX6_item_151 : decode cX6_item 151 = .ok (.getfield 67, 3) := by decide +kernel
theorem dX6_item_154 : decode cX6_item 154 = .ok (.iconst 3, 1) := by decide +kernel
theorem dX6_item_155 : decode cX6_item 155 = .ok (.iaload, 1) := by decide +kernel
theorem dX6_item_156 : decode cX6_item 156 = .ok (.iload_n 2, 1) := by decide +kernel
theorem dX6_item_157 : decode cX6_item 157 = .ok (.invokevirtual 161, 3) := by decide +kernel
theorem dX6_item_160 : decode cX6_item 160 = .ok (.ifCond .ge 5, 3) := by decide +kernel
theorem dX6_item_163 : decode cX6_item 163 = .ok (.iconst (-1), 1) := by decide +kernel
theorem dX6_item_164 : decode cX6_item 164 = .ok (.ireturn, 1) := by decide +kernel
theorem dX6_item_165 : decode cX6_item 165 = .ok (.iload_n 3, 1) := by decide +kernel
theorem dX6_item_166 : decode cX6_item 166 = .ok (.ireturn, 1) := by decide +kernel
theorem dX6_item_167 : decode cX6_item 167 = .ok (.iload_n 1, 1) := by decide +kernel
theorem dX6_item_168 : decode cX6_item 168 = .ok (.bipush 116, 2) := by decide +kernel
theorem dX6_item_170 : decode cX6_item 170 = .ok (.if_icmp .ne 7, 3) := by decide +kernel
theorem dX6_item_173 : decode cX6_item 173 = .ok (.iconst 0, 1) := by decide +kernel
theorem dX6_item_174 : decode cX6_item 174 = .ok (.goto 24, 3) := by decide +kernel
theorem dX6_item_177 : decode cX6_item 177 = .ok (.iload_n 1, 1) := by decide +kernel
theorem dX6_item_178 : decode cX6_item 178 = .ok (.bipush 108, 2) := by decide +kernel
theorem dX6_item_180 : decode cX6_item 180 = .ok (.if_icmp .ne 7, 3) := by decide +kernel
theorem dX6_item_183 : decode cX6_item 183 = .ok (.iconst 1, 1) := by decide +kernel
theorem dX6_item_184 : decode cX6_item 184 = .ok (.goto 14, 3) := by decide +kernel
theorem dX6_item_187 : decode cX6_item 187 = .ok (.iload_n 1, 1) := by decide +kernel
theorem dX6_item_188 : decode cX6_item 188 = .ok (.bipush 98, 2) := by decide +kernel
theorem dX6_item_190 : decode cX6_item 190 = .ok (.if_icmp .ne 7, 3) := by decide +kernel
theorem dX6_item_193 : decode cX6_item 193 = .ok (.iconst 2, 1) := by decide +kernel
theorem dX6_item_194 : decode cX6_item 194 = .ok (.goto 4, 3) := by decide +kernel
theorem dX6_item_197 : decode cX6_item 197 = .ok (.iconst (-1), 1) := by decide +kernel
theorem dX6_item_198 : decode cX6_item 198 = .ok (.istore_n 2, 1) := by decide +kernel
theorem dX6_item_199 : decode cX6_item 199 = .ok (.iload_n 2, 1) := by decide +kernel
theorem dX6_item_200 : decode cX6_item 200 = .ok (.ifCond .ge 5, 3) := by decide +kernel
theorem dX6_item_203 : decode cX6_item 203 = .ok (.iconst (-1), 1) := by decide +kernel
theorem dX6_item_204 : decode cX6_item 204 = .ok (.ireturn, 1) := by decide +kernel
theorem dX6_item_205 : decode cX6_item 205 = .ok (.aload_n 0, 1) := by decide +kernel
theorem dX6_item_206 : decode cX6_item 206 = .ok (.dup, 1) := by decide +kernel
theorem dX6_item_207 : decode cX6_item 207 = .ok (.getfield 223, 3) := by decide +kernel
theorem dX6_item_210 : decode cX6_item 210 = .ok (.iconst 1, 1) := by decide +kernel
theorem dX6_item_211 : decode cX6_item 211 = .ok (.iadd, 1) := by decide +kernel
theorem dX6_item_212 : decode cX6_item 212 = .ok (.putfield 223, 3) := by decide +kernel
theorem dX6_item_215 : decode cX6_item 215 = .ok (.aload_n 0, 1) := by decide +kernel
theorem dX6_item_216 : decode cX6_item 216 = .ok (.invokevirtual 226, 3) := by decide +kernel
theorem dX6_item_219 : decode cX6_item 219 = .ok (.bipush 48, 2) := by decide +kernel
theorem dX6_item_221 : decode cX6_item 221 = .ok (.bipush 57, 2) := by decide +kernel
theorem dX6_item_223 : decode cX6_item 223 = .ok (.invokestatic 81, 3) := by decide +kernel
theorem dX6_item_226 : decode cX6_item 226 = .ok (.ifCond .ne 5, 3) := by decide +kernel
theorem dX6_item_229 : decode cX6_item 229 = .ok (.iconst (-1), 1) := by decide +kernel
theorem dX6_item_230 : decode cX6_item 230 = .ok (.ireturn, 1) := by decide +kernel
theorem dX6_item_231 : decode cX6_item 231 = .ok (.aload_n 0, 1) := by decide +kernel
theorem dX6_item_232 : decode cX6_item 232 = .ok (.getfield 22, 3) := by decide +kernel
theorem dX6_item_235 : decode cX6_item 235 = .ok (.aload_n 0, 1) := by decide +kernel
theorem dX6_item_236 : decode cX6_item 236 = .ok (.dup, 1) := by decide +kernel
theorem dX6_item_237 : decode cX6_item 237 = .ok (.getfield 223, 3) := by decide +kernel
theorem dX6_item_240 : decode cX6_item 240 = .ok (.dup_x1, 1) := by decide +kernel
theorem dX6_item_241 : decode cX6_item 241 = .ok (.iconst 1, 1) := by decide +kernel
theorem dX6_item_242 : decode cX6_item 242 = .ok (.iadd, 1) := by decide +kernel
theorem dX6_item_243 : decode cX6_item 243 = .ok (.putfield 223, 3) := by decide +kernel
theorem dX6_item_246 : decode cX6_item 246 = .ok (.iaload, 1) := by decide +kernel
theorem dX6_item_247 : decode cX6_item 247 = .ok (.bipush 48, 2) := by decide +kernel
theorem dX6_item_249 : decode cX6_item 249 = .ok (.isub, 1) := by decide +kernel
theorem dX6_item_250 : decode cX6_item 250 = .ok (.istore_n 3, 1) := by decide +kernel
theorem dX6_item_251 : decode cX6_item 251 = .ok (.iload_n 2, 1) := by decide +kernel
theorem dX6_item_252 : decode cX6_item 252 = .ok (.iload_n 3, 1) := by decide +kernel
theorem dX6_item_253 : decode cX6_item 253 = .ok (.invokestatic 148, 3) := by decide +kernel
theorem dX6_item_256 : decode cX6_item 256 = .ok (.ifCond .ne 5, 3) := by decide +kernel
theorem dX6_item_259 : decode cX6_item 259 = .ok (.iconst 3, 1) := by decide +kernel
theorem dX6_item_260 : decode cX6_item 260 = .ok (.ireturn, 1) := by decide +kernel
theorem dX6_item_261 : decode cX6_item 261 = .ok (.aload_n 0, 1) := by decide +kernel
theorem dX6_item_262 : decode cX6_item 262 = .ok (.getfield 19, 3) := by decide +kernel
theorem dX6_item_265 : decode cX6_item 265 = .ok (.iconst 2, 1) := by decide +kernel
theorem dX6_item_266 : decode cX6_item 266 = .ok (.iload_n 2, 1) := by decide +kernel
theorem dX6_item_267 : decode cX6_item 267 = .ok (.iadd, 1) := by decide +kernel
theorem dX6_item_268 : decode cX6_item 268 = .ok (.iload_n 3, 1) := by decide +kernel
theorem dX6_item_269 : decode cX6_item 269 = .ok (.iastore, 1) := by decide +kernel
theorem dX6_item_270 : decode cX6_item 270 = .ok (.iconst 0, 1) := by decide +kernel
theorem dX6_item_271 : decode cX6_item 271 = .ok (.ireturn, 1) := by decide +kernel
theorem dX6_faults_0 : decode cX6_faults 0 = .ok (.aload_n 0, 1) := by decide +kernel
theorem dX6_faults_1 : decode cX6_faults 1 = .ok (.aload_n 0, 1) := by decide +kernel
theorem dX6_faults_2 : decode cX6_faults 2 = .ok (.getfield 223, 3) := by decide +kernel
theorem dX6_faults_5 : decode cX6_faults 5 = .ok (.putfield 25, 3) := by decide +kernel
theorem dX6_faults_8 : decode cX6_faults 8 = .ok (.aload_n 0, 1) := by decide +kernel
theorem dX6_faults_9 : decode cX6_faults 9 = .ok (.iconst 0, 1) := by decide +kernel
theorem dX6_faults_10 : decode cX6_faults 10 = .ok (.putfield 155, 3) := by decide +kernel
theorem dX6_faults_13 : decode cX6_faults 13 = .ok (.aload_n 0, 1) := by decide +kernel
theorem dX6_faults_14 : decode cX6_faults 14 = .ok (.iconst 1, 1) := by decide +kernel
theorem dX6_faults_15 : decode cX6_faults 15 = .ok (.invokevirtual 142, 3) := by decide +kernel
theorem dX6_faults_18 : decode cX6_faults 18 = .ok (.ireturn, 1) := by decide +kernel
theorem dX6_read_0 : decode cX6_read 0 = .ok (.aload_n 0, 1) := by decide +kernel
theorem dX6_read_1 : decode cX6_read 1 = .ok (.iconst 0, 1) := by decide +kernel
theorem dX6_read_2 : decode cX6_read 2 = .ok (.putfield 74, 3) := by decide +kernel
theorem dX6_read_5 : decode cX6_read 5 = .ok (.iconst 0, 1) := by decide +kernel
theorem dX6_read_6 : decode cX6_read 6 = .ok (.istore_n 1, 1) := by decide +kernel
theorem dX6_read_7 : decode cX6_read 7 = .ok (.iload_n 1, 1) := by decide +kernel
theorem dX6_read_8 : decode cX6_read 8 = .ok (.sipush 517, 3) := by decide +kernel
theorem dX6_read_11 : decode cX6_read 11 = .ok (.if_icmp .ge 21, 3) := by decide +kernel
theorem dX6_read_14 : decode cX6_read 14 = .ok (.aload_n 0, 1) := by decide +kernel
theorem dX6_read_15 : decode cX6_read 15 = .ok (.getfield 19, 3) := by decide +kernel
theorem dX6_read_18 : decode cX6_read 18 = .ok (.iload_n 1, 1) := by decide +kernel
theorem dX6_read_19 : decode cX6_read 19 = .ok (.aload_n 0, 1) := by decide +kernel
theorem dX6_read_20 : decode cX6_read 20 = .ok (.getfield 9, 3) := by decide +kernel
theorem dX6_read_23 : decode cX6_read 23 = .ok (.iload_n 1, 1) := by decide +kernel
theorem dX6_read_24 : decode cX6_read 24 = .ok (.iaload, 1) := by decide +kernel
theorem dX6_read_25 : decode cX6_read 25 = .ok (.iastore, 1) := by decide +kernel
theorem dX6_read_26 : decode cX6_read 26 = .ok (.iinc 1 1, 3) := by decide +kernel
theorem dX6_read_29 : decode cX6_read 29 = .ok (.goto (-22), 3) := by decide +kernel
theorem dX6_read_32 : decode cX6_read 32 = .ok (.aload_n 0, 1) := by decide +kernel
theorem dX6_read_33 : decode cX6_read 33 = .ok (.iconst 0, 1) := by decide +kernel
theorem dX6_read_34 : decode cX6_read 34 = .ok (.putfield 223, 3) := by decide +kernel
theorem dX6_read_37 : decode cX6_read 37 = .ok (.iconst 0, 1) := by decide +kernel
theorem dX6_read_38 : decode cX6_read 38 = .ok (.istore_n 1, 1) := by decide +kernel
theorem dX6_read_39 : decode cX6_read 39 = .ok (.iconst 0, 1) := by decide +kernel
theorem dX6_read_40 : decode cX6_read 40 = .ok (.istore_n 2, 1) := by decide +kernel
theorem dX6_read_41 : decode cX6_read 41 = .ok (.iconst 0, 1) := by decide +kernel
theorem dX6_read_42 : decode cX6_read 42 = .ok (.istore_n 3, 1) := by decide +kernel
theorem dX6_read_43 : decode cX6_read 43 = .ok (.iconst 1, 1) := by decide +kernel
theorem dX6_read_44 : decode cX6_read 44 = .ok (.istore 4, 2) := by decide +kernel
theorem dX6_read_46 : decode cX6_read 46 = .ok (.iload 4, 2) := by decide +kernel
theorem dX6_read_48 : decode cX6_read 48 = .ok (.ifCond .eq 76, 3) := by decide +kernel
theorem dX6_read_51 : decode cX6_read 51 = .ok (.aload_n 0, 1) := by decide +kernel
theorem dX6_read_52 : decode cX6_read 52 = .ok (.invokevirtual 242, 3) := by decide +kernel
theorem dX6_read_55 : decode cX6_read 55 = .ok (.istore 5, 2) := by decide +kernel
theorem dX6_read_57 : decode cX6_read 57 = .ok (.iload 5, 2) := by decide +kernel
theorem dX6_read_59 : decode cX6_read 59 = .ok (.ifCond .ge 8, 3) := by decide +kernel
theorem dX6_read_62 : decode cX6_read 62 = .ok (.aload_n 0, 1) := by decide +kernel
theorem dX6_read_63 : decode cX6_read 63 = .ok (.invokevirtual 245, 3) := by decide +kernel
theorem dX6_read_66 : decode cX6_read 66 = .ok (.ireturn, 1) := by decide +kernel
theorem dX6_read_67 : decode cX6_read 67 = .ok (.iload 5, 2) := by decide +kernel
theorem dX6_read_69 : decode cX6_read 69 = .ok (.ifCond .le 12, 3) := by decide +kernel
theorem dX6_read_72 : decode cX6_read 72 = .ok (.iload_n 2, 1) := by decide +kernel
theorem dX6_read_73 : decode cX6_read 73 = .ok (.ifCond .ne 8, 3) := by decide +kernel
theorem dX6_read_76 : decode cX6_read 76 = .ok (.iload 5, 2) := by decide +kernel
theorem dX6_read_78 : decode cX6_read 78 = .ok (.istore_n 2, 1) := by decide +kernel
theorem dX6_read_79 : decode cX6_read 79 = .ok (.iload_n 1, 1) := by decide +kernel
theorem dX6_read_80 : decode cX6_read 80 = .ok (.istore_n 3, 1) := by decide +kernel
theorem dX6_read_81 : decode cX6_read 81 = .ok (.iinc 1 1, 3) := by decide +kernel
theorem dX6_read_84 : decode cX6_read 84 = .ok (.aload_n 0, 1) := by decide +kernel
theorem dX6_read_85 : decode cX6_read 85 = .ok (.getfield 223, 3) := by decide +kernel
theorem dX6_read_88 : decode cX6_read 88 = .ok (.aload_n 0, 1) := by decide +kernel
theorem dX6_read_89 : decode cX6_read 89 = .ok (.getfield 155, 3) := by decide +kernel
theorem dX6_read_92 : decode cX6_read 92 = .ok (.if_icmp .ge 7, 3) := by decide +kernel
theorem dX6_read_95 : decode cX6_read 95 = .ok (.iconst 1, 1) := by decide +kernel
theorem dX6_read_96 : decode cX6_read 96 = .ok (.goto 4, 3) := by decide +kernel
theorem dX6_read_99 : decode cX6_read 99 = .ok (.iconst 0, 1) := by decide +kernel
theorem dX6_read_100 : decode cX6_read 100 = .ok (.istore 4, 2) := by decide +kernel
theorem dX6_read_102 : decode cX6_read 102 = .ok (.iload 4, 2) := by decide +kernel
theorem dX6_read_104 : decode cX6_read 104 = .ok (.ifCond .eq 17, 3) := by decide +kernel
theorem dX6_read_107 : decode cX6_read 107 = .ok (.aload_n 0, 1) := by decide +kernel
theorem dX6_read_108 : decode cX6_read 108 = .ok (.bipush 59, 2) := by decide +kernel
theorem dX6_read_110 : decode cX6_read 110 = .ok (.invokevirtual 233, 3) := by decide +kernel
theorem dX6_read_113 : decode cX6_read 113 = .ok (.ifCond .ne 8, 3) := by decide +kernel
theorem dX6_read_116 : decode cX6_read 116 = .ok (.aload_n 0, 1) := by decide +kernel
theorem dX6_read_117 : decode cX6_read 117 = .ok (.invokevirtual 245, 3) := by decide +kernel
theorem dX6_read_120 : decode cX6_read 120 = .ok (.ireturn, 1) := by decide +kernel
theorem dX6_read_121 : decode cX6_read 121 = .ok (.goto (-75), 3) := by decide +kernel
theorem dX6_read_124 : decode cX6_read 124 = .ok (.aload_n 0, 1) := by decide +kernel
theorem dX6_read_125 : decode cX6_read 125 = .ok (.iconst 0, 1) := by decide +kernel
theorem dX6_read_126 : decode cX6_read 126 = .ok (.putfield 155, 3) := by decide +kernel
theorem dX6_read_129 : decode cX6_read 129 = .ok (.iload_n 2, 1) := by decide +kernel
theorem dX6_read_130 : decode cX6_read 130 = .ok (.ifCond .le 10, 3) := by decide +kernel
theorem dX6_read_133 : decode cX6_read 133 = .ok (.aload_n 0, 1) := by decide +kernel
theorem dX6_read_134 : decode cX6_read 134 = .ok (.iload_n 2, 1) := by decide +kernel
theorem dX6_read_135 : decode cX6_read 135 = .ok (.iload_n 3, 1) := by decide +kernel
theorem dX6_read_136 : decode cX6_read 136 = .ok (.invokevirtual 178, 3) := by decide +kernel
theorem dX6_read_139 : decode cX6_read 139 = .ok (.ireturn, 1) := by decide +kernel
theorem dX6_read_140 : decode cX6_read 140 = .ok (.aload_n 0, 1) := by decide +kernel
theorem dX6_read_141 : decode cX6_read 141 = .ok (.invokevirtual 145, 3) := by decide +kernel
theorem dX6_read_144 : decode cX6_read 144 = .ok (.iconst 0, 1) := by decide +kernel
theorem dX6_read_145 : decode cX6_read 145 = .ok (.istore 5, 2) := by decide +kernel
theorem dX6_read_147 : decode cX6_read 147 = .ok (.iload 5, 2) := by decide +kernel
theorem dX6_read_149 : decode cX6_read 149 = .ok (.sipush 517, 3) := by decide +kernel
theorem dX6_read_152 : decode cX6_read 152 = .ok (.if_icmp .ge 23, 3) := by decide +kernel
theorem dX6_read_155 : decode cX6_read 155 = .ok (.aload_n 0, 1) := by decide +kernel
theorem dX6_read_156 : decode cX6_read 156 = .ok (.getfield 9, 3) := by decide +kernel
theorem dX6_read_159 : decode cX6_read 159 = .ok (.iload 5, 2) := by decide +kernel
theorem dX6_read_161 : decode cX6_read 161 = .ok (.aload_n 0, 1) := by decide +kernel
theorem dX6_read_162 : decode cX6_read 162 = .ok (.getfield 19, 3) := by decide +kernel
theorem dX6_read_165 : decode cX6_read 165 = .ok (.iload 5, 2) := by decide +kernel
theorem dX6_read_167 : decode cX6_read 167 = .ok (.iaload, 1) := by decide +kernel
theorem dX6_read_168 : decode cX6_read 168 = .ok (.iastore, 1) := by decide +kernel
theorem dX6_read_169 : decode cX6_read 169 = .ok (.iinc 5 1, 3) := by decide +kernel
theorem dX6_read_172 : decode cX6_read 172 = .ok (.goto (-25), 3) := by decide +kernel
theorem dX6_read_175 : decode cX6_read 175 = .ok (.iload_n 1, 1) := by decide +kernel
theorem dX6_read_176 : decode cX6_read 176 = .ok (.ireturn, 1) := by decide +kernel
theorem dX6_faultPosition_0 : decode cX6_faultPosition 0 = .ok (.aload_n 0, 1) := by decide +kernel
theorem dX6_faultPosition_1 : decode cX6_faultPosition 1 = .ok (.iconst 0, 1) := by decide +kernel
theorem dX6_faultPosition_2 : decode cX6_faultPosition 2 = .ok (.putfield 74, 3) := by decide +kernel
theorem dX6_faultPosition_5 : decode cX6_faultPosition 5 = .ok (.aload_n 0, 1) := by decide +kernel
theorem dX6_faultPosition_6 : decode cX6_faultPosition 6 = .ok (.getfield 25, 3) := by decide +kernel
theorem dX6_faultPosition_9 : decode cX6_faultPosition 9 = .ok (.ifCond .ge 11, 3) := by decide +kernel
theorem dX6_faultPosition_12 : decode cX6_faultPosition 12 = .ok (.aload_n 0, 1) := by decide +kernel
theorem dX6_faultPosition_13 : decode cX6_faultPosition 13 = .ok (.iconst 1, 1) := by decide +kernel
theorem dX6_faultPosition_14 : decode cX6_faultPosition 14 = .ok (.invokevirtual 142, 3) := by decide +kernel
theorem dX6_faultPosition_17 : decode cX6_faultPosition 17 = .ok (.goto 7, 3) := by decide +kernel
theorem dX6_faultPosition_20 : decode cX6_faultPosition 20 = .ok (.aload_n 0, 1) := by decide +kernel
theorem dX6_faultPosition_21 : decode cX6_faultPosition 21 = .ok (.getfield 25, 3) := by decide +kernel
theorem dX6_faultPosition_24 : decode cX6_faultPosition 24 = .ok (.ireturn, 1) := by decide +kernel
theorem dX6_refusal_0 : decode cX6_refusal 0 = .ok (.aload_n 0, 1) := by decide +kernel
theorem dX6_refusal_1 : decode cX6_refusal 1 = .ok (.iconst 0, 1) := by decide +kernel
theorem dX6_refusal_2 : decode cX6_refusal 2 = .ok (.putfield 74, 3) := by decide +kernel
theorem dX6_refusal_5 : decode cX6_refusal 5 = .ok (.aload_n 0, 1) := by decide +kernel
theorem dX6_refusal_6 : decode cX6_refusal 6 = .ok (.getfield 172, 3) := by decide +kernel
theorem dX6_refusal_9 : decode cX6_refusal 9 = .ok (.ifCond .ne 9, 3) := by decide +kernel
theorem dX6_refusal_12 : decode cX6_refusal 12 = .ok (.aload_n 0, 1) := by decide +kernel
theorem dX6_refusal_13 : decode cX6_refusal 13 = .ok (.iconst 1, 1) := by decide +kernel
theorem dX6_refusal_14 : decode cX6_refusal 14 = .ok (.invokevirtual 142, 3) := by decide +kernel
theorem dX6_refusal_17 : decode cX6_refusal 17 = .ok (.ireturn, 1) := by decide +kernel
theorem dX6_refusal_18 : decode cX6_refusal 18 = .ok (.iload_n 1, 1) := by decide +kernel
theorem dX6_refusal_19 : decode cX6_refusal 19 = .ok (.ifCond .eq 10, 3) := by decide +kernel
theorem dX6_refusal_22 : decode cX6_refusal 22 = .ok (.aload_n 0, 1) := by decide +kernel
theorem dX6_refusal_23 : decode cX6_refusal 23 = .ok (.getfield 172, 3) := by decide +kernel
theorem dX6_refusal_26 : decode cX6_refusal 26 = .ok (.goto 7, 3) := by decide +kernel
theorem dX6_refusal_29 : decode cX6_refusal 29 = .ok (.aload_n 0, 1) := by decide +kernel
theorem dX6_refusal_30 : decode cX6_refusal 30 = .ok (.getfield 175, 3) := by decide +kernel
theorem dX6_refusal_33 : decode cX6_refusal 33 = .ok (.ireturn, 1) := by decide +kernel
theorem dX6_undo_0 : decode cX6_undo 0 = .ok (.aload_n 0, 1) := by decide +kernel
theorem dX6_undo_1 : decode cX6_undo 1 = .ok (.iconst 0, 1) := by decide +kernel
theorem dX6_undo_2 : decode cX6_undo 2 = .ok (.putfield 74, 3) := by decide +kernel
theorem dX6_undo_5 : decode cX6_undo 5 = .ok (.aload_n 0, 1) := by decide +kernel
theorem dX6_undo_6 : decode cX6_undo 6 = .ok (.getfield 94, 3) := by decide +kernel
theorem dX6_undo_9 : decode cX6_undo 9 = .ok (.ifCond .ne 9, 3) := by decide +kernel
theorem dX6_undo_12 : decode cX6_undo 12 = .ok (.aload_n 0, 1) := by decide +kernel
theorem dX6_undo_13 : decode cX6_undo 13 = .ok (.iconst 1, 1) := by decide +kernel
theorem dX6_undo_14 : decode cX6_undo 14 = .ok (.invokevirtual 142, 3) := by decide +kernel
theorem dX6_undo_17 : decode cX6_undo 17 = .ok (.ireturn, 1) := by decide +kernel
theorem dX6_undo_18 : decode cX6_undo 18 = .ok (.aload_n 0, 1) := by decide +kernel
theorem dX6_undo_19 : decode cX6_undo 19 = .ok (.dup, 1) := by decide +kernel
theorem dX6_undo_20 : decode cX6_undo 20 = .ok (.getfield 94, 3) := by decide +kernel
theorem dX6_undo_23 : decode cX6_undo 23 = .ok (.iconst 1, 1) := by decide +kernel
theorem dX6_undo_24 : decode cX6_undo 24 = .ok (.isub, 1) := by decide +kernel
theorem dX6_undo_25 : decode cX6_undo 25 = .ok (.putfield 94, 3) := by decide +kernel
theorem dX6_undo_28 : decode cX6_undo 28 = .ok (.iconst 0, 1) := by decide +kernel
theorem dX6_undo_29 : decode cX6_undo 29 = .ok (.istore_n 1, 1) := by decide +kernel
theorem dX6_undo_30 : decode cX6_undo 30 = .ok (.iload_n 1, 1) := by decide +kernel
theorem dX6_undo_31 : decode cX6_undo 31 = .ok (.sipush 517, 3) := by decide +kernel
theorem dX6_undo_34 : decode cX6_undo 34 = .ok (.if_icmp .ge 30, 3) := by decide +kernel
theorem dX6_undo_37 : decode cX6_undo 37 = .ok (.aload_n 0, 1) := by decide +kernel
theorem dX6_undo_38 : decode cX6_undo 38 = .ok (.getfield 9, 3) := by decide +kernel
theorem dX6_undo_41 : decode cX6_undo 41 = .ok (.iload_n 1, 1) := by decide +kernel
theorem dX6_undo_42 : decode cX6_undo 42 = .ok (.aload_n 0, 1) := by decide +kernel
theorem dX6_undo_43 : decode cX6_undo 43 = .ok (.getfield 13, 3) := by decide +kernel
theorem dX6_undo_46 : decode cX6_undo 46 = .ok (.sipush 517, 3) := by decide +kernel
theorem dX6_undo_49 : decode cX6_undo 49 = .ok (.aload_n 0, 1) := by decide +kernel
theorem dX6_undo_50 : decode cX6_undo 50 = .ok (.getfield 94, 3) := by decide +kernel
theorem dX6_undo_53 : decode cX6_undo 53 = .ok (.imul, 1) := by decide +kernel
theorem dX6_undo_54 : decode cX6_undo 54 = .ok (.iload_n 1, 1) := by decide +kernel
theorem dX6_undo_55 : decode cX6_undo 55 = .ok (.iadd, 1) := by decide +kernel
theorem dX6_undo_56 : decode cX6_undo 56 = .ok (.iaload, 1) := by decide +kernel
theorem dX6_undo_57 : decode cX6_undo 57 = .ok (.iastore, 1) := by decide +kernel
theorem dX6_undo_58 : decode cX6_undo 58 = .ok (.iinc 1 1, 3) := by decide +kernel
theorem dX6_undo_61 : decode cX6_undo 61 = .ok (.goto (-31), 3) := by decide +kernel
theorem dX6_undo_64 : decode cX6_undo 64 = .ok (.aload_n 0, 1) := by decide +kernel
theorem dX6_undo_65 : decode cX6_undo 65 = .ok (.getfield 94, 3) := by decide +kernel
theorem dX6_undo_68 : decode cX6_undo 68 = .ok (.ireturn, 1) := by decide +kernel
theorem dX6_saveSnapshot_0 : decode cX6_saveSnapshot 0 = .ok (.aload_n 0, 1) := by decide +kernel
theorem dX6_saveSnapshot_1 : decode cX6_saveSnapshot 1 = .ok (.iconst 0, 1) := by decide +kernel
theorem dX6_saveSnapshot_2 : decode cX6_saveSnapshot 2 = .ok (.putfield 74, 3) := by decide +kernel
theorem dX6_saveSnapshot_5 : decode cX6_saveSnapshot 5 = .ok (.aload_n 0, 1) := by decide +kernel
theorem dX6_saveSnapshot_6 : decode cX6_saveSnapshot 6 = .ok (.iconst 1, 1) := by decide +kernel
theorem dX6_saveSnapshot_7 : decode cX6_saveSnapshot 7 = .ok (.putfield 248, 3) := by decide +kernel
theorem dX6_saveSnapshot_10 : decode cX6_saveSnapshot 10 = .ok (.iconst 0, 1) := by decide +kernel
theorem dX6_saveSnapshot_11 : decode cX6_saveSnapshot 11 = .ok (.istore_n 1, 1) := by decide +kernel
theorem dX6_saveSnapshot_12 : decode cX6_saveSnapshot 12 = .ok (.iload_n 1, 1) := by decide +kernel
theorem dX6_saveSnapshot_13 : decode cX6_saveSnapshot 13 = .ok (.sipush 517, 3) := by decide +kernel
theorem dX6_saveSnapshot_16 : decode cX6_saveSnapshot 16 = .ok (.if_icmp .ge 21, 3) := by decide +kernel
theorem dX6_saveSnapshot_19 : decode cX6_saveSnapshot 19 = .ok (.aload_n 0, 1) := by decide +kernel
theorem dX6_saveSnapshot_20 : decode cX6_saveSnapshot 20 = .ok (.getfield 16, 3) := by decide +kernel
theorem dX6_saveSnapshot_23 : decode cX6_saveSnapshot 23 = .ok (.iload_n 1, 1) := by decide +kernel
theorem dX6_saveSnapshot_24 : decode cX6_saveSnapshot 24 = .ok (.aload_n 0, 1) := by decide +kernel
theorem dX6_saveSnapshot_25 : decode cX6_saveSnapshot 25 = .ok (.getfield 9, 3) := by decide +kernel
theorem dX6_saveSnapshot_28 : decode cX6_saveSnapshot 28 = .ok (.iload_n 1, 1) := by decide +kernel
theorem dX6_saveSnapshot_29 : decode cX6_saveSnapshot 29 = .ok (.iaload, 1) := by decide +kernel
theorem dX6_saveSnapshot_30 : decode cX6_saveSnapshot 30 = .ok (.iastore, 1) := by decide +kernel
theorem dX6_saveSnapshot_31 : decode cX6_saveSnapshot 31 = .ok (.iinc 1 1, 3) := by decide +kernel
theorem dX6_saveSnapshot_34 : decode cX6_saveSnapshot 34 = .ok (.goto (-22), 3) := by decide +kernel
theorem dX6_saveSnapshot_37 : decode cX6_saveSnapshot 37 = .ok (.aload_n 0, 1) := by decide +kernel
theorem dX6_saveSnapshot_38 : decode cX6_saveSnapshot 38 = .ok (.invokevirtual 91, 3) := by decide +kernel
theorem dX6_saveSnapshot_41 : decode cX6_saveSnapshot 41 = .ok (.ireturn, 1) := by decide +kernel
theorem dX6_restoreSnapshot_0 : decode cX6_restoreSnapshot 0 = .ok (.aload_n 0, 1) := by decide +kernel
theorem dX6_restoreSnapshot_1 : decode cX6_restoreSnapshot 1 = .ok (.iconst 0, 1) := by decide +kernel
theorem dX6_restoreSnapshot_2 : decode cX6_restoreSnapshot 2 = .ok (.putfield 74, 3) := by decide +kernel
theorem dX6_restoreSnapshot_5 : decode cX6_restoreSnapshot 5 = .ok (.aload_n 0, 1) := by decide +kernel
theorem dX6_restoreSnapshot_6 : decode cX6_restoreSnapshot 6 = .ok (.getfield 248, 3) := by decide +kernel
theorem dX6_restoreSnapshot_9 : decode cX6_restoreSnapshot 9 = .ok (.ifCond .ne 9, 3) := by decide +kernel
theorem dX6_restoreSnapshot_12 : decode cX6_restoreSnapshot 12 = .ok (.aload_n 0, 1) := by decide +kernel
theorem dX6_restoreSnapshot_13 : decode cX6_restoreSnapshot 13 = .ok (.iconst 1, 1) := by decide +kernel
theorem dX6_restoreSnapshot_14 : decode cX6_restoreSnapshot 14 = .ok (.invokevirtual 142, 3) := by decide +kernel
theorem dX6_restoreSnapshot_17 : decode cX6_restoreSnapshot 17 = .ok (.ireturn, 1) := by decide +kernel
theorem dX6_restoreSnapshot_18 : decode cX6_restoreSnapshot 18 = .ok (.iconst 0, 1) := by decide +kernel
theorem dX6_restoreSnapshot_19 : decode cX6_restoreSnapshot 19 = .ok (.istore_n 1, 1) := by decide +kernel
theorem dX6_restoreSnapshot_20 : decode cX6_restoreSnapshot 20 = .ok (.iload_n 1, 1) := by decide +kernel
theorem dX6_restoreSnapshot_21 : decode cX6_restoreSnapshot 21 = .ok (.sipush 517, 3) := by decide +kernel
theorem dX6_restoreSnapshot_24 : decode cX6_restoreSnapshot 24 = .ok (.if_icmp .ge 21, 3) := by decide +kernel
theorem dX6_restoreSnapshot_27 : decode cX6_restoreSnapshot 27 = .ok (.aload_n 0, 1) := by decide +kernel
theorem dX6_restoreSnapshot_28 : decode cX6_restoreSnapshot 28 = .ok (.getfield 9, 3) := by decide +kernel
theorem dX6_restoreSnapshot_31 : decode cX6_restoreSnapshot 31 = .ok (.iload_n 1, 1) := by decide +kernel
theorem dX6_restoreSnapshot_32 : decode cX6_restoreSnapshot 32 = .ok (.aload_n 0, 1) := by decide +kernel
theorem dX6_restoreSnapshot_33 : decode cX6_restoreSnapshot 33 = .ok (.getfield 16, 3) := by decide +kernel
theorem dX6_restoreSnapshot_36 : decode cX6_restoreSnapshot 36 = .ok (.iload_n 1, 1) := by decide +kernel
theorem dX6_restoreSnapshot_37 : decode cX6_restoreSnapshot 37 = .ok (.iaload, 1) := by decide +kernel
theorem dX6_restoreSnapshot_38 : decode cX6_restoreSnapshot 38 = .ok (.iastore, 1) := by decide +kernel
theorem dX6_restoreSnapshot_39 : decode cX6_restoreSnapshot 39 = .ok (.iinc 1 1, 3) := by decide +kernel
theorem dX6_restoreSnapshot_42 : decode cX6_restoreSnapshot 42 = .ok (.goto (-22), 3) := by decide +kernel
theorem dX6_restoreSnapshot_45 : decode cX6_restoreSnapshot 45 = .ok (.aload_n 0, 1) := by decide +kernel
theorem dX6_restoreSnapshot_46 : decode cX6_restoreSnapshot 46 = .ok (.iconst 0, 1) := by decide +kernel
theorem dX6_restoreSnapshot_47 : decode cX6_restoreSnapshot 47 = .ok (.putfield 94, 3) := by decide +kernel
theorem dX6_restoreSnapshot_50 : decode cX6_restoreSnapshot 50 = .ok (.aload_n 0, 1) := by decide +kernel
theorem dX6_restoreSnapshot_51 : decode cX6_restoreSnapshot 51 = .ok (.invokevirtual 91, 3) := by decide +kernel
theorem dX6_restoreSnapshot_54 : decode cX6_restoreSnapshot 54 = .ok (.ireturn, 1) := by decide +kernel
theorem dJ13_bitCount_95d88_0 : decode cJ13_bitCount_95d88 0 = .ok (.lload_n 0, 1) := by decide +kernel
theorem dJ13_bitCount_95d88_1 : decode cJ13_bitCount_95d88 1 = .ok (.lload_n 0, 1) := by decide +kernel
theorem dJ13_bitCount_95d88_2 : decode cJ13_bitCount_95d88 2 = .ok (.iconst 1, 1) := by decide +kernel
theorem dJ13_bitCount_95d88_3 : decode cJ13_bitCount_95d88 3 = .ok (.lushr, 1) := by decide +kernel
theorem dJ13_bitCount_95d88_4 : decode cJ13_bitCount_95d88 4 = .ok (.ldc2_w 314, 3) := by decide +kernel
theorem dJ13_bitCount_95d88_7 : decode cJ13_bitCount_95d88 7 = .ok (.land, 1) := by decide +kernel
theorem dJ13_bitCount_95d88_8 : decode cJ13_bitCount_95d88 8 = .ok (.lsub, 1) := by decide +kernel
theorem dJ13_bitCount_95d88_9 : decode cJ13_bitCount_95d88 9 = .ok (.lstore_n 0, 1) := by decide +kernel
theorem dJ13_bitCount_95d88_10 : decode cJ13_bitCount_95d88 10 = .ok (.lload_n 0, 1) := by decide +kernel
theorem dJ13_bitCount_95d88_11 : decode cJ13_bitCount_95d88 11 = .ok (.ldc2_w 316, 3) := by decide +kernel
theorem dJ13_bitCount_95d88_14 : decode cJ13_bitCount_95d88 14 = .ok (.land, 1) := by decide +kernel
theorem dJ13_bitCount_95d88_15 : decode cJ13_bitCount_95d88 15 = .ok (.lload_n 0, 1) := by decide +kernel
theorem dJ13_bitCount_95d88_16 : decode cJ13_bitCount_95d88 16 = .ok (.iconst 2, 1) := by decide +kernel
theorem dJ13_bitCount_95d88_17 : decode cJ13_bitCount_95d88 17 = .ok (.lushr, 1) := by decide +kernel
theorem dJ13_bitCount_95d88_18 : decode cJ13_bitCount_95d88 18 = .ok (.ldc2_w 316, 3) := by decide +kernel
theorem dJ13_bitCount_95d88_21 : decode cJ13_bitCount_95d88 21 = .ok (.land, 1) := by decide +kernel
theorem dJ13_bitCount_95d88_22 : decode cJ13_bitCount_95d88 22 = .ok (.ladd, 1) := by decide +kernel
theorem dJ13_bitCount_95d88_23 : decode cJ13_bitCount_95d88 23 = .ok (.lstore_n 0, 1) := by decide +kernel
theorem dJ13_bitCount_95d88_24 : decode cJ13_bitCount_95d88 24 = .ok (.lload_n 0, 1) := by decide +kernel
theorem dJ13_bitCount_95d88_25 : decode cJ13_bitCount_95d88 25 = .ok (.lload_n 0, 1) := by decide +kernel
theorem dJ13_bitCount_95d88_26 : decode cJ13_bitCount_95d88 26 = .ok (.iconst 4, 1) := by decide +kernel
theorem dJ13_bitCount_95d88_27 : decode cJ13_bitCount_95d88 27 = .ok (.lushr, 1) := by decide +kernel
theorem dJ13_bitCount_95d88_28 : decode cJ13_bitCount_95d88 28 = .ok (.ladd, 1) := by decide +kernel
theorem dJ13_bitCount_95d88_29 : decode cJ13_bitCount_95d88 29 = .ok (.ldc2_w 318, 3) := by decide +kernel
theorem dJ13_bitCount_95d88_32 : decode cJ13_bitCount_95d88 32 = .ok (.land, 1) := by decide +kernel
theorem dJ13_bitCount_95d88_33 : decode cJ13_bitCount_95d88 33 = .ok (.lstore_n 0, 1) := by decide +kernel
theorem dJ13_bitCount_95d88_34 : decode cJ13_bitCount_95d88 34 = .ok (.lload_n 0, 1) := by decide +kernel
theorem dJ13_bitCount_95d88_35 : decode cJ13_bitCount_95d88 35 = .ok (.lload_n 0, 1) := by decide +kernel
theorem dJ13_bitCount_95d88_36 : decode cJ13_bitCount_95d88 36 = .ok (.bipush 8, 2) := by decide +kernel
theorem dJ13_bitCount_95d88_38 : decode cJ13_bitCount_95d88 38 = .ok (.lushr, 1) := by decide +kernel
theorem dJ13_bitCount_95d88_39 : decode cJ13_bitCount_95d88 39 = .ok (.ladd, 1) := by decide +kernel
theorem dJ13_bitCount_95d88_40 : decode cJ13_bitCount_95d88 40 = .ok (.lstore_n 0, 1) := by decide +kernel
theorem dJ13_bitCount_95d88_41 : decode cJ13_bitCount_95d88 41 = .ok (.lload_n 0, 1) := by decide +kernel
theorem dJ13_bitCount_95d88_42 : decode cJ13_bitCount_95d88 42 = .ok (.lload_n 0, 1) := by decide +kernel
theorem dJ13_bitCount_95d88_43 : decode cJ13_bitCount_95d88 43 = .ok (.bipush 16, 2) := by decide +kernel
theorem dJ13_bitCount_95d88_45 : decode cJ13_bitCount_95d88 45 = .ok (.lushr, 1) := by decide +kernel
theorem dJ13_bitCount_95d88_46 : decode cJ13_bitCount_95d88 46 = .ok (.ladd, 1) := by decide +kernel
theorem dJ13_bitCount_95d88_47 : decode cJ13_bitCount_95d88 47 = .ok (.lstore_n 0, 1) := by decide +kernel
theorem dJ13_bitCount_95d88_48 : decode cJ13_bitCount_95d88 48 = .ok (.lload_n 0, 1) := by decide +kernel
theorem dJ13_bitCount_95d88_49 : decode cJ13_bitCount_95d88 49 = .ok (.lload_n 0, 1) := by decide +kernel
theorem dJ13_bitCount_95d88_50 : decode cJ13_bitCount_95d88 50 = .ok (.bipush 32, 2) := by decide +kernel
theorem dJ13_bitCount_95d88_52 : decode cJ13_bitCount_95d88 52 = .ok (.lushr, 1) := by decide +kernel
theorem dJ13_bitCount_95d88_53 : decode cJ13_bitCount_95d88 53 = .ok (.ladd, 1) := by decide +kernel
theorem dJ13_bitCount_95d88_54 : decode cJ13_bitCount_95d88 54 = .ok (.lstore_n 0, 1) := by decide +kernel
theorem dJ13_bitCount_95d88_55 : decode cJ13_bitCount_95d88 55 = .ok (.lload_n 0, 1) := by decide +kernel
theorem dJ13_bitCount_95d88_56 : decode cJ13_bitCount_95d88 56 = .ok (.l2i, 1) := by decide +kernel
theorem dJ13_bitCount_95d88_57 : decode cJ13_bitCount_95d88 57 = .ok (.bipush 127, 2) := by decide +kernel
theorem dJ13_bitCount_95d88_59 : decode cJ13_bitCount_95d88 59 = .ok (.iand, 1) := by decide +kernel
theorem dJ13_bitCount_95d88_60 : decode cJ13_bitCount_95d88 60 = .ok (.ireturn, 1) := by decide +kernel
theorem dJ9_abs_0f7a4_0 : decode cJ9_abs_0f7a4 0 = .ok (.iload_n 0, 1) := by decide +kernel
theorem dJ9_abs_0f7a4_1 : decode cJ9_abs_0f7a4 1 = .ok (.ifCond .ge 8, 3) := by decide +kernel
theorem dJ9_abs_0f7a4_4 : decode cJ9_abs_0f7a4 4 = .ok (.iload_n 0, 1) := by decide +kernel
theorem dJ9_abs_0f7a4_5 : decode cJ9_abs_0f7a4 5 = .ok (.ineg, 1) := by decide +kernel
theorem dJ9_abs_0f7a4_6 : decode cJ9_abs_0f7a4 6 = .ok (.goto 4, 3) := by decide +kernel
theorem dJ9_abs_0f7a4_9 : decode cJ9_abs_0f7a4 9 = .ok (.iload_n 0, 1) := by decide +kernel
theorem dJ9_abs_0f7a4_10 : decode cJ9_abs_0f7a4 10 = .ok (.ireturn, 1) := by decide +kernel
theorem dJ9_max_7cf53_0 : decode cJ9_max_7cf53 0 = .ok (.iload_n 0, 1) := by decide +kernel
theorem dJ9_max_7cf53_1 : decode cJ9_max_7cf53 1 = .ok (.iload_n 1, 1) := by decide +kernel
theorem dJ9_max_7cf53_2 : decode cJ9_max_7cf53 2 = .ok (.if_icmp .lt 7, 3) := by decide +kernel
theorem dJ9_max_7cf53_5 : decode cJ9_max_7cf53 5 = .ok (.iload_n 0, 1) := by decide +kernel
theorem dJ9_max_7cf53_6 : decode cJ9_max_7cf53 6 = .ok (.goto 4, 3) := by decide +kernel
theorem dJ9_max_7cf53_9 : decode cJ9_max_7cf53 9 = .ok (.iload_n 1, 1) := by decide +kernel
theorem dJ9_max_7cf53_10 : decode cJ9_max_7cf53 10 = .ok (.ireturn, 1) := by decide +kernel
theorem dJ9_min_7cf53_0 : decode cJ9_min_7cf53 0 = .ok (.iload_n 0, 1) := by decide +kernel
theorem dJ9_min_7cf53_1 : decode cJ9_min_7cf53 1 = .ok (.iload_n 1, 1) := by decide +kernel
theorem dJ9_min_7cf53_2 : decode cJ9_min_7cf53 2 = .ok (.if_icmp .gt 7, 3) := by decide +kernel
theorem dJ9_min_7cf53_5 : decode cJ9_min_7cf53 5 = .ok (.iload_n 0, 1) := by decide +kernel
theorem dJ9_min_7cf53_6 : decode cJ9_min_7cf53 6 = .ok (.goto 4, 3) := by decide +kernel
theorem dJ9_min_7cf53_9 : decode cJ9_min_7cf53 9 = .ok (.iload_n 1, 1) := by decide +kernel
theorem dJ9_min_7cf53_10 : decode cJ9_min_7cf53 10 = .ok (.ireturn, 1) := by decide +kernel
theorem dJ0_length_8abf5_0 : decode cJ0_length_8abf5 0 = .ok (.aload_n 0, 1) := by decide +kernel
theorem dJ0_length_8abf5_1 : decode cJ0_length_8abf5 1 = .ok (.getfield 9, 3) := by decide +kernel
theorem dJ0_length_8abf5_4 : decode cJ0_length_8abf5 4 = .ok (.arraylength, 1) := by decide +kernel
theorem dJ0_length_8abf5_5 : decode cJ0_length_8abf5 5 = .ok (.aload_n 0, 1) := by decide +kernel
theorem dJ0_length_8abf5_6 : decode cJ0_length_8abf5 6 = .ok (.invokevirtual 335, 3) := by decide +kernel
theorem dJ0_length_8abf5_9 : decode cJ0_length_8abf5 9 = .ok (.ishr, 1) := by decide +kernel
theorem dJ0_length_8abf5_10 : decode cJ0_length_8abf5 10 = .ok (.ireturn, 1) := by decide +kernel
theorem dJ0_isEmpty_aae02_0 : decode cJ0_isEmpty_aae02 0 = .ok (.aload_n 0, 1) := by decide +kernel
theorem dJ0_isEmpty_aae02_1 : decode cJ0_isEmpty_aae02 1 = .ok (.getfield 9, 3) := by decide +kernel
theorem dJ0_isEmpty_aae02_4 : decode cJ0_isEmpty_aae02 4 = .ok (.arraylength, 1) := by decide +kernel
theorem dJ0_isEmpty_aae02_5 : decode cJ0_isEmpty_aae02 5 = .ok (.ifCond .ne 7, 3) := by decide +kernel
theorem dJ0_isEmpty_aae02_8 : decode cJ0_isEmpty_aae02 8 = .ok (.iconst 1, 1) := by decide +kernel
theorem dJ0_isEmpty_aae02_9 : decode cJ0_isEmpty_aae02 9 = .ok (.goto 4, 3) := by decide +kernel
theorem dJ0_isEmpty_aae02_12 : decode cJ0_isEmpty_aae02 12 = .ok (.iconst 0, 1) := by decide +kernel
theorem dJ0_isEmpty_aae02_13 : decode cJ0_isEmpty_aae02 13 = .ok (.ireturn, 1) := by decide +kernel
theorem dJ0_charAt_5068e_0 : decode cJ0_charAt_5068e 0 = .ok (.aload_n 0, 1) := by decide +kernel
theorem dJ0_charAt_5068e_1 : decode cJ0_charAt_5068e 1 = .ok (.invokevirtual 492, 3) := by decide +kernel
theorem dJ0_charAt_5068e_4 : decode cJ0_charAt_5068e 4 = .ok (.ifCond .eq 12, 3) := by decide +kernel
theorem dJ0_charAt_5068e_7 : decode cJ0_charAt_5068e 7 = .ok (.aload_n 0, 1) := by decide +kernel
theorem dJ0_charAt_5068e_8 : decode cJ0_charAt_5068e 8 = .ok (.getfield 9, 3) := by decide +kernel
theorem dJ0_charAt_5068e_11 : decode cJ0_charAt_5068e 11 = .ok (.iload_n 1, 1) := by decide +kernel
theorem dJ0_charAt_5068e_12 : decode cJ0_charAt_5068e 12 = .ok (.invokestatic 495, 3) := by decide +kernel
theorem dJ0_charAt_5068e_15 : decode cJ0_charAt_5068e 15 = .ok (.ireturn, 1) := by decide +kernel
theorem dJ0_charAt_5068e_16 : decode cJ0_charAt_5068e 16 = .ok (.aload_n 0, 1) := by decide +kernel
theorem dJ0_charAt_5068e_17 : decode cJ0_charAt_5068e 17 = .ok (.getfield 9, 3) := by decide +kernel
theorem dJ0_charAt_5068e_20 : decode cJ0_charAt_5068e 20 = .ok (.iload_n 1, 1) := by decide +kernel
theorem dJ0_charAt_5068e_21 : decode cJ0_charAt_5068e 21 = .ok (.invokestatic 498, 3) := by decide +kernel
theorem dJ0_charAt_5068e_24 : decode cJ0_charAt_5068e 24 = .ok (.ireturn, 1) := by decide +kernel
theorem dJ0_coder_7d493_0 : decode cJ0_coder_7d493 0 = .ok (.getstatic 38, 3) := by decide +kernel
theorem dJ0_coder_7d493_3 : decode cJ0_coder_7d493 3 = .ok (.ifCond .eq 10, 3) := by decide +kernel
theorem dJ0_coder_7d493_6 : decode cJ0_coder_7d493 6 = .ok (.aload_n 0, 1) := by decide +kernel
theorem dJ0_coder_7d493_7 : decode cJ0_coder_7d493 7 = .ok (.getfield 15, 3) := by decide +kernel
theorem dJ0_coder_7d493_10 : decode cJ0_coder_7d493 10 = .ok (.goto 4, 3) := by decide +kernel
theorem dJ0_coder_7d493_13 : decode cJ0_coder_7d493 13 = .ok (.iconst 1, 1) := by decide +kernel
theorem dJ0_coder_7d493_14 : decode cJ0_coder_7d493 14 = .ok (.ireturn, 1) := by decide +kernel
theorem dJ0_isLatin1_aae02_0 : decode cJ0_isLatin1_aae02 0 = .ok (.getstatic 38, 3) := by decide +kernel
theorem dJ0_isLatin1_aae02_3 : decode cJ0_isLatin1_aae02 3 = .ok (.ifCond .eq 14, 3) := by decide +kernel
theorem dJ0_isLatin1_aae02_6 : decode cJ0_isLatin1_aae02 6 = .ok (.aload_n 0, 1) := by decide +kernel
theorem dJ0_isLatin1_aae02_7 : decode cJ0_isLatin1_aae02 7 = .ok (.getfield 15, 3) := by decide +kernel
theorem dJ0_isLatin1_aae02_10 : decode cJ0_isLatin1_aae02 10 = .ok (.ifCond .ne 7, 3) := by decide +kernel
theorem dJ0_isLatin1_aae02_13 : decode cJ0_isLatin1_aae02 13 = .ok (.iconst 1, 1) := by decide +kernel
theorem dJ0_isLatin1_aae02_14 : decode cJ0_isLatin1_aae02 14 = .ok (.goto 4, 3) := by decide +kernel
theorem dJ0_isLatin1_aae02_17 : decode cJ0_isLatin1_aae02 17 = .ok (.iconst 0, 1) := by decide +kernel
theorem dJ0_isLatin1_aae02_18 : decode cJ0_isLatin1_aae02 18 = .ok (.ireturn, 1) := by decide +kernel
theorem dJ0_checkIndex_df160_0 : decode cJ0_checkIndex_df160 0 = .ok (.iload_n 0, 1) := by decide +kernel
theorem dJ0_checkIndex_df160_1 : decode cJ0_checkIndex_df160 1 = .ok (.iload_n 1, 1) := by decide +kernel
theorem dJ0_checkIndex_df160_2 : decode cJ0_checkIndex_df160 2 = .ok (.getstatic 1053, 3) := by decide +kernel
theorem dJ0_checkIndex_df160_5 : decode cJ0_checkIndex_df160 5 = .ok (.invokestatic 1059, 3) := by decide +kernel
theorem dJ0_checkIndex_df160_8 : decode cJ0_checkIndex_df160 8 = .ok (.pop, 1) := by decide +kernel
theorem dJ0_checkIndex_df160_9 : decode cJ0_checkIndex_df160 9 = .ok (.return_, 1) := by decide +kernel
theorem dJ1_charAt_3b067_0 : decode cJ1_charAt_3b067 0 = .ok (.iload_n 1, 1) := by decide +kernel
theorem dJ1_charAt_3b067_1 : decode cJ1_charAt_3b067 1 = .ok (.aload_n 0, 1) := by decide +kernel
theorem dJ1_charAt_3b067_2 : decode cJ1_charAt_3b067 2 = .ok (.arraylength, 1) := by decide +kernel
theorem dJ1_charAt_3b067_3 : decode cJ1_charAt_3b067 3 = .ok (.invokestatic 9, 3) := by decide +kernel
theorem dJ1_charAt_3b067_6 : decode cJ1_charAt_3b067 6 = .ok (.aload_n 0, 1) := by decide +kernel
theorem dJ1_charAt_3b067_7 : decode cJ1_charAt_3b067 7 = .ok (.iload_n 1, 1) := by decide +kernel
theorem dJ1_charAt_3b067_8 : decode cJ1_charAt_3b067 8 = .ok (.baload, 1) := by decide +kernel
theorem dJ1_charAt_3b067_9 : decode cJ1_charAt_3b067 9 = .ok (.sipush 255, 3) := by decide +kernel
theorem dJ1_charAt_3b067_12 : decode cJ1_charAt_3b067 12 = .ok (.iand, 1) := by decide +kernel
theorem dJ1_charAt_3b067_13 : decode cJ1_charAt_3b067 13 = .ok (.i2c, 1) := by decide +kernel
theorem dJ1_charAt_3b067_14 : decode cJ1_charAt_3b067 14 = .ok (.ireturn, 1) := by decide +kernel
theorem dJ2_getChar_3b067_0 : decode cJ2_getChar_3b067 0 = .ok (.getstatic 44, 3) := by decide +kernel
theorem dJ2_getChar_3b067_3 : decode cJ2_getChar_3b067 3 = .ok (.ifCond .ne 25, 3) := by decide +kernel
theorem dJ2_getChar_3b067_6 : decode cJ2_getChar_3b067 6 = .ok (.iload_n 1, 1) := by decide +kernel
theorem dJ2_getChar_3b067_7 : decode cJ2_getChar_3b067 7 = .ok (.ifCond .lt 11, 3) := by decide +kernel
theorem dJ2_getChar_3b067_10 : decode cJ2_getChar_3b067 10 = .ok (.iload_n 1, 1) := by decide +kernel
theorem dJ2_getChar_3b067_11 : decode cJ2_getChar_3b067 11 = .ok (.aload_n 0, 1) := by decide +kernel
theorem dJ2_getChar_3b067_12 : decode cJ2_getChar_3b067 12 = .ok (.invokestatic 48, 3) := by decide +kernel
theorem dJ2_getChar_3b067_15 : decode cJ2_getChar_3b067 15 = .ok (.if_icmp .lt 13, 3) := by decide +kernel
theorem dJ2_getChar_3b067_18 : decode cJ2_getChar_3b067 18 = .ok (.new 52, 3) := by decide +kernel
theorem dJ2_getChar_3b067_21 : decode cJ2_getChar_3b067 21 = .ok (.dup, 1) := by decide +kernel
theorem dJ2_getChar_3b067_22 : decode cJ2_getChar_3b067 22 = .ok (.ldc 54, 2) := by decide +kernel
theorem dJ2_getChar_3b067_24 : decode cJ2_getChar_3b067 24 = .ok (.invokespecial 56, 3) := by decide +kernel
theorem dJ2_getChar_3b067_27 : decode cJ2_getChar_3b067 27 = .ok (.athrow, 1) := by decide +kernel
theorem dJ2_getChar_3b067_28 : decode cJ2_getChar_3b067 28 = .ok (.iload_n 1, 1) := by decide +kernel
theorem dJ2_getChar_3b067_29 : decode cJ2_getChar_3b067 29 = .ok (.iconst 1, 1) := by decide +kernel
theorem dJ2_getChar_3b067_30 : decode cJ2_getChar_3b067 30 = .ok (.ishl, 1) := by decide +kernel
theorem dJ2_getChar_3b067_31 : decode cJ2_getChar_3b067 31 = .ok (.istore_n 1, 1) := by decide +kernel
theorem dJ2_getChar_3b067_32 : decode cJ2_getChar_3b067 32 = .ok (.aload_n 0, 1) := by decide +kernel
theorem dJ2_getChar_3b067_33 : decode cJ2_getChar_3b067 33 = .ok (.iload_n 1, 1) := by decide +kernel
theorem dJ2_getChar_3b067_34 : decode cJ2_getChar_3b067 34 = .ok (.iinc 1 1, 3) := by decide +kernel
theorem dJ2_getChar_3b067_37 : decode cJ2_getChar_3b067 37 = .ok (.baload, 1) := by decide +kernel
theorem dJ2_getChar_3b067_38 : decode cJ2_getChar_3b067 38 = .ok (.sipush 255, 3) := by decide +kernel
theorem dJ2_getChar_3b067_41 : decode cJ2_getChar_3b067 41 = .ok (.iand, 1) := by decide +kernel
theorem dJ2_getChar_3b067_42 : decode cJ2_getChar_3b067 42 = .ok (.getstatic 59, 3) := by decide +kernel
theorem dJ2_getChar_3b067_45 : decode cJ2_getChar_3b067 45 = .ok (.ishl, 1) := by decide +kernel
theorem dJ2_getChar_3b067_46 : decode cJ2_getChar_3b067 46 = .ok (.aload_n 0, 1) := by decide +kernel
theorem dJ2_getChar_3b067_47 : decode cJ2_getChar_3b067 47 = .ok (.iload_n 1, 1) := by decide +kernel
theorem dJ2_getChar_3b067_48 : decode cJ2_getChar_3b067 48 = .ok (.baload, 1) := by decide +kernel
theorem dJ2_getChar_3b067_49 : decode cJ2_getChar_3b067 49 = .ok (.sipush 255, 3) := by decide +kernel
theorem dJ2_getChar_3b067_52 : decode cJ2_getChar_3b067 52 = .ok (.iand, 1) := by decide +kernel
theorem dJ2_getChar_3b067_53 : decode cJ2_getChar_3b067 53 = .ok (.getstatic 63, 3) := by decide +kernel
theorem dJ2_getChar_3b067_56 : decode cJ2_getChar_3b067 56 = .ok (.ishl, 1) := by decide +kernel
theorem dJ2_getChar_3b067_57 : decode cJ2_getChar_3b067 57 = .ok (.ior, 1) := by decide +kernel
theorem dJ2_getChar_3b067_58 : decode cJ2_getChar_3b067 58 = .ok (.i2c, 1) := by decide +kernel
theorem dJ2_getChar_3b067_59 : decode cJ2_getChar_3b067 59 = .ok (.ireturn, 1) := by decide +kernel
theorem dJ2_length_9d52b_0 : decode cJ2_length_9d52b 0 = .ok (.aload_n 0, 1) := by decide +kernel
theorem dJ2_length_9d52b_1 : decode cJ2_length_9d52b 1 = .ok (.arraylength, 1) := by decide +kernel
theorem dJ2_length_9d52b_2 : decode cJ2_length_9d52b 2 = .ok (.iconst 1, 1) := by decide +kernel
theorem dJ2_length_9d52b_3 : decode cJ2_length_9d52b 3 = .ok (.ishr, 1) := by decide +kernel
theorem dJ2_length_9d52b_4 : decode cJ2_length_9d52b 4 = .ok (.ireturn, 1) := by decide +kernel
theorem dJ2_charAt_3b067_0 : decode cJ2_charAt_3b067 0 = .ok (.iload_n 1, 1) := by decide +kernel
theorem dJ2_charAt_3b067_1 : decode cJ2_charAt_3b067 1 = .ok (.aload_n 0, 1) := by decide +kernel
theorem dJ2_charAt_3b067_2 : decode cJ2_charAt_3b067 2 = .ok (.invokestatic 67, 3) := by decide +kernel
theorem dJ2_charAt_3b067_5 : decode cJ2_charAt_3b067 5 = .ok (.aload_n 0, 1) := by decide +kernel
theorem dJ2_charAt_3b067_6 : decode cJ2_charAt_3b067 6 = .ok (.iload_n 1, 1) := by decide +kernel
theorem dJ2_charAt_3b067_7 : decode cJ2_charAt_3b067 7 = .ok (.invokestatic 71, 3) := by decide +kernel
theorem dJ2_charAt_3b067_10 : decode cJ2_charAt_3b067 10 = .ok (.ireturn, 1) := by decide +kernel
theorem dJ2_checkIndex_2214a_0 : decode cJ2_checkIndex_2214a 0 = .ok (.iload_n 0, 1) := by decide +kernel
theorem dJ2_checkIndex_2214a_1 : decode cJ2_checkIndex_2214a 1 = .ok (.aload_n 1, 1) := by decide +kernel
theorem dJ2_checkIndex_2214a_2 : decode cJ2_checkIndex_2214a 2 = .ok (.invokestatic 48, 3) := by decide +kernel
theorem dJ2_checkIndex_2214a_5 : decode cJ2_checkIndex_2214a 5 = .ok (.invokestatic 414, 3) := by decide +kernel
theorem dJ2_checkIndex_2214a_8 : decode cJ2_checkIndex_2214a 8 = .ok (.return_, 1) := by decide +kernel
theorem dJ3_checkIndex_8e157_0 : decode cJ3_checkIndex_8e157 0 = .ok (.iload_n 0, 1) := by decide +kernel
theorem dJ3_checkIndex_8e157_1 : decode cJ3_checkIndex_8e157 1 = .ok (.ifCond .lt 8, 3) := by decide +kernel
theorem dJ3_checkIndex_8e157_4 : decode cJ3_checkIndex_8e157 4 = .ok (.iload_n 0, 1) := by decide +kernel
theorem dJ3_checkIndex_8e157_5 : decode cJ3_checkIndex_8e157 5 = .ok (.iload_n 1, 1) := by decide +kernel
theorem dJ3_checkIndex_8e157_6 : decode cJ3_checkIndex_8e157 6 = .ok (.if_icmp .lt 10, 3) := by decide +kernel
theorem dJ3_checkIndex_8e157_9 : decode cJ3_checkIndex_8e157 9 = .ok (.aload_n 2, 1) := by decide +kernel
theorem dJ3_checkIndex_8e157_10 : decode cJ3_checkIndex_8e157 10 = .ok (.iload_n 0, 1) := by decide +kernel
theorem dJ3_checkIndex_8e157_11 : decode cJ3_checkIndex_8e157 11 = .ok (.iload_n 1, 1) := by decide +kernel
theorem dJ3_checkIndex_8e157_12 : decode cJ3_checkIndex_8e157 12 = .ok (.invokestatic 95, 3) := by decide +kernel
theorem dJ3_checkIndex_8e157_15 : decode cJ3_checkIndex_8e157 15 = .ok (.athrow, 1) := by decide +kernel
theorem dJ3_checkIndex_8e157_16 : decode cJ3_checkIndex_8e157 16 = .ok (.iload_n 0, 1) := by decide +kernel
theorem dJ3_checkIndex_8e157_17 : decode cJ3_checkIndex_8e157 17 = .ok (.ireturn, 1) := by decide +kernel
theorem dL_size_0 : decode cL_size 0 = .ok (.aload_n 3, 1) := by decide +kernel
theorem dL_size_1 : decode cL_size 1 = .ok (.iconst 0, 1) := by decide +kernel
theorem dL_size_2 : decode cL_size 2 = .ok (.aload_n 0, 1) := by decide +kernel
theorem dL_size_3 : decode cL_size 3 = .ok (.iload_n 1, 1) := by decide +kernel
theorem dL_size_4 : decode cL_size 4 = .ok (.iload_n 2, 1) := by decide +kernel
theorem dL_size_5 : decode cL_size 5 = .ok (.invokevirtual 7, 3) := by decide +kernel
theorem dL_size_8 : decode cL_size 8 = .ok (.i2l, 1) := by decide +kernel
theorem dL_size_9 : decode cL_size 9 = .ok (.lastore, 1) := by decide +kernel
theorem dL_size_10 : decode cL_size 10 = .ok (.goto 7, 3) := by decide +kernel
theorem dL_size_13 : decode cL_size 13 = .ok (.astore 4, 2) := by decide +kernel
theorem dL_size_15 : decode cL_size 15 = .ok (.iconst 1, 1) := by decide +kernel
theorem dL_size_16 : decode cL_size 16 = .ok (.ireturn, 1) := by decide +kernel
theorem dL_size_17 : decode cL_size 17 = .ok (.iconst 0, 1) := by decide +kernel
theorem dL_size_18 : decode cL_size 18 = .ok (.ireturn, 1) := by decide +kernel
theorem dL_setting_0 : decode cL_setting 0 = .ok (.aload_n 3, 1) := by decide +kernel
theorem dL_setting_1 : decode cL_setting 1 = .ok (.iconst 0, 1) := by decide +kernel
theorem dL_setting_2 : decode cL_setting 2 = .ok (.aload_n 0, 1) := by decide +kernel
theorem dL_setting_3 : decode cL_setting 3 = .ok (.iload_n 1, 1) := by decide +kernel
theorem dL_setting_4 : decode cL_setting 4 = .ok (.iload_n 2, 1) := by decide +kernel
theorem dL_setting_5 : decode cL_setting 5 = .ok (.invokevirtual 15, 3) := by decide +kernel
theorem dL_setting_8 : decode cL_setting 8 = .ok (.i2l, 1) := by decide +kernel
theorem dL_setting_9 : decode cL_setting 9 = .ok (.lastore, 1) := by decide +kernel
theorem dL_setting_10 : decode cL_setting 10 = .ok (.goto 7, 3) := by decide +kernel
theorem dL_setting_13 : decode cL_setting 13 = .ok (.astore 4, 2) := by decide +kernel
theorem dL_setting_15 : decode cL_setting 15 = .ok (.iconst 1, 1) := by decide +kernel
theorem dL_setting_16 : decode cL_setting 16 = .ok (.ireturn, 1) := by decide +kernel
theorem dL_setting_17 : decode cL_setting 17 = .ok (.iconst 0, 1) := by decide +kernel
theorem dL_setting_18 : decode cL_setting 18 = .ok (.ireturn, 1) := by decide +kernel
theorem dL_number_0 : decode cL_number 0 = .ok (.aload_n 2, 1) := by decide +kernel
theorem dL_number_1 : decode cL_number 1 = .ok (.iconst 0, 1) := by decide +kernel
theorem dL_number_2 : decode cL_number 2 = .ok (.aload_n 0, 1) := by decide +kernel
theorem dL_number_3 : decode cL_number 3 = .ok (.iload_n 1, 1) := by decide +kernel
theorem dL_number_4 : decode cL_number 4 = .ok (.invokevirtual 18, 3) := by decide +kernel
theorem dL_number_7 : decode cL_number 7 = .ok (.i2l, 1) := by decide +kernel
theorem dL_number_8 : decode cL_number 8 = .ok (.lastore, 1) := by decide +kernel
theorem dL_number_9 : decode cL_number 9 = .ok (.goto 6, 3) := by decide +kernel
theorem dL_number_12 : decode cL_number 12 = .ok (.astore_n 3, 1) := by decide +kernel
theorem dL_number_13 : decode cL_number 13 = .ok (.iconst 1, 1) := by decide +kernel
theorem dL_number_14 : decode cL_number 14 = .ok (.ireturn, 1) := by decide +kernel
theorem dL_number_15 : decode cL_number 15 = .ok (.iconst 0, 1) := by decide +kernel
theorem dL_number_16 : decode cL_number 16 = .ok (.ireturn, 1) := by decide +kernel
theorem dL_set_0 : decode cL_set 0 = .ok (.aload 4, 2) := by decide +kernel
theorem dL_set_2 : decode cL_set 2 = .ok (.iconst 0, 1) := by decide +kernel
theorem dL_set_3 : decode cL_set 3 = .ok (.aload_n 0, 1) := by decide +kernel
theorem dL_set_4 : decode cL_set 4 = .ok (.iload_n 1, 1) := by decide +kernel
theorem dL_set_5 : decode cL_set 5 = .ok (.iload_n 2, 1) := by decide +kernel
theorem dL_set_6 : decode cL_set 6 = .ok (.iload_n 3, 1) := by decide +kernel
theorem dL_set_7 : decode cL_set 7 = .ok (.invokevirtual 22, 3) := by decide +kernel
theorem dL_set_10 : decode cL_set 10 = .ok (.i2l, 1) := by decide +kernel
theorem dL_set_11 : decode cL_set 11 = .ok (.lastore, 1) := by decide +kernel
theorem dL_set_12 : decode cL_set 12 = .ok (.goto 11, 3) := by decide +kernel
theorem dL_set_15 : decode cL_set 15 = .ok (.astore 5, 2) := by decide +kernel
theorem dL_set_17 : decode cL_set 17 = .ok (.iconst 1, 1) := by decide +kernel
theorem dL_set_18 : decode cL_set 18 = .ok (.ireturn, 1) := by decide +kernel
theorem dL_set_19 : decode cL_set 19 = .ok (.astore 5, 2) := by decide +kernel
theorem dL_set_21 : decode cL_set 21 = .ok (.iconst 2, 1) := by decide +kernel
theorem dL_set_22 : decode cL_set 22 = .ok (.ireturn, 1) := by decide +kernel
theorem dL_set_23 : decode cL_set 23 = .ok (.iconst 0, 1) := by decide +kernel
theorem dL_set_24 : decode cL_set 24 = .ok (.ireturn, 1) := by decide +kernel
theorem dL_pixel_0 : decode cL_pixel 0 = .ok (.aload_n 3, 1) := by decide +kernel
theorem dL_pixel_1 : decode cL_pixel 1 = .ok (.iconst 0, 1) := by decide +kernel
theorem dL_pixel_2 : decode cL_pixel 2 = .ok (.aload_n 0, 1) := by decide +kernel
theorem dL_pixel_3 : decode cL_pixel 3 = .ok (.iload_n 1, 1) := by decide +kernel
theorem dL_pixel_4 : decode cL_pixel 4 = .ok (.iload_n 2, 1) := by decide +kernel
theorem dL_pixel_5 : decode cL_pixel 5 = .ok (.invokevirtual 28, 3) := by decide +kernel
theorem dL_pixel_8 : decode cL_pixel 8 = .ok (.i2l, 1) := by decide +kernel
theorem dL_pixel_9 : decode cL_pixel 9 = .ok (.lastore, 1) := by decide +kernel
theorem dL_pixel_10 : decode cL_pixel 10 = .ok (.goto 7, 3) := by decide +kernel
theorem dL_pixel_13 : decode cL_pixel 13 = .ok (.astore 4, 2) := by decide +kernel
theorem dL_pixel_15 : decode cL_pixel 15 = .ok (.iconst 1, 1) := by decide +kernel
theorem dL_pixel_16 : decode cL_pixel 16 = .ok (.ireturn, 1) := by decide +kernel
theorem dL_pixel_17 : decode cL_pixel 17 = .ok (.iconst 0, 1) := by decide +kernel
theorem dL_pixel_18 : decode cL_pixel 18 = .ok (.ireturn, 1) := by decide +kernel
theorem dL_fill_0 : decode cL_fill 0 = .ok (.aload 6, 2) := by decide +kernel
theorem dL_fill_2 : decode cL_fill 2 = .ok (.iconst 0, 1) := by decide +kernel
theorem dL_fill_3 : decode cL_fill 3 = .ok (.aload_n 0, 1) := by decide +kernel
theorem dL_fill_4 : decode cL_fill 4 = .ok (.iload_n 1, 1) := by decide +kernel
theorem dL_fill_5 : decode cL_fill 5 = .ok (.iload_n 2, 1) := by decide +kernel
theorem dL_fill_6 : decode cL_fill 6 = .ok (.iload_n 3, 1) := by decide +kernel
theorem dL_fill_7 : decode cL_fill 7 = .ok (.iload 4, 2) := by decide +kernel
theorem dL_fill_9 : decode cL_fill 9 = .ok (.iload 5, 2) := by decide +kernel
theorem dL_fill_11 : decode cL_fill 11 = .ok (.invokevirtual 31, 3) := by decide +kernel
theorem dL_fill_14 : decode cL_fill 14 = .ok (.i2l, 1) := by decide +kernel
theorem dL_fill_15 : decode cL_fill 15 = .ok (.lastore, 1) := by decide +kernel
theorem dL_fill_16 : decode cL_fill 16 = .ok (.goto 11, 3) := by decide +kernel
theorem dL_fill_19 : decode cL_fill 19 = .ok (.astore 7, 2) := by decide +kernel
theorem dL_fill_21 : decode cL_fill 21 = .ok (.iconst 1, 1) := by decide +kernel
theorem dL_fill_22 : decode cL_fill 22 = .ok (.ireturn, 1) := by decide +kernel
theorem dL_fill_23 : decode cL_fill 23 = .ok (.astore 7, 2) := by decide +kernel
theorem dL_fill_25 : decode cL_fill 25 = .ok (.iconst 2, 1) := by decide +kernel
theorem dL_fill_26 : decode cL_fill 26 = .ok (.ireturn, 1) := by decide +kernel
theorem dL_fill_27 : decode cL_fill 27 = .ok (.iconst 0, 1) := by decide +kernel
theorem dL_fill_28 : decode cL_fill 28 = .ok (.ireturn, 1) := by decide +kernel
theorem dL_mask_0 : decode cL_mask 0 = .ok (.aload 6, 2) := by decide +kernel
theorem dL_mask_2 : decode cL_mask 2 = .ok (.iconst 0, 1) := by decide +kernel
theorem dL_mask_3 : decode cL_mask 3 = .ok (.aload_n 0, 1) := by decide +kernel
theorem dL_mask_4 : decode cL_mask 4 = .ok (.iload_n 1, 1) := by decide +kernel
theorem dL_mask_5 : decode cL_mask 5 = .ok (.iload_n 2, 1) := by decide +kernel
theorem dL_mask_6 : decode cL_mask 6 = .ok (.iload_n 3, 1) := by decide +kernel
theorem dL_mask_7 : decode cL_mask 7 = .ok (.iload 4, 2) := by decide +kernel
theorem dL_mask_9 : decode cL_mask 9 = .ok (.iload 5, 2) := by decide +kernel
theorem dL_mask_11 : decode cL_mask 11 = .ok (.invokevirtual 35, 3) := by decide +kernel
theorem dL_mask_14 : decode cL_mask 14 = .ok (.i2l, 1) := by decide +kernel
theorem dL_mask_15 : decode cL_mask 15 = .ok (.lastore, 1) := by decide +kernel
theorem dL_mask_16 : decode cL_mask 16 = .ok (.goto 11, 3) := by decide +kernel
theorem dL_mask_19 : decode cL_mask 19 = .ok (.astore 7, 2) := by decide +kernel
theorem dL_mask_21 : decode cL_mask 21 = .ok (.iconst 1, 1) := by decide +kernel
theorem dL_mask_22 : decode cL_mask 22 = .ok (.ireturn, 1) := by decide +kernel
theorem dL_mask_23 : decode cL_mask 23 = .ok (.astore 7, 2) := by decide +kernel
theorem dL_mask_25 : decode cL_mask 25 = .ok (.iconst 2, 1) := by decide +kernel
theorem dL_mask_26 : decode cL_mask 26 = .ok (.ireturn, 1) := by decide +kernel
theorem dL_mask_27 : decode cL_mask 27 = .ok (.iconst 0, 1) := by decide +kernel
theorem dL_mask_28 : decode cL_mask 28 = .ok (.ireturn, 1) := by decide +kernel
theorem dL_tileOf_0 : decode cL_tileOf 0 = .ok (.aload_n 3, 1) := by decide +kernel
theorem dL_tileOf_1 : decode cL_tileOf 1 = .ok (.iconst 0, 1) := by decide +kernel
theorem dL_tileOf_2 : decode cL_tileOf 2 = .ok (.aload_n 0, 1) := by decide +kernel
theorem dL_tileOf_3 : decode cL_tileOf 3 = .ok (.iload_n 1, 1) := by decide +kernel
theorem dL_tileOf_4 : decode cL_tileOf 4 = .ok (.iload_n 2, 1) := by decide +kernel
theorem dL_tileOf_5 : decode cL_tileOf 5 = .ok (.invokevirtual 39, 3) := by decide +kernel
theorem dL_tileOf_8 : decode cL_tileOf 8 = .ok (.i2l, 1) := by decide +kernel
theorem dL_tileOf_9 : decode cL_tileOf 9 = .ok (.lastore, 1) := by decide +kernel
theorem dL_tileOf_10 : decode cL_tileOf 10 = .ok (.goto 7, 3) := by decide +kernel
theorem dL_tileOf_13 : decode cL_tileOf 13 = .ok (.astore 4, 2) := by decide +kernel
theorem dL_tileOf_15 : decode cL_tileOf 15 = .ok (.iconst 1, 1) := by decide +kernel
theorem dL_tileOf_16 : decode cL_tileOf 16 = .ok (.ireturn, 1) := by decide +kernel
theorem dL_tileOf_17 : decode cL_tileOf 17 = .ok (.iconst 0, 1) := by decide +kernel
theorem dL_tileOf_18 : decode cL_tileOf 18 = .ok (.ireturn, 1) := by decide +kernel
theorem dL_tile_0 : decode cL_tile 0 = .ok (.aload_n 3, 1) := by decide +kernel
theorem dL_tile_1 : decode cL_tile 1 = .ok (.iconst 0, 1) := by decide +kernel
theorem dL_tile_2 : decode cL_tile 2 = .ok (.aload_n 0, 1) := by decide +kernel
theorem dL_tile_3 : decode cL_tile 3 = .ok (.iload_n 1, 1) := by decide +kernel
theorem dL_tile_4 : decode cL_tile 4 = .ok (.iload_n 2, 1) := by decide +kernel
theorem dL_tile_5 : decode cL_tile 5 = .ok (.invokevirtual 42, 3) := by decide +kernel
theorem dL_tile_8 : decode cL_tile 8 = .ok (.i2l, 1) := by decide +kernel
theorem dL_tile_9 : decode cL_tile 9 = .ok (.lastore, 1) := by decide +kernel
theorem dL_tile_10 : decode cL_tile 10 = .ok (.goto 11, 3) := by decide +kernel
theorem dL_tile_13 : decode cL_tile 13 = .ok (.astore 4, 2) := by decide +kernel
theorem dL_tile_15 : decode cL_tile 15 = .ok (.iconst 1, 1) := by decide +kernel
theorem dL_tile_16 : decode cL_tile 16 = .ok (.ireturn, 1) := by decide +kernel
theorem dL_tile_17 : decode cL_tile 17 = .ok (.astore 4, 2) := by decide +kernel
theorem dL_tile_19 : decode cL_tile 19 = .ok (.iconst 2, 1) := by decide +kernel
theorem dL_tile_20 : decode cL_tile 20 = .ok (.ireturn, 1) := by decide +kernel
theorem dL_tile_21 : decode cL_tile 21 = .ok (.iconst 0, 1) := by decide +kernel
theorem dL_tile_22 : decode cL_tile 22 = .ok (.ireturn, 1) := by decide +kernel
theorem dL_raise_0 : decode cL_raise 0 = .ok (.aload_n 3, 1) := by decide +kernel
theorem dL_raise_1 : decode cL_raise 1 = .ok (.iconst 0, 1) := by decide +kernel
theorem dL_raise_2 : decode cL_raise 2 = .ok (.aload_n 0, 1) := by decide +kernel
theorem dL_raise_3 : decode cL_raise 3 = .ok (.iload_n 1, 1) := by decide +kernel
theorem dL_raise_4 : decode cL_raise 4 = .ok (.iload_n 2, 1) := by decide +kernel
theorem dL_raise_5 : decode cL_raise 5 = .ok (.invokevirtual 45, 3) := by decide +kernel
theorem dL_raise_8 : decode cL_raise 8 = .ok (.i2l, 1) := by decide +kernel
theorem dL_raise_9 : decode cL_raise 9 = .ok (.lastore, 1) := by decide +kernel
theorem dL_raise_10 : decode cL_raise 10 = .ok (.goto 15, 3) := by decide +kernel
theorem dL_raise_13 : decode cL_raise 13 = .ok (.astore 4, 2) := by decide +kernel
theorem dL_raise_15 : decode cL_raise 15 = .ok (.iconst 1, 1) := by decide +kernel
theorem dL_raise_16 : decode cL_raise 16 = .ok (.ireturn, 1) := by decide +kernel
theorem dL_raise_17 : decode cL_raise 17 = .ok (.astore 4, 2) := by decide +kernel
theorem dL_raise_19 : decode cL_raise 19 = .ok (.iconst 2, 1) := by decide +kernel
theorem dL_raise_20 : decode cL_raise 20 = .ok (.ireturn, 1) := by decide +kernel
theorem dL_raise_21 : decode cL_raise 21 = .ok (.astore 4, 2) := by decide +kernel
theorem dL_raise_23 : decode cL_raise 23 = .ok (.iconst 3, 1) := by decide +kernel
theorem dL_raise_24 : decode cL_raise 24 = .ok (.ireturn, 1) := by decide +kernel
theorem dL_raise_25 : decode cL_raise 25 = .ok (.iconst 0, 1) := by decide +kernel
theorem dL_raise_26 : decode cL_raise 26 = .ok (.ireturn, 1) := by decide +kernel
theorem dL_swap_0 : decode cL_swap 0 = .ok (.aload_n 3, 1) := by decide +kernel
theorem dL_swap_1 : decode cL_swap 1 = .ok (.iconst 0, 1) := by decide +kernel
theorem dL_swap_2 : decode cL_swap 2 = .ok (.aload_n 0, 1) := by decide +kernel
theorem dL_swap_3 : decode cL_swap 3 = .ok (.iload_n 1, 1) := by decide +kernel
theorem dL_swap_4 : decode cL_swap 4 = .ok (.iload_n 2, 1) := by decide +kernel
theorem dL_swap_5 : decode cL_swap 5 = .ok (.invokevirtual 50, 3) := by decide +kernel
theorem dL_swap_8 : decode cL_swap 8 = .ok (.i2l, 1) := by decide +kernel
theorem dL_swap_9 : decode cL_swap 9 = .ok (.lastore, 1) := by decide +kernel
theorem dL_swap_10 : decode cL_swap 10 = .ok (.goto 11, 3) := by decide +kernel
theorem dL_swap_13 : decode cL_swap 13 = .ok (.astore 4, 2) := by decide +kernel
theorem dL_swap_15 : decode cL_swap 15 = .ok (.iconst 1, 1) := by decide +kernel
theorem dL_swap_16 : decode cL_swap 16 = .ok (.ireturn, 1) := by decide +kernel
theorem dL_swap_17 : decode cL_swap 17 = .ok (.astore 4, 2) := by decide +kernel
theorem dL_swap_19 : decode cL_swap 19 = .ok (.iconst 2, 1) := by decide +kernel
theorem dL_swap_20 : decode cL_swap 20 = .ok (.ireturn, 1) := by decide +kernel
theorem dL_swap_21 : decode cL_swap 21 = .ok (.iconst 0, 1) := by decide +kernel
theorem dL_swap_22 : decode cL_swap 22 = .ok (.ireturn, 1) := by decide +kernel
theorem dL_soften_0 : decode cL_soften 0 = .ok (.aload_n 3, 1) := by decide +kernel
theorem dL_soften_1 : decode cL_soften 1 = .ok (.iconst 0, 1) := by decide +kernel
theorem dL_soften_2 : decode cL_soften 2 = .ok (.aload_n 0, 1) := by decide +kernel
theorem dL_soften_3 : decode cL_soften 3 = .ok (.iload_n 1, 1) := by decide +kernel
theorem dL_soften_4 : decode cL_soften 4 = .ok (.iload_n 2, 1) := by decide +kernel
theorem dL_soften_5 : decode cL_soften 5 = .ok (.invokevirtual 53, 3) := by decide +kernel
theorem dL_soften_8 : decode cL_soften 8 = .ok (.i2l, 1) := by decide +kernel
theorem dL_soften_9 : decode cL_soften 9 = .ok (.lastore, 1) := by decide +kernel
theorem dL_soften_10 : decode cL_soften 10 = .ok (.goto 11, 3) := by decide +kernel
theorem dL_soften_13 : decode cL_soften 13 = .ok (.astore 4, 2) := by decide +kernel
theorem dL_soften_15 : decode cL_soften 15 = .ok (.iconst 1, 1) := by decide +kernel
theorem dL_soften_16 : decode cL_soften 16 = .ok (.ireturn, 1) := by decide +kernel
theorem dL_soften_17 : decode cL_soften 17 = .ok (.astore 4, 2) := by decide +kernel
theorem dL_soften_19 : decode cL_soften 19 = .ok (.iconst 2, 1) := by decide +kernel
theorem dL_soften_20 : decode cL_soften 20 = .ok (.ireturn, 1) := by decide +kernel
theorem dL_soften_21 : decode cL_soften 21 = .ok (.iconst 0, 1) := by decide +kernel
theorem dL_soften_22 : decode cL_soften 22 = .ok (.ireturn, 1) := by decide +kernel
theorem dL_coefficient_0 : decode cL_coefficient 0 = .ok (.aload 4, 2) := by decide +kernel
theorem dL_coefficient_2 : decode cL_coefficient 2 = .ok (.iconst 0, 1) := by decide +kernel
theorem dL_coefficient_3 : decode cL_coefficient 3 = .ok (.aload_n 0, 1) := by decide +kernel
theorem dL_coefficient_4 : decode cL_coefficient 4 = .ok (.iload_n 1, 1) := by decide +kernel
theorem dL_coefficient_5 : decode cL_coefficient 5 = .ok (.iload_n 2, 1) := by decide +kernel
theorem dL_coefficient_6 : decode cL_coefficient 6 = .ok (.iload_n 3, 1) := by decide +kernel
theorem dL_coefficient_7 : decode cL_coefficient 7 = .ok (.invokevirtual 56, 3) := by decide +kernel
theorem dL_coefficient_10 : decode cL_coefficient 10 = .ok (.i2l, 1) := by decide +kernel
theorem dL_coefficient_11 : decode cL_coefficient 11 = .ok (.lastore, 1) := by decide +kernel
theorem dL_coefficient_12 : decode cL_coefficient 12 = .ok (.goto 7, 3) := by decide +kernel
theorem dL_coefficient_15 : decode cL_coefficient 15 = .ok (.astore 5, 2) := by decide +kernel
theorem dL_coefficient_17 : decode cL_coefficient 17 = .ok (.iconst 1, 1) := by decide +kernel
theorem dL_coefficient_18 : decode cL_coefficient 18 = .ok (.ireturn, 1) := by decide +kernel
theorem dL_coefficient_19 : decode cL_coefficient 19 = .ok (.iconst 0, 1) := by decide +kernel
theorem dL_coefficient_20 : decode cL_coefficient 20 = .ok (.ireturn, 1) := by decide +kernel
theorem dL_band_0 : decode cL_band 0 = .ok (.aload 4, 2) := by decide +kernel
theorem dL_band_2 : decode cL_band 2 = .ok (.iconst 0, 1) := by decide +kernel
theorem dL_band_3 : decode cL_band 3 = .ok (.aload_n 0, 1) := by decide +kernel
theorem dL_band_4 : decode cL_band 4 = .ok (.iload_n 1, 1) := by decide +kernel
theorem dL_band_5 : decode cL_band 5 = .ok (.iload_n 2, 1) := by decide +kernel
theorem dL_band_6 : decode cL_band 6 = .ok (.iload_n 3, 1) := by decide +kernel
theorem dL_band_7 : decode cL_band 7 = .ok (.invokevirtual 59, 3) := by decide +kernel
theorem dL_band_10 : decode cL_band 10 = .ok (.i2l, 1) := by decide +kernel
theorem dL_band_11 : decode cL_band 11 = .ok (.lastore, 1) := by decide +kernel
theorem dL_band_12 : decode cL_band 12 = .ok (.goto 7, 3) := by decide +kernel
theorem dL_band_15 : decode cL_band 15 = .ok (.astore 5, 2) := by decide +kernel
theorem dL_band_17 : decode cL_band 17 = .ok (.iconst 1, 1) := by decide +kernel
theorem dL_band_18 : decode cL_band 18 = .ok (.ireturn, 1) := by decide +kernel
theorem dL_band_19 : decode cL_band 19 = .ok (.iconst 0, 1) := by decide +kernel
theorem dL_band_20 : decode cL_band 20 = .ok (.ireturn, 1) := by decide +kernel
theorem dL_layerOf_0 : decode cL_layerOf 0 = .ok (.aload 5, 2) := by decide +kernel
theorem dL_layerOf_2 : decode cL_layerOf 2 = .ok (.iconst 0, 1) := by decide +kernel
theorem dL_layerOf_3 : decode cL_layerOf 3 = .ok (.aload_n 0, 1) := by decide +kernel
theorem dL_layerOf_4 : decode cL_layerOf 4 = .ok (.iload_n 1, 1) := by decide +kernel
theorem dL_layerOf_5 : decode cL_layerOf 5 = .ok (.iload_n 2, 1) := by decide +kernel
theorem dL_layerOf_6 : decode cL_layerOf 6 = .ok (.iload_n 3, 1) := by decide +kernel
theorem dL_layerOf_7 : decode cL_layerOf 7 = .ok (.iload 4, 2) := by decide +kernel
theorem dL_layerOf_9 : decode cL_layerOf 9 = .ok (.invokevirtual 62, 3) := by decide +kernel
theorem dL_layerOf_12 : decode cL_layerOf 12 = .ok (.i2l, 1) := by decide +kernel
theorem dL_layerOf_13 : decode cL_layerOf 13 = .ok (.lastore, 1) := by decide +kernel
theorem dL_layerOf_14 : decode cL_layerOf 14 = .ok (.goto 11, 3) := by decide +kernel
theorem dL_layerOf_17 : decode cL_layerOf 17 = .ok (.astore 6, 2) := by decide +kernel
theorem dL_layerOf_19 : decode cL_layerOf 19 = .ok (.iconst 1, 1) := by decide +kernel
theorem dL_layerOf_20 : decode cL_layerOf 20 = .ok (.ireturn, 1) := by decide +kernel
theorem dL_layerOf_21 : decode cL_layerOf 21 = .ok (.astore 6, 2) := by decide +kernel
theorem dL_layerOf_23 : decode cL_layerOf 23 = .ok (.iconst 2, 1) := by decide +kernel
theorem dL_layerOf_24 : decode cL_layerOf 24 = .ok (.ireturn, 1) := by decide +kernel
theorem dL_layerOf_25 : decode cL_layerOf 25 = .ok (.iconst 0, 1) := by decide +kernel
theorem dL_layerOf_26 : decode cL_layerOf 26 = .ok (.ireturn, 1) := by decide +kernel
theorem dL_bits_0 : decode cL_bits 0 = .ok (.aload_n 3, 1) := by decide +kernel
theorem dL_bits_1 : decode cL_bits 1 = .ok (.iconst 0, 1) := by decide +kernel
theorem dL_bits_2 : decode cL_bits 2 = .ok (.aload_n 0, 1) := by decide +kernel
theorem dL_bits_3 : decode cL_bits 3 = .ok (.iload_n 1, 1) := by decide +kernel
theorem dL_bits_4 : decode cL_bits 4 = .ok (.iload_n 2, 1) := by decide +kernel
theorem dL_bits_5 : decode cL_bits 5 = .ok (.invokevirtual 66, 3) := by decide +kernel
theorem dL_bits_8 : decode cL_bits 8 = .ok (.i2l, 1) := by decide +kernel
theorem dL_bits_9 : decode cL_bits 9 = .ok (.lastore, 1) := by decide +kernel
theorem dL_bits_10 : decode cL_bits 10 = .ok (.goto 11, 3) := by decide +kernel
theorem dL_bits_13 : decode cL_bits 13 = .ok (.astore 4, 2) := by decide +kernel
theorem dL_bits_15 : decode cL_bits 15 = .ok (.iconst 1, 1) := by decide +kernel
theorem dL_bits_16 : decode cL_bits 16 = .ok (.ireturn, 1) := by decide +kernel
theorem dL_bits_17 : decode cL_bits 17 = .ok (.astore 4, 2) := by decide +kernel
theorem dL_bits_19 : decode cL_bits 19 = .ok (.iconst 2, 1) := by decide +kernel
theorem dL_bits_20 : decode cL_bits 20 = .ok (.ireturn, 1) := by decide +kernel
theorem dL_bits_21 : decode cL_bits 21 = .ok (.iconst 0, 1) := by decide +kernel
theorem dL_bits_22 : decode cL_bits 22 = .ok (.ireturn, 1) := by decide +kernel
theorem dL_descendants_0 : decode cL_descendants 0 = .ok (.aload 4, 2) := by decide +kernel
theorem dL_descendants_2 : decode cL_descendants 2 = .ok (.iconst 0, 1) := by decide +kernel
theorem dL_descendants_3 : decode cL_descendants 3 = .ok (.aload_n 0, 1) := by decide +kernel
theorem dL_descendants_4 : decode cL_descendants 4 = .ok (.iload_n 1, 1) := by decide +kernel
theorem dL_descendants_5 : decode cL_descendants 5 = .ok (.iload_n 2, 1) := by decide +kernel
theorem dL_descendants_6 : decode cL_descendants 6 = .ok (.iload_n 3, 1) := by decide +kernel
theorem dL_descendants_7 : decode cL_descendants 7 = .ok (.invokevirtual 69, 3) := by decide +kernel
theorem dL_descendants_10 : decode cL_descendants 10 = .ok (.i2l, 1) := by decide +kernel
theorem dL_descendants_11 : decode cL_descendants 11 = .ok (.lastore, 1) := by decide +kernel
theorem dL_descendants_12 : decode cL_descendants 12 = .ok (.goto 7, 3) := by decide +kernel
theorem dL_descendants_15 : decode cL_descendants 15 = .ok (.astore 5, 2) := by decide +kernel
theorem dL_descendants_17 : decode cL_descendants 17 = .ok (.iconst 1, 1) := by decide +kernel
theorem dL_descendants_18 : decode cL_descendants 18 = .ok (.ireturn, 1) := by decide +kernel
theorem dL_descendants_19 : decode cL_descendants 19 = .ok (.iconst 0, 1) := by decide +kernel
theorem dL_descendants_20 : decode cL_descendants 20 = .ok (.ireturn, 1) := by decide +kernel
theorem dL_roots_0 : decode cL_roots 0 = .ok (.aload_n 3, 1) := by decide +kernel
theorem dL_roots_1 : decode cL_roots 1 = .ok (.iconst 0, 1) := by decide +kernel
theorem dL_roots_2 : decode cL_roots 2 = .ok (.aload_n 0, 1) := by decide +kernel
theorem dL_roots_3 : decode cL_roots 3 = .ok (.iload_n 1, 1) := by decide +kernel
theorem dL_roots_4 : decode cL_roots 4 = .ok (.iload_n 2, 1) := by decide +kernel
theorem dL_roots_5 : decode cL_roots 5 = .ok (.invokevirtual 72, 3) := by decide +kernel
theorem dL_roots_8 : decode cL_roots 8 = .ok (.i2l, 1) := by decide +kernel
theorem dL_roots_9 : decode cL_roots 9 = .ok (.lastore, 1) := by decide +kernel
theorem dL_roots_10 : decode cL_roots 10 = .ok (.goto 11, 3) := by decide +kernel
theorem dL_roots_13 : decode cL_roots 13 = .ok (.astore 4, 2) := by decide +kernel
theorem dL_roots_15 : decode cL_roots 15 = .ok (.iconst 1, 1) := by decide +kernel
theorem dL_roots_16 : decode cL_roots 16 = .ok (.ireturn, 1) := by decide +kernel
theorem dL_roots_17 : decode cL_roots 17 = .ok (.astore 4, 2) := by decide +kernel
theorem dL_roots_19 : decode cL_roots 19 = .ok (.iconst 2, 1) := by decide +kernel
theorem dL_roots_20 : decode cL_roots 20 = .ok (.ireturn, 1) := by decide +kernel
theorem dL_roots_21 : decode cL_roots 21 = .ok (.iconst 0, 1) := by decide +kernel
theorem dL_roots_22 : decode cL_roots 22 = .ok (.ireturn, 1) := by decide +kernel
theorem dL_needed_0 : decode cL_needed 0 = .ok (.aload_n 3, 1) := by decide +kernel
theorem dL_needed_1 : decode cL_needed 1 = .ok (.iconst 0, 1) := by decide +kernel
theorem dL_needed_2 : decode cL_needed 2 = .ok (.aload_n 0, 1) := by decide +kernel
theorem dL_needed_3 : decode cL_needed 3 = .ok (.iload_n 1, 1) := by decide +kernel
theorem dL_needed_4 : decode cL_needed 4 = .ok (.iload_n 2, 1) := by decide +kernel
theorem dL_needed_5 : decode cL_needed 5 = .ok (.invokevirtual 75, 3) := by decide +kernel
theorem dL_needed_8 : decode cL_needed 8 = .ok (.i2l, 1) := by decide +kernel
theorem dL_needed_9 : decode cL_needed 9 = .ok (.lastore, 1) := by decide +kernel
theorem dL_needed_10 : decode cL_needed 10 = .ok (.goto 7, 3) := by decide +kernel
theorem dL_needed_13 : decode cL_needed 13 = .ok (.astore 4, 2) := by decide +kernel
theorem dL_needed_15 : decode cL_needed 15 = .ok (.iconst 1, 1) := by decide +kernel
theorem dL_needed_16 : decode cL_needed 16 = .ok (.ireturn, 1) := by decide +kernel
theorem dL_needed_17 : decode cL_needed 17 = .ok (.iconst 0, 1) := by decide +kernel
theorem dL_needed_18 : decode cL_needed 18 = .ok (.ireturn, 1) := by decide +kernel
theorem dL_decoded_0 : decode cL_decoded 0 = .ok (.aload 4, 2) := by decide +kernel
theorem dL_decoded_2 : decode cL_decoded 2 = .ok (.iconst 0, 1) := by decide +kernel
theorem dL_decoded_3 : decode cL_decoded 3 = .ok (.aload_n 0, 1) := by decide +kernel
theorem dL_decoded_4 : decode cL_decoded 4 = .ok (.iload_n 1, 1) := by decide +kernel
theorem dL_decoded_5 : decode cL_decoded 5 = .ok (.iload_n 2, 1) := by decide +kernel
theorem dL_decoded_6 : decode cL_decoded 6 = .ok (.iload_n 3, 1) := by decide +kernel
theorem dL_decoded_7 : decode cL_decoded 7 = .ok (.invokevirtual 78, 3) := by decide +kernel
theorem dL_decoded_10 : decode cL_decoded 10 = .ok (.i2l, 1) := by decide +kernel
theorem dL_decoded_11 : decode cL_decoded 11 = .ok (.lastore, 1) := by decide +kernel
theorem dL_decoded_12 : decode cL_decoded 12 = .ok (.goto 11, 3) := by decide +kernel
theorem dL_decoded_15 : decode cL_decoded 15 = .ok (.astore 5, 2) := by decide +kernel
theorem dL_decoded_17 : decode cL_decoded 17 = .ok (.iconst 1, 1) := by decide +kernel
theorem dL_decoded_18 : decode cL_decoded 18 = .ok (.ireturn, 1) := by decide +kernel
theorem dL_decoded_19 : decode cL_decoded 19 = .ok (.astore 5, 2) := by decide +kernel
theorem dL_decoded_21 : decode cL_decoded 21 = .ok (.iconst 2, 1) := by decide +kernel
theorem dL_decoded_22 : decode cL_decoded 22 = .ok (.ireturn, 1) := by decide +kernel
theorem dL_decoded_23 : decode cL_decoded 23 = .ok (.iconst 0, 1) := by decide +kernel
theorem dL_decoded_24 : decode cL_decoded 24 = .ok (.ireturn, 1) := by decide +kernel
theorem dL_worst_0 : decode cL_worst 0 = .ok (.aload 4, 2) := by decide +kernel
theorem dL_worst_2 : decode cL_worst 2 = .ok (.iconst 0, 1) := by decide +kernel
theorem dL_worst_3 : decode cL_worst 3 = .ok (.aload_n 0, 1) := by decide +kernel
theorem dL_worst_4 : decode cL_worst 4 = .ok (.iload_n 1, 1) := by decide +kernel
theorem dL_worst_5 : decode cL_worst 5 = .ok (.iload_n 2, 1) := by decide +kernel
theorem dL_worst_6 : decode cL_worst 6 = .ok (.iload_n 3, 1) := by decide +kernel
theorem dL_worst_7 : decode cL_worst 7 = .ok (.invokevirtual 81, 3) := by decide +kernel
theorem dL_worst_10 : decode cL_worst 10 = .ok (.i2l, 1) := by decide +kernel
theorem dL_worst_11 : decode cL_worst 11 = .ok (.lastore, 1) := by decide +kernel
theorem dL_worst_12 : decode cL_worst 12 = .ok (.goto 11, 3) := by decide +kernel
theorem dL_worst_15 : decode cL_worst 15 = .ok (.astore 5, 2) := by decide +kernel
theorem dL_worst_17 : decode cL_worst 17 = .ok (.iconst 1, 1) := by decide +kernel
theorem dL_worst_18 : decode cL_worst 18 = .ok (.ireturn, 1) := by decide +kernel
theorem dL_worst_19 : decode cL_worst 19 = .ok (.astore 5, 2) := by decide +kernel
theorem dL_worst_21 : decode cL_worst 21 = .ok (.iconst 2, 1) := by decide +kernel
theorem dL_worst_22 : decode cL_worst 22 = .ok (.ireturn, 1) := by decide +kernel
theorem dL_worst_23 : decode cL_worst 23 = .ok (.iconst 0, 1) := by decide +kernel
theorem dL_worst_24 : decode cL_worst 24 = .ok (.ireturn, 1) := by decide +kernel
theorem dL_meanSquare_0 : decode cL_meanSquare 0 = .ok (.aload_n 2, 1) := by decide +kernel
theorem dL_meanSquare_1 : decode cL_meanSquare 1 = .ok (.iconst 0, 1) := by decide +kernel
theorem dL_meanSquare_2 : decode cL_meanSquare 2 = .ok (.aload_n 0, 1) := by decide +kernel
theorem dL_meanSquare_3 : decode cL_meanSquare 3 = .ok (.iload_n 1, 1) := by decide +kernel
theorem dL_meanSquare_4 : decode cL_meanSquare 4 = .ok (.invokevirtual 85, 3) := by decide +kernel
theorem dL_meanSquare_7 : decode cL_meanSquare 7 = .ok (.dastore, 1) := by decide +kernel
theorem dL_meanSquare_8 : decode cL_meanSquare 8 = .ok (.goto 6, 3) := by decide +kernel
theorem dL_meanSquare_11 : decode cL_meanSquare 11 = .ok (.astore_n 3, 1) := by decide +kernel
theorem dL_meanSquare_12 : decode cL_meanSquare 12 = .ok (.iconst 1, 1) := by decide +kernel
theorem dL_meanSquare_13 : decode cL_meanSquare 13 = .ok (.ireturn, 1) := by decide +kernel
theorem dL_meanSquare_14 : decode cL_meanSquare 14 = .ok (.iconst 0, 1) := by decide +kernel
theorem dL_meanSquare_15 : decode cL_meanSquare 15 = .ok (.ireturn, 1) := by decide +kernel
theorem dL_plan_0 : decode cL_plan 0 = .ok (.aload_n 2, 1) := by decide +kernel
theorem dL_plan_1 : decode cL_plan 1 = .ok (.iconst 0, 1) := by decide +kernel
theorem dL_plan_2 : decode cL_plan 2 = .ok (.aload_n 0, 1) := by decide +kernel
theorem dL_plan_3 : decode cL_plan 3 = .ok (.iload_n 1, 1) := by decide +kernel
theorem dL_plan_4 : decode cL_plan 4 = .ok (.invokevirtual 89, 3) := by decide +kernel
theorem dL_plan_7 : decode cL_plan 7 = .ok (.i2l, 1) := by decide +kernel
theorem dL_plan_8 : decode cL_plan 8 = .ok (.lastore, 1) := by decide +kernel
theorem dL_plan_9 : decode cL_plan 9 = .ok (.goto 6, 3) := by decide +kernel
theorem dL_plan_12 : decode cL_plan 12 = .ok (.astore_n 3, 1) := by decide +kernel
theorem dL_plan_13 : decode cL_plan 13 = .ok (.iconst 1, 1) := by decide +kernel
theorem dL_plan_14 : decode cL_plan 14 = .ok (.ireturn, 1) := by decide +kernel
theorem dL_plan_15 : decode cL_plan 15 = .ok (.iconst 0, 1) := by decide +kernel
theorem dL_plan_16 : decode cL_plan 16 = .ok (.ireturn, 1) := by decide +kernel
theorem dL_planned_0 : decode cL_planned 0 = .ok (.aload_n 2, 1) := by decide +kernel
theorem dL_planned_1 : decode cL_planned 1 = .ok (.iconst 0, 1) := by decide +kernel
theorem dL_planned_2 : decode cL_planned 2 = .ok (.aload_n 0, 1) := by decide +kernel
theorem dL_planned_3 : decode cL_planned 3 = .ok (.iload_n 1, 1) := by decide +kernel
theorem dL_planned_4 : decode cL_planned 4 = .ok (.invokevirtual 92, 3) := by decide +kernel
theorem dL_planned_7 : decode cL_planned 7 = .ok (.i2l, 1) := by decide +kernel
theorem dL_planned_8 : decode cL_planned 8 = .ok (.lastore, 1) := by decide +kernel
theorem dL_planned_9 : decode cL_planned 9 = .ok (.goto 9, 3) := by decide +kernel
theorem dL_planned_12 : decode cL_planned 12 = .ok (.astore_n 3, 1) := by decide +kernel
theorem dL_planned_13 : decode cL_planned 13 = .ok (.iconst 1, 1) := by decide +kernel
theorem dL_planned_14 : decode cL_planned 14 = .ok (.ireturn, 1) := by decide +kernel
theorem dL_planned_15 : decode cL_planned 15 = .ok (.astore_n 3, 1) := by decide +kernel
theorem dL_planned_16 : decode cL_planned 16 = .ok (.iconst 2, 1) := by decide +kernel
theorem dL_planned_17 : decode cL_planned 17 = .ok (.ireturn, 1) := by decide +kernel
theorem dL_planned_18 : decode cL_planned 18 = .ok (.iconst 0, 1) := by decide +kernel
theorem dL_planned_19 : decode cL_planned 19 = .ok (.ireturn, 1) := by decide +kernel
theorem dL_feed_0 : decode cL_feed 0 = .ok (.aload_n 2, 1) := by decide +kernel
theorem dL_feed_1 : decode cL_feed 1 = .ok (.iconst 0, 1) := by decide +kernel
theorem dL_feed_2 : decode cL_feed 2 = .ok (.aload_n 0, 1) := by decide +kernel
theorem dL_feed_3 : decode cL_feed 3 = .ok (.iload_n 1, 1) := by decide +kernel
theorem dL_feed_4 : decode cL_feed 4 = .ok (.invokevirtual 97, 3) := by decide +kernel
theorem dL_feed_7 : decode cL_feed 7 = .ok (.i2l, 1) := by decide +kernel
theorem dL_feed_8 : decode cL_feed 8 = .ok (.lastore, 1) := by decide +kernel
theorem dL_feed_9 : decode cL_feed 9 = .ok (.goto 6, 3) := by decide +kernel
theorem dL_feed_12 : decode cL_feed 12 = .ok (.astore_n 3, 1) := by decide +kernel
theorem dL_feed_13 : decode cL_feed 13 = .ok (.iconst 1, 1) := by decide +kernel
theorem dL_feed_14 : decode cL_feed 14 = .ok (.ireturn, 1) := by decide +kernel
theorem dL_feed_15 : decode cL_feed 15 = .ok (.iconst 0, 1) := by decide +kernel
theorem dL_feed_16 : decode cL_feed 16 = .ok (.ireturn, 1) := by decide +kernel
theorem dL_read_0 : decode cL_read 0 = .ok (.aload_n 1, 1) := by decide +kernel
theorem dL_read_1 : decode cL_read 1 = .ok (.iconst 0, 1) := by decide +kernel
theorem dL_read_2 : decode cL_read 2 = .ok (.aload_n 0, 1) := by decide +kernel
theorem dL_read_3 : decode cL_read 3 = .ok (.invokevirtual 103, 3) := by decide +kernel
theorem dL_read_6 : decode cL_read 6 = .ok (.i2l, 1) := by decide +kernel
theorem dL_read_7 : decode cL_read 7 = .ok (.lastore, 1) := by decide +kernel
theorem dL_read_8 : decode cL_read 8 = .ok (.goto 9, 3) := by decide +kernel
theorem dL_read_11 : decode cL_read 11 = .ok (.astore_n 2, 1) := by decide +kernel
theorem dL_read_12 : decode cL_read 12 = .ok (.iconst 1, 1) := by decide +kernel
theorem dL_read_13 : decode cL_read 13 = .ok (.ireturn, 1) := by decide +kernel
theorem dL_read_14 : decode cL_read 14 = .ok (.astore_n 2, 1) := by decide +kernel
theorem dL_read_15 : decode cL_read 15 = .ok (.iconst 2, 1) := by decide +kernel
theorem dL_read_16 : decode cL_read 16 = .ok (.ireturn, 1) := by decide +kernel
theorem dL_read_17 : decode cL_read 17 = .ok (.iconst 0, 1) := by decide +kernel
theorem dL_read_18 : decode cL_read 18 = .ok (.ireturn, 1) := by decide +kernel
theorem dL_faultPosition_0 : decode cL_faultPosition 0 = .ok (.aload_n 1, 1) := by decide +kernel
theorem dL_faultPosition_1 : decode cL_faultPosition 1 = .ok (.iconst 0, 1) := by decide +kernel
theorem dL_faultPosition_2 : decode cL_faultPosition 2 = .ok (.aload_n 0, 1) := by decide +kernel
theorem dL_faultPosition_3 : decode cL_faultPosition 3 = .ok (.invokevirtual 107, 3) := by decide +kernel
theorem dL_faultPosition_6 : decode cL_faultPosition 6 = .ok (.i2l, 1) := by decide +kernel
theorem dL_faultPosition_7 : decode cL_faultPosition 7 = .ok (.lastore, 1) := by decide +kernel
theorem dL_faultPosition_8 : decode cL_faultPosition 8 = .ok (.goto 6, 3) := by decide +kernel
theorem dL_faultPosition_11 : decode cL_faultPosition 11 = .ok (.astore_n 2, 1) := by decide +kernel
theorem dL_faultPosition_12 : decode cL_faultPosition 12 = .ok (.iconst 1, 1) := by decide +kernel
theorem dL_faultPosition_13 : decode cL_faultPosition 13 = .ok (.ireturn, 1) := by decide +kernel
theorem dL_faultPosition_14 : decode cL_faultPosition 14 = .ok (.iconst 0, 1) := by decide +kernel
theorem dL_faultPosition_15 : decode cL_faultPosition 15 = .ok (.ireturn, 1) := by decide +kernel
theorem dL_refusal_0 : decode cL_refusal 0 = .ok (.aload_n 2, 1) := by decide +kernel
theorem dL_refusal_1 : decode cL_refusal 1 = .ok (.iconst 0, 1) := by decide +kernel
theorem dL_refusal_2 : decode cL_refusal 2 = .ok (.aload_n 0, 1) := by decide +kernel
theorem dL_refusal_3 : decode cL_refusal 3 = .ok (.iload_n 1, 1) := by decide +kernel
theorem dL_refusal_4 : decode cL_refusal 4 = .ok (.invokevirtual 110, 3) := by decide +kernel
theorem dL_refusal_7 : decode cL_refusal 7 = .ok (.i2l, 1) := by decide +kernel
theorem dL_refusal_8 : decode cL_refusal 8 = .ok (.lastore, 1) := by decide +kernel
theorem dL_refusal_9 : decode cL_refusal 9 = .ok (.goto 6, 3) := by decide +kernel
theorem dL_refusal_12 : decode cL_refusal 12 = .ok (.astore_n 3, 1) := by decide +kernel
theorem dL_refusal_13 : decode cL_refusal 13 = .ok (.iconst 1, 1) := by decide +kernel
theorem dL_refusal_14 : decode cL_refusal 14 = .ok (.ireturn, 1) := by decide +kernel
theorem dL_refusal_15 : decode cL_refusal 15 = .ok (.iconst 0, 1) := by decide +kernel
theorem dL_refusal_16 : decode cL_refusal 16 = .ok (.ireturn, 1) := by decide +kernel
theorem dL_undo_0 : decode cL_undo 0 = .ok (.aload_n 1, 1) := by decide +kernel
theorem dL_undo_1 : decode cL_undo 1 = .ok (.iconst 0, 1) := by decide +kernel
theorem dL_undo_2 : decode cL_undo 2 = .ok (.aload_n 0, 1) := by decide +kernel
theorem dL_undo_3 : decode cL_undo 3 = .ok (.invokevirtual 114, 3) := by decide +kernel
theorem dL_undo_6 : decode cL_undo 6 = .ok (.i2l, 1) := by decide +kernel
theorem dL_undo_7 : decode cL_undo 7 = .ok (.lastore, 1) := by decide +kernel
theorem dL_undo_8 : decode cL_undo 8 = .ok (.goto 6, 3) := by decide +kernel
theorem dL_undo_11 : decode cL_undo 11 = .ok (.astore_n 2, 1) := by decide +kernel
theorem dL_undo_12 : decode cL_undo 12 = .ok (.iconst 1, 1) := by decide +kernel
theorem dL_undo_13 : decode cL_undo 13 = .ok (.ireturn, 1) := by decide +kernel
theorem dL_undo_14 : decode cL_undo 14 = .ok (.iconst 0, 1) := by decide +kernel
theorem dL_undo_15 : decode cL_undo 15 = .ok (.ireturn, 1) := by decide +kernel
theorem dL_restoreSnapshot_0 : decode cL_restoreSnapshot 0 = .ok (.aload_n 1, 1) := by decide +kernel
theorem dL_restoreSnapshot_1 : decode cL_restoreSnapshot 1 = .ok (.iconst 0, 1) := by decide +kernel
theorem dL_restoreSnapshot_2 : decode cL_restoreSnapshot 2 = .ok (.aload_n 0, 1) := by decide +kernel
theorem dL_restoreSnapshot_3 : decode cL_restoreSnapshot 3 = .ok (.invokevirtual 117, 3) := by decide +kernel
theorem dL_restoreSnapshot_6 : decode cL_restoreSnapshot 6 = .ok (.i2l, 1) := by decide +kernel
theorem dL_restoreSnapshot_7 : decode cL_restoreSnapshot 7 = .ok (.lastore, 1) := by decide +kernel
theorem dL_restoreSnapshot_8 : decode cL_restoreSnapshot 8 = .ok (.goto 6, 3) := by decide +kernel
theorem dL_restoreSnapshot_11 : decode cL_restoreSnapshot 11 = .ok (.astore_n 2, 1) := by decide +kernel
theorem dL_restoreSnapshot_12 : decode cL_restoreSnapshot 12 = .ok (.iconst 1, 1) := by decide +kernel
theorem dL_restoreSnapshot_13 : decode cL_restoreSnapshot 13 = .ok (.ireturn, 1) := by decide +kernel
theorem dL_restoreSnapshot_14 : decode cL_restoreSnapshot 14 = .ok (.iconst 0, 1) := by decide +kernel
theorem dL_restoreSnapshot_15 : decode cL_restoreSnapshot 15 = .ok (.ireturn, 1) := by decide +kernel
theorem dL_law_0 : decode cL_law 0 = .ok (.new 8, 3) := by decide +kernel
theorem dL_law_3 : decode cL_law 3 = .ok (.dup, 1) := by decide +kernel
theorem dL_law_4 : decode cL_law 4 = .ok (.invokespecial 120, 3) := by decide +kernel
theorem dL_law_7 : decode cL_law 7 = .ok (.astore_n 1, 1) := by decide +kernel
theorem dL_law_8 : decode cL_law 8 = .ok (.new 121, 3) := by decide +kernel
theorem dL_law_11 : decode cL_law 11 = .ok (.dup, 1) := by decide +kernel
theorem dL_law_12 : decode cL_law 12 = .ok (.invokespecial 123, 3) := by decide +kernel
theorem dL_law_15 : decode cL_law 15 = .ok (.astore_n 2, 1) := by decide +kernel
theorem dL_law_16 : decode cL_law 16 = .ok (.iconst 1, 1) := by decide +kernel
theorem dL_law_17 : decode cL_law 17 = .ok (.newarray .long, 2) := by decide +kernel
theorem dL_law_19 : decode cL_law 19 = .ok (.astore_n 3, 1) := by decide +kernel
theorem dL_law_20 : decode cL_law 20 = .ok (.iconst 1, 1) := by decide +kernel
theorem dL_law_21 : decode cL_law 21 = .ok (.newarray .double, 2) := by decide +kernel
theorem dL_law_23 : decode cL_law 23 = .ok (.astore 4, 2) := by decide +kernel
theorem dL_law_25 : decode cL_law 25 = .ok (.iconst 0, 1) := by decide +kernel
theorem dL_law_26 : decode cL_law 26 = .ok (.istore 5, 2) := by decide +kernel
theorem dL_law_28 : decode cL_law 28 = .ok (.iload 5, 2) := by decide +kernel
theorem dL_law_30 : decode cL_law 30 = .ok (.aload_n 0, 1) := by decide +kernel
theorem dL_law_31 : decode cL_law 31 = .ok (.arraylength, 1) := by decide +kernel
theorem dL_law_32 : decode cL_law 32 = .ok (.bipush 6, 2) := by decide +kernel
theorem dL_law_34 : decode cL_law 34 = .ok (.isub, 1) := by decide +kernel
theorem dL_law_35 : decode cL_law 35 = .ok (.if_icmp .gt 2279, 3) := by decide +kernel
theorem dL_law_38 : decode cL_law 38 = .ok (.aload_n 0, 1) := by decide +kernel
theorem dL_law_39 : decode cL_law 39 = .ok (.iload 5, 2) := by decide +kernel
theorem dL_law_41 : decode cL_law 41 = .ok (.iaload, 1) := by decide +kernel
theorem dL_law_42 : decode cL_law 42 = .ok (.bipush 31, 2) := by decide +kernel
theorem dL_law_44 : decode cL_law 44 = .ok (.iand, 1) := by decide +kernel
theorem dL_law_45 : decode cL_law 45 = .ok (.tableswitch 2263 0 30 #[139, 207, 275, 331, 411, 479, 583, 703, 771, 839, 907, 975, 1043, 1123, 1203, 1295, 1363, 1443, 1511, 1579, 1659, 1755, 1832, 1888, 1944, 2002, 2046, 2090, 2162, 2206, 2219], 139) := by decide +kernel
theorem dL_law_184 : decode cL_law 184 = .ok (.aload_n 1, 1) := by decide +kernel
theorem dL_law_185 : decode cL_law 185 = .ok (.aload_n 0, 1) := by decide +kernel
theorem dL_law_186 : decode cL_law 186 = .ok (.iload 5, 2) := by decide +kernel
theorem dL_law_188 : decode cL_law 188 = .ok (.iconst 1, 1) := by decide +kernel
theorem dL_law_189 : decode cL_law 189 = .ok (.iadd, 1) := by decide +kernel
theorem dL_law_190 : decode cL_law 190 = .ok (.iaload, 1) := by decide +kernel
theorem dL_law_191 : decode cL_law 191 = .ok (.aload_n 0, 1) := by decide +kernel
theorem dL_law_192 : decode cL_law 192 = .ok (.iload 5, 2) := by decide +kernel
theorem dL_law_194 : decode cL_law 194 = .ok (.iconst 2, 1) := by decide +kernel
theorem dL_law_195 : decode cL_law 195 = .ok (.iadd, 1) := by decide +kernel
theorem dL_law_196 : decode cL_law 196 = .ok (.iaload, 1) := by decide +kernel
theorem dL_law_197 : decode cL_law 197 = .ok (.aload_n 3, 1) := by decide +kernel
theorem dL_law_198 : decode cL_law 198 = .ok (.invokestatic 124, 3) := by decide +kernel
theorem dL_law_201 : decode cL_law 201 = .ok (.istore 6, 2) := by decide +kernel
theorem dL_law_203 : decode cL_law 203 = .ok (.aload_n 2, 1) := by decide +kernel
theorem dL_law_204 : decode cL_law 204 = .ok (.aload_n 0, 1) := by decide +kernel
theorem dL_law_205 : decode cL_law 205 = .ok (.iload 5, 2) := by decide +kernel
theorem dL_law_207 : decode cL_law 207 = .ok (.iconst 1, 1) := by decide +kernel
theorem dL_law_208 : decode cL_law 208 = .ok (.iadd, 1) := by decide +kernel
theorem dL_law_209 : decode cL_law 209 = .ok (.iaload, 1) := by decide +kernel
theorem dL_law_210 : decode cL_law 210 = .ok (.aload_n 0, 1) := by decide +kernel
theorem dL_law_211 : decode cL_law 211 = .ok (.iload 5, 2) := by decide +kernel
theorem dL_law_213 : decode cL_law 213 = .ok (.iconst 2, 1) := by decide +kernel
theorem dL_law_214 : decode cL_law 214 = .ok (.iadd, 1) := by decide +kernel
theorem dL_law_215 : decode cL_law 215 = .ok (.iaload, 1) := by decide +kernel
theorem dL_law_216 : decode cL_law 216 = .ok (.invokevirtual 129, 3) := by decide +kernel
theorem dL_law_219 : decode cL_law 219 = .ok (.istore 7, 2) := by decide +kernel
theorem dL_law_221 : decode cL_law 221 = .ok (.aload_n 2, 1) := by decide +kernel
theorem dL_law_222 : decode cL_law 222 = .ok (.invokevirtual 130, 3) := by decide +kernel
theorem dL_law_225 : decode cL_law 225 = .ok (.iload 6, 2) := by decide +kernel
theorem dL_law_227 : decode cL_law 227 = .ok (.if_icmp .eq 5, 3) := by decide +kernel
theorem dL_law_230 : decode cL_law 230 = .ok (.iconst 0, 1) := by decide +kernel
theorem dL_law_231 : decode cL_law 231 = .ok (.ireturn, 1) := by decide +kernel
theorem dL_law_232 : decode cL_law 232 = .ok (.iload 6, 2) := by decide +kernel
theorem dL_law_234 : decode cL_law 234 = .ok (.ifCond .ne 15, 3) := by decide +kernel
theorem dL_law_237 : decode cL_law 237 = .ok (.aload_n 3, 1) := by decide +kernel
theorem dL_law_238 : decode cL_law 238 = .ok (.iconst 0, 1) := by decide +kernel
theorem dL_law_239 : decode cL_law 239 = .ok (.laload, 1) := by decide +kernel
theorem dL_law_240 : decode cL_law 240 = .ok (.iload 7, 2) := by decide +kernel
theorem dL_law_242 : decode cL_law 242 = .ok (.i2l, 1) := by decide +kernel
theorem dL_law_243 : decode cL_law 243 = .ok (.lcmp, 1) := by decide +kernel
theorem dL_law_244 : decode cL_law 244 = .ok (.ifCond .eq 5, 3) := by decide +kernel
theorem dL_law_247 : decode cL_law 247 = .ok (.iconst 0, 1) := by decide +kernel
theorem dL_law_248 : decode cL_law 248 = .ok (.ireturn, 1) := by decide +kernel
theorem dL_law_249 : decode cL_law 249 = .ok (.goto 2059, 3) := by decide +kernel
theorem dL_law_252 : decode cL_law 252 = .ok (.aload_n 1, 1) := by decide +kernel
theorem dL_law_253 : decode cL_law 253 = .ok (.aload_n 0, 1) := by decide +kernel
theorem dL_law_254 : decode cL_law 254 = .ok (.iload 5, 2) := by decide +kernel
theorem dL_law_256 : decode cL_law 256 = .ok (.iconst 1, 1) := by decide +kernel
theorem dL_law_257 : decode cL_law 257 = .ok (.iadd, 1) := by decide +kernel
theorem dL_law_258 : decode cL_law 258 = .ok (.iaload, 1) := by decide +kernel
theorem dL_law_259 : decode cL_law 259 = .ok (.aload_n 0, 1) := by decide +kernel
theorem dL_law_260 : decode cL_law 260 = .ok (.iload 5, 2) := by decide +kernel
theorem dL_law_262 : decode cL_law 262 = .ok (.iconst 2, 1) := by decide +kernel
theorem dL_law_263 : decode cL_law 263 = .ok (.iadd, 1) := by decide +kernel
theorem dL_law_264 : decode cL_law 264 = .ok (.iaload, 1) := by decide +kernel
theorem dL_law_265 : decode cL_law 265 = .ok (.aload_n 3, 1) := by decide +kernel
theorem dL_law_266 : decode cL_law 266 = .ok (.invokestatic 133, 3) := by decide +kernel
theorem dL_law_269 : decode cL_law 269 = .ok (.istore 6, 2) := by decide +kernel
theorem dL_law_271 : decode cL_law 271 = .ok (.aload_n 2, 1) := by decide +kernel
theorem dL_law_272 : decode cL_law 272 = .ok (.aload_n 0, 1) := by decide +kernel
theorem dL_law_273 : decode cL_law 273 = .ok (.iload 5, 2) := by decide +kernel
theorem dL_law_275 : decode cL_law 275 = .ok (.iconst 1, 1) := by decide +kernel
theorem dL_law_276 : decode cL_law 276 = .ok (.iadd, 1) := by decide +kernel
theorem dL_law_277 : decode cL_law 277 = .ok (.iaload, 1) := by decide +kernel
theorem dL_law_278 : decode cL_law 278 = .ok (.aload_n 0, 1) := by decide +kernel
theorem dL_law_279 : decode cL_law 279 = .ok (.iload 5, 2) := by decide +kernel
theorem dL_law_281 : decode cL_law 281 = .ok (.iconst 2, 1) := by decide +kernel
theorem dL_law_282 : decode cL_law 282 = .ok (.iadd, 1) := by decide +kernel
theorem dL_law_283 : decode cL_law 283 = .ok (.iaload, 1) := by decide +kernel
theorem dL_law_284 : decode cL_law 284 = .ok (.invokevirtual 135, 3) := by decide +kernel
theorem dL_law_287 : decode cL_law 287 = .ok (.istore 7, 2) := by decide +kernel
theorem dL_law_289 : decode cL_law 289 = .ok (.aload_n 2, 1) := by decide +kernel
theorem dL_law_290 : decode cL_law 290 = .ok (.invokevirtual 130, 3) := by decide +kernel
theorem dL_law_293 : decode cL_law 293 = .ok (.iload 6, 2) := by decide +kernel
theorem dL_law_295 : decode cL_law 295 = .ok (.if_icmp .eq 5, 3) := by decide +kernel
theorem dL_law_298 : decode cL_law 298 = .ok (.iconst 0, 1) := by decide +kernel
theorem dL_law_299 : decode cL_law 299 = .ok (.ireturn, 1) := by decide +kernel
theorem dL_law_300 : decode cL_law 300 = .ok (.iload 6, 2) := by decide +kernel
theorem dL_law_302 : decode cL_law 302 = .ok (.ifCond .ne 15, 3) := by decide +kernel
theorem dL_law_305 : decode cL_law 305 = .ok (.aload_n 3, 1) := by decide +kernel
theorem dL_law_306 : decode cL_law 306 = .ok (.iconst 0, 1) := by decide +kernel
theorem dL_law_307 : decode cL_law 307 = .ok (.laload, 1) := by decide +kernel
theorem dL_law_308 : decode cL_law 308 = .ok (.iload 7, 2) := by decide +kernel
theorem dL_law_310 : decode cL_law 310 = .ok (.i2l, 1) := by decide +kernel
theorem dL_law_311 : decode cL_law 311 = .ok (.lcmp, 1) := by decide +kernel
theorem dL_law_312 : decode cL_law 312 = .ok (.ifCond .eq 5, 3) := by decide +kernel
theorem dL_law_315 : decode cL_law 315 = .ok (.iconst 0, 1) := by decide +kernel
theorem dL_law_316 : decode cL_law 316 = .ok (.ireturn, 1) := by decide +kernel
theorem dL_law_317 : decode cL_law 317 = .ok (.goto 1991, 3) := by decide +kernel
theorem dL_law_320 : decode cL_law 320 = .ok (.aload_n 1, 1) := by decide +kernel
theorem dL_law_321 : decode cL_law 321 = .ok (.aload_n 0, 1) := by decide +kernel
theorem dL_law_322 : decode cL_law 322 = .ok (.iload 5, 2) := by decide +kernel
theorem dL_law_324 : decode cL_law 324 = .ok (.iconst 1, 1) := by decide +kernel
theorem dL_law_325 : decode cL_law 325 = .ok (.iadd, 1) := by decide +kernel
theorem dL_law_326 : decode cL_law 326 = .ok (.iaload, 1) := by decide +kernel
theorem dL_law_327 : decode cL_law 327 = .ok (.aload_n 3, 1) := by decide +kernel
theorem dL_law_328 : decode cL_law 328 = .ok (.invokestatic 136, 3) := by decide +kernel
theorem dL_law_331 : decode cL_law 331 = .ok (.istore 6, 2) := by decide +kernel
theorem dL_law_333 : decode cL_law 333 = .ok (.aload_n 2, 1) := by decide +kernel
theorem dL_law_334 : decode cL_law 334 = .ok (.aload_n 0, 1) := by decide +kernel
theorem dL_law_335 : decode cL_law 335 = .ok (.iload 5, 2) := by decide +kernel
theorem dL_law_337 : decode cL_law 337 = .ok (.iconst 1, 1) := by decide +kernel
theorem dL_law_338 : decode cL_law 338 = .ok (.iadd, 1) := by decide +kernel
theorem dL_law_339 : decode cL_law 339 = .ok (.iaload, 1) := by decide +kernel
theorem dL_law_340 : decode cL_law 340 = .ok (.invokevirtual 139, 3) := by decide +kernel
theorem dL_law_343 : decode cL_law 343 = .ok (.istore 7, 2) := by decide +kernel
theorem dL_law_345 : decode cL_law 345 = .ok (.aload_n 2, 1) := by decide +kernel
theorem dL_law_346 : decode cL_law 346 = .ok (.invokevirtual 130, 3) := by decide +kernel
theorem dL_law_349 : decode cL_law 349 = .ok (.iload 6, 2) := by decide +kernel
theorem dL_law_351 : decode cL_law 351 = .ok (.if_icmp .eq 5, 3) := by decide +kernel
theorem dL_law_354 : decode cL_law 354 = .ok (.iconst 0, 1) := by decide +kernel
theorem dL_law_355 : decode cL_law 355 = .ok (.ireturn, 1) := by decide +kernel
theorem dL_law_356 : decode cL_law 356 = .ok (.iload 6, 2) := by decide +kernel
theorem dL_law_358 : decode cL_law 358 = .ok (.ifCond .ne 15, 3) := by decide +kernel
theorem dL_law_361 : decode cL_law 361 = .ok (.aload_n 3, 1) := by decide +kernel
theorem dL_law_362 : decode cL_law 362 = .ok (.iconst 0, 1) := by decide +kernel
theorem dL_law_363 : decode cL_law 363 = .ok (.laload, 1) := by decide +kernel
theorem dL_law_364 : decode cL_law 364 = .ok (.iload 7, 2) := by decide +kernel
theorem dL_law_366 : decode cL_law 366 = .ok (.i2l, 1) := by decide +kernel
theorem dL_law_367 : decode cL_law 367 = .ok (.lcmp, 1) := by decide +kernel
theorem dL_law_368 : decode cL_law 368 = .ok (.ifCond .eq 5, 3) := by decide +kernel
theorem dL_law_371 : decode cL_law 371 = .ok (.iconst 0, 1) := by decide +kernel
theorem dL_law_372 : decode cL_law 372 = .ok (.ireturn, 1) := by decide +kernel
theorem dL_law_373 : decode cL_law 373 = .ok (.goto 1935, 3) := by decide +kernel
theorem dL_law_376 : decode cL_law 376 = .ok (.aload_n 1, 1) := by decide +kernel
theorem dL_law_377 : decode cL_law 377 = .ok (.aload_n 0, 1) := by decide +kernel
theorem dL_law_378 : decode cL_law 378 = .ok (.iload 5, 2) := by decide +kernel
theorem dL_law_380 : decode cL_law 380 = .ok (.iconst 1, 1) := by decide +kernel
theorem dL_law_381 : decode cL_law 381 = .ok (.iadd, 1) := by decide +kernel
theorem dL_law_382 : decode cL_law 382 = .ok (.iaload, 1) := by decide +kernel
theorem dL_law_383 : decode cL_law 383 = .ok (.aload_n 0, 1) := by decide +kernel
theorem dL_law_384 : decode cL_law 384 = .ok (.iload 5, 2) := by decide +kernel
theorem dL_law_386 : decode cL_law 386 = .ok (.iconst 2, 1) := by decide +kernel
theorem dL_law_387 : decode cL_law 387 = .ok (.iadd, 1) := by decide +kernel
theorem dL_law_388 : decode cL_law 388 = .ok (.iaload, 1) := by decide +kernel
theorem dL_law_389 : decode cL_law 389 = .ok (.aload_n 0, 1) := by decide +kernel
theorem dL_law_390 : decode cL_law 390 = .ok (.iload 5, 2) := by decide +kernel
theorem dL_law_392 : decode cL_law 392 = .ok (.iconst 3, 1) := by decide +kernel
theorem dL_law_393 : decode cL_law 393 = .ok (.iadd, 1) := by decide +kernel
theorem dL_law_394 : decode cL_law 394 = .ok (.iaload, 1) := by decide +kernel
theorem dL_law_395 : decode cL_law 395 = .ok (.aload_n 3, 1) := by decide +kernel
theorem dL_law_396 : decode cL_law 396 = .ok (.invokestatic 140, 3) := by decide +kernel
theorem dL_law_399 : decode cL_law 399 = .ok (.istore 6, 2) := by decide +kernel
theorem dL_law_401 : decode cL_law 401 = .ok (.aload_n 2, 1) := by decide +kernel
theorem dL_law_402 : decode cL_law 402 = .ok (.aload_n 0, 1) := by decide +kernel
theorem dL_law_403 : decode cL_law 403 = .ok (.iload 5, 2) := by decide +kernel
theorem dL_law_405 : decode cL_law 405 = .ok (.iconst 1, 1) := by decide +kernel
theorem dL_law_406 : decode cL_law 406 = .ok (.iadd, 1) := by decide +kernel
theorem dL_law_407 : decode cL_law 407 = .ok (.iaload, 1) := by decide +kernel
theorem dL_law_408 : decode cL_law 408 = .ok (.aload_n 0, 1) := by decide +kernel
theorem dL_law_409 : decode cL_law 409 = .ok (.iload 5, 2) := by decide +kernel
theorem dL_law_411 : decode cL_law 411 = .ok (.iconst 2, 1) := by decide +kernel
theorem dL_law_412 : decode cL_law 412 = .ok (.iadd, 1) := by decide +kernel
theorem dL_law_413 : decode cL_law 413 = .ok (.iaload, 1) := by decide +kernel
theorem dL_law_414 : decode cL_law 414 = .ok (.aload_n 0, 1) := by decide +kernel
theorem dL_law_415 : decode cL_law 415 = .ok (.iload 5, 2) := by decide +kernel
theorem dL_law_417 : decode cL_law 417 = .ok (.iconst 3, 1) := by decide +kernel
theorem dL_law_418 : decode cL_law 418 = .ok (.iadd, 1) := by decide +kernel
theorem dL_law_419 : decode cL_law 419 = .ok (.iaload, 1) := by decide +kernel
theorem dL_law_420 : decode cL_law 420 = .ok (.invokevirtual 143, 3) := by decide +kernel
theorem dL_law_423 : decode cL_law 423 = .ok (.istore 7, 2) := by decide +kernel
theorem dL_law_425 : decode cL_law 425 = .ok (.aload_n 2, 1) := by decide +kernel
theorem dL_law_426 : decode cL_law 426 = .ok (.invokevirtual 130, 3) := by decide +kernel
theorem dL_law_429 : decode cL_law 429 = .ok (.iload 6, 2) := by decide +kernel
theorem dL_law_431 : decode cL_law 431 = .ok (.if_icmp .eq 5, 3) := by decide +kernel
theorem dL_law_434 : decode cL_law 434 = .ok (.iconst 0, 1) := by decide +kernel
theorem dL_law_435 : decode cL_law 435 = .ok (.ireturn, 1) := by decide +kernel
theorem dL_law_436 : decode cL_law 436 = .ok (.iload 6, 2) := by decide +kernel
theorem dL_law_438 : decode cL_law 438 = .ok (.ifCond .ne 15, 3) := by decide +kernel
theorem dL_law_441 : decode cL_law 441 = .ok (.aload_n 3, 1) := by decide +kernel
theorem dL_law_442 : decode cL_law 442 = .ok (.iconst 0, 1) := by decide +kernel
theorem dL_law_443 : decode cL_law 443 = .ok (.laload, 1) := by decide +kernel
theorem dL_law_444 : decode cL_law 444 = .ok (.iload 7, 2) := by decide +kernel
theorem dL_law_446 : decode cL_law 446 = .ok (.i2l, 1) := by decide +kernel
theorem dL_law_447 : decode cL_law 447 = .ok (.lcmp, 1) := by decide +kernel
theorem dL_law_448 : decode cL_law 448 = .ok (.ifCond .eq 5, 3) := by decide +kernel
theorem dL_law_451 : decode cL_law 451 = .ok (.iconst 0, 1) := by decide +kernel
theorem dL_law_452 : decode cL_law 452 = .ok (.ireturn, 1) := by decide +kernel
theorem dL_law_453 : decode cL_law 453 = .ok (.goto 1855, 3) := by decide +kernel
theorem dL_law_456 : decode cL_law 456 = .ok (.aload_n 1, 1) := by decide +kernel
theorem dL_law_457 : decode cL_law 457 = .ok (.aload_n 0, 1) := by decide +kernel
theorem dL_law_458 : decode cL_law 458 = .ok (.iload 5, 2) := by decide +kernel
theorem dL_law_460 : decode cL_law 460 = .ok (.iconst 1, 1) := by decide +kernel
theorem dL_law_461 : decode cL_law 461 = .ok (.iadd, 1) := by decide +kernel
theorem dL_law_462 : decode cL_law 462 = .ok (.iaload, 1) := by decide +kernel
theorem dL_law_463 : decode cL_law 463 = .ok (.aload_n 0, 1) := by decide +kernel
theorem dL_law_464 : decode cL_law 464 = .ok (.iload 5, 2) := by decide +kernel
theorem dL_law_466 : decode cL_law 466 = .ok (.iconst 2, 1) := by decide +kernel
theorem dL_law_467 : decode cL_law 467 = .ok (.iadd, 1) := by decide +kernel
theorem dL_law_468 : decode cL_law 468 = .ok (.iaload, 1) := by decide +kernel
theorem dL_law_469 : decode cL_law 469 = .ok (.aload_n 3, 1) := by decide +kernel
theorem dL_law_470 : decode cL_law 470 = .ok (.invokestatic 144, 3) := by decide +kernel
theorem dL_law_473 : decode cL_law 473 = .ok (.istore 6, 2) := by decide +kernel
theorem dL_law_475 : decode cL_law 475 = .ok (.aload_n 2, 1) := by decide +kernel
theorem dL_law_476 : decode cL_law 476 = .ok (.aload_n 0, 1) := by decide +kernel
theorem dL_law_477 : decode cL_law 477 = .ok (.iload 5, 2) := by decide +kernel
theorem dL_law_479 : decode cL_law 479 = .ok (.iconst 1, 1) := by decide +kernel
theorem dL_law_480 : decode cL_law 480 = .ok (.iadd, 1) := by decide +kernel
theorem dL_law_481 : decode cL_law 481 = .ok (.iaload, 1) := by decide +kernel
theorem dL_law_482 : decode cL_law 482 = .ok (.aload_n 0, 1) := by decide +kernel
theorem dL_law_483 : decode cL_law 483 = .ok (.iload 5, 2) := by decide +kernel
theorem dL_law_485 : decode cL_law 485 = .ok (.iconst 2, 1) := by decide +kernel
theorem dL_law_486 : decode cL_law 486 = .ok (.iadd, 1) := by decide +kernel
theorem dL_law_487 : decode cL_law 487 = .ok (.iaload, 1) := by decide +kernel
theorem dL_law_488 : decode cL_law 488 = .ok (.invokevirtual 146, 3) := by decide +kernel
theorem dL_law_491 : decode cL_law 491 = .ok (.istore 7, 2) := by decide +kernel
theorem dL_law_493 : decode cL_law 493 = .ok (.aload_n 2, 1) := by decide +kernel
theorem dL_law_494 : decode cL_law 494 = .ok (.invokevirtual 130, 3) := by decide +kernel
theorem dL_law_497 : decode cL_law 497 = .ok (.iload 6, 2) := by decide +kernel
theorem dL_law_499 : decode cL_law 499 = .ok (.if_icmp .eq 5, 3) := by decide +kernel
theorem dL_law_502 : decode cL_law 502 = .ok (.iconst 0, 1) := by decide +kernel
theorem dL_law_503 : decode cL_law 503 = .ok (.ireturn, 1) := by decide +kernel
theorem dL_law_504 : decode cL_law 504 = .ok (.iload 6, 2) := by decide +kernel
theorem dL_law_506 : decode cL_law 506 = .ok (.ifCond .ne 15, 3) := by decide +kernel
theorem dL_law_509 : decode cL_law 509 = .ok (.aload_n 3, 1) := by decide +kernel
theorem dL_law_510 : decode cL_law 510 = .ok (.iconst 0, 1) := by decide +kernel
theorem dL_law_511 : decode cL_law 511 = .ok (.laload, 1) := by decide +kernel
theorem dL_law_512 : decode cL_law 512 = .ok (.iload 7, 2) := by decide +kernel
theorem dL_law_514 : decode cL_law 514 = .ok (.i2l, 1) := by decide +kernel
theorem dL_law_515 : decode cL_law 515 = .ok (.lcmp, 1) := by decide +kernel
theorem dL_law_516 : decode cL_law 516 = .ok (.ifCond .eq 5, 3) := by decide +kernel
theorem dL_law_519 : decode cL_law 519 = .ok (.iconst 0, 1) := by decide +kernel
theorem dL_law_520 : decode cL_law 520 = .ok (.ireturn, 1) := by decide +kernel
theorem dL_law_521 : decode cL_law 521 = .ok (.goto 1787, 3) := by decide +kernel
theorem dL_law_524 : decode cL_law 524 = .ok (.aload_n 1, 1) := by decide +kernel
theorem dL_law_525 : decode cL_law 525 = .ok (.aload_n 0, 1) := by decide +kernel
theorem dL_law_526 : decode cL_law 526 = .ok (.iload 5, 2) := by decide +kernel
theorem dL_law_528 : decode cL_law 528 = .ok (.iconst 1, 1) := by decide +kernel
theorem dL_law_529 : decode cL_law 529 = .ok (.iadd, 1) := by decide +kernel
theorem dL_law_530 : decode cL_law 530 = .ok (.iaload, 1) := by decide +kernel
theorem dL_law_531 : decode cL_law 531 = .ok (.aload_n 0, 1) := by decide +kernel
theorem dL_law_532 : decode cL_law 532 = .ok (.iload 5, 2) := by decide +kernel
theorem dL_law_534 : decode cL_law 534 = .ok (.iconst 2, 1) := by decide +kernel
theorem dL_law_535 : decode cL_law 535 = .ok (.iadd, 1) := by decide +kernel
theorem dL_law_536 : decode cL_law 536 = .ok (.iaload, 1) := by decide +kernel
theorem dL_law_537 : decode cL_law 537 = .ok (.aload_n 0, 1) := by decide +kernel
theorem dL_law_538 : decode cL_law 538 = .ok (.iload 5, 2) := by decide +kernel
theorem dL_law_540 : decode cL_law 540 = .ok (.iconst 3, 1) := by decide +kernel
theorem dL_law_541 : decode cL_law 541 = .ok (.iadd, 1) := by decide +kernel
theorem dL_law_542 : decode cL_law 542 = .ok (.iaload, 1) := by decide +kernel
theorem dL_law_543 : decode cL_law 543 = .ok (.aload_n 0, 1) := by decide +kernel
theorem dL_law_544 : decode cL_law 544 = .ok (.iload 5, 2) := by decide +kernel
theorem dL_law_546 : decode cL_law 546 = .ok (.iconst 4, 1) := by decide +kernel
theorem dL_law_547 : decode cL_law 547 = .ok (.iadd, 1) := by decide +kernel
theorem dL_law_548 : decode cL_law 548 = .ok (.iaload, 1) := by decide +kernel
theorem dL_law_549 : decode cL_law 549 = .ok (.aload_n 0, 1) := by decide +kernel
theorem dL_law_550 : decode cL_law 550 = .ok (.iload 5, 2) := by decide +kernel
theorem dL_law_552 : decode cL_law 552 = .ok (.iconst 5, 1) := by decide +kernel
theorem dL_law_553 : decode cL_law 553 = .ok (.iadd, 1) := by decide +kernel
theorem dL_law_554 : decode cL_law 554 = .ok (.iaload, 1) := by decide +kernel
theorem dL_law_555 : decode cL_law 555 = .ok (.aload_n 3, 1) := by decide +kernel
theorem dL_law_556 : decode cL_law 556 = .ok (.invokestatic 147, 3) := by decide +kernel
theorem dL_law_559 : decode cL_law 559 = .ok (.istore 6, 2) := by decide +kernel
theorem dL_law_561 : decode cL_law 561 = .ok (.aload_n 2, 1) := by decide +kernel
theorem dL_law_562 : decode cL_law 562 = .ok (.aload_n 0, 1) := by decide +kernel
theorem dL_law_563 : decode cL_law 563 = .ok (.iload 5, 2) := by decide +kernel
theorem dL_law_565 : decode cL_law 565 = .ok (.iconst 1, 1) := by decide +kernel
theorem dL_law_566 : decode cL_law 566 = .ok (.iadd, 1) := by decide +kernel
theorem dL_law_567 : decode cL_law 567 = .ok (.iaload, 1) := by decide +kernel
theorem dL_law_568 : decode cL_law 568 = .ok (.aload_n 0, 1) := by decide +kernel
theorem dL_law_569 : decode cL_law 569 = .ok (.iload 5, 2) := by decide +kernel
theorem dL_law_571 : decode cL_law 571 = .ok (.iconst 2, 1) := by decide +kernel
theorem dL_law_572 : decode cL_law 572 = .ok (.iadd, 1) := by decide +kernel
theorem dL_law_573 : decode cL_law 573 = .ok (.iaload, 1) := by decide +kernel
theorem dL_law_574 : decode cL_law 574 = .ok (.aload_n 0, 1) := by decide +kernel
theorem dL_law_575 : decode cL_law 575 = .ok (.iload 5, 2) := by decide +kernel
theorem dL_law_577 : decode cL_law 577 = .ok (.iconst 3, 1) := by decide +kernel
theorem dL_law_578 : decode cL_law 578 = .ok (.iadd, 1) := by decide +kernel
theorem dL_law_579 : decode cL_law 579 = .ok (.iaload, 1) := by decide +kernel
theorem dL_law_580 : decode cL_law 580 = .ok (.aload_n 0, 1) := by decide +kernel
theorem dL_law_581 : decode cL_law 581 = .ok (.iload 5, 2) := by decide +kernel
theorem dL_law_583 : decode cL_law 583 = .ok (.iconst 4, 1) := by decide +kernel
theorem dL_law_584 : decode cL_law 584 = .ok (.iadd, 1) := by decide +kernel
theorem dL_law_585 : decode cL_law 585 = .ok (.iaload, 1) := by decide +kernel
theorem dL_law_586 : decode cL_law 586 = .ok (.aload_n 0, 1) := by decide +kernel
theorem dL_law_587 : decode cL_law 587 = .ok (.iload 5, 2) := by decide +kernel
theorem dL_law_589 : decode cL_law 589 = .ok (.iconst 5, 1) := by decide +kernel
theorem dL_law_590 : decode cL_law 590 = .ok (.iadd, 1) := by decide +kernel
theorem dL_law_591 : decode cL_law 591 = .ok (.iaload, 1) := by decide +kernel
theorem dL_law_592 : decode cL_law 592 = .ok (.invokevirtual 150, 3) := by decide +kernel
theorem dL_law_595 : decode cL_law 595 = .ok (.istore 7, 2) := by decide +kernel
theorem dL_law_597 : decode cL_law 597 = .ok (.aload_n 2, 1) := by decide +kernel
theorem dL_law_598 : decode cL_law 598 = .ok (.invokevirtual 130, 3) := by decide +kernel
theorem dL_law_601 : decode cL_law 601 = .ok (.iload 6, 2) := by decide +kernel
theorem dL_law_603 : decode cL_law 603 = .ok (.if_icmp .eq 5, 3) := by decide +kernel
theorem dL_law_606 : decode cL_law 606 = .ok (.iconst 0, 1) := by decide +kernel
theorem dL_law_607 : decode cL_law 607 = .ok (.ireturn, 1) := by decide +kernel
theorem dL_law_608 : decode cL_law 608 = .ok (.iload 6, 2) := by decide +kernel
theorem dL_law_610 : decode cL_law 610 = .ok (.ifCond .ne 15, 3) := by decide +kernel
theorem dL_law_613 : decode cL_law 613 = .ok (.aload_n 3, 1) := by decide +kernel
theorem dL_law_614 : decode cL_law 614 = .ok (.iconst 0, 1) := by decide +kernel
theorem dL_law_615 : decode cL_law 615 = .ok (.laload, 1) := by decide +kernel
theorem dL_law_616 : decode cL_law 616 = .ok (.iload 7, 2) := by decide +kernel
theorem dL_law_618 : decode cL_law 618 = .ok (.i2l, 1) := by decide +kernel
theorem dL_law_619 : decode cL_law 619 = .ok (.lcmp, 1) := by decide +kernel
theorem dL_law_620 : decode cL_law 620 = .ok (.ifCond .eq 5, 3) := by decide +kernel
theorem dL_law_623 : decode cL_law 623 = .ok (.iconst 0, 1) := by decide +kernel
theorem dL_law_624 : decode cL_law 624 = .ok (.ireturn, 1) := by decide +kernel
theorem dL_law_625 : decode cL_law 625 = .ok (.goto 1683, 3) := by decide +kernel
theorem dL_law_628 : decode cL_law 628 = .ok (.aload_n 1, 1) := by decide +kernel
theorem dL_law_629 : decode cL_law 629 = .ok (.aload_n 0, 1) := by decide +kernel
theorem dL_law_630 : decode cL_law 630 = .ok (.iload 5, 2) := by decide +kernel
theorem dL_law_632 : decode cL_law 632 = .ok (.iconst 1, 1) := by decide +kernel
theorem dL_law_633 : decode cL_law 633 = .ok (.iadd, 1) := by decide +kernel
theorem dL_law_634 : decode cL_law 634 = .ok (.iaload, 1) := by decide +kernel
theorem dL_law_635 : decode cL_law 635 = .ok (.aload_n 0, 1) := by decide +kernel
theorem dL_law_636 : decode cL_law 636 = .ok (.iload 5, 2) := by decide +kernel
theorem dL_law_638 : decode cL_law 638 = .ok (.iconst 2, 1) := by decide +kernel
theorem dL_law_639 : decode cL_law 639 = .ok (.iadd, 1) := by decide +kernel
theorem dL_law_640 : decode cL_law 640 = .ok (.iaload, 1) := by decide +kernel
theorem dL_law_641 : decode cL_law 641 = .ok (.aload_n 0, 1) := by decide +kernel
theorem dL_law_642 : decode cL_law 642 = .ok (.iload 5, 2) := by decide +kernel
theorem dL_law_644 : decode cL_law 644 = .ok (.iconst 3, 1) := by decide +kernel
theorem dL_law_645 : decode cL_law 645 = .ok (.iadd, 1) := by decide +kernel
theorem dL_law_646 : decode cL_law 646 = .ok (.iaload, 1) := by decide +kernel
theorem dL_law_647 : decode cL_law 647 = .ok (.aload_n 0, 1) := by decide +kernel
theorem dL_law_648 : decode cL_law 648 = .ok (.iload 5, 2) := by decide +kernel
theorem dL_law_650 : decode cL_law 650 = .ok (.iconst 4, 1) := by decide +kernel
theorem dL_law_651 : decode cL_law 651 = .ok (.iadd, 1) := by decide +kernel
theorem dL_law_652 : decode cL_law 652 = .ok (.iaload, 1) := by decide +kernel
theorem dL_law_653 : decode cL_law 653 = .ok (.aload_n 0, 1) := by decide +kernel
theorem dL_law_654 : decode cL_law 654 = .ok (.iload 5, 2) := by decide +kernel
theorem dL_law_656 : decode cL_law 656 = .ok (.iconst 5, 1) := by decide +kernel
theorem dL_law_657 : decode cL_law 657 = .ok (.iadd, 1) := by decide +kernel
theorem dL_law_658 : decode cL_law 658 = .ok (.iaload, 1) := by decide +kernel
theorem dL_law_659 : decode cL_law 659 = .ok (.ifCond .eq 7, 3) := by decide +kernel
theorem dL_law_662 : decode cL_law 662 = .ok (.iconst 1, 1) := by decide +kernel
theorem dL_law_663 : decode cL_law 663 = .ok (.goto 4, 3) := by decide +kernel
theorem dL_law_666 : decode cL_law 666 = .ok (.iconst 0, 1) := by decide +kernel
theorem dL_law_667 : decode cL_law 667 = .ok (.aload_n 3, 1) := by decide +kernel
theorem dL_law_668 : decode cL_law 668 = .ok (.invokestatic 151, 3) := by decide +kernel
theorem dL_law_671 : decode cL_law 671 = .ok (.istore 6, 2) := by decide +kernel
theorem dL_law_673 : decode cL_law 673 = .ok (.aload_n 2, 1) := by decide +kernel
theorem dL_law_674 : decode cL_law 674 = .ok (.aload_n 0, 1) := by decide +kernel
theorem dL_law_675 : decode cL_law 675 = .ok (.iload 5, 2) := by decide +kernel
theorem dL_law_677 : decode cL_law 677 = .ok (.iconst 1, 1) := by decide +kernel
theorem dL_law_678 : decode cL_law 678 = .ok (.iadd, 1) := by decide +kernel
theorem dL_law_679 : decode cL_law 679 = .ok (.iaload, 1) := by decide +kernel
theorem dL_law_680 : decode cL_law 680 = .ok (.aload_n 0, 1) := by decide +kernel
theorem dL_law_681 : decode cL_law 681 = .ok (.iload 5, 2) := by decide +kernel
theorem dL_law_683 : decode cL_law 683 = .ok (.iconst 2, 1) := by decide +kernel
theorem dL_law_684 : decode cL_law 684 = .ok (.iadd, 1) := by decide +kernel
theorem dL_law_685 : decode cL_law 685 = .ok (.iaload, 1) := by decide +kernel
theorem dL_law_686 : decode cL_law 686 = .ok (.aload_n 0, 1) := by decide +kernel
theorem dL_law_687 : decode cL_law 687 = .ok (.iload 5, 2) := by decide +kernel
theorem dL_law_689 : decode cL_law 689 = .ok (.iconst 3, 1) := by decide +kernel
theorem dL_law_690 : decode cL_law 690 = .ok (.iadd, 1) := by decide +kernel
theorem dL_law_691 : decode cL_law 691 = .ok (.iaload, 1) := by decide +kernel
theorem dL_law_692 : decode cL_law 692 = .ok (.aload_n 0, 1) := by decide +kernel
theorem dL_law_693 : decode cL_law 693 = .ok (.iload 5, 2) := by decide +kernel
theorem dL_law_695 : decode cL_law 695 = .ok (.iconst 4, 1) := by decide +kernel
theorem dL_law_696 : decode cL_law 696 = .ok (.iadd, 1) := by decide +kernel
theorem dL_law_697 : decode cL_law 697 = .ok (.iaload, 1) := by decide +kernel
theorem dL_law_698 : decode cL_law 698 = .ok (.aload_n 0, 1) := by decide +kernel
theorem dL_law_699 : decode cL_law 699 = .ok (.iload 5, 2) := by decide +kernel
theorem dL_law_701 : decode cL_law 701 = .ok (.iconst 5, 1) := by decide +kernel
theorem dL_law_702 : decode cL_law 702 = .ok (.iadd, 1) := by decide +kernel
theorem dL_law_703 : decode cL_law 703 = .ok (.iaload, 1) := by decide +kernel
theorem dL_law_704 : decode cL_law 704 = .ok (.ifCond .eq 7, 3) := by decide +kernel
theorem dL_law_707 : decode cL_law 707 = .ok (.iconst 1, 1) := by decide +kernel
theorem dL_law_708 : decode cL_law 708 = .ok (.goto 4, 3) := by decide +kernel
theorem dL_law_711 : decode cL_law 711 = .ok (.iconst 0, 1) := by decide +kernel
theorem dL_law_712 : decode cL_law 712 = .ok (.invokevirtual 154, 3) := by decide +kernel
theorem dL_law_715 : decode cL_law 715 = .ok (.istore 7, 2) := by decide +kernel
theorem dL_law_717 : decode cL_law 717 = .ok (.aload_n 2, 1) := by decide +kernel
theorem dL_law_718 : decode cL_law 718 = .ok (.invokevirtual 130, 3) := by decide +kernel
theorem dL_law_721 : decode cL_law 721 = .ok (.iload 6, 2) := by decide +kernel
theorem dL_law_723 : decode cL_law 723 = .ok (.if_icmp .eq 5, 3) := by decide +kernel
theorem dL_law_726 : decode cL_law 726 = .ok (.iconst 0, 1) := by decide +kernel
theorem dL_law_727 : decode cL_law 727 = .ok (.ireturn, 1) := by decide +kernel
theorem dL_law_728 : decode cL_law 728 = .ok (.iload 6, 2) := by decide +kernel
theorem dL_law_730 : decode cL_law 730 = .ok (.ifCond .ne 15, 3) := by decide +kernel
theorem dL_law_733 : decode cL_law 733 = .ok (.aload_n 3, 1) := by decide +kernel
theorem dL_law_734 : decode cL_law 734 = .ok (.iconst 0, 1) := by decide +kernel
theorem dL_law_735 : decode cL_law 735 = .ok (.laload, 1) := by decide +kernel
theorem dL_law_736 : decode cL_law 736 = .ok (.iload 7, 2) := by decide +kernel
theorem dL_law_738 : decode cL_law 738 = .ok (.i2l, 1) := by decide +kernel
theorem dL_law_739 : decode cL_law 739 = .ok (.lcmp, 1) := by decide +kernel
theorem dL_law_740 : decode cL_law 740 = .ok (.ifCond .eq 5, 3) := by decide +kernel
theorem dL_law_743 : decode cL_law 743 = .ok (.iconst 0, 1) := by decide +kernel
theorem dL_law_744 : decode cL_law 744 = .ok (.ireturn, 1) := by decide +kernel
theorem dL_law_745 : decode cL_law 745 = .ok (.goto 1563, 3) := by decide +kernel
theorem dL_law_748 : decode cL_law 748 = .ok (.aload_n 1, 1) := by decide +kernel
theorem dL_law_749 : decode cL_law 749 = .ok (.aload_n 0, 1) := by decide +kernel
theorem dL_law_750 : decode cL_law 750 = .ok (.iload 5, 2) := by decide +kernel
theorem dL_law_752 : decode cL_law 752 = .ok (.iconst 1, 1) := by decide +kernel
theorem dL_law_753 : decode cL_law 753 = .ok (.iadd, 1) := by decide +kernel
theorem dL_law_754 : decode cL_law 754 = .ok (.iaload, 1) := by decide +kernel
theorem dL_law_755 : decode cL_law 755 = .ok (.aload_n 0, 1) := by decide +kernel
theorem dL_law_756 : decode cL_law 756 = .ok (.iload 5, 2) := by decide +kernel
theorem dL_law_758 : decode cL_law 758 = .ok (.iconst 2, 1) := by decide +kernel
theorem dL_law_759 : decode cL_law 759 = .ok (.iadd, 1) := by decide +kernel
theorem dL_law_760 : decode cL_law 760 = .ok (.iaload, 1) := by decide +kernel
theorem dL_law_761 : decode cL_law 761 = .ok (.aload_n 3, 1) := by decide +kernel
theorem dL_law_762 : decode cL_law 762 = .ok (.invokestatic 155, 3) := by decide +kernel
theorem dL_law_765 : decode cL_law 765 = .ok (.istore 6, 2) := by decide +kernel
theorem dL_law_767 : decode cL_law 767 = .ok (.aload_n 2, 1) := by decide +kernel
theorem dL_law_768 : decode cL_law 768 = .ok (.aload_n 0, 1) := by decide +kernel
theorem dL_law_769 : decode cL_law 769 = .ok (.iload 5, 2) := by decide +kernel
theorem dL_law_771 : decode cL_law 771 = .ok (.iconst 1, 1) := by decide +kernel
theorem dL_law_772 : decode cL_law 772 = .ok (.iadd, 1) := by decide +kernel
theorem dL_law_773 : decode cL_law 773 = .ok (.iaload, 1) := by decide +kernel
theorem dL_law_774 : decode cL_law 774 = .ok (.aload_n 0, 1) := by decide +kernel
theorem dL_law_775 : decode cL_law 775 = .ok (.iload 5, 2) := by decide +kernel
theorem dL_law_777 : decode cL_law 777 = .ok (.iconst 2, 1) := by decide +kernel
theorem dL_law_778 : decode cL_law 778 = .ok (.iadd, 1) := by decide +kernel
theorem dL_law_779 : decode cL_law 779 = .ok (.iaload, 1) := by decide +kernel
theorem dL_law_780 : decode cL_law 780 = .ok (.invokevirtual 157, 3) := by decide +kernel
theorem dL_law_783 : decode cL_law 783 = .ok (.istore 7, 2) := by decide +kernel
theorem dL_law_785 : decode cL_law 785 = .ok (.aload_n 2, 1) := by decide +kernel
theorem dL_law_786 : decode cL_law 786 = .ok (.invokevirtual 130, 3) := by decide +kernel
theorem dL_law_789 : decode cL_law 789 = .ok (.iload 6, 2) := by decide +kernel
theorem dL_law_791 : decode cL_law 791 = .ok (.if_icmp .eq 5, 3) := by decide +kernel
theorem dL_law_794 : decode cL_law 794 = .ok (.iconst 0, 1) := by decide +kernel
theorem dL_law_795 : decode cL_law 795 = .ok (.ireturn, 1) := by decide +kernel
theorem dL_law_796 : decode cL_law 796 = .ok (.iload 6, 2) := by decide +kernel
theorem dL_law_798 : decode cL_law 798 = .ok (.ifCond .ne 15, 3) := by decide +kernel
theorem dL_law_801 : decode cL_law 801 = .ok (.aload_n 3, 1) := by decide +kernel
theorem dL_law_802 : decode cL_law 802 = .ok (.iconst 0, 1) := by decide +kernel
theorem dL_law_803 : decode cL_law 803 = .ok (.laload, 1) := by decide +kernel
theorem dL_law_804 : decode cL_law 804 = .ok (.iload 7, 2) := by decide +kernel
theorem dL_law_806 : decode cL_law 806 = .ok (.i2l, 1) := by decide +kernel
theorem dL_law_807 : decode cL_law 807 = .ok (.lcmp, 1) := by decide +kernel
theorem dL_law_808 : decode cL_law 808 = .ok (.ifCond .eq 5, 3) := by decide +kernel
theorem dL_law_811 : decode cL_law 811 = .ok (.iconst 0, 1) := by decide +kernel
theorem dL_law_812 : decode cL_law 812 = .ok (.ireturn, 1) := by decide +kernel
theorem dL_law_813 : decode cL_law 813 = .ok (.goto 1495, 3) := by decide +kernel
theorem dL_law_816 : decode cL_law 816 = .ok (.aload_n 1, 1) := by decide +kernel
theorem dL_law_817 : decode cL_law 817 = .ok (.aload_n 0, 1) := by decide +kernel
theorem dL_law_818 : decode cL_law 818 = .ok (.iload 5, 2) := by decide +kernel
theorem dL_law_820 : decode cL_law 820 = .ok (.iconst 1, 1) := by decide +kernel
theorem dL_law_821 : decode cL_law 821 = .ok (.iadd, 1) := by decide +kernel
theorem dL_law_822 : decode cL_law 822 = .ok (.iaload, 1) := by decide +kernel
theorem dL_law_823 : decode cL_law 823 = .ok (.aload_n 0, 1) := by decide +kernel
theorem dL_law_824 : decode cL_law 824 = .ok (.iload 5, 2) := by decide +kernel
theorem dL_law_826 : decode cL_law 826 = .ok (.iconst 2, 1) := by decide +kernel
theorem dL_law_827 : decode cL_law 827 = .ok (.iadd, 1) := by decide +kernel
theorem dL_law_828 : decode cL_law 828 = .ok (.iaload, 1) := by decide +kernel
theorem dL_law_829 : decode cL_law 829 = .ok (.aload_n 3, 1) := by decide +kernel
theorem dL_law_830 : decode cL_law 830 = .ok (.invokestatic 158, 3) := by decide +kernel
theorem dL_law_833 : decode cL_law 833 = .ok (.istore 6, 2) := by decide +kernel
theorem dL_law_835 : decode cL_law 835 = .ok (.aload_n 2, 1) := by decide +kernel
theorem dL_law_836 : decode cL_law 836 = .ok (.aload_n 0, 1) := by decide +kernel
theorem dL_law_837 : decode cL_law 837 = .ok (.iload 5, 2) := by decide +kernel
theorem dL_law_839 : decode cL_law 839 = .ok (.iconst 1, 1) := by decide +kernel
theorem dL_law_840 : decode cL_law 840 = .ok (.iadd, 1) := by decide +kernel
theorem dL_law_841 : decode cL_law 841 = .ok (.iaload, 1) := by decide +kernel
theorem dL_law_842 : decode cL_law 842 = .ok (.aload_n 0, 1) := by decide +kernel
theorem dL_law_843 : decode cL_law 843 = .ok (.iload 5, 2) := by decide +kernel
theorem dL_law_845 : decode cL_law 845 = .ok (.iconst 2, 1) := by decide +kernel
theorem dL_law_846 : decode cL_law 846 = .ok (.iadd, 1) := by decide +kernel
theorem dL_law_847 : decode cL_law 847 = .ok (.iaload, 1) := by decide +kernel
theorem dL_law_848 : decode cL_law 848 = .ok (.invokevirtual 160, 3) := by decide +kernel
theorem dL_law_851 : decode cL_law 851 = .ok (.istore 7, 2) := by decide +kernel
theorem dL_law_853 : decode cL_law 853 = .ok (.aload_n 2, 1) := by decide +kernel
theorem dL_law_854 : decode cL_law 854 = .ok (.invokevirtual 130, 3) := by decide +kernel
theorem dL_law_857 : decode cL_law 857 = .ok (.iload 6, 2) := by decide +kernel
theorem dL_law_859 : decode cL_law 859 = .ok (.if_icmp .eq 5, 3) := by decide +kernel
theorem dL_law_862 : decode cL_law 862 = .ok (.iconst 0, 1) := by decide +kernel
theorem dL_law_863 : decode cL_law 863 = .ok (.ireturn, 1) := by decide +kernel
theorem dL_law_864 : decode cL_law 864 = .ok (.iload 6, 2) := by decide +kernel
theorem dL_law_866 : decode cL_law 866 = .ok (.ifCond .ne 15, 3) := by decide +kernel
theorem dL_law_869 : decode cL_law 869 = .ok (.aload_n 3, 1) := by decide +kernel
theorem dL_law_870 : decode cL_law 870 = .ok (.iconst 0, 1) := by decide +kernel
theorem dL_law_871 : decode cL_law 871 = .ok (.laload, 1) := by decide +kernel
theorem dL_law_872 : decode cL_law 872 = .ok (.iload 7, 2) := by decide +kernel
theorem dL_law_874 : decode cL_law 874 = .ok (.i2l, 1) := by decide +kernel
theorem dL_law_875 : decode cL_law 875 = .ok (.lcmp, 1) := by decide +kernel
theorem dL_law_876 : decode cL_law 876 = .ok (.ifCond .eq 5, 3) := by decide +kernel
theorem dL_law_879 : decode cL_law 879 = .ok (.iconst 0, 1) := by decide +kernel
theorem dL_law_880 : decode cL_law 880 = .ok (.ireturn, 1) := by decide +kernel
theorem dL_law_881 : decode cL_law 881 = .ok (.goto 1427, 3) := by decide +kernel
theorem dL_law_884 : decode cL_law 884 = .ok (.aload_n 1, 1) := by decide +kernel
theorem dL_law_885 : decode cL_law 885 = .ok (.aload_n 0, 1) := by decide +kernel
theorem dL_law_886 : decode cL_law 886 = .ok (.iload 5, 2) := by decide +kernel
theorem dL_law_888 : decode cL_law 888 = .ok (.iconst 1, 1) := by decide +kernel
theorem dL_law_889 : decode cL_law 889 = .ok (.iadd, 1) := by decide +kernel
theorem dL_law_890 : decode cL_law 890 = .ok (.iaload, 1) := by decide +kernel
theorem dL_law_891 : decode cL_law 891 = .ok (.aload_n 0, 1) := by decide +kernel
theorem dL_law_892 : decode cL_law 892 = .ok (.iload 5, 2) := by decide +kernel
theorem dL_law_894 : decode cL_law 894 = .ok (.iconst 2, 1) := by decide +kernel
theorem dL_law_895 : decode cL_law 895 = .ok (.iadd, 1) := by decide +kernel
theorem dL_law_896 : decode cL_law 896 = .ok (.iaload, 1) := by decide +kernel
theorem dL_law_897 : decode cL_law 897 = .ok (.aload_n 3, 1) := by decide +kernel
theorem dL_law_898 : decode cL_law 898 = .ok (.invokestatic 161, 3) := by decide +kernel
theorem dL_law_901 : decode cL_law 901 = .ok (.istore 6, 2) := by decide +kernel
theorem dL_law_903 : decode cL_law 903 = .ok (.aload_n 2, 1) := by decide +kernel
theorem dL_law_904 : decode cL_law 904 = .ok (.aload_n 0, 1) := by decide +kernel
theorem dL_law_905 : decode cL_law 905 = .ok (.iload 5, 2) := by decide +kernel
theorem dL_law_907 : decode cL_law 907 = .ok (.iconst 1, 1) := by decide +kernel
theorem dL_law_908 : decode cL_law 908 = .ok (.iadd, 1) := by decide +kernel
theorem dL_law_909 : decode cL_law 909 = .ok (.iaload, 1) := by decide +kernel
theorem dL_law_910 : decode cL_law 910 = .ok (.aload_n 0, 1) := by decide +kernel
theorem dL_law_911 : decode cL_law 911 = .ok (.iload 5, 2) := by decide +kernel
theorem dL_law_913 : decode cL_law 913 = .ok (.iconst 2, 1) := by decide +kernel
theorem dL_law_914 : decode cL_law 914 = .ok (.iadd, 1) := by decide +kernel
theorem dL_law_915 : decode cL_law 915 = .ok (.iaload, 1) := by decide +kernel
theorem dL_law_916 : decode cL_law 916 = .ok (.invokevirtual 163, 3) := by decide +kernel
theorem dL_law_919 : decode cL_law 919 = .ok (.istore 7, 2) := by decide +kernel
theorem dL_law_921 : decode cL_law 921 = .ok (.aload_n 2, 1) := by decide +kernel
theorem dL_law_922 : decode cL_law 922 = .ok (.invokevirtual 130, 3) := by decide +kernel
theorem dL_law_925 : decode cL_law 925 = .ok (.iload 6, 2) := by decide +kernel
theorem dL_law_927 : decode cL_law 927 = .ok (.if_icmp .eq 5, 3) := by decide +kernel
theorem dL_law_930 : decode cL_law 930 = .ok (.iconst 0, 1) := by decide +kernel
theorem dL_law_931 : decode cL_law 931 = .ok (.ireturn, 1) := by decide +kernel
theorem dL_law_932 : decode cL_law 932 = .ok (.iload 6, 2) := by decide +kernel
theorem dL_law_934 : decode cL_law 934 = .ok (.ifCond .ne 15, 3) := by decide +kernel
theorem dL_law_937 : decode cL_law 937 = .ok (.aload_n 3, 1) := by decide +kernel
theorem dL_law_938 : decode cL_law 938 = .ok (.iconst 0, 1) := by decide +kernel
theorem dL_law_939 : decode cL_law 939 = .ok (.laload, 1) := by decide +kernel
theorem dL_law_940 : decode cL_law 940 = .ok (.iload 7, 2) := by decide +kernel
theorem dL_law_942 : decode cL_law 942 = .ok (.i2l, 1) := by decide +kernel
theorem dL_law_943 : decode cL_law 943 = .ok (.lcmp, 1) := by decide +kernel
theorem dL_law_944 : decode cL_law 944 = .ok (.ifCond .eq 5, 3) := by decide +kernel
theorem dL_law_947 : decode cL_law 947 = .ok (.iconst 0, 1) := by decide +kernel
theorem dL_law_948 : decode cL_law 948 = .ok (.ireturn, 1) := by decide +kernel
theorem dL_law_949 : decode cL_law 949 = .ok (.goto 1359, 3) := by decide +kernel
theorem dL_law_952 : decode cL_law 952 = .ok (.aload_n 1, 1) := by decide +kernel
theorem dL_law_953 : decode cL_law 953 = .ok (.aload_n 0, 1) := by decide +kernel
theorem dL_law_954 : decode cL_law 954 = .ok (.iload 5, 2) := by decide +kernel
theorem dL_law_956 : decode cL_law 956 = .ok (.iconst 1, 1) := by decide +kernel
theorem dL_law_957 : decode cL_law 957 = .ok (.iadd, 1) := by decide +kernel
theorem dL_law_958 : decode cL_law 958 = .ok (.iaload, 1) := by decide +kernel
theorem dL_law_959 : decode cL_law 959 = .ok (.aload_n 0, 1) := by decide +kernel
theorem dL_law_960 : decode cL_law 960 = .ok (.iload 5, 2) := by decide +kernel
theorem dL_law_962 : decode cL_law 962 = .ok (.iconst 2, 1) := by decide +kernel
theorem dL_law_963 : decode cL_law 963 = .ok (.iadd, 1) := by decide +kernel
theorem dL_law_964 : decode cL_law 964 = .ok (.iaload, 1) := by decide +kernel
theorem dL_law_965 : decode cL_law 965 = .ok (.aload_n 3, 1) := by decide +kernel
theorem dL_law_966 : decode cL_law 966 = .ok (.invokestatic 164, 3) := by decide +kernel
theorem dL_law_969 : decode cL_law 969 = .ok (.istore 6, 2) := by decide +kernel
theorem dL_law_971 : decode cL_law 971 = .ok (.aload_n 2, 1) := by decide +kernel
theorem dL_law_972 : decode cL_law 972 = .ok (.aload_n 0, 1) := by decide +kernel
theorem dL_law_973 : decode cL_law 973 = .ok (.iload 5, 2) := by decide +kernel
theorem dL_law_975 : decode cL_law 975 = .ok (.iconst 1, 1) := by decide +kernel
theorem dL_law_976 : decode cL_law 976 = .ok (.iadd, 1) := by decide +kernel
theorem dL_law_977 : decode cL_law 977 = .ok (.iaload, 1) := by decide +kernel
theorem dL_law_978 : decode cL_law 978 = .ok (.aload_n 0, 1) := by decide +kernel
theorem dL_law_979 : decode cL_law 979 = .ok (.iload 5, 2) := by decide +kernel
theorem dL_law_981 : decode cL_law 981 = .ok (.iconst 2, 1) := by decide +kernel
theorem dL_law_982 : decode cL_law 982 = .ok (.iadd, 1) := by decide +kernel
theorem dL_law_983 : decode cL_law 983 = .ok (.iaload, 1) := by decide +kernel
theorem dL_law_984 : decode cL_law 984 = .ok (.invokevirtual 166, 3) := by decide +kernel
theorem dL_law_987 : decode cL_law 987 = .ok (.istore 7, 2) := by decide +kernel
theorem dL_law_989 : decode cL_law 989 = .ok (.aload_n 2, 1) := by decide +kernel
theorem dL_law_990 : decode cL_law 990 = .ok (.invokevirtual 130, 3) := by decide +kernel
theorem dL_law_993 : decode cL_law 993 = .ok (.iload 6, 2) := by decide +kernel
theorem dL_law_995 : decode cL_law 995 = .ok (.if_icmp .eq 5, 3) := by decide +kernel
theorem dL_law_998 : decode cL_law 998 = .ok (.iconst 0, 1) := by decide +kernel
theorem dL_law_999 : decode cL_law 999 = .ok (.ireturn, 1) := by decide +kernel
theorem dL_law_1000 : decode cL_law 1000 = .ok (.iload 6, 2) := by decide +kernel
theorem dL_law_1002 : decode cL_law 1002 = .ok (.ifCond .ne 15, 3) := by decide +kernel
theorem dL_law_1005 : decode cL_law 1005 = .ok (.aload_n 3, 1) := by decide +kernel
theorem dL_law_1006 : decode cL_law 1006 = .ok (.iconst 0, 1) := by decide +kernel
theorem dL_law_1007 : decode cL_law 1007 = .ok (.laload, 1) := by decide +kernel
theorem dL_law_1008 : decode cL_law 1008 = .ok (.iload 7, 2) := by decide +kernel
theorem dL_law_1010 : decode cL_law 1010 = .ok (.i2l, 1) := by decide +kernel
theorem dL_law_1011 : decode cL_law 1011 = .ok (.lcmp, 1) := by decide +kernel
theorem dL_law_1012 : decode cL_law 1012 = .ok (.ifCond .eq 5, 3) := by decide +kernel
theorem dL_law_1015 : decode cL_law 1015 = .ok (.iconst 0, 1) := by decide +kernel
theorem dL_law_1016 : decode cL_law 1016 = .ok (.ireturn, 1) := by decide +kernel
theorem dL_law_1017 : decode cL_law 1017 = .ok (.goto 1291, 3) := by decide +kernel
theorem dL_law_1020 : decode cL_law 1020 = .ok (.aload_n 1, 1) := by decide +kernel
theorem dL_law_1021 : decode cL_law 1021 = .ok (.aload_n 0, 1) := by decide +kernel
theorem dL_law_1022 : decode cL_law 1022 = .ok (.iload 5, 2) := by decide +kernel
theorem dL_law_1024 : decode cL_law 1024 = .ok (.iconst 1, 1) := by decide +kernel
theorem dL_law_1025 : decode cL_law 1025 = .ok (.iadd, 1) := by decide +kernel
theorem dL_law_1026 : decode cL_law 1026 = .ok (.iaload, 1) := by decide +kernel
theorem dL_law_1027 : decode cL_law 1027 = .ok (.aload_n 0, 1) := by decide +kernel
theorem dL_law_1028 : decode cL_law 1028 = .ok (.iload 5, 2) := by decide +kernel
theorem dL_law_1030 : decode cL_law 1030 = .ok (.iconst 2, 1) := by decide +kernel
theorem dL_law_1031 : decode cL_law 1031 = .ok (.iadd, 1) := by decide +kernel
theorem dL_law_1032 : decode cL_law 1032 = .ok (.iaload, 1) := by decide +kernel
theorem dL_law_1033 : decode cL_law 1033 = .ok (.aload_n 3, 1) := by decide +kernel
theorem dL_law_1034 : decode cL_law 1034 = .ok (.invokestatic 167, 3) := by decide +kernel
theorem dL_law_1037 : decode cL_law 1037 = .ok (.istore 6, 2) := by decide +kernel
theorem dL_law_1039 : decode cL_law 1039 = .ok (.aload_n 2, 1) := by decide +kernel
theorem dL_law_1040 : decode cL_law 1040 = .ok (.aload_n 0, 1) := by decide +kernel
theorem dL_law_1041 : decode cL_law 1041 = .ok (.iload 5, 2) := by decide +kernel
theorem dL_law_1043 : decode cL_law 1043 = .ok (.iconst 1, 1) := by decide +kernel
theorem dL_law_1044 : decode cL_law 1044 = .ok (.iadd, 1) := by decide +kernel
theorem dL_law_1045 : decode cL_law 1045 = .ok (.iaload, 1) := by decide +kernel
theorem dL_law_1046 : decode cL_law 1046 = .ok (.aload_n 0, 1) := by decide +kernel
theorem dL_law_1047 : decode cL_law 1047 = .ok (.iload 5, 2) := by decide +kernel
theorem dL_law_1049 : decode cL_law 1049 = .ok (.iconst 2, 1) := by decide +kernel
theorem dL_law_1050 : decode cL_law 1050 = .ok (.iadd, 1) := by decide +kernel
theorem dL_law_1051 : decode cL_law 1051 = .ok (.iaload, 1) := by decide +kernel
theorem dL_law_1052 : decode cL_law 1052 = .ok (.invokevirtual 169, 3) := by decide +kernel
theorem dL_law_1055 : decode cL_law 1055 = .ok (.istore 7, 2) := by decide +kernel
theorem dL_law_1057 : decode cL_law 1057 = .ok (.aload_n 2, 1) := by decide +kernel
theorem dL_law_1058 : decode cL_law 1058 = .ok (.invokevirtual 130, 3) := by decide +kernel
theorem dL_law_1061 : decode cL_law 1061 = .ok (.iload 6, 2) := by decide +kernel
theorem dL_law_1063 : decode cL_law 1063 = .ok (.if_icmp .eq 5, 3) := by decide +kernel
theorem dL_law_1066 : decode cL_law 1066 = .ok (.iconst 0, 1) := by decide +kernel
theorem dL_law_1067 : decode cL_law 1067 = .ok (.ireturn, 1) := by decide +kernel
theorem dL_law_1068 : decode cL_law 1068 = .ok (.iload 6, 2) := by decide +kernel
theorem dL_law_1070 : decode cL_law 1070 = .ok (.ifCond .ne 15, 3) := by decide +kernel
theorem dL_law_1073 : decode cL_law 1073 = .ok (.aload_n 3, 1) := by decide +kernel
theorem dL_law_1074 : decode cL_law 1074 = .ok (.iconst 0, 1) := by decide +kernel
theorem dL_law_1075 : decode cL_law 1075 = .ok (.laload, 1) := by decide +kernel
theorem dL_law_1076 : decode cL_law 1076 = .ok (.iload 7, 2) := by decide +kernel
theorem dL_law_1078 : decode cL_law 1078 = .ok (.i2l, 1) := by decide +kernel
theorem dL_law_1079 : decode cL_law 1079 = .ok (.lcmp, 1) := by decide +kernel
theorem dL_law_1080 : decode cL_law 1080 = .ok (.ifCond .eq 5, 3) := by decide +kernel
theorem dL_law_1083 : decode cL_law 1083 = .ok (.iconst 0, 1) := by decide +kernel
theorem dL_law_1084 : decode cL_law 1084 = .ok (.ireturn, 1) := by decide +kernel
theorem dL_law_1085 : decode cL_law 1085 = .ok (.goto 1223, 3) := by decide +kernel
theorem dL_law_1088 : decode cL_law 1088 = .ok (.aload_n 1, 1) := by decide +kernel
theorem dL_law_1089 : decode cL_law 1089 = .ok (.aload_n 0, 1) := by decide +kernel
theorem dL_law_1090 : decode cL_law 1090 = .ok (.iload 5, 2) := by decide +kernel
theorem dL_law_1092 : decode cL_law 1092 = .ok (.iconst 1, 1) := by decide +kernel
theorem dL_law_1093 : decode cL_law 1093 = .ok (.iadd, 1) := by decide +kernel
theorem dL_law_1094 : decode cL_law 1094 = .ok (.iaload, 1) := by decide +kernel
theorem dL_law_1095 : decode cL_law 1095 = .ok (.aload_n 0, 1) := by decide +kernel
theorem dL_law_1096 : decode cL_law 1096 = .ok (.iload 5, 2) := by decide +kernel
theorem dL_law_1098 : decode cL_law 1098 = .ok (.iconst 2, 1) := by decide +kernel
theorem dL_law_1099 : decode cL_law 1099 = .ok (.iadd, 1) := by decide +kernel
theorem dL_law_1100 : decode cL_law 1100 = .ok (.iaload, 1) := by decide +kernel
theorem dL_law_1101 : decode cL_law 1101 = .ok (.aload_n 0, 1) := by decide +kernel
theorem dL_law_1102 : decode cL_law 1102 = .ok (.iload 5, 2) := by decide +kernel
theorem dL_law_1104 : decode cL_law 1104 = .ok (.iconst 3, 1) := by decide +kernel
theorem dL_law_1105 : decode cL_law 1105 = .ok (.iadd, 1) := by decide +kernel
theorem dL_law_1106 : decode cL_law 1106 = .ok (.iaload, 1) := by decide +kernel
theorem dL_law_1107 : decode cL_law 1107 = .ok (.aload_n 3, 1) := by decide +kernel
theorem dL_law_1108 : decode cL_law 1108 = .ok (.invokestatic 170, 3) := by decide +kernel
theorem dL_law_1111 : decode cL_law 1111 = .ok (.istore 6, 2) := by decide +kernel
theorem dL_law_1113 : decode cL_law 1113 = .ok (.aload_n 2, 1) := by decide +kernel
theorem dL_law_1114 : decode cL_law 1114 = .ok (.aload_n 0, 1) := by decide +kernel
theorem dL_law_1115 : decode cL_law 1115 = .ok (.iload 5, 2) := by decide +kernel
theorem dL_law_1117 : decode cL_law 1117 = .ok (.iconst 1, 1) := by decide +kernel
theorem dL_law_1118 : decode cL_law 1118 = .ok (.iadd, 1) := by decide +kernel
theorem dL_law_1119 : decode cL_law 1119 = .ok (.iaload, 1) := by decide +kernel
theorem dL_law_1120 : decode cL_law 1120 = .ok (.aload_n 0, 1) := by decide +kernel
theorem dL_law_1121 : decode cL_law 1121 = .ok (.iload 5, 2) := by decide +kernel
theorem dL_law_1123 : decode cL_law 1123 = .ok (.iconst 2, 1) := by decide +kernel
theorem dL_law_1124 : decode cL_law 1124 = .ok (.iadd, 1) := by decide +kernel
theorem dL_law_1125 : decode cL_law 1125 = .ok (.iaload, 1) := by decide +kernel
theorem dL_law_1126 : decode cL_law 1126 = .ok (.aload_n 0, 1) := by decide +kernel
theorem dL_law_1127 : decode cL_law 1127 = .ok (.iload 5, 2) := by decide +kernel
theorem dL_law_1129 : decode cL_law 1129 = .ok (.iconst 3, 1) := by decide +kernel
theorem dL_law_1130 : decode cL_law 1130 = .ok (.iadd, 1) := by decide +kernel
theorem dL_law_1131 : decode cL_law 1131 = .ok (.iaload, 1) := by decide +kernel
theorem dL_law_1132 : decode cL_law 1132 = .ok (.invokevirtual 172, 3) := by decide +kernel
theorem dL_law_1135 : decode cL_law 1135 = .ok (.istore 7, 2) := by decide +kernel
theorem dL_law_1137 : decode cL_law 1137 = .ok (.aload_n 2, 1) := by decide +kernel
theorem dL_law_1138 : decode cL_law 1138 = .ok (.invokevirtual 130, 3) := by decide +kernel
theorem dL_law_1141 : decode cL_law 1141 = .ok (.iload 6, 2) := by decide +kernel
theorem dL_law_1143 : decode cL_law 1143 = .ok (.if_icmp .eq 5, 3) := by decide +kernel
theorem dL_law_1146 : decode cL_law 1146 = .ok (.iconst 0, 1) := by decide +kernel
theorem dL_law_1147 : decode cL_law 1147 = .ok (.ireturn, 1) := by decide +kernel
theorem dL_law_1148 : decode cL_law 1148 = .ok (.iload 6, 2) := by decide +kernel
theorem dL_law_1150 : decode cL_law 1150 = .ok (.ifCond .ne 15, 3) := by decide +kernel
theorem dL_law_1153 : decode cL_law 1153 = .ok (.aload_n 3, 1) := by decide +kernel
theorem dL_law_1154 : decode cL_law 1154 = .ok (.iconst 0, 1) := by decide +kernel
theorem dL_law_1155 : decode cL_law 1155 = .ok (.laload, 1) := by decide +kernel
theorem dL_law_1156 : decode cL_law 1156 = .ok (.iload 7, 2) := by decide +kernel
theorem dL_law_1158 : decode cL_law 1158 = .ok (.i2l, 1) := by decide +kernel
theorem dL_law_1159 : decode cL_law 1159 = .ok (.lcmp, 1) := by decide +kernel
theorem dL_law_1160 : decode cL_law 1160 = .ok (.ifCond .eq 5, 3) := by decide +kernel
theorem dL_law_1163 : decode cL_law 1163 = .ok (.iconst 0, 1) := by decide +kernel
theorem dL_law_1164 : decode cL_law 1164 = .ok (.ireturn, 1) := by decide +kernel
theorem dL_law_1165 : decode cL_law 1165 = .ok (.goto 1143, 3) := by decide +kernel
theorem dL_law_1168 : decode cL_law 1168 = .ok (.aload_n 1, 1) := by decide +kernel
theorem dL_law_1169 : decode cL_law 1169 = .ok (.aload_n 0, 1) := by decide +kernel
theorem dL_law_1170 : decode cL_law 1170 = .ok (.iload 5, 2) := by decide +kernel
theorem dL_law_1172 : decode cL_law 1172 = .ok (.iconst 1, 1) := by decide +kernel
theorem dL_law_1173 : decode cL_law 1173 = .ok (.iadd, 1) := by decide +kernel
theorem dL_law_1174 : decode cL_law 1174 = .ok (.iaload, 1) := by decide +kernel
theorem dL_law_1175 : decode cL_law 1175 = .ok (.aload_n 0, 1) := by decide +kernel
theorem dL_law_1176 : decode cL_law 1176 = .ok (.iload 5, 2) := by decide +kernel
theorem dL_law_1178 : decode cL_law 1178 = .ok (.iconst 2, 1) := by decide +kernel
theorem dL_law_1179 : decode cL_law 1179 = .ok (.iadd, 1) := by decide +kernel
theorem dL_law_1180 : decode cL_law 1180 = .ok (.iaload, 1) := by decide +kernel
theorem dL_law_1181 : decode cL_law 1181 = .ok (.aload_n 0, 1) := by decide +kernel
theorem dL_law_1182 : decode cL_law 1182 = .ok (.iload 5, 2) := by decide +kernel
theorem dL_law_1184 : decode cL_law 1184 = .ok (.iconst 3, 1) := by decide +kernel
theorem dL_law_1185 : decode cL_law 1185 = .ok (.iadd, 1) := by decide +kernel
theorem dL_law_1186 : decode cL_law 1186 = .ok (.iaload, 1) := by decide +kernel
theorem dL_law_1187 : decode cL_law 1187 = .ok (.aload_n 3, 1) := by decide +kernel
theorem dL_law_1188 : decode cL_law 1188 = .ok (.invokestatic 173, 3) := by decide +kernel
theorem dL_law_1191 : decode cL_law 1191 = .ok (.istore 6, 2) := by decide +kernel
theorem dL_law_1193 : decode cL_law 1193 = .ok (.aload_n 2, 1) := by decide +kernel
theorem dL_law_1194 : decode cL_law 1194 = .ok (.aload_n 0, 1) := by decide +kernel
theorem dL_law_1195 : decode cL_law 1195 = .ok (.iload 5, 2) := by decide +kernel
theorem dL_law_1197 : decode cL_law 1197 = .ok (.iconst 1, 1) := by decide +kernel
theorem dL_law_1198 : decode cL_law 1198 = .ok (.iadd, 1) := by decide +kernel
theorem dL_law_1199 : decode cL_law 1199 = .ok (.iaload, 1) := by decide +kernel
theorem dL_law_1200 : decode cL_law 1200 = .ok (.aload_n 0, 1) := by decide +kernel
theorem dL_law_1201 : decode cL_law 1201 = .ok (.iload 5, 2) := by decide +kernel
theorem dL_law_1203 : decode cL_law 1203 = .ok (.iconst 2, 1) := by decide +kernel
theorem dL_law_1204 : decode cL_law 1204 = .ok (.iadd, 1) := by decide +kernel
theorem dL_law_1205 : decode cL_law 1205 = .ok (.iaload, 1) := by decide +kernel
theorem dL_law_1206 : decode cL_law 1206 = .ok (.aload_n 0, 1) := by decide +kernel
theorem dL_law_1207 : decode cL_law 1207 = .ok (.iload 5, 2) := by decide +kernel
theorem dL_law_1209 : decode cL_law 1209 = .ok (.iconst 3, 1) := by decide +kernel
theorem dL_law_1210 : decode cL_law 1210 = .ok (.iadd, 1) := by decide +kernel
theorem dL_law_1211 : decode cL_law 1211 = .ok (.iaload, 1) := by decide +kernel
theorem dL_law_1212 : decode cL_law 1212 = .ok (.invokevirtual 175, 3) := by decide +kernel
theorem dL_law_1215 : decode cL_law 1215 = .ok (.istore 7, 2) := by decide +kernel
theorem dL_law_1217 : decode cL_law 1217 = .ok (.aload_n 2, 1) := by decide +kernel
theorem dL_law_1218 : decode cL_law 1218 = .ok (.invokevirtual 130, 3) := by decide +kernel
theorem dL_law_1221 : decode cL_law 1221 = .ok (.iload 6, 2) := by decide +kernel
theorem dL_law_1223 : decode cL_law 1223 = .ok (.if_icmp .eq 5, 3) := by decide +kernel
theorem dL_law_1226 : decode cL_law 1226 = .ok (.iconst 0, 1) := by decide +kernel
theorem dL_law_1227 : decode cL_law 1227 = .ok (.ireturn, 1) := by decide +kernel
theorem dL_law_1228 : decode cL_law 1228 = .ok (.iload 6, 2) := by decide +kernel
theorem dL_law_1230 : decode cL_law 1230 = .ok (.ifCond .ne 15, 3) := by decide +kernel
theorem dL_law_1233 : decode cL_law 1233 = .ok (.aload_n 3, 1) := by decide +kernel
theorem dL_law_1234 : decode cL_law 1234 = .ok (.iconst 0, 1) := by decide +kernel
theorem dL_law_1235 : decode cL_law 1235 = .ok (.laload, 1) := by decide +kernel
theorem dL_law_1236 : decode cL_law 1236 = .ok (.iload 7, 2) := by decide +kernel
theorem dL_law_1238 : decode cL_law 1238 = .ok (.i2l, 1) := by decide +kernel
theorem dL_law_1239 : decode cL_law 1239 = .ok (.lcmp, 1) := by decide +kernel
theorem dL_law_1240 : decode cL_law 1240 = .ok (.ifCond .eq 5, 3) := by decide +kernel
theorem dL_law_1243 : decode cL_law 1243 = .ok (.iconst 0, 1) := by decide +kernel
theorem dL_law_1244 : decode cL_law 1244 = .ok (.ireturn, 1) := by decide +kernel
theorem dL_law_1245 : decode cL_law 1245 = .ok (.goto 1063, 3) := by decide +kernel
theorem dL_law_1248 : decode cL_law 1248 = .ok (.aload_n 1, 1) := by decide +kernel
theorem dL_law_1249 : decode cL_law 1249 = .ok (.aload_n 0, 1) := by decide +kernel
theorem dL_law_1250 : decode cL_law 1250 = .ok (.iload 5, 2) := by decide +kernel
theorem dL_law_1252 : decode cL_law 1252 = .ok (.iconst 1, 1) := by decide +kernel
theorem dL_law_1253 : decode cL_law 1253 = .ok (.iadd, 1) := by decide +kernel
theorem dL_law_1254 : decode cL_law 1254 = .ok (.iaload, 1) := by decide +kernel
theorem dL_law_1255 : decode cL_law 1255 = .ok (.aload_n 0, 1) := by decide +kernel
theorem dL_law_1256 : decode cL_law 1256 = .ok (.iload 5, 2) := by decide +kernel
theorem dL_law_1258 : decode cL_law 1258 = .ok (.iconst 2, 1) := by decide +kernel
theorem dL_law_1259 : decode cL_law 1259 = .ok (.iadd, 1) := by decide +kernel
theorem dL_law_1260 : decode cL_law 1260 = .ok (.iaload, 1) := by decide +kernel
theorem dL_law_1261 : decode cL_law 1261 = .ok (.aload_n 0, 1) := by decide +kernel
theorem dL_law_1262 : decode cL_law 1262 = .ok (.iload 5, 2) := by decide +kernel
theorem dL_law_1264 : decode cL_law 1264 = .ok (.iconst 3, 1) := by decide +kernel
theorem dL_law_1265 : decode cL_law 1265 = .ok (.iadd, 1) := by decide +kernel
theorem dL_law_1266 : decode cL_law 1266 = .ok (.iaload, 1) := by decide +kernel
theorem dL_law_1267 : decode cL_law 1267 = .ok (.aload_n 0, 1) := by decide +kernel
theorem dL_law_1268 : decode cL_law 1268 = .ok (.iload 5, 2) := by decide +kernel
theorem dL_law_1270 : decode cL_law 1270 = .ok (.iconst 4, 1) := by decide +kernel
theorem dL_law_1271 : decode cL_law 1271 = .ok (.iadd, 1) := by decide +kernel
theorem dL_law_1272 : decode cL_law 1272 = .ok (.iaload, 1) := by decide +kernel
theorem dL_law_1273 : decode cL_law 1273 = .ok (.aload_n 3, 1) := by decide +kernel
theorem dL_law_1274 : decode cL_law 1274 = .ok (.invokestatic 176, 3) := by decide +kernel
theorem dL_law_1277 : decode cL_law 1277 = .ok (.istore 6, 2) := by decide +kernel
theorem dL_law_1279 : decode cL_law 1279 = .ok (.aload_n 2, 1) := by decide +kernel
theorem dL_law_1280 : decode cL_law 1280 = .ok (.aload_n 0, 1) := by decide +kernel
theorem dL_law_1281 : decode cL_law 1281 = .ok (.iload 5, 2) := by decide +kernel
theorem dL_law_1283 : decode cL_law 1283 = .ok (.iconst 1, 1) := by decide +kernel
theorem dL_law_1284 : decode cL_law 1284 = .ok (.iadd, 1) := by decide +kernel
theorem dL_law_1285 : decode cL_law 1285 = .ok (.iaload, 1) := by decide +kernel
theorem dL_law_1286 : decode cL_law 1286 = .ok (.aload_n 0, 1) := by decide +kernel
theorem dL_law_1287 : decode cL_law 1287 = .ok (.iload 5, 2) := by decide +kernel
theorem dL_law_1289 : decode cL_law 1289 = .ok (.iconst 2, 1) := by decide +kernel
theorem dL_law_1290 : decode cL_law 1290 = .ok (.iadd, 1) := by decide +kernel
theorem dL_law_1291 : decode cL_law 1291 = .ok (.iaload, 1) := by decide +kernel
theorem dL_law_1292 : decode cL_law 1292 = .ok (.aload_n 0, 1) := by decide +kernel
theorem dL_law_1293 : decode cL_law 1293 = .ok (.iload 5, 2) := by decide +kernel
theorem dL_law_1295 : decode cL_law 1295 = .ok (.iconst 3, 1) := by decide +kernel
theorem dL_law_1296 : decode cL_law 1296 = .ok (.iadd, 1) := by decide +kernel
theorem dL_law_1297 : decode cL_law 1297 = .ok (.iaload, 1) := by decide +kernel
theorem dL_law_1298 : decode cL_law 1298 = .ok (.aload_n 0, 1) := by decide +kernel
theorem dL_law_1299 : decode cL_law 1299 = .ok (.iload 5, 2) := by decide +kernel
theorem dL_law_1301 : decode cL_law 1301 = .ok (.iconst 4, 1) := by decide +kernel
theorem dL_law_1302 : decode cL_law 1302 = .ok (.iadd, 1) := by decide +kernel
theorem dL_law_1303 : decode cL_law 1303 = .ok (.iaload, 1) := by decide +kernel
theorem dL_law_1304 : decode cL_law 1304 = .ok (.invokevirtual 179, 3) := by decide +kernel
theorem dL_law_1307 : decode cL_law 1307 = .ok (.istore 7, 2) := by decide +kernel
theorem dL_law_1309 : decode cL_law 1309 = .ok (.aload_n 2, 1) := by decide +kernel
theorem dL_law_1310 : decode cL_law 1310 = .ok (.invokevirtual 130, 3) := by decide +kernel
theorem dL_law_1313 : decode cL_law 1313 = .ok (.iload 6, 2) := by decide +kernel
theorem dL_law_1315 : decode cL_law 1315 = .ok (.if_icmp .eq 5, 3) := by decide +kernel
theorem dL_law_1318 : decode cL_law 1318 = .ok (.iconst 0, 1) := by decide +kernel
theorem dL_law_1319 : decode cL_law 1319 = .ok (.ireturn, 1) := by decide +kernel
theorem dL_law_1320 : decode cL_law 1320 = .ok (.iload 6, 2) := by decide +kernel
theorem dL_law_1322 : decode cL_law 1322 = .ok (.ifCond .ne 15, 3) := by decide +kernel
theorem dL_law_1325 : decode cL_law 1325 = .ok (.aload_n 3, 1) := by decide +kernel
theorem dL_law_1326 : decode cL_law 1326 = .ok (.iconst 0, 1) := by decide +kernel
theorem dL_law_1327 : decode cL_law 1327 = .ok (.laload, 1) := by decide +kernel
theorem dL_law_1328 : decode cL_law 1328 = .ok (.iload 7, 2) := by decide +kernel
theorem dL_law_1330 : decode cL_law 1330 = .ok (.i2l, 1) := by decide +kernel
theorem dL_law_1331 : decode cL_law 1331 = .ok (.lcmp, 1) := by decide +kernel
theorem dL_law_1332 : decode cL_law 1332 = .ok (.ifCond .eq 5, 3) := by decide +kernel
theorem dL_law_1335 : decode cL_law 1335 = .ok (.iconst 0, 1) := by decide +kernel
theorem dL_law_1336 : decode cL_law 1336 = .ok (.ireturn, 1) := by decide +kernel
theorem dL_law_1337 : decode cL_law 1337 = .ok (.goto 971, 3) := by decide +kernel
theorem dL_law_1340 : decode cL_law 1340 = .ok (.aload_n 1, 1) := by decide +kernel
theorem dL_law_1341 : decode cL_law 1341 = .ok (.aload_n 0, 1) := by decide +kernel
theorem dL_law_1342 : decode cL_law 1342 = .ok (.iload 5, 2) := by decide +kernel
theorem dL_law_1344 : decode cL_law 1344 = .ok (.iconst 1, 1) := by decide +kernel
theorem dL_law_1345 : decode cL_law 1345 = .ok (.iadd, 1) := by decide +kernel
theorem dL_law_1346 : decode cL_law 1346 = .ok (.iaload, 1) := by decide +kernel
theorem dL_law_1347 : decode cL_law 1347 = .ok (.aload_n 0, 1) := by decide +kernel
theorem dL_law_1348 : decode cL_law 1348 = .ok (.iload 5, 2) := by decide +kernel
theorem dL_law_1350 : decode cL_law 1350 = .ok (.iconst 2, 1) := by decide +kernel
theorem dL_law_1351 : decode cL_law 1351 = .ok (.iadd, 1) := by decide +kernel
theorem dL_law_1352 : decode cL_law 1352 = .ok (.iaload, 1) := by decide +kernel
theorem dL_law_1353 : decode cL_law 1353 = .ok (.aload_n 3, 1) := by decide +kernel
theorem dL_law_1354 : decode cL_law 1354 = .ok (.invokestatic 180, 3) := by decide +kernel
theorem dL_law_1357 : decode cL_law 1357 = .ok (.istore 6, 2) := by decide +kernel
theorem dL_law_1359 : decode cL_law 1359 = .ok (.aload_n 2, 1) := by decide +kernel
theorem dL_law_1360 : decode cL_law 1360 = .ok (.aload_n 0, 1) := by decide +kernel
theorem dL_law_1361 : decode cL_law 1361 = .ok (.iload 5, 2) := by decide +kernel
theorem dL_law_1363 : decode cL_law 1363 = .ok (.iconst 1, 1) := by decide +kernel
theorem dL_law_1364 : decode cL_law 1364 = .ok (.iadd, 1) := by decide +kernel
theorem dL_law_1365 : decode cL_law 1365 = .ok (.iaload, 1) := by decide +kernel
theorem dL_law_1366 : decode cL_law 1366 = .ok (.aload_n 0, 1) := by decide +kernel
theorem dL_law_1367 : decode cL_law 1367 = .ok (.iload 5, 2) := by decide +kernel
theorem dL_law_1369 : decode cL_law 1369 = .ok (.iconst 2, 1) := by decide +kernel
theorem dL_law_1370 : decode cL_law 1370 = .ok (.iadd, 1) := by decide +kernel
theorem dL_law_1371 : decode cL_law 1371 = .ok (.iaload, 1) := by decide +kernel
theorem dL_law_1372 : decode cL_law 1372 = .ok (.invokevirtual 182, 3) := by decide +kernel
theorem dL_law_1375 : decode cL_law 1375 = .ok (.istore 7, 2) := by decide +kernel
theorem dL_law_1377 : decode cL_law 1377 = .ok (.aload_n 2, 1) := by decide +kernel
theorem dL_law_1378 : decode cL_law 1378 = .ok (.invokevirtual 130, 3) := by decide +kernel
theorem dL_law_1381 : decode cL_law 1381 = .ok (.iload 6, 2) := by decide +kernel
theorem dL_law_1383 : decode cL_law 1383 = .ok (.if_icmp .eq 5, 3) := by decide +kernel
theorem dL_law_1386 : decode cL_law 1386 = .ok (.iconst 0, 1) := by decide +kernel
theorem dL_law_1387 : decode cL_law 1387 = .ok (.ireturn, 1) := by decide +kernel
theorem dL_law_1388 : decode cL_law 1388 = .ok (.iload 6, 2) := by decide +kernel
theorem dL_law_1390 : decode cL_law 1390 = .ok (.ifCond .ne 15, 3) := by decide +kernel
theorem dL_law_1393 : decode cL_law 1393 = .ok (.aload_n 3, 1) := by decide +kernel
theorem dL_law_1394 : decode cL_law 1394 = .ok (.iconst 0, 1) := by decide +kernel
theorem dL_law_1395 : decode cL_law 1395 = .ok (.laload, 1) := by decide +kernel
theorem dL_law_1396 : decode cL_law 1396 = .ok (.iload 7, 2) := by decide +kernel
theorem dL_law_1398 : decode cL_law 1398 = .ok (.i2l, 1) := by decide +kernel
theorem dL_law_1399 : decode cL_law 1399 = .ok (.lcmp, 1) := by decide +kernel
theorem dL_law_1400 : decode cL_law 1400 = .ok (.ifCond .eq 5, 3) := by decide +kernel
theorem dL_law_1403 : decode cL_law 1403 = .ok (.iconst 0, 1) := by decide +kernel
theorem dL_law_1404 : decode cL_law 1404 = .ok (.ireturn, 1) := by decide +kernel
theorem dL_law_1405 : decode cL_law 1405 = .ok (.goto 903, 3) := by decide +kernel
theorem dL_law_1408 : decode cL_law 1408 = .ok (.aload_n 1, 1) := by decide +kernel
theorem dL_law_1409 : decode cL_law 1409 = .ok (.aload_n 0, 1) := by decide +kernel
theorem dL_law_1410 : decode cL_law 1410 = .ok (.iload 5, 2) := by decide +kernel
theorem dL_law_1412 : decode cL_law 1412 = .ok (.iconst 1, 1) := by decide +kernel
theorem dL_law_1413 : decode cL_law 1413 = .ok (.iadd, 1) := by decide +kernel
theorem dL_law_1414 : decode cL_law 1414 = .ok (.iaload, 1) := by decide +kernel
theorem dL_law_1415 : decode cL_law 1415 = .ok (.aload_n 0, 1) := by decide +kernel
theorem dL_law_1416 : decode cL_law 1416 = .ok (.iload 5, 2) := by decide +kernel
theorem dL_law_1418 : decode cL_law 1418 = .ok (.iconst 2, 1) := by decide +kernel
theorem dL_law_1419 : decode cL_law 1419 = .ok (.iadd, 1) := by decide +kernel
theorem dL_law_1420 : decode cL_law 1420 = .ok (.iaload, 1) := by decide +kernel
theorem dL_law_1421 : decode cL_law 1421 = .ok (.aload_n 0, 1) := by decide +kernel
theorem dL_law_1422 : decode cL_law 1422 = .ok (.iload 5, 2) := by decide +kernel
theorem dL_law_1424 : decode cL_law 1424 = .ok (.iconst 3, 1) := by decide +kernel
theorem dL_law_1425 : decode cL_law 1425 = .ok (.iadd, 1) := by decide +kernel
theorem dL_law_1426 : decode cL_law 1426 = .ok (.iaload, 1) := by decide +kernel
theorem dL_law_1427 : decode cL_law 1427 = .ok (.aload_n 3, 1) := by decide +kernel
theorem dL_law_1428 : decode cL_law 1428 = .ok (.invokestatic 183, 3) := by decide +kernel
theorem dL_law_1431 : decode cL_law 1431 = .ok (.istore 6, 2) := by decide +kernel
theorem dL_law_1433 : decode cL_law 1433 = .ok (.aload_n 2, 1) := by decide +kernel
theorem dL_law_1434 : decode cL_law 1434 = .ok (.aload_n 0, 1) := by decide +kernel
theorem dL_law_1435 : decode cL_law 1435 = .ok (.iload 5, 2) := by decide +kernel
theorem dL_law_1437 : decode cL_law 1437 = .ok (.iconst 1, 1) := by decide +kernel
theorem dL_law_1438 : decode cL_law 1438 = .ok (.iadd, 1) := by decide +kernel
theorem dL_law_1439 : decode cL_law 1439 = .ok (.iaload, 1) := by decide +kernel
theorem dL_law_1440 : decode cL_law 1440 = .ok (.aload_n 0, 1) := by decide +kernel
theorem dL_law_1441 : decode cL_law 1441 = .ok (.iload 5, 2) := by decide +kernel
theorem dL_law_1443 : decode cL_law 1443 = .ok (.iconst 2, 1) := by decide +kernel
theorem dL_law_1444 : decode cL_law 1444 = .ok (.iadd, 1) := by decide +kernel
theorem dL_law_1445 : decode cL_law 1445 = .ok (.iaload, 1) := by decide +kernel
theorem dL_law_1446 : decode cL_law 1446 = .ok (.aload_n 0, 1) := by decide +kernel
theorem dL_law_1447 : decode cL_law 1447 = .ok (.iload 5, 2) := by decide +kernel
theorem dL_law_1449 : decode cL_law 1449 = .ok (.iconst 3, 1) := by decide +kernel
theorem dL_law_1450 : decode cL_law 1450 = .ok (.iadd, 1) := by decide +kernel
theorem dL_law_1451 : decode cL_law 1451 = .ok (.iaload, 1) := by decide +kernel
theorem dL_law_1452 : decode cL_law 1452 = .ok (.invokevirtual 185, 3) := by decide +kernel
theorem dL_law_1455 : decode cL_law 1455 = .ok (.istore 7, 2) := by decide +kernel
theorem dL_law_1457 : decode cL_law 1457 = .ok (.aload_n 2, 1) := by decide +kernel
theorem dL_law_1458 : decode cL_law 1458 = .ok (.invokevirtual 130, 3) := by decide +kernel
theorem dL_law_1461 : decode cL_law 1461 = .ok (.iload 6, 2) := by decide +kernel
theorem dL_law_1463 : decode cL_law 1463 = .ok (.if_icmp .eq 5, 3) := by decide +kernel
theorem dL_law_1466 : decode cL_law 1466 = .ok (.iconst 0, 1) := by decide +kernel
theorem dL_law_1467 : decode cL_law 1467 = .ok (.ireturn, 1) := by decide +kernel
theorem dL_law_1468 : decode cL_law 1468 = .ok (.iload 6, 2) := by decide +kernel
theorem dL_law_1470 : decode cL_law 1470 = .ok (.ifCond .ne 15, 3) := by decide +kernel
theorem dL_law_1473 : decode cL_law 1473 = .ok (.aload_n 3, 1) := by decide +kernel
theorem dL_law_1474 : decode cL_law 1474 = .ok (.iconst 0, 1) := by decide +kernel
theorem dL_law_1475 : decode cL_law 1475 = .ok (.laload, 1) := by decide +kernel
theorem dL_law_1476 : decode cL_law 1476 = .ok (.iload 7, 2) := by decide +kernel
theorem dL_law_1478 : decode cL_law 1478 = .ok (.i2l, 1) := by decide +kernel
theorem dL_law_1479 : decode cL_law 1479 = .ok (.lcmp, 1) := by decide +kernel
theorem dL_law_1480 : decode cL_law 1480 = .ok (.ifCond .eq 5, 3) := by decide +kernel
theorem dL_law_1483 : decode cL_law 1483 = .ok (.iconst 0, 1) := by decide +kernel
theorem dL_law_1484 : decode cL_law 1484 = .ok (.ireturn, 1) := by decide +kernel
theorem dL_law_1485 : decode cL_law 1485 = .ok (.goto 823, 3) := by decide +kernel
theorem dL_law_1488 : decode cL_law 1488 = .ok (.aload_n 1, 1) := by decide +kernel
theorem dL_law_1489 : decode cL_law 1489 = .ok (.aload_n 0, 1) := by decide +kernel
theorem dL_law_1490 : decode cL_law 1490 = .ok (.iload 5, 2) := by decide +kernel
theorem dL_law_1492 : decode cL_law 1492 = .ok (.iconst 1, 1) := by decide +kernel
theorem dL_law_1493 : decode cL_law 1493 = .ok (.iadd, 1) := by decide +kernel
theorem dL_law_1494 : decode cL_law 1494 = .ok (.iaload, 1) := by decide +kernel
theorem dL_law_1495 : decode cL_law 1495 = .ok (.aload_n 0, 1) := by decide +kernel
theorem dL_law_1496 : decode cL_law 1496 = .ok (.iload 5, 2) := by decide +kernel
theorem dL_law_1498 : decode cL_law 1498 = .ok (.iconst 2, 1) := by decide +kernel
theorem dL_law_1499 : decode cL_law 1499 = .ok (.iadd, 1) := by decide +kernel
theorem dL_law_1500 : decode cL_law 1500 = .ok (.iaload, 1) := by decide +kernel
theorem dL_law_1501 : decode cL_law 1501 = .ok (.aload_n 3, 1) := by decide +kernel
theorem dL_law_1502 : decode cL_law 1502 = .ok (.invokestatic 186, 3) := by decide +kernel
theorem dL_law_1505 : decode cL_law 1505 = .ok (.istore 6, 2) := by decide +kernel
theorem dL_law_1507 : decode cL_law 1507 = .ok (.aload_n 2, 1) := by decide +kernel
theorem dL_law_1508 : decode cL_law 1508 = .ok (.aload_n 0, 1) := by decide +kernel
theorem dL_law_1509 : decode cL_law 1509 = .ok (.iload 5, 2) := by decide +kernel
theorem dL_law_1511 : decode cL_law 1511 = .ok (.iconst 1, 1) := by decide +kernel
theorem dL_law_1512 : decode cL_law 1512 = .ok (.iadd, 1) := by decide +kernel
theorem dL_law_1513 : decode cL_law 1513 = .ok (.iaload, 1) := by decide +kernel
theorem dL_law_1514 : decode cL_law 1514 = .ok (.aload_n 0, 1) := by decide +kernel
theorem dL_law_1515 : decode cL_law 1515 = .ok (.iload 5, 2) := by decide +kernel
theorem dL_law_1517 : decode cL_law 1517 = .ok (.iconst 2, 1) := by decide +kernel
theorem dL_law_1518 : decode cL_law 1518 = .ok (.iadd, 1) := by decide +kernel
theorem dL_law_1519 : decode cL_law 1519 = .ok (.iaload, 1) := by decide +kernel
theorem dL_law_1520 : decode cL_law 1520 = .ok (.invokevirtual 188, 3) := by decide +kernel
theorem dL_law_1523 : decode cL_law 1523 = .ok (.istore 7, 2) := by decide +kernel
theorem dL_law_1525 : decode cL_law 1525 = .ok (.aload_n 2, 1) := by decide +kernel
theorem dL_law_1526 : decode cL_law 1526 = .ok (.invokevirtual 130, 3) := by decide +kernel
theorem dL_law_1529 : decode cL_law 1529 = .ok (.iload 6, 2) := by decide +kernel
theorem dL_law_1531 : decode cL_law 1531 = .ok (.if_icmp .eq 5, 3) := by decide +kernel
theorem dL_law_1534 : decode cL_law 1534 = .ok (.iconst 0, 1) := by decide +kernel
theorem dL_law_1535 : decode cL_law 1535 = .ok (.ireturn, 1) := by decide +kernel
theorem dL_law_1536 : decode cL_law 1536 = .ok (.iload 6, 2) := by decide +kernel
theorem dL_law_1538 : decode cL_law 1538 = .ok (.ifCond .ne 15, 3) := by decide +kernel
theorem dL_law_1541 : decode cL_law 1541 = .ok (.aload_n 3, 1) := by decide +kernel
theorem dL_law_1542 : decode cL_law 1542 = .ok (.iconst 0, 1) := by decide +kernel
theorem dL_law_1543 : decode cL_law 1543 = .ok (.laload, 1) := by decide +kernel
theorem dL_law_1544 : decode cL_law 1544 = .ok (.iload 7, 2) := by decide +kernel
theorem dL_law_1546 : decode cL_law 1546 = .ok (.i2l, 1) := by decide +kernel
theorem dL_law_1547 : decode cL_law 1547 = .ok (.lcmp, 1) := by decide +kernel
theorem dL_law_1548 : decode cL_law 1548 = .ok (.ifCond .eq 5, 3) := by decide +kernel
theorem dL_law_1551 : decode cL_law 1551 = .ok (.iconst 0, 1) := by decide +kernel
theorem dL_law_1552 : decode cL_law 1552 = .ok (.ireturn, 1) := by decide +kernel
theorem dL_law_1553 : decode cL_law 1553 = .ok (.goto 755, 3) := by decide +kernel
theorem dL_law_1556 : decode cL_law 1556 = .ok (.aload_n 1, 1) := by decide +kernel
theorem dL_law_1557 : decode cL_law 1557 = .ok (.aload_n 0, 1) := by decide +kernel
theorem dL_law_1558 : decode cL_law 1558 = .ok (.iload 5, 2) := by decide +kernel
theorem dL_law_1560 : decode cL_law 1560 = .ok (.iconst 1, 1) := by decide +kernel
theorem dL_law_1561 : decode cL_law 1561 = .ok (.iadd, 1) := by decide +kernel
theorem dL_law_1562 : decode cL_law 1562 = .ok (.iaload, 1) := by decide +kernel
theorem dL_law_1563 : decode cL_law 1563 = .ok (.aload_n 0, 1) := by decide +kernel
theorem dL_law_1564 : decode cL_law 1564 = .ok (.iload 5, 2) := by decide +kernel
theorem dL_law_1566 : decode cL_law 1566 = .ok (.iconst 2, 1) := by decide +kernel
theorem dL_law_1567 : decode cL_law 1567 = .ok (.iadd, 1) := by decide +kernel
theorem dL_law_1568 : decode cL_law 1568 = .ok (.iaload, 1) := by decide +kernel
theorem dL_law_1569 : decode cL_law 1569 = .ok (.aload_n 3, 1) := by decide +kernel
theorem dL_law_1570 : decode cL_law 1570 = .ok (.invokestatic 189, 3) := by decide +kernel
theorem dL_law_1573 : decode cL_law 1573 = .ok (.istore 6, 2) := by decide +kernel
theorem dL_law_1575 : decode cL_law 1575 = .ok (.aload_n 2, 1) := by decide +kernel
theorem dL_law_1576 : decode cL_law 1576 = .ok (.aload_n 0, 1) := by decide +kernel
theorem dL_law_1577 : decode cL_law 1577 = .ok (.iload 5, 2) := by decide +kernel
theorem dL_law_1579 : decode cL_law 1579 = .ok (.iconst 1, 1) := by decide +kernel
theorem dL_law_1580 : decode cL_law 1580 = .ok (.iadd, 1) := by decide +kernel
theorem dL_law_1581 : decode cL_law 1581 = .ok (.iaload, 1) := by decide +kernel
theorem dL_law_1582 : decode cL_law 1582 = .ok (.aload_n 0, 1) := by decide +kernel
theorem dL_law_1583 : decode cL_law 1583 = .ok (.iload 5, 2) := by decide +kernel
theorem dL_law_1585 : decode cL_law 1585 = .ok (.iconst 2, 1) := by decide +kernel
theorem dL_law_1586 : decode cL_law 1586 = .ok (.iadd, 1) := by decide +kernel
theorem dL_law_1587 : decode cL_law 1587 = .ok (.iaload, 1) := by decide +kernel
theorem dL_law_1588 : decode cL_law 1588 = .ok (.invokevirtual 191, 3) := by decide +kernel
theorem dL_law_1591 : decode cL_law 1591 = .ok (.istore 7, 2) := by decide +kernel
theorem dL_law_1593 : decode cL_law 1593 = .ok (.aload_n 2, 1) := by decide +kernel
theorem dL_law_1594 : decode cL_law 1594 = .ok (.invokevirtual 130, 3) := by decide +kernel
theorem dL_law_1597 : decode cL_law 1597 = .ok (.iload 6, 2) := by decide +kernel
theorem dL_law_1599 : decode cL_law 1599 = .ok (.if_icmp .eq 5, 3) := by decide +kernel
theorem dL_law_1602 : decode cL_law 1602 = .ok (.iconst 0, 1) := by decide +kernel
theorem dL_law_1603 : decode cL_law 1603 = .ok (.ireturn, 1) := by decide +kernel
theorem dL_law_1604 : decode cL_law 1604 = .ok (.iload 6, 2) := by decide +kernel
theorem dL_law_1606 : decode cL_law 1606 = .ok (.ifCond .ne 15, 3) := by decide +kernel
theorem dL_law_1609 : decode cL_law 1609 = .ok (.aload_n 3, 1) := by decide +kernel
theorem dL_law_1610 : decode cL_law 1610 = .ok (.iconst 0, 1) := by decide +kernel
theorem dL_law_1611 : decode cL_law 1611 = .ok (.laload, 1) := by decide +kernel
theorem dL_law_1612 : decode cL_law 1612 = .ok (.iload 7, 2) := by decide +kernel
theorem dL_law_1614 : decode cL_law 1614 = .ok (.i2l, 1) := by decide +kernel
theorem dL_law_1615 : decode cL_law 1615 = .ok (.lcmp, 1) := by decide +kernel
theorem dL_law_1616 : decode cL_law 1616 = .ok (.ifCond .eq 5, 3) := by decide +kernel
theorem dL_law_1619 : decode cL_law 1619 = .ok (.iconst 0, 1) := by decide +kernel
theorem dL_law_1620 : decode cL_law 1620 = .ok (.ireturn, 1) := by decide +kernel
theorem dL_law_1621 : decode cL_law 1621 = .ok (.goto 687, 3) := by decide +kernel
theorem dL_law_1624 : decode cL_law 1624 = .ok (.aload_n 1, 1) := by decide +kernel
theorem dL_law_1625 : decode cL_law 1625 = .ok (.aload_n 0, 1) := by decide +kernel
theorem dL_law_1626 : decode cL_law 1626 = .ok (.iload 5, 2) := by decide +kernel
theorem dL_law_1628 : decode cL_law 1628 = .ok (.iconst 1, 1) := by decide +kernel
theorem dL_law_1629 : decode cL_law 1629 = .ok (.iadd, 1) := by decide +kernel
theorem dL_law_1630 : decode cL_law 1630 = .ok (.iaload, 1) := by decide +kernel
theorem dL_law_1631 : decode cL_law 1631 = .ok (.aload_n 0, 1) := by decide +kernel
theorem dL_law_1632 : decode cL_law 1632 = .ok (.iload 5, 2) := by decide +kernel
theorem dL_law_1634 : decode cL_law 1634 = .ok (.iconst 2, 1) := by decide +kernel
theorem dL_law_1635 : decode cL_law 1635 = .ok (.iadd, 1) := by decide +kernel
theorem dL_law_1636 : decode cL_law 1636 = .ok (.iaload, 1) := by decide +kernel
theorem dL_law_1637 : decode cL_law 1637 = .ok (.aload_n 0, 1) := by decide +kernel
theorem dL_law_1638 : decode cL_law 1638 = .ok (.iload 5, 2) := by decide +kernel
theorem dL_law_1640 : decode cL_law 1640 = .ok (.iconst 3, 1) := by decide +kernel
theorem dL_law_1641 : decode cL_law 1641 = .ok (.iadd, 1) := by decide +kernel
theorem dL_law_1642 : decode cL_law 1642 = .ok (.iaload, 1) := by decide +kernel
theorem dL_law_1643 : decode cL_law 1643 = .ok (.aload_n 3, 1) := by decide +kernel
theorem dL_law_1644 : decode cL_law 1644 = .ok (.invokestatic 192, 3) := by decide +kernel
theorem dL_law_1647 : decode cL_law 1647 = .ok (.istore 6, 2) := by decide +kernel
theorem dL_law_1649 : decode cL_law 1649 = .ok (.aload_n 2, 1) := by decide +kernel
theorem dL_law_1650 : decode cL_law 1650 = .ok (.aload_n 0, 1) := by decide +kernel
theorem dL_law_1651 : decode cL_law 1651 = .ok (.iload 5, 2) := by decide +kernel
theorem dL_law_1653 : decode cL_law 1653 = .ok (.iconst 1, 1) := by decide +kernel
theorem dL_law_1654 : decode cL_law 1654 = .ok (.iadd, 1) := by decide +kernel
theorem dL_law_1655 : decode cL_law 1655 = .ok (.iaload, 1) := by decide +kernel
theorem dL_law_1656 : decode cL_law 1656 = .ok (.aload_n 0, 1) := by decide +kernel
theorem dL_law_1657 : decode cL_law 1657 = .ok (.iload 5, 2) := by decide +kernel
theorem dL_law_1659 : decode cL_law 1659 = .ok (.iconst 2, 1) := by decide +kernel
theorem dL_law_1660 : decode cL_law 1660 = .ok (.iadd, 1) := by decide +kernel
theorem dL_law_1661 : decode cL_law 1661 = .ok (.iaload, 1) := by decide +kernel
theorem dL_law_1662 : decode cL_law 1662 = .ok (.aload_n 0, 1) := by decide +kernel
theorem dL_law_1663 : decode cL_law 1663 = .ok (.iload 5, 2) := by decide +kernel
theorem dL_law_1665 : decode cL_law 1665 = .ok (.iconst 3, 1) := by decide +kernel
theorem dL_law_1666 : decode cL_law 1666 = .ok (.iadd, 1) := by decide +kernel
theorem dL_law_1667 : decode cL_law 1667 = .ok (.iaload, 1) := by decide +kernel
theorem dL_law_1668 : decode cL_law 1668 = .ok (.invokevirtual 194, 3) := by decide +kernel
theorem dL_law_1671 : decode cL_law 1671 = .ok (.istore 7, 2) := by decide +kernel
theorem dL_law_1673 : decode cL_law 1673 = .ok (.aload_n 2, 1) := by decide +kernel
theorem dL_law_1674 : decode cL_law 1674 = .ok (.invokevirtual 130, 3) := by decide +kernel
theorem dL_law_1677 : decode cL_law 1677 = .ok (.iload 6, 2) := by decide +kernel
theorem dL_law_1679 : decode cL_law 1679 = .ok (.if_icmp .eq 5, 3) := by decide +kernel
theorem dL_law_1682 : decode cL_law 1682 = .ok (.iconst 0, 1) := by decide +kernel
theorem dL_law_1683 : decode cL_law 1683 = .ok (.ireturn, 1) := by decide +kernel
theorem dL_law_1684 : decode cL_law 1684 = .ok (.iload 6, 2) := by decide +kernel
theorem dL_law_1686 : decode cL_law 1686 = .ok (.ifCond .ne 15, 3) := by decide +kernel
theorem dL_law_1689 : decode cL_law 1689 = .ok (.aload_n 3, 1) := by decide +kernel
theorem dL_law_1690 : decode cL_law 1690 = .ok (.iconst 0, 1) := by decide +kernel
theorem dL_law_1691 : decode cL_law 1691 = .ok (.laload, 1) := by decide +kernel
theorem dL_law_1692 : decode cL_law 1692 = .ok (.iload 7, 2) := by decide +kernel
theorem dL_law_1694 : decode cL_law 1694 = .ok (.i2l, 1) := by decide +kernel
theorem dL_law_1695 : decode cL_law 1695 = .ok (.lcmp, 1) := by decide +kernel
theorem dL_law_1696 : decode cL_law 1696 = .ok (.ifCond .eq 5, 3) := by decide +kernel
theorem dL_law_1699 : decode cL_law 1699 = .ok (.iconst 0, 1) := by decide +kernel
theorem dL_law_1700 : decode cL_law 1700 = .ok (.ireturn, 1) := by decide +kernel
theorem dL_law_1701 : decode cL_law 1701 = .ok (.goto 607, 3) := by decide +kernel
theorem dL_law_1704 : decode cL_law 1704 = .ok (.aload_n 1, 1) := by decide +kernel
theorem dL_law_1705 : decode cL_law 1705 = .ok (.aload_n 0, 1) := by decide +kernel
theorem dL_law_1706 : decode cL_law 1706 = .ok (.iload 5, 2) := by decide +kernel
theorem dL_law_1708 : decode cL_law 1708 = .ok (.iconst 1, 1) := by decide +kernel
theorem dL_law_1709 : decode cL_law 1709 = .ok (.iadd, 1) := by decide +kernel
theorem dL_law_1710 : decode cL_law 1710 = .ok (.iaload, 1) := by decide +kernel
theorem dL_law_1711 : decode cL_law 1711 = .ok (.aload_n 0, 1) := by decide +kernel
theorem dL_law_1712 : decode cL_law 1712 = .ok (.iload 5, 2) := by decide +kernel
theorem dL_law_1714 : decode cL_law 1714 = .ok (.iconst 2, 1) := by decide +kernel
theorem dL_law_1715 : decode cL_law 1715 = .ok (.iadd, 1) := by decide +kernel
theorem dL_law_1716 : decode cL_law 1716 = .ok (.iaload, 1) := by decide +kernel
theorem dL_law_1717 : decode cL_law 1717 = .ok (.aload_n 0, 1) := by decide +kernel
theorem dL_law_1718 : decode cL_law 1718 = .ok (.iload 5, 2) := by decide +kernel
theorem dL_law_1720 : decode cL_law 1720 = .ok (.iconst 3, 1) := by decide +kernel
theorem dL_law_1721 : decode cL_law 1721 = .ok (.iadd, 1) := by decide +kernel
theorem dL_law_1722 : decode cL_law 1722 = .ok (.iaload, 1) := by decide +kernel
theorem dL_law_1723 : decode cL_law 1723 = .ok (.ifCond .eq 7, 3) := by decide +kernel
theorem dL_law_1726 : decode cL_law 1726 = .ok (.iconst 1, 1) := by decide +kernel
theorem dL_law_1727 : decode cL_law 1727 = .ok (.goto 4, 3) := by decide +kernel
theorem dL_law_1730 : decode cL_law 1730 = .ok (.iconst 0, 1) := by decide +kernel
theorem dL_law_1731 : decode cL_law 1731 = .ok (.aload_n 3, 1) := by decide +kernel
theorem dL_law_1732 : decode cL_law 1732 = .ok (.invokestatic 195, 3) := by decide +kernel
theorem dL_law_1735 : decode cL_law 1735 = .ok (.istore 6, 2) := by decide +kernel
theorem dL_law_1737 : decode cL_law 1737 = .ok (.aload_n 2, 1) := by decide +kernel
theorem dL_law_1738 : decode cL_law 1738 = .ok (.aload_n 0, 1) := by decide +kernel
theorem dL_law_1739 : decode cL_law 1739 = .ok (.iload 5, 2) := by decide +kernel
theorem dL_law_1741 : decode cL_law 1741 = .ok (.iconst 1, 1) := by decide +kernel
theorem dL_law_1742 : decode cL_law 1742 = .ok (.iadd, 1) := by decide +kernel
theorem dL_law_1743 : decode cL_law 1743 = .ok (.iaload, 1) := by decide +kernel
theorem dL_law_1744 : decode cL_law 1744 = .ok (.aload_n 0, 1) := by decide +kernel
theorem dL_law_1745 : decode cL_law 1745 = .ok (.iload 5, 2) := by decide +kernel
theorem dL_law_1747 : decode cL_law 1747 = .ok (.iconst 2, 1) := by decide +kernel
theorem dL_law_1748 : decode cL_law 1748 = .ok (.iadd, 1) := by decide +kernel
theorem dL_law_1749 : decode cL_law 1749 = .ok (.iaload, 1) := by decide +kernel
theorem dL_law_1750 : decode cL_law 1750 = .ok (.aload_n 0, 1) := by decide +kernel
theorem dL_law_1751 : decode cL_law 1751 = .ok (.iload 5, 2) := by decide +kernel
theorem dL_law_1753 : decode cL_law 1753 = .ok (.iconst 3, 1) := by decide +kernel
theorem dL_law_1754 : decode cL_law 1754 = .ok (.iadd, 1) := by decide +kernel
theorem dL_law_1755 : decode cL_law 1755 = .ok (.iaload, 1) := by decide +kernel
theorem dL_law_1756 : decode cL_law 1756 = .ok (.ifCond .eq 7, 3) := by decide +kernel
theorem dL_law_1759 : decode cL_law 1759 = .ok (.iconst 1, 1) := by decide +kernel
theorem dL_law_1760 : decode cL_law 1760 = .ok (.goto 4, 3) := by decide +kernel
theorem dL_law_1763 : decode cL_law 1763 = .ok (.iconst 0, 1) := by decide +kernel
theorem dL_law_1764 : decode cL_law 1764 = .ok (.invokevirtual 198, 3) := by decide +kernel
theorem dL_law_1767 : decode cL_law 1767 = .ok (.istore 7, 2) := by decide +kernel
theorem dL_law_1769 : decode cL_law 1769 = .ok (.aload_n 2, 1) := by decide +kernel
theorem dL_law_1770 : decode cL_law 1770 = .ok (.invokevirtual 130, 3) := by decide +kernel
theorem dL_law_1773 : decode cL_law 1773 = .ok (.iload 6, 2) := by decide +kernel
theorem dL_law_1775 : decode cL_law 1775 = .ok (.if_icmp .eq 5, 3) := by decide +kernel
theorem dL_law_1778 : decode cL_law 1778 = .ok (.iconst 0, 1) := by decide +kernel
theorem dL_law_1779 : decode cL_law 1779 = .ok (.ireturn, 1) := by decide +kernel
theorem dL_law_1780 : decode cL_law 1780 = .ok (.iload 6, 2) := by decide +kernel
theorem dL_law_1782 : decode cL_law 1782 = .ok (.ifCond .ne 15, 3) := by decide +kernel
theorem dL_law_1785 : decode cL_law 1785 = .ok (.aload_n 3, 1) := by decide +kernel
theorem dL_law_1786 : decode cL_law 1786 = .ok (.iconst 0, 1) := by decide +kernel
theorem dL_law_1787 : decode cL_law 1787 = .ok (.laload, 1) := by decide +kernel
theorem dL_law_1788 : decode cL_law 1788 = .ok (.iload 7, 2) := by decide +kernel
theorem dL_law_1790 : decode cL_law 1790 = .ok (.i2l, 1) := by decide +kernel
theorem dL_law_1791 : decode cL_law 1791 = .ok (.lcmp, 1) := by decide +kernel
theorem dL_law_1792 : decode cL_law 1792 = .ok (.ifCond .eq 5, 3) := by decide +kernel
theorem dL_law_1795 : decode cL_law 1795 = .ok (.iconst 0, 1) := by decide +kernel
theorem dL_law_1796 : decode cL_law 1796 = .ok (.ireturn, 1) := by decide +kernel
theorem dL_law_1797 : decode cL_law 1797 = .ok (.goto 511, 3) := by decide +kernel
theorem dL_law_1800 : decode cL_law 1800 = .ok (.aload_n 1, 1) := by decide +kernel
theorem dL_law_1801 : decode cL_law 1801 = .ok (.aload_n 0, 1) := by decide +kernel
theorem dL_law_1802 : decode cL_law 1802 = .ok (.iload 5, 2) := by decide +kernel
theorem dL_law_1804 : decode cL_law 1804 = .ok (.iconst 1, 1) := by decide +kernel
theorem dL_law_1805 : decode cL_law 1805 = .ok (.iadd, 1) := by decide +kernel
theorem dL_law_1806 : decode cL_law 1806 = .ok (.iaload, 1) := by decide +kernel
theorem dL_law_1807 : decode cL_law 1807 = .ok (.aload 4, 2) := by decide +kernel
theorem dL_law_1809 : decode cL_law 1809 = .ok (.invokestatic 199, 3) := by decide +kernel
theorem dL_law_1812 : decode cL_law 1812 = .ok (.istore 6, 2) := by decide +kernel
theorem dL_law_1814 : decode cL_law 1814 = .ok (.aload_n 2, 1) := by decide +kernel
theorem dL_law_1815 : decode cL_law 1815 = .ok (.aload_n 0, 1) := by decide +kernel
theorem dL_law_1816 : decode cL_law 1816 = .ok (.iload 5, 2) := by decide +kernel
theorem dL_law_1818 : decode cL_law 1818 = .ok (.iconst 1, 1) := by decide +kernel
theorem dL_law_1819 : decode cL_law 1819 = .ok (.iadd, 1) := by decide +kernel
theorem dL_law_1820 : decode cL_law 1820 = .ok (.iaload, 1) := by decide +kernel
theorem dL_law_1821 : decode cL_law 1821 = .ok (.invokevirtual 202, 3) := by decide +kernel
theorem dL_law_1824 : decode cL_law 1824 = .ok (.dstore 7, 2) := by decide +kernel
theorem dL_law_1826 : decode cL_law 1826 = .ok (.aload_n 2, 1) := by decide +kernel
theorem dL_law_1827 : decode cL_law 1827 = .ok (.invokevirtual 130, 3) := by decide +kernel
theorem dL_law_1830 : decode cL_law 1830 = .ok (.iload 6, 2) := by decide +kernel
theorem dL_law_1832 : decode cL_law 1832 = .ok (.if_icmp .eq 5, 3) := by decide +kernel
theorem dL_law_1835 : decode cL_law 1835 = .ok (.iconst 0, 1) := by decide +kernel
theorem dL_law_1836 : decode cL_law 1836 = .ok (.ireturn, 1) := by decide +kernel
theorem dL_law_1837 : decode cL_law 1837 = .ok (.iload 6, 2) := by decide +kernel
theorem dL_law_1839 : decode cL_law 1839 = .ok (.ifCond .ne 35, 3) := by decide +kernel
theorem dL_law_1842 : decode cL_law 1842 = .ok (.aload 4, 2) := by decide +kernel
theorem dL_law_1844 : decode cL_law 1844 = .ok (.iconst 0, 1) := by decide +kernel
theorem dL_law_1845 : decode cL_law 1845 = .ok (.daload, 1) := by decide +kernel
theorem dL_law_1846 : decode cL_law 1846 = .ok (.dload 7, 2) := by decide +kernel
theorem dL_law_1848 : decode cL_law 1848 = .ok (.dcmp .l, 1) := by decide +kernel
theorem dL_law_1849 : decode cL_law 1849 = .ok (.ifCond .eq 25, 3) := by decide +kernel
theorem dL_law_1852 : decode cL_law 1852 = .ok (.aload 4, 2) := by decide +kernel
theorem dL_law_1854 : decode cL_law 1854 = .ok (.iconst 0, 1) := by decide +kernel
theorem dL_law_1855 : decode cL_law 1855 = .ok (.daload, 1) := by decide +kernel
theorem dL_law_1856 : decode cL_law 1856 = .ok (.aload 4, 2) := by decide +kernel
theorem dL_law_1858 : decode cL_law 1858 = .ok (.iconst 0, 1) := by decide +kernel
theorem dL_law_1859 : decode cL_law 1859 = .ok (.daload, 1) := by decide +kernel
theorem dL_law_1860 : decode cL_law 1860 = .ok (.dcmp .l, 1) := by decide +kernel
theorem dL_law_1861 : decode cL_law 1861 = .ok (.ifCond .eq 11, 3) := by decide +kernel
theorem dL_law_1864 : decode cL_law 1864 = .ok (.dload 7, 2) := by decide +kernel
theorem dL_law_1866 : decode cL_law 1866 = .ok (.dload 7, 2) := by decide +kernel
theorem dL_law_1868 : decode cL_law 1868 = .ok (.dcmp .l, 1) := by decide +kernel
theorem dL_law_1869 : decode cL_law 1869 = .ok (.ifCond .ne 5, 3) := by decide +kernel
theorem dL_law_1872 : decode cL_law 1872 = .ok (.iconst 0, 1) := by decide +kernel
theorem dL_law_1873 : decode cL_law 1873 = .ok (.ireturn, 1) := by decide +kernel
theorem dL_law_1874 : decode cL_law 1874 = .ok (.goto 434, 3) := by decide +kernel
theorem dL_law_1877 : decode cL_law 1877 = .ok (.aload_n 1, 1) := by decide +kernel
theorem dL_law_1878 : decode cL_law 1878 = .ok (.aload_n 0, 1) := by decide +kernel
theorem dL_law_1879 : decode cL_law 1879 = .ok (.iload 5, 2) := by decide +kernel
theorem dL_law_1881 : decode cL_law 1881 = .ok (.iconst 1, 1) := by decide +kernel
theorem dL_law_1882 : decode cL_law 1882 = .ok (.iadd, 1) := by decide +kernel
theorem dL_law_1883 : decode cL_law 1883 = .ok (.iaload, 1) := by decide +kernel
theorem dL_law_1884 : decode cL_law 1884 = .ok (.aload_n 3, 1) := by decide +kernel
theorem dL_law_1885 : decode cL_law 1885 = .ok (.invokestatic 203, 3) := by decide +kernel
theorem dL_law_1888 : decode cL_law 1888 = .ok (.istore 6, 2) := by decide +kernel
theorem dL_law_1890 : decode cL_law 1890 = .ok (.aload_n 2, 1) := by decide +kernel
theorem dL_law_1891 : decode cL_law 1891 = .ok (.aload_n 0, 1) := by decide +kernel
theorem dL_law_1892 : decode cL_law 1892 = .ok (.iload 5, 2) := by decide +kernel
theorem dL_law_1894 : decode cL_law 1894 = .ok (.iconst 1, 1) := by decide +kernel
theorem dL_law_1895 : decode cL_law 1895 = .ok (.iadd, 1) := by decide +kernel
theorem dL_law_1896 : decode cL_law 1896 = .ok (.iaload, 1) := by decide +kernel
theorem dL_law_1897 : decode cL_law 1897 = .ok (.invokevirtual 205, 3) := by decide +kernel
theorem dL_law_1900 : decode cL_law 1900 = .ok (.istore 7, 2) := by decide +kernel
theorem dL_law_1902 : decode cL_law 1902 = .ok (.aload_n 2, 1) := by decide +kernel
theorem dL_law_1903 : decode cL_law 1903 = .ok (.invokevirtual 130, 3) := by decide +kernel
theorem dL_law_1906 : decode cL_law 1906 = .ok (.iload 6, 2) := by decide +kernel
theorem dL_law_1908 : decode cL_law 1908 = .ok (.if_icmp .eq 5, 3) := by decide +kernel
theorem dL_law_1911 : decode cL_law 1911 = .ok (.iconst 0, 1) := by decide +kernel
theorem dL_law_1912 : decode cL_law 1912 = .ok (.ireturn, 1) := by decide +kernel
theorem dL_law_1913 : decode cL_law 1913 = .ok (.iload 6, 2) := by decide +kernel
theorem dL_law_1915 : decode cL_law 1915 = .ok (.ifCond .ne 15, 3) := by decide +kernel
theorem dL_law_1918 : decode cL_law 1918 = .ok (.aload_n 3, 1) := by decide +kernel
theorem dL_law_1919 : decode cL_law 1919 = .ok (.iconst 0, 1) := by decide +kernel
theorem dL_law_1920 : decode cL_law 1920 = .ok (.laload, 1) := by decide +kernel
theorem dL_law_1921 : decode cL_law 1921 = .ok (.iload 7, 2) := by decide +kernel
theorem dL_law_1923 : decode cL_law 1923 = .ok (.i2l, 1) := by decide +kernel
theorem dL_law_1924 : decode cL_law 1924 = .ok (.lcmp, 1) := by decide +kernel
theorem dL_law_1925 : decode cL_law 1925 = .ok (.ifCond .eq 5, 3) := by decide +kernel
theorem dL_law_1928 : decode cL_law 1928 = .ok (.iconst 0, 1) := by decide +kernel
theorem dL_law_1929 : decode cL_law 1929 = .ok (.ireturn, 1) := by decide +kernel
theorem dL_law_1930 : decode cL_law 1930 = .ok (.goto 378, 3) := by decide +kernel
theorem dL_law_1933 : decode cL_law 1933 = .ok (.aload_n 1, 1) := by decide +kernel
theorem dL_law_1934 : decode cL_law 1934 = .ok (.aload_n 0, 1) := by decide +kernel
theorem dL_law_1935 : decode cL_law 1935 = .ok (.iload 5, 2) := by decide +kernel
theorem dL_law_1937 : decode cL_law 1937 = .ok (.iconst 1, 1) := by decide +kernel
theorem dL_law_1938 : decode cL_law 1938 = .ok (.iadd, 1) := by decide +kernel
theorem dL_law_1939 : decode cL_law 1939 = .ok (.iaload, 1) := by decide +kernel
theorem dL_law_1940 : decode cL_law 1940 = .ok (.aload_n 3, 1) := by decide +kernel
theorem dL_law_1941 : decode cL_law 1941 = .ok (.invokestatic 206, 3) := by decide +kernel
theorem dL_law_1944 : decode cL_law 1944 = .ok (.istore 6, 2) := by decide +kernel
theorem dL_law_1946 : decode cL_law 1946 = .ok (.aload_n 2, 1) := by decide +kernel
theorem dL_law_1947 : decode cL_law 1947 = .ok (.aload_n 0, 1) := by decide +kernel
theorem dL_law_1948 : decode cL_law 1948 = .ok (.iload 5, 2) := by decide +kernel
theorem dL_law_1950 : decode cL_law 1950 = .ok (.iconst 1, 1) := by decide +kernel
theorem dL_law_1951 : decode cL_law 1951 = .ok (.iadd, 1) := by decide +kernel
theorem dL_law_1952 : decode cL_law 1952 = .ok (.iaload, 1) := by decide +kernel
theorem dL_law_1953 : decode cL_law 1953 = .ok (.invokevirtual 208, 3) := by decide +kernel
theorem dL_law_1956 : decode cL_law 1956 = .ok (.istore 7, 2) := by decide +kernel
theorem dL_law_1958 : decode cL_law 1958 = .ok (.aload_n 2, 1) := by decide +kernel
theorem dL_law_1959 : decode cL_law 1959 = .ok (.invokevirtual 130, 3) := by decide +kernel
theorem dL_law_1962 : decode cL_law 1962 = .ok (.iload 6, 2) := by decide +kernel
theorem dL_law_1964 : decode cL_law 1964 = .ok (.if_icmp .eq 5, 3) := by decide +kernel
theorem dL_law_1967 : decode cL_law 1967 = .ok (.iconst 0, 1) := by decide +kernel
theorem dL_law_1968 : decode cL_law 1968 = .ok (.ireturn, 1) := by decide +kernel
theorem dL_law_1969 : decode cL_law 1969 = .ok (.iload 6, 2) := by decide +kernel
theorem dL_law_1971 : decode cL_law 1971 = .ok (.ifCond .ne 15, 3) := by decide +kernel
theorem dL_law_1974 : decode cL_law 1974 = .ok (.aload_n 3, 1) := by decide +kernel
theorem dL_law_1975 : decode cL_law 1975 = .ok (.iconst 0, 1) := by decide +kernel
theorem dL_law_1976 : decode cL_law 1976 = .ok (.laload, 1) := by decide +kernel
theorem dL_law_1977 : decode cL_law 1977 = .ok (.iload 7, 2) := by decide +kernel
theorem dL_law_1979 : decode cL_law 1979 = .ok (.i2l, 1) := by decide +kernel
theorem dL_law_1980 : decode cL_law 1980 = .ok (.lcmp, 1) := by decide +kernel
theorem dL_law_1981 : decode cL_law 1981 = .ok (.ifCond .eq 5, 3) := by decide +kernel
theorem dL_law_1984 : decode cL_law 1984 = .ok (.iconst 0, 1) := by decide +kernel
theorem dL_law_1985 : decode cL_law 1985 = .ok (.ireturn, 1) := by decide +kernel
theorem dL_law_1986 : decode cL_law 1986 = .ok (.goto 322, 3) := by decide +kernel
theorem dL_law_1989 : decode cL_law 1989 = .ok (.aload_n 1, 1) := by decide +kernel
theorem dL_law_1990 : decode cL_law 1990 = .ok (.aload_n 0, 1) := by decide +kernel
theorem dL_law_1991 : decode cL_law 1991 = .ok (.iload 5, 2) := by decide +kernel
theorem dL_law_1993 : decode cL_law 1993 = .ok (.iconst 1, 1) := by decide +kernel
theorem dL_law_1994 : decode cL_law 1994 = .ok (.iadd, 1) := by decide +kernel
theorem dL_law_1995 : decode cL_law 1995 = .ok (.iaload, 1) := by decide +kernel
theorem dL_law_1996 : decode cL_law 1996 = .ok (.i2c, 1) := by decide +kernel
theorem dL_law_1997 : decode cL_law 1997 = .ok (.aload_n 3, 1) := by decide +kernel
theorem dL_law_1998 : decode cL_law 1998 = .ok (.invokestatic 209, 3) := by decide +kernel
theorem dL_law_2001 : decode cL_law 2001 = .ok (.istore 6, 2) := by decide +kernel
theorem dL_law_2003 : decode cL_law 2003 = .ok (.aload_n 2, 1) := by decide +kernel
theorem dL_law_2004 : decode cL_law 2004 = .ok (.aload_n 0, 1) := by decide +kernel
theorem dL_law_2005 : decode cL_law 2005 = .ok (.iload 5, 2) := by decide +kernel
theorem dL_law_2007 : decode cL_law 2007 = .ok (.iconst 1, 1) := by decide +kernel
theorem dL_law_2008 : decode cL_law 2008 = .ok (.iadd, 1) := by decide +kernel
theorem dL_law_2009 : decode cL_law 2009 = .ok (.iaload, 1) := by decide +kernel
theorem dL_law_2010 : decode cL_law 2010 = .ok (.i2c, 1) := by decide +kernel
theorem dL_law_2011 : decode cL_law 2011 = .ok (.invokevirtual 212, 3) := by decide +kernel
theorem dL_law_2014 : decode cL_law 2014 = .ok (.istore 7, 2) := by decide +kernel
theorem dL_law_2016 : decode cL_law 2016 = .ok (.aload_n 2, 1) := by decide +kernel
theorem dL_law_2017 : decode cL_law 2017 = .ok (.invokevirtual 130, 3) := by decide +kernel
theorem dL_law_2020 : decode cL_law 2020 = .ok (.iload 6, 2) := by decide +kernel
theorem dL_law_2022 : decode cL_law 2022 = .ok (.if_icmp .eq 5, 3) := by decide +kernel
theorem dL_law_2025 : decode cL_law 2025 = .ok (.iconst 0, 1) := by decide +kernel
theorem dL_law_2026 : decode cL_law 2026 = .ok (.ireturn, 1) := by decide +kernel
theorem dL_law_2027 : decode cL_law 2027 = .ok (.iload 6, 2) := by decide +kernel
theorem dL_law_2029 : decode cL_law 2029 = .ok (.ifCond .ne 15, 3) := by decide +kernel
theorem dL_law_2032 : decode cL_law 2032 = .ok (.aload_n 3, 1) := by decide +kernel
theorem dL_law_2033 : decode cL_law 2033 = .ok (.iconst 0, 1) := by decide +kernel
theorem dL_law_2034 : decode cL_law 2034 = .ok (.laload, 1) := by decide +kernel
theorem dL_law_2035 : decode cL_law 2035 = .ok (.iload 7, 2) := by decide +kernel
theorem dL_law_2037 : decode cL_law 2037 = .ok (.i2l, 1) := by decide +kernel
theorem dL_law_2038 : decode cL_law 2038 = .ok (.lcmp, 1) := by decide +kernel
theorem dL_law_2039 : decode cL_law 2039 = .ok (.ifCond .eq 5, 3) := by decide +kernel
theorem dL_law_2042 : decode cL_law 2042 = .ok (.iconst 0, 1) := by decide +kernel
theorem dL_law_2043 : decode cL_law 2043 = .ok (.ireturn, 1) := by decide +kernel
theorem dL_law_2044 : decode cL_law 2044 = .ok (.goto 264, 3) := by decide +kernel
theorem dL_law_2047 : decode cL_law 2047 = .ok (.aload_n 1, 1) := by decide +kernel
theorem dL_law_2048 : decode cL_law 2048 = .ok (.aload_n 3, 1) := by decide +kernel
theorem dL_law_2049 : decode cL_law 2049 = .ok (.invokestatic 213, 3) := by decide +kernel
theorem dL_law_2052 : decode cL_law 2052 = .ok (.istore 6, 2) := by decide +kernel
theorem dL_law_2054 : decode cL_law 2054 = .ok (.aload_n 2, 1) := by decide +kernel
theorem dL_law_2055 : decode cL_law 2055 = .ok (.invokevirtual 216, 3) := by decide +kernel
theorem dL_law_2058 : decode cL_law 2058 = .ok (.istore 7, 2) := by decide +kernel
theorem dL_law_2060 : decode cL_law 2060 = .ok (.aload_n 2, 1) := by decide +kernel
theorem dL_law_2061 : decode cL_law 2061 = .ok (.invokevirtual 130, 3) := by decide +kernel
theorem dL_law_2064 : decode cL_law 2064 = .ok (.iload 6, 2) := by decide +kernel
theorem dL_law_2066 : decode cL_law 2066 = .ok (.if_icmp .eq 5, 3) := by decide +kernel
theorem dL_law_2069 : decode cL_law 2069 = .ok (.iconst 0, 1) := by decide +kernel
theorem dL_law_2070 : decode cL_law 2070 = .ok (.ireturn, 1) := by decide +kernel
theorem dL_law_2071 : decode cL_law 2071 = .ok (.iload 6, 2) := by decide +kernel
theorem dL_law_2073 : decode cL_law 2073 = .ok (.ifCond .ne 15, 3) := by decide +kernel
theorem dL_law_2076 : decode cL_law 2076 = .ok (.aload_n 3, 1) := by decide +kernel
theorem dL_law_2077 : decode cL_law 2077 = .ok (.iconst 0, 1) := by decide +kernel
theorem dL_law_2078 : decode cL_law 2078 = .ok (.laload, 1) := by decide +kernel
theorem dL_law_2079 : decode cL_law 2079 = .ok (.iload 7, 2) := by decide +kernel
theorem dL_law_2081 : decode cL_law 2081 = .ok (.i2l, 1) := by decide +kernel
theorem dL_law_2082 : decode cL_law 2082 = .ok (.lcmp, 1) := by decide +kernel
theorem dL_law_2083 : decode cL_law 2083 = .ok (.ifCond .eq 5, 3) := by decide +kernel
theorem dL_law_2086 : decode cL_law 2086 = .ok (.iconst 0, 1) := by decide +kernel
theorem dL_law_2087 : decode cL_law 2087 = .ok (.ireturn, 1) := by decide +kernel
theorem dL_law_2088 : decode cL_law 2088 = .ok (.goto 220, 3) := by decide +kernel
theorem dL_law_2091 : decode cL_law 2091 = .ok (.aload_n 1, 1) := by decide +kernel
theorem dL_law_2092 : decode cL_law 2092 = .ok (.aload_n 3, 1) := by decide +kernel
theorem dL_law_2093 : decode cL_law 2093 = .ok (.invokestatic 217, 3) := by decide +kernel
theorem dL_law_2096 : decode cL_law 2096 = .ok (.istore 6, 2) := by decide +kernel
theorem dL_law_2098 : decode cL_law 2098 = .ok (.aload_n 2, 1) := by decide +kernel
theorem dL_law_2099 : decode cL_law 2099 = .ok (.invokevirtual 219, 3) := by decide +kernel
theorem dL_law_2102 : decode cL_law 2102 = .ok (.istore 7, 2) := by decide +kernel
theorem dL_law_2104 : decode cL_law 2104 = .ok (.aload_n 2, 1) := by decide +kernel
theorem dL_law_2105 : decode cL_law 2105 = .ok (.invokevirtual 130, 3) := by decide +kernel
theorem dL_law_2108 : decode cL_law 2108 = .ok (.iload 6, 2) := by decide +kernel
theorem dL_law_2110 : decode cL_law 2110 = .ok (.if_icmp .eq 5, 3) := by decide +kernel
theorem dL_law_2113 : decode cL_law 2113 = .ok (.iconst 0, 1) := by decide +kernel
theorem dL_law_2114 : decode cL_law 2114 = .ok (.ireturn, 1) := by decide +kernel
theorem dL_law_2115 : decode cL_law 2115 = .ok (.iload 6, 2) := by decide +kernel
theorem dL_law_2117 : decode cL_law 2117 = .ok (.ifCond .ne 15, 3) := by decide +kernel
theorem dL_law_2120 : decode cL_law 2120 = .ok (.aload_n 3, 1) := by decide +kernel
theorem dL_law_2121 : decode cL_law 2121 = .ok (.iconst 0, 1) := by decide +kernel
theorem dL_law_2122 : decode cL_law 2122 = .ok (.laload, 1) := by decide +kernel
theorem dL_law_2123 : decode cL_law 2123 = .ok (.iload 7, 2) := by decide +kernel
theorem dL_law_2125 : decode cL_law 2125 = .ok (.i2l, 1) := by decide +kernel
theorem dL_law_2126 : decode cL_law 2126 = .ok (.lcmp, 1) := by decide +kernel
theorem dL_law_2127 : decode cL_law 2127 = .ok (.ifCond .eq 5, 3) := by decide +kernel
theorem dL_law_2130 : decode cL_law 2130 = .ok (.iconst 0, 1) := by decide +kernel
theorem dL_law_2131 : decode cL_law 2131 = .ok (.ireturn, 1) := by decide +kernel
theorem dL_law_2132 : decode cL_law 2132 = .ok (.goto 176, 3) := by decide +kernel
theorem dL_law_2135 : decode cL_law 2135 = .ok (.aload_n 1, 1) := by decide +kernel
theorem dL_law_2136 : decode cL_law 2136 = .ok (.aload_n 0, 1) := by decide +kernel
theorem dL_law_2137 : decode cL_law 2137 = .ok (.iload 5, 2) := by decide +kernel
theorem dL_law_2139 : decode cL_law 2139 = .ok (.iconst 1, 1) := by decide +kernel
theorem dL_law_2140 : decode cL_law 2140 = .ok (.iadd, 1) := by decide +kernel
theorem dL_law_2141 : decode cL_law 2141 = .ok (.iaload, 1) := by decide +kernel
theorem dL_law_2142 : decode cL_law 2142 = .ok (.ifCond .eq 7, 3) := by decide +kernel
theorem dL_law_2145 : decode cL_law 2145 = .ok (.iconst 1, 1) := by decide +kernel
theorem dL_law_2146 : decode cL_law 2146 = .ok (.goto 4, 3) := by decide +kernel
theorem dL_law_2149 : decode cL_law 2149 = .ok (.iconst 0, 1) := by decide +kernel
theorem dL_law_2150 : decode cL_law 2150 = .ok (.aload_n 3, 1) := by decide +kernel
theorem dL_law_2151 : decode cL_law 2151 = .ok (.invokestatic 220, 3) := by decide +kernel
theorem dL_law_2154 : decode cL_law 2154 = .ok (.istore 6, 2) := by decide +kernel
theorem dL_law_2156 : decode cL_law 2156 = .ok (.aload_n 2, 1) := by decide +kernel
theorem dL_law_2157 : decode cL_law 2157 = .ok (.aload_n 0, 1) := by decide +kernel
theorem dL_law_2158 : decode cL_law 2158 = .ok (.iload 5, 2) := by decide +kernel
theorem dL_law_2160 : decode cL_law 2160 = .ok (.iconst 1, 1) := by decide +kernel
theorem dL_law_2161 : decode cL_law 2161 = .ok (.iadd, 1) := by decide +kernel
theorem dL_law_2162 : decode cL_law 2162 = .ok (.iaload, 1) := by decide +kernel
theorem dL_law_2163 : decode cL_law 2163 = .ok (.ifCond .eq 7, 3) := by decide +kernel
theorem dL_law_2166 : decode cL_law 2166 = .ok (.iconst 1, 1) := by decide +kernel
theorem dL_law_2167 : decode cL_law 2167 = .ok (.goto 4, 3) := by decide +kernel
theorem dL_law_2170 : decode cL_law 2170 = .ok (.iconst 0, 1) := by decide +kernel
theorem dL_law_2171 : decode cL_law 2171 = .ok (.invokevirtual 223, 3) := by decide +kernel
theorem dL_law_2174 : decode cL_law 2174 = .ok (.istore 7, 2) := by decide +kernel
theorem dL_law_2176 : decode cL_law 2176 = .ok (.aload_n 2, 1) := by decide +kernel
theorem dL_law_2177 : decode cL_law 2177 = .ok (.invokevirtual 130, 3) := by decide +kernel
theorem dL_law_2180 : decode cL_law 2180 = .ok (.iload 6, 2) := by decide +kernel
theorem dL_law_2182 : decode cL_law 2182 = .ok (.if_icmp .eq 5, 3) := by decide +kernel
theorem dL_law_2185 : decode cL_law 2185 = .ok (.iconst 0, 1) := by decide +kernel
theorem dL_law_2186 : decode cL_law 2186 = .ok (.ireturn, 1) := by decide +kernel
theorem dL_law_2187 : decode cL_law 2187 = .ok (.iload 6, 2) := by decide +kernel
theorem dL_law_2189 : decode cL_law 2189 = .ok (.ifCond .ne 15, 3) := by decide +kernel
theorem dL_law_2192 : decode cL_law 2192 = .ok (.aload_n 3, 1) := by decide +kernel
theorem dL_law_2193 : decode cL_law 2193 = .ok (.iconst 0, 1) := by decide +kernel
theorem dL_law_2194 : decode cL_law 2194 = .ok (.laload, 1) := by decide +kernel
theorem dL_law_2195 : decode cL_law 2195 = .ok (.iload 7, 2) := by decide +kernel
theorem dL_law_2197 : decode cL_law 2197 = .ok (.i2l, 1) := by decide +kernel
theorem dL_law_2198 : decode cL_law 2198 = .ok (.lcmp, 1) := by decide +kernel
theorem dL_law_2199 : decode cL_law 2199 = .ok (.ifCond .eq 5, 3) := by decide +kernel
theorem dL_law_2202 : decode cL_law 2202 = .ok (.iconst 0, 1) := by decide +kernel
theorem dL_law_2203 : decode cL_law 2203 = .ok (.ireturn, 1) := by decide +kernel
theorem dL_law_2204 : decode cL_law 2204 = .ok (.goto 104, 3) := by decide +kernel
theorem dL_law_2207 : decode cL_law 2207 = .ok (.aload_n 1, 1) := by decide +kernel
theorem dL_law_2208 : decode cL_law 2208 = .ok (.aload_n 3, 1) := by decide +kernel
theorem dL_law_2209 : decode cL_law 2209 = .ok (.invokestatic 224, 3) := by decide +kernel
theorem dL_law_2212 : decode cL_law 2212 = .ok (.istore 6, 2) := by decide +kernel
theorem dL_law_2214 : decode cL_law 2214 = .ok (.aload_n 2, 1) := by decide +kernel
theorem dL_law_2215 : decode cL_law 2215 = .ok (.invokevirtual 226, 3) := by decide +kernel
theorem dL_law_2218 : decode cL_law 2218 = .ok (.istore 7, 2) := by decide +kernel
theorem dL_law_2220 : decode cL_law 2220 = .ok (.aload_n 2, 1) := by decide +kernel
theorem dL_law_2221 : decode cL_law 2221 = .ok (.invokevirtual 130, 3) := by decide +kernel
theorem dL_law_2224 : decode cL_law 2224 = .ok (.iload 6, 2) := by decide +kernel
theorem dL_law_2226 : decode cL_law 2226 = .ok (.if_icmp .eq 5, 3) := by decide +kernel
theorem dL_law_2229 : decode cL_law 2229 = .ok (.iconst 0, 1) := by decide +kernel
theorem dL_law_2230 : decode cL_law 2230 = .ok (.ireturn, 1) := by decide +kernel
theorem dL_law_2231 : decode cL_law 2231 = .ok (.iload 6, 2) := by decide +kernel
theorem dL_law_2233 : decode cL_law 2233 = .ok (.ifCond .ne 15, 3) := by decide +kernel
theorem dL_law_2236 : decode cL_law 2236 = .ok (.aload_n 3, 1) := by decide +kernel
theorem dL_law_2237 : decode cL_law 2237 = .ok (.iconst 0, 1) := by decide +kernel
theorem dL_law_2238 : decode cL_law 2238 = .ok (.laload, 1) := by decide +kernel
theorem dL_law_2239 : decode cL_law 2239 = .ok (.iload 7, 2) := by decide +kernel
theorem dL_law_2241 : decode cL_law 2241 = .ok (.i2l, 1) := by decide +kernel
theorem dL_law_2242 : decode cL_law 2242 = .ok (.lcmp, 1) := by decide +kernel
theorem dL_law_2243 : decode cL_law 2243 = .ok (.ifCond .eq 5, 3) := by decide +kernel
theorem dL_law_2246 : decode cL_law 2246 = .ok (.iconst 0, 1) := by decide +kernel
theorem dL_law_2247 : decode cL_law 2247 = .ok (.ireturn, 1) := by decide +kernel
theorem dL_law_2248 : decode cL_law 2248 = .ok (.goto 60, 3) := by decide +kernel
theorem dL_law_2251 : decode cL_law 2251 = .ok (.aload_n 1, 1) := by decide +kernel
theorem dL_law_2252 : decode cL_law 2252 = .ok (.invokevirtual 227, 3) := by decide +kernel
theorem dL_law_2255 : decode cL_law 2255 = .ok (.aload_n 2, 1) := by decide +kernel
theorem dL_law_2256 : decode cL_law 2256 = .ok (.invokevirtual 230, 3) := by decide +kernel
theorem dL_law_2259 : decode cL_law 2259 = .ok (.if_icmp .eq 49, 3) := by decide +kernel
theorem dL_law_2262 : decode cL_law 2262 = .ok (.iconst 0, 1) := by decide +kernel
theorem dL_law_2263 : decode cL_law 2263 = .ok (.ireturn, 1) := by decide +kernel
theorem dL_law_2264 : decode cL_law 2264 = .ok (.aload_n 1, 1) := by decide +kernel
theorem dL_law_2265 : decode cL_law 2265 = .ok (.aload_n 3, 1) := by decide +kernel
theorem dL_law_2266 : decode cL_law 2266 = .ok (.invokestatic 231, 3) := by decide +kernel
theorem dL_law_2269 : decode cL_law 2269 = .ok (.istore 6, 2) := by decide +kernel
theorem dL_law_2271 : decode cL_law 2271 = .ok (.aload_n 2, 1) := by decide +kernel
theorem dL_law_2272 : decode cL_law 2272 = .ok (.invokevirtual 233, 3) := by decide +kernel
theorem dL_law_2275 : decode cL_law 2275 = .ok (.istore 7, 2) := by decide +kernel
theorem dL_law_2277 : decode cL_law 2277 = .ok (.aload_n 2, 1) := by decide +kernel
theorem dL_law_2278 : decode cL_law 2278 = .ok (.invokevirtual 130, 3) := by decide +kernel
theorem dL_law_2281 : decode cL_law 2281 = .ok (.iload 6, 2) := by decide +kernel
theorem dL_law_2283 : decode cL_law 2283 = .ok (.if_icmp .eq 5, 3) := by decide +kernel
theorem dL_law_2286 : decode cL_law 2286 = .ok (.iconst 0, 1) := by decide +kernel
theorem dL_law_2287 : decode cL_law 2287 = .ok (.ireturn, 1) := by decide +kernel
theorem dL_law_2288 : decode cL_law 2288 = .ok (.iload 6, 2) := by decide +kernel
theorem dL_law_2290 : decode cL_law 2290 = .ok (.ifCond .ne 15, 3) := by decide +kernel
theorem dL_law_2293 : decode cL_law 2293 = .ok (.aload_n 3, 1) := by decide +kernel
theorem dL_law_2294 : decode cL_law 2294 = .ok (.iconst 0, 1) := by decide +kernel
theorem dL_law_2295 : decode cL_law 2295 = .ok (.laload, 1) := by decide +kernel
theorem dL_law_2296 : decode cL_law 2296 = .ok (.iload 7, 2) := by decide +kernel
theorem dL_law_2298 : decode cL_law 2298 = .ok (.i2l, 1) := by decide +kernel
theorem dL_law_2299 : decode cL_law 2299 = .ok (.lcmp, 1) := by decide +kernel
theorem dL_law_2300 : decode cL_law 2300 = .ok (.ifCond .eq 5, 3) := by decide +kernel
theorem dL_law_2303 : decode cL_law 2303 = .ok (.iconst 0, 1) := by decide +kernel
theorem dL_law_2304 : decode cL_law 2304 = .ok (.ireturn, 1) := by decide +kernel
theorem dL_law_2305 : decode cL_law 2305 = .ok (.goto 3, 3) := by decide +kernel
theorem dL_law_2308 : decode cL_law 2308 = .ok (.iinc 5 6, 3) := by decide +kernel
theorem dL_law_2311 : decode cL_law 2311 = .ok (.goto (-2283), 3) := by decide +kernel
theorem dL_law_2314 : decode cL_law 2314 = .ok (.iconst 1, 1) := by decide +kernel
theorem dL_law_2315 : decode cL_law 2315 = .ok (.ireturn, 1) := by decide +kernel
