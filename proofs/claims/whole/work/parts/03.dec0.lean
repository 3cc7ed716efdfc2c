theorem dX0_init_0 : decode cX0_init 0 = .ok (.aload_n 0, 1) := by decide +kernel
theorem dX0_init_1 : decode cX0_init 1 = .ok (.invokespecial 3, 3) := by decide +kernel
theorem dX0_init_4 : decode cX0_init 4 = .ok (.aload_n 0, 1) := by decide +kernel
theorem dX0_init_5 : decode cX0_init 5 = .ok (.bipush 8, 2) := by decide +kernel
theorem dX0_init_7 : decode cX0_init 7 = .ok (.anewarray 9, 3) := by decide +kernel
theorem dX0_init_10 : decode cX0_init 10 = .ok (.putfield 11, 3) := by decide +kernel
theorem dX0_init_13 : decode cX0_init 13 = .ok (.iconst 0, 1) := by decide +kernel
theorem dX0_init_14 : decode cX0_init 14 = .ok (.istore_n 1, 1) := by decide +kernel
theorem dX0_init_15 : decode cX0_init 15 = .ok (.iload_n 1, 1) := by decide +kernel
theorem dX0_init_16 : decode cX0_init 16 = .ok (.aload_n 0, 1) := by decide +kernel
theorem dX0_init_17 : decode cX0_init 17 = .ok (.getfield 11, 3) := by decide +kernel
theorem dX0_init_20 : decode cX0_init 20 = .ok (.arraylength, 1) := by decide +kernel
theorem dX0_init_21 : decode cX0_init 21 = .ok (.if_icmp .ge 22, 3) := by decide +kernel
theorem dX0_init_24 : decode cX0_init 24 = .ok (.aload_n 0, 1) := by decide +kernel
theorem dX0_init_25 : decode cX0_init 25 = .ok (.getfield 11, 3) := by decide +kernel
theorem dX0_init_28 : decode cX0_init 28 = .ok (.iload_n 1, 1) := by decide +kernel
theorem dX0_init_29 : decode cX0_init 29 = .ok (.new 9, 3) := by decide +kernel
theorem dX0_init_32 : decode cX0_init 32 = .ok (.dup, 1) := by decide +kernel
theorem dX0_init_33 : decode cX0_init 33 = .ok (.invokespecial 17, 3) := by decide +kernel
theorem dX0_init_36 : decode cX0_init 36 = .ok (.aastore, 1) := by decide +kernel
theorem dX0_init_37 : decode cX0_init 37 = .ok (.iinc 1 1, 3) := by decide +kernel
theorem dX0_init_40 : decode cX0_init 40 = .ok (.goto (-25), 3) := by decide +kernel
theorem dX0_init_43 : decode cX0_init 43 = .ok (.aload_n 0, 1) := by decide +kernel
theorem dX0_init_44 : decode cX0_init 44 = .ok (.iconst 0, 1) := by decide +kernel
theorem dX0_init_45 : decode cX0_init 45 = .ok (.putfield 18, 3) := by decide +kernel
theorem dX0_init_48 : decode cX0_init 48 = .ok (.aload_n 0, 1) := by decide +kernel
theorem dX0_init_49 : decode cX0_init 49 = .ok (.iconst 0, 1) := by decide +kernel
theorem dX0_init_50 : decode cX0_init 50 = .ok (.putfield 22, 3) := by decide +kernel
theorem dX0_init_53 : decode cX0_init 53 = .ok (.return_, 1) := by decide +kernel
theorem dX0_keep_0 : decode cX0_keep 0 = .ok (.aload_n 0, 1) := by decide +kernel
theorem dX0_keep_1 : decode cX0_keep 1 = .ok (.aload_n 0, 1) := by decide +kernel
theorem dX0_keep_2 : decode cX0_keep 2 = .ok (.getfield 18, 3) := by decide +kernel
theorem dX0_keep_5 : decode cX0_keep 5 = .ok (.invokevirtual 25, 3) := by decide +kernel
theorem dX0_keep_8 : decode cX0_keep 8 = .ok (.astore_n 2, 1) := by decide +kernel
theorem dX0_keep_9 : decode cX0_keep 9 = .ok (.aload_n 2, 1) := by decide +kernel
theorem dX0_keep_10 : decode cX0_keep 10 = .ok (.ifnull 8, 3) := by decide +kernel
theorem dX0_keep_13 : decode cX0_keep 13 = .ok (.aload_n 2, 1) := by decide +kernel
theorem dX0_keep_14 : decode cX0_keep 14 = .ok (.aload_n 1, 1) := by decide +kernel
theorem dX0_keep_15 : decode cX0_keep 15 = .ok (.invokevirtual 29, 3) := by decide +kernel
theorem dX0_keep_18 : decode cX0_keep 18 = .ok (.aload_n 0, 1) := by decide +kernel
theorem dX0_keep_19 : decode cX0_keep 19 = .ok (.aload_n 0, 1) := by decide +kernel
theorem dX0_keep_20 : decode cX0_keep 20 = .ok (.getfield 18, 3) := by decide +kernel
theorem dX0_keep_23 : decode cX0_keep 23 = .ok (.iconst 1, 1) := by decide +kernel
theorem dX0_keep_24 : decode cX0_keep 24 = .ok (.iadd, 1) := by decide +kernel
theorem dX0_keep_25 : decode cX0_keep 25 = .ok (.bipush 8, 2) := by decide +kernel
theorem dX0_keep_27 : decode cX0_keep 27 = .ok (.if_icmp .ge 12, 3) := by decide +kernel
theorem dX0_keep_30 : decode cX0_keep 30 = .ok (.aload_n 0, 1) := by decide +kernel
theorem dX0_keep_31 : decode cX0_keep 31 = .ok (.getfield 18, 3) := by decide +kernel
theorem dX0_keep_34 : decode cX0_keep 34 = .ok (.iconst 1, 1) := by decide +kernel
theorem dX0_keep_35 : decode cX0_keep 35 = .ok (.iadd, 1) := by decide +kernel
theorem dX0_keep_36 : decode cX0_keep 36 = .ok (.goto 4, 3) := by decide +kernel
theorem dX0_keep_39 : decode cX0_keep 39 = .ok (.iconst 0, 1) := by decide +kernel
theorem dX0_keep_40 : decode cX0_keep 40 = .ok (.putfield 18, 3) := by decide +kernel
theorem dX0_keep_43 : decode cX0_keep 43 = .ok (.aload_n 0, 1) := by decide +kernel
theorem dX0_keep_44 : decode cX0_keep 44 = .ok (.aload_n 0, 1) := by decide +kernel
theorem dX0_keep_45 : decode cX0_keep 45 = .ok (.getfield 22, 3) := by decide +kernel
theorem dX0_keep_48 : decode cX0_keep 48 = .ok (.iconst 1, 1) := by decide +kernel
theorem dX0_keep_49 : decode cX0_keep 49 = .ok (.iadd, 1) := by decide +kernel
theorem dX0_keep_50 : decode cX0_keep 50 = .ok (.bipush 8, 2) := by decide +kernel
theorem dX0_keep_52 : decode cX0_keep 52 = .ok (.invokestatic 33, 3) := by decide +kernel
theorem dX0_keep_55 : decode cX0_keep 55 = .ok (.putfield 22, 3) := by decide +kernel
theorem dX0_keep_58 : decode cX0_keep 58 = .ok (.return_, 1) := by decide +kernel
theorem dX0_takeBack_0 : decode cX0_takeBack 0 = .ok (.aload_n 0, 1) := by decide +kernel
theorem dX0_takeBack_1 : decode cX0_takeBack 1 = .ok (.aload_n 0, 1) := by decide +kernel
theorem dX0_takeBack_2 : decode cX0_takeBack 2 = .ok (.getfield 18, 3) := by decide +kernel
theorem dX0_takeBack_5 : decode cX0_takeBack 5 = .ok (.ifCond .le 12, 3) := by decide +kernel
theorem dX0_takeBack_8 : decode cX0_takeBack 8 = .ok (.aload_n 0, 1) := by decide +kernel
theorem dX0_takeBack_9 : decode cX0_takeBack 9 = .ok (.getfield 18, 3) := by decide +kernel
theorem dX0_takeBack_12 : decode cX0_takeBack 12 = .ok (.iconst 1, 1) := by decide +kernel
theorem dX0_takeBack_13 : decode cX0_takeBack 13 = .ok (.isub, 1) := by decide +kernel
theorem dX0_takeBack_14 : decode cX0_takeBack 14 = .ok (.goto 5, 3) := by decide +kernel
theorem dX0_takeBack_17 : decode cX0_takeBack 17 = .ok (.bipush 7, 2) := by decide +kernel
theorem dX0_takeBack_19 : decode cX0_takeBack 19 = .ok (.putfield 18, 3) := by decide +kernel
theorem dX0_takeBack_22 : decode cX0_takeBack 22 = .ok (.aload_n 0, 1) := by decide +kernel
theorem dX0_takeBack_23 : decode cX0_takeBack 23 = .ok (.aload_n 0, 1) := by decide +kernel
theorem dX0_takeBack_24 : decode cX0_takeBack 24 = .ok (.getfield 22, 3) := by decide +kernel
theorem dX0_takeBack_27 : decode cX0_takeBack 27 = .ok (.iconst 1, 1) := by decide +kernel
theorem dX0_takeBack_28 : decode cX0_takeBack 28 = .ok (.isub, 1) := by decide +kernel
theorem dX0_takeBack_29 : decode cX0_takeBack 29 = .ok (.iconst 0, 1) := by decide +kernel
theorem dX0_takeBack_30 : decode cX0_takeBack 30 = .ok (.invokestatic 39, 3) := by decide +kernel
theorem dX0_takeBack_33 : decode cX0_takeBack 33 = .ok (.putfield 22, 3) := by decide +kernel
theorem dX0_takeBack_36 : decode cX0_takeBack 36 = .ok (.aload_n 0, 1) := by decide +kernel
theorem dX0_takeBack_37 : decode cX0_takeBack 37 = .ok (.aload_n 0, 1) := by decide +kernel
theorem dX0_takeBack_38 : decode cX0_takeBack 38 = .ok (.getfield 18, 3) := by decide +kernel
theorem dX0_takeBack_41 : decode cX0_takeBack 41 = .ok (.invokevirtual 25, 3) := by decide +kernel
theorem dX0_takeBack_44 : decode cX0_takeBack 44 = .ok (.astore_n 2, 1) := by decide +kernel
theorem dX0_takeBack_45 : decode cX0_takeBack 45 = .ok (.aload_n 2, 1) := by decide +kernel
theorem dX0_takeBack_46 : decode cX0_takeBack 46 = .ok (.ifnull 8, 3) := by decide +kernel
theorem dX0_takeBack_49 : decode cX0_takeBack 49 = .ok (.aload_n 1, 1) := by decide +kernel
theorem dX0_takeBack_50 : decode cX0_takeBack 50 = .ok (.aload_n 2, 1) := by decide +kernel
theorem dX0_takeBack_51 : decode cX0_takeBack 51 = .ok (.invokevirtual 29, 3) := by decide +kernel
theorem dX0_takeBack_54 : decode cX0_takeBack 54 = .ok (.return_, 1) := by decide +kernel
theorem dX0_pictureAt_0 : decode cX0_pictureAt 0 = .ok (.iload_n 1, 1) := by decide +kernel
theorem dX0_pictureAt_1 : decode cX0_pictureAt 1 = .ok (.ifCond .lt 21, 3) := by decide +kernel
theorem dX0_pictureAt_4 : decode cX0_pictureAt 4 = .ok (.iload_n 1, 1) := by decide +kernel
theorem dX0_pictureAt_5 : decode cX0_pictureAt 5 = .ok (.aload_n 0, 1) := by decide +kernel
theorem dX0_pictureAt_6 : decode cX0_pictureAt 6 = .ok (.getfield 11, 3) := by decide +kernel
theorem dX0_pictureAt_9 : decode cX0_pictureAt 9 = .ok (.arraylength, 1) := by decide +kernel
theorem dX0_pictureAt_10 : decode cX0_pictureAt 10 = .ok (.if_icmp .ge 12, 3) := by decide +kernel
theorem dX0_pictureAt_13 : decode cX0_pictureAt 13 = .ok (.aload_n 0, 1) := by decide +kernel
theorem dX0_pictureAt_14 : decode cX0_pictureAt 14 = .ok (.getfield 11, 3) := by decide +kernel
theorem dX0_pictureAt_17 : decode cX0_pictureAt 17 = .ok (.iload_n 1, 1) := by decide +kernel
theorem dX0_pictureAt_18 : decode cX0_pictureAt 18 = .ok (.aaload, 1) := by decide +kernel
theorem dX0_pictureAt_19 : decode cX0_pictureAt 19 = .ok (.goto 4, 3) := by decide +kernel
theorem dX0_pictureAt_22 : decode cX0_pictureAt 22 = .ok (.aconst_null, 1) := by decide +kernel
theorem dX0_pictureAt_23 : decode cX0_pictureAt 23 = .ok (.areturn, 1) := by decide +kernel
theorem dX1_init_0 : decode cX1_init 0 = .ok (.aload_n 0, 1) := by decide +kernel
theorem dX1_init_1 : decode cX1_init 1 = .ok (.invokespecial 3, 3) := by decide +kernel
theorem dX1_init_4 : decode cX1_init 4 = .ok (.aload_n 0, 1) := by decide +kernel
theorem dX1_init_5 : decode cX1_init 5 = .ok (.bipush 8, 2) := by decide +kernel
theorem dX1_init_7 : decode cX1_init 7 = .ok (.putfield 9, 3) := by decide +kernel
theorem dX1_init_10 : decode cX1_init 10 = .ok (.aload_n 0, 1) := by decide +kernel
theorem dX1_init_11 : decode cX1_init 11 = .ok (.bipush 8, 2) := by decide +kernel
theorem dX1_init_13 : decode cX1_init 13 = .ok (.putfield 15, 3) := by decide +kernel
theorem dX1_init_16 : decode cX1_init 16 = .ok (.aload_n 0, 1) := by decide +kernel
theorem dX1_init_17 : decode cX1_init 17 = .ok (.iconst 4, 1) := by decide +kernel
theorem dX1_init_18 : decode cX1_init 18 = .ok (.putfield 18, 3) := by decide +kernel
theorem dX1_init_21 : decode cX1_init 21 = .ok (.aload_n 0, 1) := by decide +kernel
theorem dX1_init_22 : decode cX1_init 22 = .ok (.iconst 2, 1) := by decide +kernel
theorem dX1_init_23 : decode cX1_init 23 = .ok (.putfield 21, 3) := by decide +kernel
theorem dX1_init_26 : decode cX1_init 26 = .ok (.aload_n 0, 1) := by decide +kernel
theorem dX1_init_27 : decode cX1_init 27 = .ok (.iconst 0, 1) := by decide +kernel
theorem dX1_init_28 : decode cX1_init 28 = .ok (.putfield 24, 3) := by decide +kernel
theorem dX1_init_31 : decode cX1_init 31 = .ok (.aload_n 0, 1) := by decide +kernel
theorem dX1_init_32 : decode cX1_init 32 = .ok (.sipush 256, 3) := by decide +kernel
theorem dX1_init_35 : decode cX1_init 35 = .ok (.newarray .int, 2) := by decide +kernel
theorem dX1_init_37 : decode cX1_init 37 = .ok (.putfield 27, 3) := by decide +kernel
theorem dX1_init_40 : decode cX1_init 40 = .ok (.aload_n 0, 1) := by decide +kernel
theorem dX1_init_41 : decode cX1_init 41 = .ok (.sipush 256, 3) := by decide +kernel
theorem dX1_init_44 : decode cX1_init 44 = .ok (.newarray .int, 2) := by decide +kernel
theorem dX1_init_46 : decode cX1_init 46 = .ok (.putfield 31, 3) := by decide +kernel
theorem dX1_init_49 : decode cX1_init 49 = .ok (.return_, 1) := by decide +kernel
theorem dX1_copy_0 : decode cX1_copy 0 = .ok (.aload_n 0, 1) := by decide +kernel
theorem dX1_copy_1 : decode cX1_copy 1 = .ok (.aload_n 1, 1) := by decide +kernel
theorem dX1_copy_2 : decode cX1_copy 2 = .ok (.getfield 9, 3) := by decide +kernel
theorem dX1_copy_5 : decode cX1_copy 5 = .ok (.putfield 9, 3) := by decide +kernel
theorem dX1_copy_8 : decode cX1_copy 8 = .ok (.aload_n 0, 1) := by decide +kernel
theorem dX1_copy_9 : decode cX1_copy 9 = .ok (.aload_n 1, 1) := by decide +kernel
theorem dX1_copy_10 : decode cX1_copy 10 = .ok (.getfield 15, 3) := by decide +kernel
theorem dX1_copy_13 : decode cX1_copy 13 = .ok (.putfield 15, 3) := by decide +kernel
theorem dX1_copy_16 : decode cX1_copy 16 = .ok (.aload_n 0, 1) := by decide +kernel
theorem dX1_copy_17 : decode cX1_copy 17 = .ok (.aload_n 1, 1) := by decide +kernel
theorem dX1_copy_18 : decode cX1_copy 18 = .ok (.getfield 18, 3) := by decide +kernel
theorem dX1_copy_21 : decode cX1_copy 21 = .ok (.putfield 18, 3) := by decide +kernel
theorem dX1_copy_24 : decode cX1_copy 24 = .ok (.aload_n 0, 1) := by decide +kernel
theorem dX1_copy_25 : decode cX1_copy 25 = .ok (.aload_n 1, 1) := by decide +kernel
theorem dX1_copy_26 : decode cX1_copy 26 = .ok (.getfield 21, 3) := by decide +kernel
theorem dX1_copy_29 : decode cX1_copy 29 = .ok (.putfield 21, 3) := by decide +kernel
theorem dX1_copy_32 : decode cX1_copy 32 = .ok (.aload_n 0, 1) := by decide +kernel
theorem dX1_copy_33 : decode cX1_copy 33 = .ok (.aload_n 1, 1) := by decide +kernel
theorem dX1_copy_34 : decode cX1_copy 34 = .ok (.getfield 24, 3) := by decide +kernel
theorem dX1_copy_37 : decode cX1_copy 37 = .ok (.putfield 24, 3) := by decide +kernel
theorem dX1_copy_40 : decode cX1_copy 40 = .ok (.iconst 0, 1) := by decide +kernel
theorem dX1_copy_41 : decode cX1_copy 41 = .ok (.istore_n 2, 1) := by decide +kernel
theorem dX1_copy_42 : decode cX1_copy 42 = .ok (.iload_n 2, 1) := by decide +kernel
theorem dX1_copy_43 : decode cX1_copy 43 = .ok (.sipush 256, 3) := by decide +kernel
theorem dX1_copy_46 : decode cX1_copy 46 = .ok (.if_icmp .ge 41, 3) := by decide +kernel
theorem dX1_copy_49 : decode cX1_copy 49 = .ok (.aload_n 0, 1) := by decide +kernel
theorem dX1_copy_50 : decode cX1_copy 50 = .ok (.getfield 27, 3) := by decide +kernel
theorem dX1_copy_53 : decode cX1_copy 53 = .ok (.iload_n 2, 1) := by decide +kernel
theorem dX1_copy_54 : decode cX1_copy 54 = .ok (.aload_n 1, 1) := by decide +kernel
theorem dX1_copy_55 : decode cX1_copy 55 = .ok (.getfield 27, 3) := by decide +kernel
theorem dX1_copy_58 : decode cX1_copy 58 = .ok (.iload_n 2, 1) := by decide +kernel
theorem dX1_copy_59 : decode cX1_copy 59 = .ok (.invokestatic 34, 3) := by decide +kernel
theorem dX1_copy_62 : decode cX1_copy 62 = .ok (.invokestatic 38, 3) := by decide +kernel
theorem dX1_copy_65 : decode cX1_copy 65 = .ok (.aload_n 0, 1) := by decide +kernel
theorem dX1_copy_66 : decode cX1_copy 66 = .ok (.getfield 31, 3) := by decide +kernel
theorem dX1_copy_69 : decode cX1_copy 69 = .ok (.iload_n 2, 1) := by decide +kernel
theorem dX1_copy_70 : decode cX1_copy 70 = .ok (.aload_n 1, 1) := by decide +kernel
theorem dX1_copy_71 : decode cX1_copy 71 = .ok (.getfield 31, 3) := by decide +kernel
theorem dX1_copy_74 : decode cX1_copy 74 = .ok (.iload_n 2, 1) := by decide +kernel
theorem dX1_copy_75 : decode cX1_copy 75 = .ok (.invokestatic 34, 3) := by decide +kernel
theorem dX1_copy_78 : decode cX1_copy 78 = .ok (.invokestatic 38, 3) := by decide +kernel
theorem dX1_copy_81 : decode cX1_copy 81 = .ok (.iinc 2 1, 3) := by decide +kernel
theorem dX1_copy_84 : decode cX1_copy 84 = .ok (.goto (-42), 3) := by decide +kernel
theorem dX1_copy_87 : decode cX1_copy 87 = .ok (.return_, 1) := by decide +kernel
theorem dX1_clear_0 : decode cX1_clear 0 = .ok (.aload_n 0, 1) := by decide +kernel
theorem dX1_clear_1 : decode cX1_clear 1 = .ok (.iload_n 1, 1) := by decide +kernel
theorem dX1_clear_2 : decode cX1_clear 2 = .ok (.putfield 9, 3) := by decide +kernel
theorem dX1_clear_5 : decode cX1_clear 5 = .ok (.aload_n 0, 1) := by decide +kernel
theorem dX1_clear_6 : decode cX1_clear 6 = .ok (.iload_n 2, 1) := by decide +kernel
theorem dX1_clear_7 : decode cX1_clear 7 = .ok (.putfield 15, 3) := by decide +kernel
theorem dX1_clear_10 : decode cX1_clear 10 = .ok (.iconst 0, 1) := by decide +kernel
theorem dX1_clear_11 : decode cX1_clear 11 = .ok (.istore_n 3, 1) := by decide +kernel
theorem dX1_clear_12 : decode cX1_clear 12 = .ok (.iload_n 3, 1) := by decide +kernel
theorem dX1_clear_13 : decode cX1_clear 13 = .ok (.sipush 256, 3) := by decide +kernel
theorem dX1_clear_16 : decode cX1_clear 16 = .ok (.if_icmp .ge 27, 3) := by decide +kernel
theorem dX1_clear_19 : decode cX1_clear 19 = .ok (.aload_n 0, 1) := by decide +kernel
theorem dX1_clear_20 : decode cX1_clear 20 = .ok (.getfield 27, 3) := by decide +kernel
theorem dX1_clear_23 : decode cX1_clear 23 = .ok (.iload_n 3, 1) := by decide +kernel
theorem dX1_clear_24 : decode cX1_clear 24 = .ok (.iconst 0, 1) := by decide +kernel
theorem dX1_clear_25 : decode cX1_clear 25 = .ok (.invokestatic 38, 3) := by decide +kernel
theorem dX1_clear_28 : decode cX1_clear 28 = .ok (.aload_n 0, 1) := by decide +kernel
theorem dX1_clear_29 : decode cX1_clear 29 = .ok (.getfield 31, 3) := by decide +kernel
theorem dX1_clear_32 : decode cX1_clear 32 = .ok (.iload_n 3, 1) := by decide +kernel
theorem dX1_clear_33 : decode cX1_clear 33 = .ok (.iconst 0, 1) := by decide +kernel
theorem dX1_clear_34 : decode cX1_clear 34 = .ok (.invokestatic 38, 3) := by decide +kernel
theorem dX1_clear_37 : decode cX1_clear 37 = .ok (.iinc 3 1, 3) := by decide +kernel
theorem dX1_clear_40 : decode cX1_clear 40 = .ok (.goto (-28), 3) := by decide +kernel
theorem dX1_clear_43 : decode cX1_clear 43 = .ok (.return_, 1) := by decide +kernel
theorem dX1_chosen_0 : decode cX1_chosen 0 = .ok (.iload_n 1, 1) := by decide +kernel
theorem dX1_chosen_1 : decode cX1_chosen 1 = .ok (.lookupswitch 37 #[(0, 27), (1, 32)], 27) := by decide +kernel
theorem dX1_chosen_28 : decode cX1_chosen 28 = .ok (.aload_n 0, 1) := by decide +kernel
theorem dX1_chosen_29 : decode cX1_chosen 29 = .ok (.getfield 18, 3) := by decide +kernel
theorem dX1_chosen_32 : decode cX1_chosen 32 = .ok (.ireturn, 1) := by decide +kernel
theorem dX1_chosen_33 : decode cX1_chosen 33 = .ok (.aload_n 0, 1) := by decide +kernel
theorem dX1_chosen_34 : decode cX1_chosen 34 = .ok (.getfield 21, 3) := by decide +kernel
theorem dX1_chosen_37 : decode cX1_chosen 37 = .ok (.ireturn, 1) := by decide +kernel
theorem dX1_chosen_38 : decode cX1_chosen 38 = .ok (.aload_n 0, 1) := by decide +kernel
theorem dX1_chosen_39 : decode cX1_chosen 39 = .ok (.getfield 24, 3) := by decide +kernel
theorem dX1_chosen_42 : decode cX1_chosen 42 = .ok (.ireturn, 1) := by decide +kernel
theorem dX1_choose_0 : decode cX1_choose 0 = .ok (.iload_n 1, 1) := by decide +kernel
theorem dX1_choose_1 : decode cX1_choose 1 = .ok (.lookupswitch 43 #[(0, 27), (1, 35)], 27) := by decide +kernel
theorem dX1_choose_28 : decode cX1_choose 28 = .ok (.aload_n 0, 1) := by decide +kernel
theorem dX1_choose_29 : decode cX1_choose 29 = .ok (.iload_n 2, 1) := by decide +kernel
theorem dX1_choose_30 : decode cX1_choose 30 = .ok (.putfield 18, 3) := by decide +kernel
theorem dX1_choose_33 : decode cX1_choose 33 = .ok (.goto 16, 3) := by decide +kernel
theorem dX1_choose_36 : decode cX1_choose 36 = .ok (.aload_n 0, 1) := by decide +kernel
theorem dX1_choose_37 : decode cX1_choose 37 = .ok (.iload_n 2, 1) := by decide +kernel
theorem dX1_choose_38 : decode cX1_choose 38 = .ok (.putfield 21, 3) := by decide +kernel
theorem dX1_choose_41 : decode cX1_choose 41 = .ok (.goto 8, 3) := by decide +kernel
theorem dX1_choose_44 : decode cX1_choose 44 = .ok (.aload_n 0, 1) := by decide +kernel
theorem dX1_choose_45 : decode cX1_choose 45 = .ok (.iload_n 2, 1) := by decide +kernel
theorem dX1_choose_46 : decode cX1_choose 46 = .ok (.putfield 24, 3) := by decide +kernel
theorem dX1_choose_49 : decode cX1_choose 49 = .ok (.return_, 1) := by decide +kernel
theorem dX1_has_0 : decode cX1_has 0 = .ok (.iload_n 1, 1) := by decide +kernel
theorem dX1_has_1 : decode cX1_has 1 = .ok (.iconst 0, 1) := by decide +kernel
theorem dX1_has_2 : decode cX1_has 2 = .ok (.aload_n 0, 1) := by decide +kernel
theorem dX1_has_3 : decode cX1_has 3 = .ok (.getfield 9, 3) := by decide +kernel
theorem dX1_has_6 : decode cX1_has 6 = .ok (.iconst 1, 1) := by decide +kernel
theorem dX1_has_7 : decode cX1_has 7 = .ok (.isub, 1) := by decide +kernel
theorem dX1_has_8 : decode cX1_has 8 = .ok (.invokestatic 42, 3) := by decide +kernel
theorem dX1_has_11 : decode cX1_has 11 = .ok (.ifCond .eq 21, 3) := by decide +kernel
theorem dX1_has_14 : decode cX1_has 14 = .ok (.iload_n 2, 1) := by decide +kernel
theorem dX1_has_15 : decode cX1_has 15 = .ok (.iconst 0, 1) := by decide +kernel
theorem dX1_has_16 : decode cX1_has 16 = .ok (.aload_n 0, 1) := by decide +kernel
theorem dX1_has_17 : decode cX1_has 17 = .ok (.getfield 15, 3) := by decide +kernel
theorem dX1_has_20 : decode cX1_has 20 = .ok (.iconst 1, 1) := by decide +kernel
theorem dX1_has_21 : decode cX1_has 21 = .ok (.isub, 1) := by decide +kernel
theorem dX1_has_22 : decode cX1_has 22 = .ok (.invokestatic 42, 3) := by decide +kernel
theorem dX1_has_25 : decode cX1_has 25 = .ok (.ifCond .eq 7, 3) := by decide +kernel
theorem dX1_has_28 : decode cX1_has 28 = .ok (.iconst 1, 1) := by decide +kernel
theorem dX1_has_29 : decode cX1_has 29 = .ok (.goto 4, 3) := by decide +kernel
theorem dX1_has_32 : decode cX1_has 32 = .ok (.iconst 0, 1) := by decide +kernel
theorem dX1_has_33 : decode cX1_has 33 = .ok (.ireturn, 1) := by decide +kernel
theorem dX1_indexOf_0 : decode cX1_indexOf 0 = .ok (.iload_n 2, 1) := by decide +kernel
theorem dX1_indexOf_1 : decode cX1_indexOf 1 = .ok (.aload_n 0, 1) := by decide +kernel
theorem dX1_indexOf_2 : decode cX1_indexOf 2 = .ok (.getfield 9, 3) := by decide +kernel
theorem dX1_indexOf_5 : decode cX1_indexOf 5 = .ok (.imul, 1) := by decide +kernel
theorem dX1_indexOf_6 : decode cX1_indexOf 6 = .ok (.iload_n 1, 1) := by decide +kernel
theorem dX1_indexOf_7 : decode cX1_indexOf 7 = .ok (.iadd, 1) := by decide +kernel
theorem dX1_indexOf_8 : decode cX1_indexOf 8 = .ok (.ireturn, 1) := by decide +kernel
theorem dX1_total_0 : decode cX1_total 0 = .ok (.iconst 0, 1) := by decide +kernel
theorem dX1_total_1 : decode cX1_total 1 = .ok (.istore_n 2, 1) := by decide +kernel
theorem dX1_total_2 : decode cX1_total 2 = .ok (.iconst 0, 1) := by decide +kernel
theorem dX1_total_3 : decode cX1_total 3 = .ok (.istore_n 3, 1) := by decide +kernel
theorem dX1_total_4 : decode cX1_total 4 = .ok (.iload_n 3, 1) := by decide +kernel
theorem dX1_total_5 : decode cX1_total 5 = .ok (.aload_n 0, 1) := by decide +kernel
theorem dX1_total_6 : decode cX1_total 6 = .ok (.getfield 9, 3) := by decide +kernel
theorem dX1_total_9 : decode cX1_total 9 = .ok (.aload_n 0, 1) := by decide +kernel
theorem dX1_total_10 : decode cX1_total 10 = .ok (.getfield 15, 3) := by decide +kernel
theorem dX1_total_13 : decode cX1_total 13 = .ok (.imul, 1) := by decide +kernel
theorem dX1_total_14 : decode cX1_total 14 = .ok (.if_icmp .ge 17, 3) := by decide +kernel
theorem dX1_total_17 : decode cX1_total 17 = .ok (.iload_n 2, 1) := by decide +kernel
theorem dX1_total_18 : decode cX1_total 18 = .ok (.aload_n 1, 1) := by decide +kernel
theorem dX1_total_19 : decode cX1_total 19 = .ok (.iload_n 3, 1) := by decide +kernel
theorem dX1_total_20 : decode cX1_total 20 = .ok (.invokestatic 34, 3) := by decide +kernel
theorem dX1_total_23 : decode cX1_total 23 = .ok (.iadd, 1) := by decide +kernel
theorem dX1_total_24 : decode cX1_total 24 = .ok (.istore_n 2, 1) := by decide +kernel
theorem dX1_total_25 : decode cX1_total 25 = .ok (.iinc 3 1, 3) := by decide +kernel
theorem dX1_total_28 : decode cX1_total 28 = .ok (.goto (-24), 3) := by decide +kernel
theorem dX1_total_31 : decode cX1_total 31 = .ok (.iload_n 2, 1) := by decide +kernel
theorem dX1_total_32 : decode cX1_total 32 = .ok (.ireturn, 1) := by decide +kernel
theorem dX1_paint_0 : decode cX1_paint 0 = .ok (.iconst 0, 1) := by decide +kernel
theorem dX1_paint_1 : decode cX1_paint 1 = .ok (.istore 7, 2) := by decide +kernel
theorem dX1_paint_3 : decode cX1_paint 3 = .ok (.iload_n 3, 1) := by decide +kernel
theorem dX1_paint_4 : decode cX1_paint 4 = .ok (.istore 8, 2) := by decide +kernel
theorem dX1_paint_6 : decode cX1_paint 6 = .ok (.iload 8, 2) := by decide +kernel
theorem dX1_paint_8 : decode cX1_paint 8 = .ok (.iload 5, 2) := by decide +kernel
theorem dX1_paint_10 : decode cX1_paint 10 = .ok (.if_icmp .gt 57, 3) := by decide +kernel
theorem dX1_paint_13 : decode cX1_paint 13 = .ok (.iload_n 2, 1) := by decide +kernel
theorem dX1_paint_14 : decode cX1_paint 14 = .ok (.istore 9, 2) := by decide +kernel
theorem dX1_paint_16 : decode cX1_paint 16 = .ok (.iload 9, 2) := by decide +kernel
theorem dX1_paint_18 : decode cX1_paint 18 = .ok (.iload 4, 2) := by decide +kernel
theorem dX1_paint_20 : decode cX1_paint 20 = .ok (.if_icmp .gt 41, 3) := by decide +kernel
theorem dX1_paint_23 : decode cX1_paint 23 = .ok (.aload_n 0, 1) := by decide +kernel
theorem dX1_paint_24 : decode cX1_paint 24 = .ok (.iload 9, 2) := by decide +kernel
theorem dX1_paint_26 : decode cX1_paint 26 = .ok (.iload 8, 2) := by decide +kernel
theorem dX1_paint_28 : decode cX1_paint 28 = .ok (.invokevirtual 46, 3) := by decide +kernel
theorem dX1_paint_31 : decode cX1_paint 31 = .ok (.istore 10, 2) := by decide +kernel
theorem dX1_paint_33 : decode cX1_paint 33 = .ok (.aload_n 1, 1) := by decide +kernel
theorem dX1_paint_34 : decode cX1_paint 34 = .ok (.iload 10, 2) := by decide +kernel
theorem dX1_paint_36 : decode cX1_paint 36 = .ok (.invokestatic 34, 3) := by decide +kernel
theorem dX1_paint_39 : decode cX1_paint 39 = .ok (.iload 6, 2) := by decide +kernel
theorem dX1_paint_41 : decode cX1_paint 41 = .ok (.if_icmp .eq 6, 3) := by decide +kernel
theorem dX1_paint_44 : decode cX1_paint 44 = .ok (.iinc 7 1, 3) := by decide +kernel
theorem dX1_paint_47 : decode cX1_paint 47 = .ok (.aload_n 1, 1) := by decide +kernel
theorem dX1_paint_48 : decode cX1_paint 48 = .ok (.iload 10, 2) := by decide +kernel
theorem dX1_paint_50 : decode cX1_paint 50 = .ok (.iload 6, 2) := by decide +kernel
theorem dX1_paint_52 : decode cX1_paint 52 = .ok (.invokestatic 38, 3) := by decide +kernel
theorem dX1_paint_55 : decode cX1_paint 55 = .ok (.iinc 9 1, 3) := by decide +kernel
theorem dX1_paint_58 : decode cX1_paint 58 = .ok (.goto (-42), 3) := by decide +kernel
theorem dX1_paint_61 : decode cX1_paint 61 = .ok (.iinc 8 1, 3) := by decide +kernel
theorem dX1_paint_64 : decode cX1_paint 64 = .ok (.goto (-58), 3) := by decide +kernel
theorem dX1_paint_67 : decode cX1_paint 67 = .ok (.iload 7, 2) := by decide +kernel
theorem dX1_paint_69 : decode cX1_paint 69 = .ok (.ireturn, 1) := by decide +kernel
theorem dX1_tilesAcross_0 : decode cX1_tilesAcross 0 = .ok (.aload_n 0, 1) := by decide +kernel
theorem dX1_tilesAcross_1 : decode cX1_tilesAcross 1 = .ok (.getfield 9, 3) := by decide +kernel
theorem dX1_tilesAcross_4 : decode cX1_tilesAcross 4 = .ok (.aload_n 0, 1) := by decide +kernel
theorem dX1_tilesAcross_5 : decode cX1_tilesAcross 5 = .ok (.getfield 18, 3) := by decide +kernel
theorem dX1_tilesAcross_8 : decode cX1_tilesAcross 8 = .ok (.iadd, 1) := by decide +kernel
theorem dX1_tilesAcross_9 : decode cX1_tilesAcross 9 = .ok (.iconst 1, 1) := by decide +kernel
theorem dX1_tilesAcross_10 : decode cX1_tilesAcross 10 = .ok (.isub, 1) := by decide +kernel
theorem dX1_tilesAcross_11 : decode cX1_tilesAcross 11 = .ok (.aload_n 0, 1) := by decide +kernel
theorem dX1_tilesAcross_12 : decode cX1_tilesAcross 12 = .ok (.getfield 18, 3) := by decide +kernel
theorem dX1_tilesAcross_15 : decode cX1_tilesAcross 15 = .ok (.invokestatic 50, 3) := by decide +kernel
theorem dX1_tilesAcross_18 : decode cX1_tilesAcross 18 = .ok (.ireturn, 1) := by decide +kernel
theorem dX1_tileTotal_0 : decode cX1_tileTotal 0 = .ok (.aload_n 0, 1) := by decide +kernel
theorem dX1_tileTotal_1 : decode cX1_tileTotal 1 = .ok (.invokevirtual 53, 3) := by decide +kernel
theorem dX1_tileTotal_4 : decode cX1_tileTotal 4 = .ok (.aload_n 0, 1) := by decide +kernel
theorem dX1_tileTotal_5 : decode cX1_tileTotal 5 = .ok (.getfield 15, 3) := by decide +kernel
theorem dX1_tileTotal_8 : decode cX1_tileTotal 8 = .ok (.aload_n 0, 1) := by decide +kernel
theorem dX1_tileTotal_9 : decode cX1_tileTotal 9 = .ok (.getfield 18, 3) := by decide +kernel
theorem dX1_tileTotal_12 : decode cX1_tileTotal 12 = .ok (.iadd, 1) := by decide +kernel
theorem dX1_tileTotal_13 : decode cX1_tileTotal 13 = .ok (.iconst 1, 1) := by decide +kernel
theorem dX1_tileTotal_14 : decode cX1_tileTotal 14 = .ok (.isub, 1) := by decide +kernel
theorem dX1_tileTotal_15 : decode cX1_tileTotal 15 = .ok (.aload_n 0, 1) := by decide +kernel
theorem dX1_tileTotal_16 : decode cX1_tileTotal 16 = .ok (.getfield 18, 3) := by decide +kernel
theorem dX1_tileTotal_19 : decode cX1_tileTotal 19 = .ok (.invokestatic 50, 3) := by decide +kernel
theorem dX1_tileTotal_22 : decode cX1_tileTotal 22 = .ok (.imul, 1) := by decide +kernel
theorem dX1_tileTotal_23 : decode cX1_tileTotal 23 = .ok (.ireturn, 1) := by decide +kernel
theorem dX1_hasTile_0 : decode cX1_hasTile 0 = .ok (.iload_n 1, 1) := by decide +kernel
theorem dX1_hasTile_1 : decode cX1_hasTile 1 = .ok (.iconst 0, 1) := by decide +kernel
theorem dX1_hasTile_2 : decode cX1_hasTile 2 = .ok (.aload_n 0, 1) := by decide +kernel
theorem dX1_hasTile_3 : decode cX1_hasTile 3 = .ok (.invokevirtual 57, 3) := by decide +kernel
theorem dX1_hasTile_6 : decode cX1_hasTile 6 = .ok (.iconst 1, 1) := by decide +kernel
theorem dX1_hasTile_7 : decode cX1_hasTile 7 = .ok (.isub, 1) := by decide +kernel
theorem dX1_hasTile_8 : decode cX1_hasTile 8 = .ok (.invokestatic 42, 3) := by decide +kernel
theorem dX1_hasTile_11 : decode cX1_hasTile 11 = .ok (.ireturn, 1) := by decide +kernel
theorem dX1_tileAt_0 : decode cX1_tileAt 0 = .ok (.iload_n 2, 1) := by decide +kernel
theorem dX1_tileAt_1 : decode cX1_tileAt 1 = .ok (.aload_n 0, 1) := by decide +kernel
theorem dX1_tileAt_2 : decode cX1_tileAt 2 = .ok (.getfield 18, 3) := by decide +kernel
theorem dX1_tileAt_5 : decode cX1_tileAt 5 = .ok (.invokestatic 50, 3) := by decide +kernel
theorem dX1_tileAt_8 : decode cX1_tileAt 8 = .ok (.aload_n 0, 1) := by decide +kernel
theorem dX1_tileAt_9 : decode cX1_tileAt 9 = .ok (.invokevirtual 53, 3) := by decide +kernel
theorem dX1_tileAt_12 : decode cX1_tileAt 12 = .ok (.imul, 1) := by decide +kernel
theorem dX1_tileAt_13 : decode cX1_tileAt 13 = .ok (.iload_n 1, 1) := by decide +kernel
theorem dX1_tileAt_14 : decode cX1_tileAt 14 = .ok (.aload_n 0, 1) := by decide +kernel
theorem dX1_tileAt_15 : decode cX1_tileAt 15 = .ok (.getfield 18, 3) := by decide +kernel
theorem dX1_tileAt_18 : decode cX1_tileAt 18 = .ok (.invokestatic 50, 3) := by decide +kernel
theorem dX1_tileAt_21 : decode cX1_tileAt 21 = .ok (.iadd, 1) := by decide +kernel
theorem dX1_tileAt_22 : decode cX1_tileAt 22 = .ok (.ireturn, 1) := by decide +kernel
theorem dX1_leftOf_0 : decode cX1_leftOf 0 = .ok (.aload_n 0, 1) := by decide +kernel
theorem dX1_leftOf_1 : decode cX1_leftOf 1 = .ok (.invokevirtual 53, 3) := by decide +kernel
theorem dX1_leftOf_4 : decode cX1_leftOf 4 = .ok (.istore_n 2, 1) := by decide +kernel
theorem dX1_leftOf_5 : decode cX1_leftOf 5 = .ok (.iload_n 1, 1) := by decide +kernel
theorem dX1_leftOf_6 : decode cX1_leftOf 6 = .ok (.iload_n 1, 1) := by decide +kernel
theorem dX1_leftOf_7 : decode cX1_leftOf 7 = .ok (.iload_n 2, 1) := by decide +kernel
theorem dX1_leftOf_8 : decode cX1_leftOf 8 = .ok (.invokestatic 50, 3) := by decide +kernel
theorem dX1_leftOf_11 : decode cX1_leftOf 11 = .ok (.iload_n 2, 1) := by decide +kernel
theorem dX1_leftOf_12 : decode cX1_leftOf 12 = .ok (.imul, 1) := by decide +kernel
theorem dX1_leftOf_13 : decode cX1_leftOf 13 = .ok (.isub, 1) := by decide +kernel
theorem dX1_leftOf_14 : decode cX1_leftOf 14 = .ok (.aload_n 0, 1) := by decide +kernel
theorem dX1_leftOf_15 : decode cX1_leftOf 15 = .ok (.getfield 18, 3) := by decide +kernel
theorem dX1_leftOf_18 : decode cX1_leftOf 18 = .ok (.imul, 1) := by decide +kernel
theorem dX1_leftOf_19 : decode cX1_leftOf 19 = .ok (.ireturn, 1) := by decide +kernel
theorem dX1_topOf_0 : decode cX1_topOf 0 = .ok (.iload_n 1, 1) := by decide +kernel
theorem dX1_topOf_1 : decode cX1_topOf 1 = .ok (.aload_n 0, 1) := by decide +kernel
theorem dX1_topOf_2 : decode cX1_topOf 2 = .ok (.invokevirtual 53, 3) := by decide +kernel
theorem dX1_topOf_5 : decode cX1_topOf 5 = .ok (.invokestatic 50, 3) := by decide +kernel
theorem dX1_topOf_8 : decode cX1_topOf 8 = .ok (.aload_n 0, 1) := by decide +kernel
theorem dX1_topOf_9 : decode cX1_topOf 9 = .ok (.getfield 18, 3) := by decide +kernel
theorem dX1_topOf_12 : decode cX1_topOf 12 = .ok (.imul, 1) := by decide +kernel
theorem dX1_topOf_13 : decode cX1_topOf 13 = .ok (.ireturn, 1) := by decide +kernel
theorem dX1_widthOf_0 : decode cX1_widthOf 0 = .ok (.aload_n 0, 1) := by decide +kernel
theorem dX1_widthOf_1 : decode cX1_widthOf 1 = .ok (.getfield 18, 3) := by decide +kernel
theorem dX1_widthOf_4 : decode cX1_widthOf 4 = .ok (.aload_n 0, 1) := by decide +kernel
theorem dX1_widthOf_5 : decode cX1_widthOf 5 = .ok (.getfield 9, 3) := by decide +kernel
theorem dX1_widthOf_8 : decode cX1_widthOf 8 = .ok (.aload_n 0, 1) := by decide +kernel
theorem dX1_widthOf_9 : decode cX1_widthOf 9 = .ok (.iload_n 1, 1) := by decide +kernel
theorem dX1_widthOf_10 : decode cX1_widthOf 10 = .ok (.invokevirtual 60, 3) := by decide +kernel
theorem dX1_widthOf_13 : decode cX1_widthOf 13 = .ok (.isub, 1) := by decide +kernel
theorem dX1_widthOf_14 : decode cX1_widthOf 14 = .ok (.invokestatic 64, 3) := by decide +kernel
theorem dX1_widthOf_17 : decode cX1_widthOf 17 = .ok (.ireturn, 1) := by decide +kernel
theorem dX1_heightOf_0 : decode cX1_heightOf 0 = .ok (.aload_n 0, 1) := by decide +kernel
theorem dX1_heightOf_1 : decode cX1_heightOf 1 = .ok (.getfield 18, 3) := by decide +kernel
theorem dX1_heightOf_4 : decode cX1_heightOf 4 = .ok (.aload_n 0, 1) := by decide +kernel
theorem dX1_heightOf_5 : decode cX1_heightOf 5 = .ok (.getfield 15, 3) := by decide +kernel
theorem dX1_heightOf_8 : decode cX1_heightOf 8 = .ok (.aload_n 0, 1) := by decide +kernel
theorem dX1_heightOf_9 : decode cX1_heightOf 9 = .ok (.iload_n 1, 1) := by decide +kernel
theorem dX1_heightOf_10 : decode cX1_heightOf 10 = .ok (.invokevirtual 69, 3) := by decide +kernel
theorem dX1_heightOf_13 : decode cX1_heightOf 13 = .ok (.isub, 1) := by decide +kernel
theorem dX1_heightOf_14 : decode cX1_heightOf 14 = .ok (.invokestatic 64, 3) := by decide +kernel
theorem dX1_heightOf_17 : decode cX1_heightOf 17 = .ok (.ireturn, 1) := by decide +kernel
theorem dX1_totalIn_0 : decode cX1_totalIn 0 = .ok (.aload_n 0, 1) := by decide +kernel
theorem dX1_totalIn_1 : decode cX1_totalIn 1 = .ok (.iload_n 2, 1) := by decide +kernel
theorem dX1_totalIn_2 : decode cX1_totalIn 2 = .ok (.invokevirtual 60, 3) := by decide +kernel
theorem dX1_totalIn_5 : decode cX1_totalIn 5 = .ok (.istore_n 3, 1) := by decide +kernel
theorem dX1_totalIn_6 : decode cX1_totalIn 6 = .ok (.aload_n 0, 1) := by decide +kernel
theorem dX1_totalIn_7 : decode cX1_totalIn 7 = .ok (.iload_n 2, 1) := by decide +kernel
theorem dX1_totalIn_8 : decode cX1_totalIn 8 = .ok (.invokevirtual 69, 3) := by decide +kernel
theorem dX1_totalIn_11 : decode cX1_totalIn 11 = .ok (.istore 4, 2) := by decide +kernel
theorem dX1_totalIn_13 : decode cX1_totalIn 13 = .ok (.aload_n 0, 1) := by decide +kernel
theorem dX1_totalIn_14 : decode cX1_totalIn 14 = .ok (.aload_n 1, 1) := by decide +kernel
theorem dX1_totalIn_15 : decode cX1_totalIn 15 = .ok (.iload_n 3, 1) := by decide +kernel
theorem dX1_totalIn_16 : decode cX1_totalIn 16 = .ok (.iload 4, 2) := by decide +kernel
theorem dX1_totalIn_18 : decode cX1_totalIn 18 = .ok (.iload_n 3, 1) := by decide +kernel
theorem dX1_totalIn_19 : decode cX1_totalIn 19 = .ok (.aload_n 0, 1) := by decide +kernel
theorem dX1_totalIn_20 : decode cX1_totalIn 20 = .ok (.iload_n 2, 1) := by decide +kernel
theorem dX1_totalIn_21 : decode cX1_totalIn 21 = .ok (.invokevirtual 72, 3) := by decide +kernel
theorem dX1_totalIn_24 : decode cX1_totalIn 24 = .ok (.iadd, 1) := by decide +kernel
theorem dX1_totalIn_25 : decode cX1_totalIn 25 = .ok (.iload 4, 2) := by decide +kernel
theorem dX1_totalIn_27 : decode cX1_totalIn 27 = .ok (.aload_n 0, 1) := by decide +kernel
theorem dX1_totalIn_28 : decode cX1_totalIn 28 = .ok (.iload_n 2, 1) := by decide +kernel
theorem dX1_totalIn_29 : decode cX1_totalIn 29 = .ok (.invokevirtual 75, 3) := by decide +kernel
theorem dX1_totalIn_32 : decode cX1_totalIn 32 = .ok (.iadd, 1) := by decide +kernel
theorem dX1_totalIn_33 : decode cX1_totalIn 33 = .ok (.invokevirtual 78, 3) := by decide +kernel
theorem dX1_totalIn_36 : decode cX1_totalIn 36 = .ok (.ireturn, 1) := by decide +kernel
theorem dX1_totalOf_0 : decode cX1_totalOf 0 = .ok (.iconst 0, 1) := by decide +kernel
theorem dX1_totalOf_1 : decode cX1_totalOf 1 = .ok (.istore 6, 2) := by decide +kernel
theorem dX1_totalOf_3 : decode cX1_totalOf 3 = .ok (.iload_n 3, 1) := by decide +kernel
theorem dX1_totalOf_4 : decode cX1_totalOf 4 = .ok (.istore 7, 2) := by decide +kernel
theorem dX1_totalOf_6 : decode cX1_totalOf 6 = .ok (.iload 7, 2) := by decide +kernel
theorem dX1_totalOf_8 : decode cX1_totalOf 8 = .ok (.iload 5, 2) := by decide +kernel
theorem dX1_totalOf_10 : decode cX1_totalOf 10 = .ok (.if_icmp .ge 42, 3) := by decide +kernel
theorem dX1_totalOf_13 : decode cX1_totalOf 13 = .ok (.iload_n 2, 1) := by decide +kernel
theorem dX1_totalOf_14 : decode cX1_totalOf 14 = .ok (.istore 8, 2) := by decide +kernel
theorem dX1_totalOf_16 : decode cX1_totalOf 16 = .ok (.iload 8, 2) := by decide +kernel
theorem dX1_totalOf_18 : decode cX1_totalOf 18 = .ok (.iload 4, 2) := by decide +kernel
theorem dX1_totalOf_20 : decode cX1_totalOf 20 = .ok (.if_icmp .ge 26, 3) := by decide +kernel
theorem dX1_totalOf_23 : decode cX1_totalOf 23 = .ok (.iload 6, 2) := by decide +kernel
theorem dX1_totalOf_25 : decode cX1_totalOf 25 = .ok (.aload_n 1, 1) := by decide +kernel
theorem dX1_totalOf_26 : decode cX1_totalOf 26 = .ok (.aload_n 0, 1) := by decide +kernel
theorem dX1_totalOf_27 : decode cX1_totalOf 27 = .ok (.iload 8, 2) := by decide +kernel
theorem dX1_totalOf_29 : decode cX1_totalOf 29 = .ok (.iload 7, 2) := by decide +kernel
theorem dX1_totalOf_31 : decode cX1_totalOf 31 = .ok (.invokevirtual 46, 3) := by decide +kernel
theorem dX1_totalOf_34 : decode cX1_totalOf 34 = .ok (.invokestatic 34, 3) := by decide +kernel
theorem dX1_totalOf_37 : decode cX1_totalOf 37 = .ok (.iadd, 1) := by decide +kernel
theorem dX1_totalOf_38 : decode cX1_totalOf 38 = .ok (.istore 6, 2) := by decide +kernel
theorem dX1_totalOf_40 : decode cX1_totalOf 40 = .ok (.iinc 8 1, 3) := by decide +kernel
theorem dX1_totalOf_43 : decode cX1_totalOf 43 = .ok (.goto (-27), 3) := by decide +kernel
theorem dX1_totalOf_46 : decode cX1_totalOf 46 = .ok (.iinc 7 1, 3) := by decide +kernel
theorem dX1_totalOf_49 : decode cX1_totalOf 49 = .ok (.goto (-43), 3) := by decide +kernel
theorem dX1_totalOf_52 : decode cX1_totalOf 52 = .ok (.iload 6, 2) := by decide +kernel
theorem dX1_totalOf_54 : decode cX1_totalOf 54 = .ok (.ireturn, 1) := by decide +kernel
theorem dX1_firstHurt_0 : decode cX1_firstHurt 0 = .ok (.aload_n 0, 1) := by decide +kernel
theorem dX1_firstHurt_1 : decode cX1_firstHurt 1 = .ok (.iload_n 1, 1) := by decide +kernel
theorem dX1_firstHurt_2 : decode cX1_firstHurt 2 = .ok (.invokevirtual 60, 3) := by decide +kernel
theorem dX1_firstHurt_5 : decode cX1_firstHurt 5 = .ok (.istore_n 3, 1) := by decide +kernel
theorem dX1_firstHurt_6 : decode cX1_firstHurt 6 = .ok (.aload_n 0, 1) := by decide +kernel
theorem dX1_firstHurt_7 : decode cX1_firstHurt 7 = .ok (.iload_n 1, 1) := by decide +kernel
theorem dX1_firstHurt_8 : decode cX1_firstHurt 8 = .ok (.invokevirtual 69, 3) := by decide +kernel
theorem dX1_firstHurt_11 : decode cX1_firstHurt 11 = .ok (.istore 4, 2) := by decide +kernel
theorem dX1_firstHurt_13 : decode cX1_firstHurt 13 = .ok (.aload_n 0, 1) := by decide +kernel
theorem dX1_firstHurt_14 : decode cX1_firstHurt 14 = .ok (.iload_n 1, 1) := by decide +kernel
theorem dX1_firstHurt_15 : decode cX1_firstHurt 15 = .ok (.invokevirtual 72, 3) := by decide +kernel
theorem dX1_firstHurt_18 : decode cX1_firstHurt 18 = .ok (.istore 5, 2) := by decide +kernel
theorem dX1_firstHurt_20 : decode cX1_firstHurt 20 = .ok (.aload_n 0, 1) := by decide +kernel
theorem dX1_firstHurt_21 : decode cX1_firstHurt 21 = .ok (.iload_n 1, 1) := by decide +kernel
theorem dX1_firstHurt_22 : decode cX1_firstHurt 22 = .ok (.invokevirtual 75, 3) := by decide +kernel
theorem dX1_firstHurt_25 : decode cX1_firstHurt 25 = .ok (.istore 6, 2) := by decide +kernel
theorem dX1_firstHurt_27 : decode cX1_firstHurt 27 = .ok (.iconst 0, 1) := by decide +kernel
theorem dX1_firstHurt_28 : decode cX1_firstHurt 28 = .ok (.istore 7, 2) := by decide +kernel
theorem dX1_firstHurt_30 : decode cX1_firstHurt 30 = .ok (.iload 7, 2) := by decide +kernel
theorem dX1_firstHurt_32 : decode cX1_firstHurt 32 = .ok (.iload 6, 2) := by decide +kernel
theorem dX1_firstHurt_34 : decode cX1_firstHurt 34 = .ok (.if_icmp .ge 64, 3) := by decide +kernel
theorem dX1_firstHurt_37 : decode cX1_firstHurt 37 = .ok (.iconst 0, 1) := by decide +kernel
theorem dX1_firstHurt_38 : decode cX1_firstHurt 38 = .ok (.istore 8, 2) := by decide +kernel
theorem dX1_firstHurt_40 : decode cX1_firstHurt 40 = .ok (.iload 8, 2) := by decide +kernel
theorem dX1_firstHurt_42 : decode cX1_firstHurt 42 = .ok (.iload 5, 2) := by decide +kernel
theorem dX1_firstHurt_44 : decode cX1_firstHurt 44 = .ok (.if_icmp .ge 48, 3) := by decide +kernel
theorem dX1_firstHurt_47 : decode cX1_firstHurt 47 = .ok (.aload_n 0, 1) := by decide +kernel
theorem dX1_firstHurt_48 : decode cX1_firstHurt 48 = .ok (.iload_n 3, 1) := by decide +kernel
theorem dX1_firstHurt_49 : decode cX1_firstHurt 49 = .ok (.iload 8, 2) := by decide +kernel
theorem dX1_firstHurt_51 : decode cX1_firstHurt 51 = .ok (.iadd, 1) := by decide +kernel
theorem dX1_firstHurt_52 : decode cX1_firstHurt 52 = .ok (.iload 4, 2) := by decide +kernel
theorem dX1_firstHurt_54 : decode cX1_firstHurt 54 = .ok (.iload 7, 2) := by decide +kernel
theorem dX1_firstHurt_56 : decode cX1_firstHurt 56 = .ok (.iadd, 1) := by decide +kernel
theorem dX1_firstHurt_57 : decode cX1_firstHurt 57 = .ok (.invokevirtual 46, 3) := by decide +kernel
theorem dX1_firstHurt_60 : decode cX1_firstHurt 60 = .ok (.istore 9, 2) := by decide +kernel
theorem dX1_firstHurt_62 : decode cX1_firstHurt 62 = .ok (.aload_n 0, 1) := by decide +kernel
theorem dX1_firstHurt_63 : decode cX1_firstHurt 63 = .ok (.getfield 27, 3) := by decide +kernel
theorem dX1_firstHurt_66 : decode cX1_firstHurt 66 = .ok (.iload 9, 2) := by decide +kernel
theorem dX1_firstHurt_68 : decode cX1_firstHurt 68 = .ok (.invokestatic 34, 3) := by decide +kernel
theorem dX1_firstHurt_71 : decode cX1_firstHurt 71 = .ok (.iload_n 2, 1) := by decide +kernel
theorem dX1_firstHurt_72 : decode cX1_firstHurt 72 = .ok (.iadd, 1) := by decide +kernel
theorem dX1_firstHurt_73 : decode cX1_firstHurt 73 = .ok (.iconst 0, 1) := by decide +kernel
theorem dX1_firstHurt_74 : decode cX1_firstHurt 74 = .ok (.sipush 255, 3) := by decide +kernel
theorem dX1_firstHurt_77 : decode cX1_firstHurt 77 = .ok (.invokestatic 42, 3) := by decide +kernel
theorem dX1_firstHurt_80 : decode cX1_firstHurt 80 = .ok (.ifCond .ne 6, 3) := by decide +kernel
theorem dX1_firstHurt_83 : decode cX1_firstHurt 83 = .ok (.iload 9, 2) := by decide +kernel
theorem dX1_firstHurt_85 : decode cX1_firstHurt 85 = .ok (.ireturn, 1) := by decide +kernel
theorem dX1_firstHurt_86 : decode cX1_firstHurt 86 = .ok (.iinc 8 1, 3) := by decide +kernel
theorem dX1_firstHurt_89 : decode cX1_firstHurt 89 = .ok (.goto (-49), 3) := by decide +kernel
theorem dX1_firstHurt_92 : decode cX1_firstHurt 92 = .ok (.iinc 7 1, 3) := by decide +kernel
theorem dX1_firstHurt_95 : decode cX1_firstHurt 95 = .ok (.goto (-65), 3) := by decide +kernel
theorem dX1_firstHurt_98 : decode cX1_firstHurt 98 = .ok (.iconst (-1), 1) := by decide +kernel
theorem dX1_firstHurt_99 : decode cX1_firstHurt 99 = .ok (.ireturn, 1) := by decide +kernel
theorem dX1_add_0 : decode cX1_add 0 = .ok (.aload_n 0, 1) := by decide +kernel
theorem dX1_add_1 : decode cX1_add 1 = .ok (.iload_n 1, 1) := by decide +kernel
theorem dX1_add_2 : decode cX1_add 2 = .ok (.invokevirtual 60, 3) := by decide +kernel
theorem dX1_add_5 : decode cX1_add 5 = .ok (.istore_n 3, 1) := by decide +kernel
theorem dX1_add_6 : decode cX1_add 6 = .ok (.aload_n 0, 1) := by decide +kernel
theorem dX1_add_7 : decode cX1_add 7 = .ok (.iload_n 1, 1) := by decide +kernel
theorem dX1_add_8 : decode cX1_add 8 = .ok (.invokevirtual 69, 3) := by decide +kernel
theorem dX1_add_11 : decode cX1_add 11 = .ok (.istore 4, 2) := by decide +kernel
theorem dX1_add_13 : decode cX1_add 13 = .ok (.aload_n 0, 1) := by decide +kernel
theorem dX1_add_14 : decode cX1_add 14 = .ok (.iload_n 1, 1) := by decide +kernel
theorem dX1_add_15 : decode cX1_add 15 = .ok (.invokevirtual 72, 3) := by decide +kernel
theorem dX1_add_18 : decode cX1_add 18 = .ok (.istore 5, 2) := by decide +kernel
theorem dX1_add_20 : decode cX1_add 20 = .ok (.aload_n 0, 1) := by decide +kernel
theorem dX1_add_21 : decode cX1_add 21 = .ok (.iload_n 1, 1) := by decide +kernel
theorem dX1_add_22 : decode cX1_add 22 = .ok (.invokevirtual 75, 3) := by decide +kernel
theorem dX1_add_25 : decode cX1_add 25 = .ok (.istore 6, 2) := by decide +kernel
theorem dX1_add_27 : decode cX1_add 27 = .ok (.iconst 0, 1) := by decide +kernel
theorem dX1_add_28 : decode cX1_add 28 = .ok (.istore 7, 2) := by decide +kernel
theorem dX1_add_30 : decode cX1_add 30 = .ok (.iload 7, 2) := by decide +kernel
theorem dX1_add_32 : decode cX1_add 32 = .ok (.iload 6, 2) := by decide +kernel
theorem dX1_add_34 : decode cX1_add 34 = .ok (.if_icmp .ge 60, 3) := by decide +kernel
theorem dX1_add_37 : decode cX1_add 37 = .ok (.iconst 0, 1) := by decide +kernel
theorem dX1_add_38 : decode cX1_add 38 = .ok (.istore 8, 2) := by decide +kernel
theorem dX1_add_40 : decode cX1_add 40 = .ok (.iload 8, 2) := by decide +kernel
theorem dX1_add_42 : decode cX1_add 42 = .ok (.iload 5, 2) := by decide +kernel
theorem dX1_add_44 : decode cX1_add 44 = .ok (.if_icmp .ge 44, 3) := by decide +kernel
theorem dX1_add_47 : decode cX1_add 47 = .ok (.aload_n 0, 1) := by decide +kernel
theorem dX1_add_48 : decode cX1_add 48 = .ok (.iload_n 3, 1) := by decide +kernel
theorem dX1_add_49 : decode cX1_add 49 = .ok (.iload 8, 2) := by decide +kernel
theorem dX1_add_51 : decode cX1_add 51 = .ok (.iadd, 1) := by decide +kernel
theorem dX1_add_52 : decode cX1_add 52 = .ok (.iload 4, 2) := by decide +kernel
theorem dX1_add_54 : decode cX1_add 54 = .ok (.iload 7, 2) := by decide +kernel
theorem dX1_add_56 : decode cX1_add 56 = .ok (.iadd, 1) := by decide +kernel
theorem dX1_add_57 : decode cX1_add 57 = .ok (.invokevirtual 46, 3) := by decide +kernel
theorem dX1_add_60 : decode cX1_add 60 = .ok (.istore 9, 2) := by decide +kernel
theorem dX1_add_62 : decode cX1_add 62 = .ok (.aload_n 0, 1) := by decide +kernel
theorem dX1_add_63 : decode cX1_add 63 = .ok (.getfield 27, 3) := by decide +kernel
theorem dX1_add_66 : decode cX1_add 66 = .ok (.iload 9, 2) := by decide +kernel
theorem dX1_add_68 : decode cX1_add 68 = .ok (.aload_n 0, 1) := by decide +kernel
theorem dX1_add_69 : decode cX1_add 69 = .ok (.getfield 27, 3) := by decide +kernel
theorem dX1_add_72 : decode cX1_add 72 = .ok (.iload 9, 2) := by decide +kernel
theorem dX1_add_74 : decode cX1_add 74 = .ok (.invokestatic 34, 3) := by decide +kernel
theorem dX1_add_77 : decode cX1_add 77 = .ok (.iload_n 2, 1) := by decide +kernel
theorem dX1_add_78 : decode cX1_add 78 = .ok (.iadd, 1) := by decide +kernel
theorem dX1_add_79 : decode cX1_add 79 = .ok (.invokestatic 38, 3) := by decide +kernel
theorem dX1_add_82 : decode cX1_add 82 = .ok (.iinc 8 1, 3) := by decide +kernel
theorem dX1_add_85 : decode cX1_add 85 = .ok (.goto (-45), 3) := by decide +kernel
theorem dX1_add_88 : decode cX1_add 88 = .ok (.iinc 7 1, 3) := by decide +kernel
theorem dX1_add_91 : decode cX1_add 91 = .ok (.goto (-61), 3) := by decide +kernel
theorem dX1_add_94 : decode cX1_add 94 = .ok (.return_, 1) := by decide +kernel
theorem dX1_exchange_0 : decode cX1_exchange 0 = .ok (.aload_n 0, 1) := by decide +kernel
theorem dX1_exchange_1 : decode cX1_exchange 1 = .ok (.iload_n 1, 1) := by decide +kernel
theorem dX1_exchange_2 : decode cX1_exchange 2 = .ok (.invokevirtual 72, 3) := by decide +kernel
theorem dX1_exchange_5 : decode cX1_exchange 5 = .ok (.istore_n 3, 1) := by decide +kernel
theorem dX1_exchange_6 : decode cX1_exchange 6 = .ok (.aload_n 0, 1) := by decide +kernel
theorem dX1_exchange_7 : decode cX1_exchange 7 = .ok (.iload_n 1, 1) := by decide +kernel
theorem dX1_exchange_8 : decode cX1_exchange 8 = .ok (.invokevirtual 75, 3) := by decide +kernel
theorem dX1_exchange_11 : decode cX1_exchange 11 = .ok (.istore 4, 2) := by decide +kernel
theorem dX1_exchange_13 : decode cX1_exchange 13 = .ok (.iconst 0, 1) := by decide +kernel
theorem dX1_exchange_14 : decode cX1_exchange 14 = .ok (.istore 5, 2) := by decide +kernel
theorem dX1_exchange_16 : decode cX1_exchange 16 = .ok (.iconst 0, 1) := by decide +kernel
theorem dX1_exchange_17 : decode cX1_exchange 17 = .ok (.istore 6, 2) := by decide +kernel
theorem dX1_exchange_19 : decode cX1_exchange 19 = .ok (.iload 6, 2) := by decide +kernel
theorem dX1_exchange_21 : decode cX1_exchange 21 = .ok (.iload 4, 2) := by decide +kernel
theorem dX1_exchange_23 : decode cX1_exchange 23 = .ok (.if_icmp .ge 125, 3) := by decide +kernel
theorem dX1_exchange_26 : decode cX1_exchange 26 = .ok (.iconst 0, 1) := by decide +kernel
theorem dX1_exchange_27 : decode cX1_exchange 27 = .ok (.istore 7, 2) := by decide +kernel
theorem dX1_exchange_29 : decode cX1_exchange 29 = .ok (.iload 7, 2) := by decide +kernel
theorem dX1_exchange_31 : decode cX1_exchange 31 = .ok (.iload_n 3, 1) := by decide +kernel
theorem dX1_exchange_32 : decode cX1_exchange 32 = .ok (.if_icmp .ge 110, 3) := by decide +kernel
theorem dX1_exchange_35 : decode cX1_exchange 35 = .ok (.aload_n 0, 1) := by decide +kernel
theorem dX1_exchange_36 : decode cX1_exchange 36 = .ok (.aload_n 0, 1) := by decide +kernel
theorem dX1_exchange_37 : decode cX1_exchange 37 = .ok (.iload_n 1, 1) := by decide +kernel
theorem dX1_exchange_38 : decode cX1_exchange 38 = .ok (.invokevirtual 60, 3) := by decide +kernel
theorem dX1_exchange_41 : decode cX1_exchange 41 = .ok (.iload 7, 2) := by decide +kernel
theorem dX1_exchange_43 : decode cX1_exchange 43 = .ok (.iadd, 1) := by decide +kernel
theorem dX1_exchange_44 : decode cX1_exchange 44 = .ok (.aload_n 0, 1) := by decide +kernel
theorem dX1_exchange_45 : decode cX1_exchange 45 = .ok (.iload_n 1, 1) := by decide +kernel
theorem dX1_exchange_46 : decode cX1_exchange 46 = .ok (.invokevirtual 69, 3) := by decide +kernel
theorem dX1_exchange_49 : decode cX1_exchange 49 = .ok (.iload 6, 2) := by decide +kernel
theorem dX1_exchange_51 : decode cX1_exchange 51 = .ok (.iadd, 1) := by decide +kernel
theorem dX1_exchange_52 : decode cX1_exchange 52 = .ok (.invokevirtual 46, 3) := by decide +kernel
theorem dX1_exchange_55 : decode cX1_exchange 55 = .ok (.istore 8, 2) := by decide +kernel
theorem dX1_exchange_57 : decode cX1_exchange 57 = .ok (.aload_n 0, 1) := by decide +kernel
theorem dX1_exchange_58 : decode cX1_exchange 58 = .ok (.aload_n 0, 1) := by decide +kernel
theorem dX1_exchange_59 : decode cX1_exchange 59 = .ok (.iload_n 2, 1) := by decide +kernel
theorem dX1_exchange_60 : decode cX1_exchange 60 = .ok (.invokevirtual 60, 3) := by decide +kernel
theorem dX1_exchange_63 : decode cX1_exchange 63 = .ok (.iload 7, 2) := by decide +kernel
theorem dX1_exchange_65 : decode cX1_exchange 65 = .ok (.iadd, 1) := by decide +kernel
theorem dX1_exchange_66 : decode cX1_exchange 66 = .ok (.aload_n 0, 1) := by decide +kernel
theorem dX1_exchange_67 : decode cX1_exchange 67 = .ok (.iload_n 2, 1) := by decide +kernel
theorem dX1_exchange_68 : decode cX1_exchange 68 = .ok (.invokevirtual 69, 3) := by decide +kernel
theorem dX1_exchange_71 : decode cX1_exchange 71 = .ok (.iload 6, 2) := by decide +kernel
theorem dX1_exchange_73 : decode cX1_exchange 73 = .ok (.iadd, 1) := by decide +kernel
theorem dX1_exchange_74 : decode cX1_exchange 74 = .ok (.invokevirtual 46, 3) := by decide +kernel
theorem dX1_exchange_77 : decode cX1_exchange 77 = .ok (.istore 9, 2) := by decide +kernel
theorem dX1_exchange_79 : decode cX1_exchange 79 = .ok (.aload_n 0, 1) := by decide +kernel
theorem dX1_exchange_80 : decode cX1_exchange 80 = .ok (.getfield 27, 3) := by decide +kernel
theorem dX1_exchange_83 : decode cX1_exchange 83 = .ok (.iload 8, 2) := by decide +kernel
theorem dX1_exchange_85 : decode cX1_exchange 85 = .ok (.invokestatic 34, 3) := by decide +kernel
theorem dX1_exchange_88 : decode cX1_exchange 88 = .ok (.istore 10, 2) := by decide +kernel
theorem dX1_exchange_90 : decode cX1_exchange 90 = .ok (.iload 10, 2) := by decide +kernel
theorem dX1_exchange_92 : decode cX1_exchange 92 = .ok (.aload_n 0, 1) := by decide +kernel
theorem dX1_exchange_93 : decode cX1_exchange 93 = .ok (.getfield 27, 3) := by decide +kernel
theorem dX1_exchange_96 : decode cX1_exchange 96 = .ok (.iload 9, 2) := by decide +kernel
theorem dX1_exchange_98 : decode cX1_exchange 98 = .ok (.invokestatic 34, 3) := by decide +kernel
theorem dX1_exchange_101 : decode cX1_exchange 101 = .ok (.if_icmp .eq 6, 3) := by decide +kernel
theorem dX1_exchange_104 : decode cX1_exchange 104 = .ok (.iinc 5 1, 3) := by decide +kernel
theorem dX1_exchange_107 : decode cX1_exchange 107 = .ok (.aload_n 0, 1) := by decide +kernel
theorem dX1_exchange_108 : decode cX1_exchange 108 = .ok (.getfield 27, 3) := by decide +kernel
theorem dX1_exchange_111 : decode cX1_exchange 111 = .ok (.iload 8, 2) := by decide +kernel
theorem dX1_exchange_113 : decode cX1_exchange 113 = .ok (.aload_n 0, 1) := by decide +kernel
theorem dX1_exchange_114 : decode cX1_exchange 114 = .ok (.getfield 27, 3) := by decide +kernel
theorem dX1_exchange_117 : decode cX1_exchange 117 = .ok (.iload 9, 2) := by decide +kernel
theorem dX1_exchange_119 : decode cX1_exchange 119 = .ok (.invokestatic 34, 3) := by decide +kernel
theorem dX1_exchange_122 : decode cX1_exchange 122 = .ok (.invokestatic 38, 3) := by decide +kernel
theorem dX1_exchange_125 : decode cX1_exchange 125 = .ok (.aload_n 0, 1) := by decide +kernel
theorem dX1_exchange_126 : decode cX1_exchange 126 = .ok (.getfield 27, 3) := by decide +kernel
theorem dX1_exchange_129 : decode cX1_exchange 129 = .ok (.iload 9, 2) := by decide +kernel
theorem dX1_exchange_131 : decode cX1_exchange 131 = .ok (.iload 10, 2) := by decide +kernel
theorem dX1_exchange_133 : decode cX1_exchange 133 = .ok (.invokestatic 38, 3) := by decide +kernel
theorem dX1_exchange_136 : decode cX1_exchange 136 = .ok (.iinc 7 1, 3) := by decide +kernel
theorem dX1_exchange_139 : decode cX1_exchange 139 = .ok (.goto (-110), 3) := by decide +kernel
theorem dX1_exchange_142 : decode cX1_exchange 142 = .ok (.iinc 6 1, 3) := by decide +kernel
theorem dX1_exchange_145 : decode cX1_exchange 145 = .ok (.goto (-126), 3) := by decide +kernel
theorem dX1_exchange_148 : decode cX1_exchange 148 = .ok (.iload 5, 2) := by decide +kernel
theorem dX1_exchange_150 : decode cX1_exchange 150 = .ok (.ireturn, 1) := by decide +kernel
theorem dX2_init_0 : decode cX2_init 0 = .ok (.aload_n 0, 1) := by decide +kernel
theorem dX2_init_1 : decode cX2_init 1 = .ok (.invokespecial 3, 3) := by decide +kernel
theorem dX2_init_4 : decode cX2_init 4 = .ok (.aload_n 0, 1) := by decide +kernel
theorem dX2_init_5 : decode cX2_init 5 = .ok (.iconst (-1), 1) := by decide +kernel
theorem dX2_init_6 : decode cX2_init 6 = .ok (.putfield 9, 3) := by decide +kernel
theorem dX2_init_9 : decode cX2_init 9 = .ok (.aload_n 0, 1) := by decide +kernel
theorem dX2_init_10 : decode cX2_init 10 = .ok (.bipush 64, 2) := by decide +kernel
theorem dX2_init_12 : decode cX2_init 12 = .ok (.newarray .int, 2) := by decide +kernel
theorem dX2_init_14 : decode cX2_init 14 = .ok (.putfield 15, 3) := by decide +kernel
theorem dX2_init_17 : decode cX2_init 17 = .ok (.aload_n 0, 1) := by decide +kernel
theorem dX2_init_18 : decode cX2_init 18 = .ok (.bipush 64, 2) := by decide +kernel
theorem dX2_init_20 : decode cX2_init 20 = .ok (.newarray .int, 2) := by decide +kernel
theorem dX2_init_22 : decode cX2_init 22 = .ok (.putfield 19, 3) := by decide +kernel
theorem dX2_init_25 : decode cX2_init 25 = .ok (.aload_n 0, 1) := by decide +kernel
theorem dX2_init_26 : decode cX2_init 26 = .ok (.bipush 64, 2) := by decide +kernel
theorem dX2_init_28 : decode cX2_init 28 = .ok (.newarray .int, 2) := by decide +kernel
theorem dX2_init_30 : decode cX2_init 30 = .ok (.putfield 22, 3) := by decide +kernel
theorem dX2_init_33 : decode cX2_init 33 = .ok (.return_, 1) := by decide +kernel
theorem dX2_start_0 : decode cX2_start 0 = .ok (.aload_n 0, 1) := by decide +kernel
theorem dX2_start_1 : decode cX2_start 1 = .ok (.iload_n 1, 1) := by decide +kernel
theorem dX2_start_2 : decode cX2_start 2 = .ok (.putfield 9, 3) := by decide +kernel
theorem dX2_start_5 : decode cX2_start 5 = .ok (.iconst 0, 1) := by decide +kernel
theorem dX2_start_6 : decode cX2_start 6 = .ok (.istore_n 2, 1) := by decide +kernel
theorem dX2_start_7 : decode cX2_start 7 = .ok (.iload_n 2, 1) := by decide +kernel
theorem dX2_start_8 : decode cX2_start 8 = .ok (.bipush 64, 2) := by decide +kernel
theorem dX2_start_10 : decode cX2_start 10 = .ok (.if_icmp .ge 18, 3) := by decide +kernel
theorem dX2_start_13 : decode cX2_start 13 = .ok (.aload_n 0, 1) := by decide +kernel
theorem dX2_start_14 : decode cX2_start 14 = .ok (.getfield 15, 3) := by decide +kernel
theorem dX2_start_17 : decode cX2_start 17 = .ok (.iload_n 2, 1) := by decide +kernel
theorem dX2_start_18 : decode cX2_start 18 = .ok (.iconst 0, 1) := by decide +kernel
theorem dX2_start_19 : decode cX2_start 19 = .ok (.invokestatic 25, 3) := by decide +kernel
theorem dX2_start_22 : decode cX2_start 22 = .ok (.iinc 2 1, 3) := by decide +kernel
theorem dX2_start_25 : decode cX2_start 25 = .ok (.goto (-18), 3) := by decide +kernel
theorem dX2_start_28 : decode cX2_start 28 = .ok (.return_, 1) := by decide +kernel
theorem dX2_nextTile_0 : decode cX2_nextTile 0 = .ok (.iconst (-1), 1) := by decide +kernel
theorem dX2_nextTile_1 : decode cX2_nextTile 1 = .ok (.istore_n 2, 1) := by decide +kernel
theorem dX2_nextTile_2 : decode cX2_nextTile 2 = .ok (.iconst 0, 1) := by decide +kernel
theorem dX2_nextTile_3 : decode cX2_nextTile 3 = .ok (.istore_n 3, 1) := by decide +kernel
theorem dX2_nextTile_4 : decode cX2_nextTile 4 = .ok (.iconst 0, 1) := by decide +kernel
theorem dX2_nextTile_5 : decode cX2_nextTile 5 = .ok (.istore 4, 2) := by decide +kernel
theorem dX2_nextTile_7 : decode cX2_nextTile 7 = .ok (.iload 4, 2) := by decide +kernel
theorem dX2_nextTile_9 : decode cX2_nextTile 9 = .ok (.aload_n 0, 1) := by decide +kernel
theorem dX2_nextTile_10 : decode cX2_nextTile 10 = .ok (.getfield 9, 3) := by decide +kernel
theorem dX2_nextTile_13 : decode cX2_nextTile 13 = .ok (.if_icmp .ge 74, 3) := by decide +kernel
theorem dX2_nextTile_16 : decode cX2_nextTile 16 = .ok (.aload_n 0, 1) := by decide +kernel
theorem dX2_nextTile_17 : decode cX2_nextTile 17 = .ok (.getfield 15, 3) := by decide +kernel
theorem dX2_nextTile_20 : decode cX2_nextTile 20 = .ok (.iload 4, 2) := by decide +kernel
theorem dX2_nextTile_22 : decode cX2_nextTile 22 = .ok (.invokestatic 29, 3) := by decide +kernel
theorem dX2_nextTile_25 : decode cX2_nextTile 25 = .ok (.bipush 9, 2) := by decide +kernel
theorem dX2_nextTile_27 : decode cX2_nextTile 27 = .ok (.if_icmp .ge 20, 3) := by decide +kernel
theorem dX2_nextTile_30 : decode cX2_nextTile 30 = .ok (.aload_n 0, 1) := by decide +kernel
theorem dX2_nextTile_31 : decode cX2_nextTile 31 = .ok (.getfield 22, 3) := by decide +kernel
theorem dX2_nextTile_34 : decode cX2_nextTile 34 = .ok (.iload 4, 2) := by decide +kernel
theorem dX2_nextTile_36 : decode cX2_nextTile 36 = .ok (.invokestatic 29, 3) := by decide +kernel
theorem dX2_nextTile_39 : decode cX2_nextTile 39 = .ok (.iload_n 1, 1) := by decide +kernel
theorem dX2_nextTile_40 : decode cX2_nextTile 40 = .ok (.if_icmp .gt 7, 3) := by decide +kernel
theorem dX2_nextTile_43 : decode cX2_nextTile 43 = .ok (.iconst 1, 1) := by decide +kernel
theorem dX2_nextTile_44 : decode cX2_nextTile 44 = .ok (.goto 4, 3) := by decide +kernel
theorem dX2_nextTile_47 : decode cX2_nextTile 47 = .ok (.iconst 0, 1) := by decide +kernel
theorem dX2_nextTile_48 : decode cX2_nextTile 48 = .ok (.istore 5, 2) := by decide +kernel
theorem dX2_nextTile_50 : decode cX2_nextTile 50 = .ok (.iload 5, 2) := by decide +kernel
theorem dX2_nextTile_52 : decode cX2_nextTile 52 = .ok (.ifCond .eq 29, 3) := by decide +kernel
theorem dX2_nextTile_55 : decode cX2_nextTile 55 = .ok (.aload_n 0, 1) := by decide +kernel
theorem dX2_nextTile_56 : decode cX2_nextTile 56 = .ok (.getfield 19, 3) := by decide +kernel
theorem dX2_nextTile_59 : decode cX2_nextTile 59 = .ok (.iload 4, 2) := by decide +kernel
theorem dX2_nextTile_61 : decode cX2_nextTile 61 = .ok (.invokestatic 29, 3) := by decide +kernel
theorem dX2_nextTile_64 : decode cX2_nextTile 64 = .ok (.iload_n 3, 1) := by decide +kernel
theorem dX2_nextTile_65 : decode cX2_nextTile 65 = .ok (.if_icmp .le 16, 3) := by decide +kernel
theorem dX2_nextTile_68 : decode cX2_nextTile 68 = .ok (.iload 4, 2) := by decide +kernel
theorem dX2_nextTile_70 : decode cX2_nextTile 70 = .ok (.istore_n 2, 1) := by decide +kernel
theorem dX2_nextTile_71 : decode cX2_nextTile 71 = .ok (.aload_n 0, 1) := by decide +kernel
theorem dX2_nextTile_72 : decode cX2_nextTile 72 = .ok (.getfield 19, 3) := by decide +kernel
theorem dX2_nextTile_75 : decode cX2_nextTile 75 = .ok (.iload 4, 2) := by decide +kernel
theorem dX2_nextTile_77 : decode cX2_nextTile 77 = .ok (.invokestatic 29, 3) := by decide +kernel
theorem dX2_nextTile_80 : decode cX2_nextTile 80 = .ok (.istore_n 3, 1) := by decide +kernel
theorem dX2_nextTile_81 : decode cX2_nextTile 81 = .ok (.iinc 4 1, 3) := by decide +kernel
theorem dX2_nextTile_84 : decode cX2_nextTile 84 = .ok (.goto (-77), 3) := by decide +kernel
theorem dX2_nextTile_87 : decode cX2_nextTile 87 = .ok (.iload_n 2, 1) := by decide +kernel
theorem dX2_nextTile_88 : decode cX2_nextTile 88 = .ok (.ireturn, 1) := by decide +kernel
theorem dX3_init_0 : decode cX3_init 0 = .ok (.aload_n 0, 1) := by decide +kernel
theorem dX3_init_1 : decode cX3_init 1 = .ok (.invokespecial 3, 3) := by decide +kernel
theorem dX3_init_4 : decode cX3_init 4 = .ok (.aload_n 0, 1) := by decide +kernel
theorem dX3_init_5 : decode cX3_init 5 = .ok (.bipush 60, 2) := by decide +kernel
theorem dX3_init_7 : decode cX3_init 7 = .ok (.newarray .char, 2) := by decide +kernel
theorem dX3_init_9 : decode cX3_init 9 = .ok (.putfield 9, 3) := by decide +kernel
theorem dX3_init_12 : decode cX3_init 12 = .ok (.aload_n 0, 1) := by decide +kernel
theorem dX3_init_13 : decode cX3_init 13 = .ok (.iconst 0, 1) := by decide +kernel
theorem dX3_init_14 : decode cX3_init 14 = .ok (.putfield 15, 3) := by decide +kernel
theorem dX3_init_17 : decode cX3_init 17 = .ok (.aload_n 0, 1) := by decide +kernel
theorem dX3_init_18 : decode cX3_init 18 = .ok (.bipush 20, 2) := by decide +kernel
theorem dX3_init_20 : decode cX3_init 20 = .ok (.newarray .int, 2) := by decide +kernel
theorem dX3_init_22 : decode cX3_init 22 = .ok (.putfield 19, 3) := by decide +kernel
theorem dX3_init_25 : decode cX3_init 25 = .ok (.aload_n 0, 1) := by decide +kernel
theorem dX3_init_26 : decode cX3_init 26 = .ok (.iconst 0, 1) := by decide +kernel
theorem dX3_init_27 : decode cX3_init 27 = .ok (.putfield 23, 3) := by decide +kernel
theorem dX3_init_30 : decode cX3_init 30 = .ok (.return_, 1) := by decide +kernel
theorem dX3_append_0 : decode cX3_append 0 = .ok (.aload_n 0, 1) := by decide +kernel
theorem dX3_append_1 : decode cX3_append 1 = .ok (.getfield 15, 3) := by decide +kernel
theorem dX3_append_4 : decode cX3_append 4 = .ok (.ifCond .lt 35, 3) := by decide +kernel
theorem dX3_append_7 : decode cX3_append 7 = .ok (.aload_n 0, 1) := by decide +kernel
theorem dX3_append_8 : decode cX3_append 8 = .ok (.getfield 15, 3) := by decide +kernel
theorem dX3_append_11 : decode cX3_append 11 = .ok (.aload_n 0, 1) := by decide +kernel
theorem dX3_append_12 : decode cX3_append 12 = .ok (.getfield 9, 3) := by decide +kernel
theorem dX3_append_15 : decode cX3_append 15 = .ok (.arraylength, 1) := by decide +kernel
theorem dX3_append_16 : decode cX3_append 16 = .ok (.if_icmp .ge 23, 3) := by decide +kernel
theorem dX3_append_19 : decode cX3_append 19 = .ok (.aload_n 0, 1) := by decide +kernel
theorem dX3_append_20 : decode cX3_append 20 = .ok (.getfield 9, 3) := by decide +kernel
theorem dX3_append_23 : decode cX3_append 23 = .ok (.aload_n 0, 1) := by decide +kernel
theorem dX3_append_24 : decode cX3_append 24 = .ok (.getfield 15, 3) := by decide +kernel
theorem dX3_append_27 : decode cX3_append 27 = .ok (.iload_n 1, 1) := by decide +kernel
theorem dX3_append_28 : decode cX3_append 28 = .ok (.castore, 1) := by decide +kernel
theorem dX3_append_29 : decode cX3_append 29 = .ok (.aload_n 0, 1) := by decide +kernel
theorem dX3_append_30 : decode cX3_append 30 = .ok (.dup, 1) := by decide +kernel
theorem dX3_append_31 : decode cX3_append 31 = .ok (.getfield 15, 3) := by decide +kernel
theorem dX3_append_34 : decode cX3_append 34 = .ok (.iconst 1, 1) := by decide +kernel
theorem dX3_append_35 : decode cX3_append 35 = .ok (.iadd, 1) := by decide +kernel
theorem dX3_append_36 : decode cX3_append 36 = .ok (.putfield 15, 3) := by decide +kernel
theorem dX3_append_39 : decode cX3_append 39 = .ok (.return_, 1) := by decide +kernel
theorem dX3_signAt_0 : decode cX3_signAt 0 = .ok (.iload_n 1, 1) := by decide +kernel
theorem dX3_signAt_1 : decode cX3_signAt 1 = .ok (.ifCond .lt 29, 3) := by decide +kernel
theorem dX3_signAt_4 : decode cX3_signAt 4 = .ok (.iload_n 1, 1) := by decide +kernel
theorem dX3_signAt_5 : decode cX3_signAt 5 = .ok (.aload_n 0, 1) := by decide +kernel
theorem dX3_signAt_6 : decode cX3_signAt 6 = .ok (.getfield 15, 3) := by decide +kernel
theorem dX3_signAt_9 : decode cX3_signAt 9 = .ok (.if_icmp .ge 21, 3) := by decide +kernel
theorem dX3_signAt_12 : decode cX3_signAt 12 = .ok (.iload_n 1, 1) := by decide +kernel
theorem dX3_signAt_13 : decode cX3_signAt 13 = .ok (.aload_n 0, 1) := by decide +kernel
theorem dX3_signAt_14 : decode cX3_signAt 14 = .ok (.getfield 9, 3) := by decide +kernel
theorem dX3_signAt_17 : decode cX3_signAt 17 = .ok (.arraylength, 1) := by decide +kernel
theorem dX3_signAt_18 : decode cX3_signAt 18 = .ok (.if_icmp .ge 12, 3) := by decide +kernel
theorem dX3_signAt_21 : decode cX3_signAt 21 = .ok (.aload_n 0, 1) := by decide +kernel
theorem dX3_signAt_22 : decode cX3_signAt 22 = .ok (.getfield 9, 3) := by decide +kernel
theorem dX3_signAt_25 : decode cX3_signAt 25 = .ok (.iload_n 1, 1) := by decide +kernel
theorem dX3_signAt_26 : decode cX3_signAt 26 = .ok (.caload, 1) := by decide +kernel
theorem dX3_signAt_27 : decode cX3_signAt 27 = .ok (.goto 4, 3) := by decide +kernel
theorem dX3_signAt_30 : decode cX3_signAt 30 = .ok (.iconst (-1), 1) := by decide +kernel
theorem dX3_signAt_31 : decode cX3_signAt 31 = .ok (.ireturn, 1) := by decide +kernel
theorem dX3_faultOffset_0 : decode cX3_faultOffset 0 = .ok (.aload_n 0, 1) := by decide +kernel
theorem dX3_faultOffset_1 : decode cX3_faultOffset 1 = .ok (.iconst 0, 1) := by decide +kernel
theorem dX3_faultOffset_2 : decode cX3_faultOffset 2 = .ok (.putfield 23, 3) := by decide +kernel
theorem dX3_faultOffset_5 : decode cX3_faultOffset 5 = .ok (.iconst 0, 1) := by decide +kernel
theorem dX3_faultOffset_6 : decode cX3_faultOffset 6 = .ok (.istore_n 1, 1) := by decide +kernel
theorem dX3_faultOffset_7 : decode cX3_faultOffset 7 = .ok (.iconst 0, 1) := by decide +kernel
theorem dX3_faultOffset_8 : decode cX3_faultOffset 8 = .ok (.istore_n 2, 1) := by decide +kernel
theorem dX3_faultOffset_9 : decode cX3_faultOffset 9 = .ok (.iload_n 2, 1) := by decide +kernel
theorem dX3_faultOffset_10 : decode cX3_faultOffset 10 = .ok (.bipush 60, 2) := by decide +kernel
theorem dX3_faultOffset_12 : decode cX3_faultOffset 12 = .ok (.if_icmp .ge 98, 3) := by decide +kernel
theorem dX3_faultOffset_15 : decode cX3_faultOffset 15 = .ok (.aload_n 0, 1) := by decide +kernel
theorem dX3_faultOffset_16 : decode cX3_faultOffset 16 = .ok (.getfield 19, 3) := by decide +kernel
theorem dX3_faultOffset_19 : decode cX3_faultOffset 19 = .ok (.iload_n 2, 1) := by decide +kernel
theorem dX3_faultOffset_20 : decode cX3_faultOffset 20 = .ok (.iload_n 1, 1) := by decide +kernel
theorem dX3_faultOffset_21 : decode cX3_faultOffset 21 = .ok (.invokestatic 26, 3) := by decide +kernel
theorem dX3_faultOffset_24 : decode cX3_faultOffset 24 = .ok (.aload_n 0, 1) := by decide +kernel
theorem dX3_faultOffset_25 : decode cX3_faultOffset 25 = .ok (.iload_n 1, 1) := by decide +kernel
theorem dX3_faultOffset_26 : decode cX3_faultOffset 26 = .ok (.invokevirtual 30, 3) := by decide +kernel
theorem dX3_faultOffset_29 : decode cX3_faultOffset 29 = .ok (.invokestatic 34, 3) := by decide +kernel
theorem dX3_faultOffset_32 : decode cX3_faultOffset 32 = .ok (.astore_n 3, 1) := by decide +kernel
theorem dX3_faultOffset_33 : decode cX3_faultOffset 33 = .ok (.aload_n 3, 1) := by decide +kernel
theorem dX3_faultOffset_34 : decode cX3_faultOffset 34 = .ok (.invokevirtual 38, 3) := by decide +kernel
theorem dX3_faultOffset_37 : decode cX3_faultOffset 37 = .ok (.ifCond .eq 5, 3) := by decide +kernel
theorem dX3_faultOffset_40 : decode cX3_faultOffset 40 = .ok (.iload_n 1, 1) := by decide +kernel
theorem dX3_faultOffset_41 : decode cX3_faultOffset 41 = .ok (.ireturn, 1) := by decide +kernel
theorem dX3_faultOffset_42 : decode cX3_faultOffset 42 = .ok (.iload_n 1, 1) := by decide +kernel
theorem dX3_faultOffset_43 : decode cX3_faultOffset 43 = .ok (.iconst 1, 1) := by decide +kernel
theorem dX3_faultOffset_44 : decode cX3_faultOffset 44 = .ok (.iadd, 1) := by decide +kernel
theorem dX3_faultOffset_45 : decode cX3_faultOffset 45 = .ok (.aload_n 3, 1) := by decide +kernel
theorem dX3_faultOffset_46 : decode cX3_faultOffset 46 = .ok (.invokevirtual 44, 3) := by decide +kernel
theorem dX3_faultOffset_49 : decode cX3_faultOffset 49 = .ok (.iadd, 1) := by decide +kernel
theorem dX3_faultOffset_50 : decode cX3_faultOffset 50 = .ok (.istore 4, 2) := by decide +kernel
theorem dX3_faultOffset_52 : decode cX3_faultOffset 52 = .ok (.aload_n 0, 1) := by decide +kernel
theorem dX3_faultOffset_53 : decode cX3_faultOffset 53 = .ok (.aload_n 3, 1) := by decide +kernel
theorem dX3_faultOffset_54 : decode cX3_faultOffset 54 = .ok (.iload_n 1, 1) := by decide +kernel
theorem dX3_faultOffset_55 : decode cX3_faultOffset 55 = .ok (.iconst 1, 1) := by decide +kernel
theorem dX3_faultOffset_56 : decode cX3_faultOffset 56 = .ok (.iadd, 1) := by decide +kernel
theorem dX3_faultOffset_57 : decode cX3_faultOffset 57 = .ok (.invokevirtual 47, 3) := by decide +kernel
theorem dX3_faultOffset_60 : decode cX3_faultOffset 60 = .ok (.istore_n 1, 1) := by decide +kernel
theorem dX3_faultOffset_61 : decode cX3_faultOffset 61 = .ok (.iload_n 1, 1) := by decide +kernel
theorem dX3_faultOffset_62 : decode cX3_faultOffset 62 = .ok (.iload 4, 2) := by decide +kernel
theorem dX3_faultOffset_64 : decode cX3_faultOffset 64 = .ok (.if_icmp .ge 5, 3) := by decide +kernel
theorem dX3_faultOffset_67 : decode cX3_faultOffset 67 = .ok (.iload_n 1, 1) := by decide +kernel
theorem dX3_faultOffset_68 : decode cX3_faultOffset 68 = .ok (.ireturn, 1) := by decide +kernel
theorem dX3_faultOffset_69 : decode cX3_faultOffset 69 = .ok (.aload_n 0, 1) := by decide +kernel
theorem dX3_faultOffset_70 : decode cX3_faultOffset 70 = .ok (.dup, 1) := by decide +kernel
theorem dX3_faultOffset_71 : decode cX3_faultOffset 71 = .ok (.getfield 23, 3) := by decide +kernel
theorem dX3_faultOffset_74 : decode cX3_faultOffset 74 = .ok (.iconst 1, 1) := by decide +kernel
theorem dX3_faultOffset_75 : decode cX3_faultOffset 75 = .ok (.iadd, 1) := by decide +kernel
theorem dX3_faultOffset_76 : decode cX3_faultOffset 76 = .ok (.putfield 23, 3) := by decide +kernel
theorem dX3_faultOffset_79 : decode cX3_faultOffset 79 = .ok (.iload_n 1, 1) := by decide +kernel
theorem dX3_faultOffset_80 : decode cX3_faultOffset 80 = .ok (.aload_n 0, 1) := by decide +kernel
theorem dX3_faultOffset_81 : decode cX3_faultOffset 81 = .ok (.getfield 15, 3) := by decide +kernel
theorem dX3_faultOffset_84 : decode cX3_faultOffset 84 = .ok (.if_icmp .lt 5, 3) := by decide +kernel
theorem dX3_faultOffset_87 : decode cX3_faultOffset 87 = .ok (.iconst (-1), 1) := by decide +kernel
theorem dX3_faultOffset_88 : decode cX3_faultOffset 88 = .ok (.ireturn, 1) := by decide +kernel
theorem dX3_faultOffset_89 : decode cX3_faultOffset 89 = .ok (.aload_n 0, 1) := by decide +kernel
theorem dX3_faultOffset_90 : decode cX3_faultOffset 90 = .ok (.iload_n 1, 1) := by decide +kernel
theorem dX3_faultOffset_91 : decode cX3_faultOffset 91 = .ok (.invokevirtual 30, 3) := by decide +kernel
theorem dX3_faultOffset_94 : decode cX3_faultOffset 94 = .ok (.bipush 59, 2) := by decide +kernel
theorem dX3_faultOffset_96 : decode cX3_faultOffset 96 = .ok (.if_icmp .eq 5, 3) := by decide +kernel
theorem dX3_faultOffset_99 : decode cX3_faultOffset 99 = .ok (.iload_n 1, 1) := by decide +kernel
theorem dX3_faultOffset_100 : decode cX3_faultOffset 100 = .ok (.ireturn, 1) := by decide +kernel
theorem dX3_faultOffset_101 : decode cX3_faultOffset 101 = .ok (.iinc 1 1, 3) := by decide +kernel
theorem dX3_faultOffset_104 : decode cX3_faultOffset 104 = .ok (.iinc 2 1, 3) := by decide +kernel
theorem dX3_faultOffset_107 : decode cX3_faultOffset 107 = .ok (.goto (-98), 3) := by decide +kernel
theorem dX3_faultOffset_110 : decode cX3_faultOffset 110 = .ok (.iload_n 1, 1) := by decide +kernel
theorem dX3_faultOffset_111 : decode cX3_faultOffset 111 = .ok (.ireturn, 1) := by decide +kernel
theorem dX3_endOfFitting_0 : decode cX3_endOfFitting 0 = .ok (.iconst 0, 1) := by decide +kernel
theorem dX3_endOfFitting_1 : decode cX3_endOfFitting 1 = .ok (.istore_n 3, 1) := by decide +kernel
theorem dX3_endOfFitting_2 : decode cX3_endOfFitting 2 = .ok (.iload_n 3, 1) := by decide +kernel
theorem dX3_endOfFitting_3 : decode cX3_endOfFitting 3 = .ok (.aload_n 1, 1) := by decide +kernel
theorem dX3_endOfFitting_4 : decode cX3_endOfFitting 4 = .ok (.invokevirtual 44, 3) := by decide +kernel
theorem dX3_endOfFitting_7 : decode cX3_endOfFitting 7 = .ok (.if_icmp .ge 27, 3) := by decide +kernel
theorem dX3_endOfFitting_10 : decode cX3_endOfFitting 10 = .ok (.aload_n 1, 1) := by decide +kernel
theorem dX3_endOfFitting_11 : decode cX3_endOfFitting 11 = .ok (.iload_n 3, 1) := by decide +kernel
theorem dX3_endOfFitting_12 : decode cX3_endOfFitting 12 = .ok (.invokevirtual 51, 3) := by decide +kernel
theorem dX3_endOfFitting_15 : decode cX3_endOfFitting 15 = .ok (.aload_n 0, 1) := by decide +kernel
theorem dX3_endOfFitting_16 : decode cX3_endOfFitting 16 = .ok (.iload_n 2, 1) := by decide +kernel
theorem dX3_endOfFitting_17 : decode cX3_endOfFitting 17 = .ok (.iload_n 3, 1) := by decide +kernel
theorem dX3_endOfFitting_18 : decode cX3_endOfFitting 18 = .ok (.iadd, 1) := by decide +kernel
theorem dX3_endOfFitting_19 : decode cX3_endOfFitting 19 = .ok (.invokevirtual 30, 3) := by decide +kernel
theorem dX3_endOfFitting_22 : decode cX3_endOfFitting 22 = .ok (.invokestatic 55, 3) := by decide +kernel
theorem dX3_endOfFitting_25 : decode cX3_endOfFitting 25 = .ok (.ifCond .eq 9, 3) := by decide +kernel
theorem dX3_endOfFitting_28 : decode cX3_endOfFitting 28 = .ok (.iinc 3 1, 3) := by decide +kernel
theorem dX3_endOfFitting_31 : decode cX3_endOfFitting 31 = .ok (.goto (-29), 3) := by decide +kernel
theorem dX3_endOfFitting_34 : decode cX3_endOfFitting 34 = .ok (.iload_n 2, 1) := by decide +kernel
theorem dX3_endOfFitting_35 : decode cX3_endOfFitting 35 = .ok (.iload_n 3, 1) := by decide +kernel
theorem dX3_endOfFitting_36 : decode cX3_endOfFitting 36 = .ok (.iadd, 1) := by decide +kernel
theorem dX3_endOfFitting_37 : decode cX3_endOfFitting 37 = .ok (.ireturn, 1) := by decide +kernel
theorem dX3_formOf_0 : decode cX3_formOf 0 = .ok (.iload_n 0, 1) := by decide +kernel
theorem dX3_formOf_1 : decode cX3_formOf 1 = .ok (.tableswitch 104 98 117 #[101, 104, 104, 104, 104, 104, 104, 104, 104, 104, 101, 98, 104, 104, 104, 104, 95, 104, 101, 98], 95) := by decide +kernel
theorem dX3_formOf_96 : decode cX3_formOf 96 = .ok (.ldc 59, 2) := by decide +kernel
theorem dX3_formOf_98 : decode cX3_formOf 98 = .ok (.areturn, 1) := by decide +kernel
theorem dX3_formOf_99 : decode cX3_formOf 99 = .ok (.ldc 61, 2) := by decide +kernel
theorem dX3_formOf_101 : decode cX3_formOf 101 = .ok (.areturn, 1) := by decide +kernel
theorem dX3_formOf_102 : decode cX3_formOf 102 = .ok (.ldc 63, 2) := by decide +kernel
theorem dX3_formOf_104 : decode cX3_formOf 104 = .ok (.areturn, 1) := by decide +kernel
theorem dX3_formOf_105 : decode cX3_formOf 105 = .ok (.ldc 65, 2) := by decide +kernel
theorem dX3_formOf_107 : decode cX3_formOf 107 = .ok (.areturn, 1) := by decide +kernel
theorem dX3_fits_0 : decode cX3_fits 0 = .ok (.iload_n 0, 1) := by decide +kernel
theorem dX3_fits_1 : decode cX3_fits 1 = .ok (.lookupswitch 98 #[(82, 52), (99, 43), (100, 89), (104, 61)], 43) := by decide +kernel
theorem dX3_fits_44 : decode cX3_fits 44 = .ok (.iload_n 1, 1) := by decide +kernel
theorem dX3_fits_45 : decode cX3_fits 45 = .ok (.bipush 97, 2) := by decide +kernel
theorem dX3_fits_47 : decode cX3_fits 47 = .ok (.bipush 112, 2) := by decide +kernel
theorem dX3_fits_49 : decode cX3_fits 49 = .ok (.invokestatic 67, 3) := by decide +kernel
theorem dX3_fits_52 : decode cX3_fits 52 = .ok (.ireturn, 1) := by decide +kernel
theorem dX3_fits_53 : decode cX3_fits 53 = .ok (.iload_n 1, 1) := by decide +kernel
theorem dX3_fits_54 : decode cX3_fits 54 = .ok (.bipush 65, 2) := by decide +kernel
theorem dX3_fits_56 : decode cX3_fits 56 = .ok (.bipush 80, 2) := by decide +kernel
theorem dX3_fits_58 : decode cX3_fits 58 = .ok (.invokestatic 67, 3) := by decide +kernel
theorem dX3_fits_61 : decode cX3_fits 61 = .ok (.ireturn, 1) := by decide +kernel
theorem dX3_fits_62 : decode cX3_fits 62 = .ok (.iload_n 1, 1) := by decide +kernel
theorem dX3_fits_63 : decode cX3_fits 63 = .ok (.bipush 48, 2) := by decide +kernel
theorem dX3_fits_65 : decode cX3_fits 65 = .ok (.bipush 57, 2) := by decide +kernel
theorem dX3_fits_67 : decode cX3_fits 67 = .ok (.invokestatic 67, 3) := by decide +kernel
theorem dX3_fits_70 : decode cX3_fits 70 = .ok (.ifCond .ne 14, 3) := by decide +kernel
theorem dX3_fits_73 : decode cX3_fits 73 = .ok (.iload_n 1, 1) := by decide +kernel
theorem dX3_fits_74 : decode cX3_fits 74 = .ok (.bipush 97, 2) := by decide +kernel
theorem dX3_fits_76 : decode cX3_fits 76 = .ok (.bipush 102, 2) := by decide +kernel
theorem dX3_fits_78 : decode cX3_fits 78 = .ok (.invokestatic 67, 3) := by decide +kernel
theorem dX3_fits_81 : decode cX3_fits 81 = .ok (.ifCond .eq 7, 3) := by decide +kernel
theorem dX3_fits_84 : decode cX3_fits 84 = .ok (.iconst 1, 1) := by decide +kernel
theorem dX3_fits_85 : decode cX3_fits 85 = .ok (.goto 4, 3) := by decide +kernel
theorem dX3_fits_88 : decode cX3_fits 88 = .ok (.iconst 0, 1) := by decide +kernel
theorem dX3_fits_89 : decode cX3_fits 89 = .ok (.ireturn, 1) := by decide +kernel
theorem dX3_fits_90 : decode cX3_fits 90 = .ok (.iload_n 1, 1) := by decide +kernel
theorem dX3_fits_91 : decode cX3_fits 91 = .ok (.bipush 48, 2) := by decide +kernel
theorem dX3_fits_93 : decode cX3_fits 93 = .ok (.bipush 57, 2) := by decide +kernel
theorem dX3_fits_95 : decode cX3_fits 95 = .ok (.invokestatic 67, 3) := by decide +kernel
theorem dX3_fits_98 : decode cX3_fits 98 = .ok (.ireturn, 1) := by decide +kernel
theorem dX3_fits_99 : decode cX3_fits 99 = .ok (.iload_n 1, 1) := by decide +kernel
theorem dX3_fits_100 : decode cX3_fits 100 = .ok (.iload_n 0, 1) := by decide +kernel
theorem dX3_fits_101 : decode cX3_fits 101 = .ok (.if_icmp .ne 7, 3) := by decide +kernel
theorem dX3_fits_104 : decode cX3_fits 104 = .ok (.iconst 1, 1) := by decide +kernel
theorem dX3_fits_105 : decode cX3_fits 105 = .ok (.goto 4, 3) := by decide +kernel
theorem dX3_fits_108 : decode cX3_fits 108 = .ok (.iconst 0, 1) := by decide +kernel
theorem dX3_fits_109 : decode cX3_fits 109 = .ok (.ireturn, 1) := by decide +kernel
theorem dX3_columnAt_0 : decode cX3_columnAt 0 = .ok (.aload_n 0, 1) := by decide +kernel
theorem dX3_columnAt_1 : decode cX3_columnAt 1 = .ok (.iload_n 1, 1) := by decide +kernel
theorem dX3_columnAt_2 : decode cX3_columnAt 2 = .ok (.invokevirtual 30, 3) := by decide +kernel
theorem dX3_columnAt_5 : decode cX3_columnAt 5 = .ok (.bipush 97, 2) := by decide +kernel
theorem dX3_columnAt_7 : decode cX3_columnAt 7 = .ok (.isub, 1) := by decide +kernel
theorem dX3_columnAt_8 : decode cX3_columnAt 8 = .ok (.ireturn, 1) := by decide +kernel
theorem dX3_rowAt_0 : decode cX3_rowAt 0 = .ok (.aload_n 0, 1) := by decide +kernel
theorem dX3_rowAt_1 : decode cX3_rowAt 1 = .ok (.iload_n 1, 1) := by decide +kernel
theorem dX3_rowAt_2 : decode cX3_rowAt 2 = .ok (.invokevirtual 30, 3) := by decide +kernel
theorem dX3_rowAt_5 : decode cX3_rowAt 5 = .ok (.bipush 65, 2) := by decide +kernel
theorem dX3_rowAt_7 : decode cX3_rowAt 7 = .ok (.isub, 1) := by decide +kernel
theorem dX3_rowAt_8 : decode cX3_rowAt 8 = .ok (.ireturn, 1) := by decide +kernel
theorem dX3_hexAt_0 : decode cX3_hexAt 0 = .ok (.aload_n 0, 1) := by decide +kernel
theorem dX3_hexAt_1 : decode cX3_hexAt 1 = .ok (.iload_n 1, 1) := by decide +kernel
theorem dX3_hexAt_2 : decode cX3_hexAt 2 = .ok (.invokevirtual 30, 3) := by decide +kernel
theorem dX3_hexAt_5 : decode cX3_hexAt 5 = .ok (.istore_n 2, 1) := by decide +kernel
theorem dX3_hexAt_6 : decode cX3_hexAt 6 = .ok (.iload_n 2, 1) := by decide +kernel
theorem dX3_hexAt_7 : decode cX3_hexAt 7 = .ok (.bipush 57, 2) := by decide +kernel
theorem dX3_hexAt_9 : decode cX3_hexAt 9 = .ok (.if_icmp .gt 10, 3) := by decide +kernel
theorem dX3_hexAt_12 : decode cX3_hexAt 12 = .ok (.iload_n 2, 1) := by decide +kernel
theorem dX3_hexAt_13 : decode cX3_hexAt 13 = .ok (.bipush 48, 2) := by decide +kernel
theorem dX3_hexAt_15 : decode cX3_hexAt 15 = .ok (.isub, 1) := by decide +kernel
theorem dX3_hexAt_16 : decode cX3_hexAt 16 = .ok (.goto 10, 3) := by decide +kernel
theorem dX3_hexAt_19 : decode cX3_hexAt 19 = .ok (.iload_n 2, 1) := by decide +kernel
theorem dX3_hexAt_20 : decode cX3_hexAt 20 = .ok (.bipush 97, 2) := by decide +kernel
theorem dX3_hexAt_22 : decode cX3_hexAt 22 = .ok (.isub, 1) := by decide +kernel
theorem dX3_hexAt_23 : decode cX3_hexAt 23 = .ok (.bipush 10, 2) := by decide +kernel
theorem dX3_hexAt_25 : decode cX3_hexAt 25 = .ok (.iadd, 1) := by decide +kernel
theorem dX3_hexAt_26 : decode cX3_hexAt 26 = .ok (.ireturn, 1) := by decide +kernel
theorem dX3_settingOf_0 : decode cX3_settingOf 0 = .ok (.iload_n 0, 1) := by decide +kernel
theorem dX3_settingOf_1 : decode cX3_settingOf 1 = .ok (.lookupswitch 41 #[(98, 39), (108, 37), (116, 35)], 35) := by decide +kernel
theorem dX3_settingOf_36 : decode cX3_settingOf 36 = .ok (.iconst 0, 1) := by decide +kernel
theorem dX3_settingOf_37 : decode cX3_settingOf 37 = .ok (.ireturn, 1) := by decide +kernel
theorem dX3_settingOf_38 : decode cX3_settingOf 38 = .ok (.iconst 1, 1) := by decide +kernel
theorem dX3_settingOf_39 : decode cX3_settingOf 39 = .ok (.ireturn, 1) := by decide +kernel
theorem dX3_settingOf_40 : decode cX3_settingOf 40 = .ok (.iconst 2, 1) := by decide +kernel
theorem dX3_settingOf_41 : decode cX3_settingOf 41 = .ok (.ireturn, 1) := by decide +kernel
theorem dX3_settingOf_42 : decode cX3_settingOf 42 = .ok (.iconst (-1), 1) := by decide +kernel
theorem dX3_settingOf_43 : decode cX3_settingOf 43 = .ok (.ireturn, 1) := by decide +kernel
theorem dX3_reasonAgainst_0 : decode cX3_reasonAgainst 0 = .ok (.aload_n 0, 1) := by decide +kernel
theorem dX3_reasonAgainst_1 : decode cX3_reasonAgainst 1 = .ok (.getfield 19, 3) := by decide +kernel
theorem dX3_reasonAgainst_4 : decode cX3_reasonAgainst 4 = .ok (.iload_n 1, 1) := by decide +kernel
theorem dX3_reasonAgainst_5 : decode cX3_reasonAgainst 5 = .ok (.invokestatic 71, 3) := by decide +kernel
theorem dX3_reasonAgainst_8 : decode cX3_reasonAgainst 8 = .ok (.istore_n 3, 1) := by decide +kernel
theorem dX3_reasonAgainst_9 : decode cX3_reasonAgainst 9 = .ok (.aload_n 0, 1) := by decide +kernel
theorem dX3_reasonAgainst_10 : decode cX3_reasonAgainst 10 = .ok (.iload_n 3, 1) := by decide +kernel
theorem dX3_reasonAgainst_11 : decode cX3_reasonAgainst 11 = .ok (.invokevirtual 30, 3) := by decide +kernel
theorem dX3_reasonAgainst_14 : decode cX3_reasonAgainst 14 = .ok (.invokestatic 75, 3) := by decide +kernel
theorem dX3_reasonAgainst_17 : decode cX3_reasonAgainst 17 = .ok (.istore 4, 2) := by decide +kernel
theorem dX3_reasonAgainst_19 : decode cX3_reasonAgainst 19 = .ok (.iload 4, 2) := by decide +kernel
theorem dX3_reasonAgainst_21 : decode cX3_reasonAgainst 21 = .ok (.ifCond .lt 24, 3) := by decide +kernel
theorem dX3_reasonAgainst_24 : decode cX3_reasonAgainst 24 = .ok (.iload 4, 2) := by decide +kernel
theorem dX3_reasonAgainst_26 : decode cX3_reasonAgainst 26 = .ok (.aload_n 0, 1) := by decide +kernel
theorem dX3_reasonAgainst_27 : decode cX3_reasonAgainst 27 = .ok (.iload_n 3, 1) := by decide +kernel
theorem dX3_reasonAgainst_28 : decode cX3_reasonAgainst 28 = .ok (.iconst 1, 1) := by decide +kernel
theorem dX3_reasonAgainst_29 : decode cX3_reasonAgainst 29 = .ok (.iadd, 1) := by decide +kernel
theorem dX3_reasonAgainst_30 : decode cX3_reasonAgainst 30 = .ok (.invokevirtual 78, 3) := by decide +kernel
theorem dX3_reasonAgainst_33 : decode cX3_reasonAgainst 33 = .ok (.invokestatic 81, 3) := by decide +kernel
theorem dX3_reasonAgainst_36 : decode cX3_reasonAgainst 36 = .ok (.ifCond .eq 7, 3) := by decide +kernel
theorem dX3_reasonAgainst_39 : decode cX3_reasonAgainst 39 = .ok (.iconst (-1), 1) := by decide +kernel
theorem dX3_reasonAgainst_40 : decode cX3_reasonAgainst 40 = .ok (.goto 4, 3) := by decide +kernel
theorem dX3_reasonAgainst_43 : decode cX3_reasonAgainst 43 = .ok (.iconst 3, 1) := by decide +kernel
theorem dX3_reasonAgainst_44 : decode cX3_reasonAgainst 44 = .ok (.ireturn, 1) := by decide +kernel
theorem dX3_reasonAgainst_45 : decode cX3_reasonAgainst 45 = .ok (.aload_n 0, 1) := by decide +kernel
theorem dX3_reasonAgainst_46 : decode cX3_reasonAgainst 46 = .ok (.iload_n 3, 1) := by decide +kernel
theorem dX3_reasonAgainst_47 : decode cX3_reasonAgainst 47 = .ok (.iconst 1, 1) := by decide +kernel
theorem dX3_reasonAgainst_48 : decode cX3_reasonAgainst 48 = .ok (.iadd, 1) := by decide +kernel
theorem dX3_reasonAgainst_49 : decode cX3_reasonAgainst 49 = .ok (.invokevirtual 85, 3) := by decide +kernel
theorem dX3_reasonAgainst_52 : decode cX3_reasonAgainst 52 = .ok (.istore 5, 2) := by decide +kernel
theorem dX3_reasonAgainst_54 : decode cX3_reasonAgainst 54 = .ok (.aload_n 0, 1) := by decide +kernel
theorem dX3_reasonAgainst_55 : decode cX3_reasonAgainst 55 = .ok (.iload_n 3, 1) := by decide +kernel
theorem dX3_reasonAgainst_56 : decode cX3_reasonAgainst 56 = .ok (.iconst 2, 1) := by decide +kernel
theorem dX3_reasonAgainst_57 : decode cX3_reasonAgainst 57 = .ok (.iadd, 1) := by decide +kernel
theorem dX3_reasonAgainst_58 : decode cX3_reasonAgainst 58 = .ok (.invokevirtual 88, 3) := by decide +kernel
theorem dX3_reasonAgainst_61 : decode cX3_reasonAgainst 61 = .ok (.istore 6, 2) := by decide +kernel
theorem dX3_reasonAgainst_63 : decode cX3_reasonAgainst 63 = .ok (.aload_n 0, 1) := by decide +kernel
theorem dX3_reasonAgainst_64 : decode cX3_reasonAgainst 64 = .ok (.iload_n 3, 1) := by decide +kernel
theorem dX3_reasonAgainst_65 : decode cX3_reasonAgainst 65 = .ok (.iconst 3, 1) := by decide +kernel
theorem dX3_reasonAgainst_66 : decode cX3_reasonAgainst 66 = .ok (.iadd, 1) := by decide +kernel
theorem dX3_reasonAgainst_67 : decode cX3_reasonAgainst 67 = .ok (.invokevirtual 85, 3) := by decide +kernel
theorem dX3_reasonAgainst_70 : decode cX3_reasonAgainst 70 = .ok (.istore 7, 2) := by decide +kernel
theorem dX3_reasonAgainst_72 : decode cX3_reasonAgainst 72 = .ok (.aload_n 0, 1) := by decide +kernel
theorem dX3_reasonAgainst_73 : decode cX3_reasonAgainst 73 = .ok (.iload_n 3, 1) := by decide +kernel
theorem dX3_reasonAgainst_74 : decode cX3_reasonAgainst 74 = .ok (.iconst 4, 1) := by decide +kernel
theorem dX3_reasonAgainst_75 : decode cX3_reasonAgainst 75 = .ok (.iadd, 1) := by decide +kernel
theorem dX3_reasonAgainst_76 : decode cX3_reasonAgainst 76 = .ok (.invokevirtual 88, 3) := by decide +kernel
theorem dX3_reasonAgainst_79 : decode cX3_reasonAgainst 79 = .ok (.istore 8, 2) := by decide +kernel
theorem dX3_reasonAgainst_81 : decode cX3_reasonAgainst 81 = .ok (.aload_n 2, 1) := by decide +kernel
theorem dX3_reasonAgainst_82 : decode cX3_reasonAgainst 82 = .ok (.iload 5, 2) := by decide +kernel
theorem dX3_reasonAgainst_84 : decode cX3_reasonAgainst 84 = .ok (.iload 6, 2) := by decide +kernel
theorem dX3_reasonAgainst_86 : decode cX3_reasonAgainst 86 = .ok (.invokevirtual 91, 3) := by decide +kernel
theorem dX3_reasonAgainst_89 : decode cX3_reasonAgainst 89 = .ok (.ifCond .eq 14, 3) := by decide +kernel
theorem dX3_reasonAgainst_92 : decode cX3_reasonAgainst 92 = .ok (.aload_n 2, 1) := by decide +kernel
theorem dX3_reasonAgainst_93 : decode cX3_reasonAgainst 93 = .ok (.iload 7, 2) := by decide +kernel
theorem dX3_reasonAgainst_95 : decode cX3_reasonAgainst 95 = .ok (.iload 8, 2) := by decide +kernel
theorem dX3_reasonAgainst_97 : decode cX3_reasonAgainst 97 = .ok (.invokevirtual 91, 3) := by decide +kernel
theorem dX3_reasonAgainst_100 : decode cX3_reasonAgainst 100 = .ok (.ifCond .ne 5, 3) := by decide +kernel
theorem dX3_reasonAgainst_103 : decode cX3_reasonAgainst 103 = .ok (.iconst 1, 1) := by decide +kernel
theorem dX3_reasonAgainst_104 : decode cX3_reasonAgainst 104 = .ok (.ireturn, 1) := by decide +kernel
theorem dX3_reasonAgainst_105 : decode cX3_reasonAgainst 105 = .ok (.iload 5, 2) := by decide +kernel
theorem dX3_reasonAgainst_107 : decode cX3_reasonAgainst 107 = .ok (.iload 7, 2) := by decide +kernel
theorem dX3_reasonAgainst_109 : decode cX3_reasonAgainst 109 = .ok (.if_icmp .gt 10, 3) := by decide +kernel
theorem dX3_reasonAgainst_112 : decode cX3_reasonAgainst 112 = .ok (.iload 6, 2) := by decide +kernel
theorem dX3_reasonAgainst_114 : decode cX3_reasonAgainst 114 = .ok (.iload 8, 2) := by decide +kernel
theorem dX3_reasonAgainst_116 : decode cX3_reasonAgainst 116 = .ok (.if_icmp .le 7, 3) := by decide +kernel
theorem dX3_reasonAgainst_119 : decode cX3_reasonAgainst 119 = .ok (.iconst 2, 1) := by decide +kernel
theorem dX3_reasonAgainst_120 : decode cX3_reasonAgainst 120 = .ok (.goto 4, 3) := by decide +kernel
theorem dX3_reasonAgainst_123 : decode cX3_reasonAgainst 123 = .ok (.iconst (-1), 1) := by decide +kernel
theorem dX3_reasonAgainst_124 : decode cX3_reasonAgainst 124 = .ok (.ireturn, 1) := by decide +kernel
theorem dX3_carryOut_0 : decode cX3_carryOut 0 = .ok (.aload_n 0, 1) := by decide +kernel
theorem dX3_carryOut_1 : decode cX3_carryOut 1 = .ok (.getfield 19, 3) := by decide +kernel
theorem dX3_carryOut_4 : decode cX3_carryOut 4 = .ok (.iload_n 1, 1) := by decide +kernel
theorem dX3_carryOut_5 : decode cX3_carryOut 5 = .ok (.invokestatic 71, 3) := by decide +kernel
theorem dX3_carryOut_8 : decode cX3_carryOut 8 = .ok (.istore_n 3, 1) := by decide +kernel
theorem dX3_carryOut_9 : decode cX3_carryOut 9 = .ok (.aload_n 0, 1) := by decide +kernel
theorem dX3_carryOut_10 : decode cX3_carryOut 10 = .ok (.iload_n 3, 1) := by decide +kernel
theorem dX3_carryOut_11 : decode cX3_carryOut 11 = .ok (.invokevirtual 30, 3) := by decide +kernel
theorem dX3_carryOut_14 : decode cX3_carryOut 14 = .ok (.istore 4, 2) := by decide +kernel
theorem dX3_carryOut_16 : decode cX3_carryOut 16 = .ok (.iload 4, 2) := by decide +kernel
theorem dX3_carryOut_18 : decode cX3_carryOut 18 = .ok (.invokestatic 75, 3) := by decide +kernel
theorem dX3_carryOut_21 : decode cX3_carryOut 21 = .ok (.istore 5, 2) := by decide +kernel
theorem dX3_carryOut_23 : decode cX3_carryOut 23 = .ok (.iload 5, 2) := by decide +kernel
theorem dX3_carryOut_25 : decode cX3_carryOut 25 = .ok (.ifCond .lt 17, 3) := by decide +kernel
theorem dX3_carryOut_28 : decode cX3_carryOut 28 = .ok (.aload_n 2, 1) := by decide +kernel
theorem dX3_carryOut_29 : decode cX3_carryOut 29 = .ok (.iload 5, 2) := by decide +kernel
theorem dX3_carryOut_31 : decode cX3_carryOut 31 = .ok (.aload_n 0, 1) := by decide +kernel
theorem dX3_carryOut_32 : decode cX3_carryOut 32 = .ok (.iload_n 3, 1) := by decide +kernel
theorem dX3_carryOut_33 : decode cX3_carryOut 33 = .ok (.iconst 1, 1) := by decide +kernel
theorem dX3_carryOut_34 : decode cX3_carryOut 34 = .ok (.iadd, 1) := by decide +kernel
theorem dX3_carryOut_35 : decode cX3_carryOut 35 = .ok (.invokevirtual 78, 3) := by decide +kernel
theorem dX3_carryOut_38 : decode cX3_carryOut 38 = .ok (.invokevirtual 96, 3) := by decide +kernel
theorem dX3_carryOut_41 : decode cX3_carryOut 41 = .ok (.return_, 1) := by decide +kernel
theorem dX3_carryOut_42 : decode cX3_carryOut 42 = .ok (.aload_n 0, 1) := by decide +kernel
theorem dX3_carryOut_43 : decode cX3_carryOut 43 = .ok (.iload_n 3, 1) := by decide +kernel
theorem dX3_carryOut_44 : decode cX3_carryOut 44 = .ok (.iconst 1, 1) := by decide +kernel
theorem dX3_carryOut_45 : decode cX3_carryOut 45 = .ok (.iadd, 1) := by decide +kernel
theorem dX3_carryOut_46 : decode cX3_carryOut 46 = .ok (.invokevirtual 85, 3) := by decide +kernel
theorem dX3_carryOut_49 : decode cX3_carryOut 49 = .ok (.istore 6, 2) := by decide +kernel
theorem dX3_carryOut_51 : decode cX3_carryOut 51 = .ok (.aload_n 0, 1) := by decide +kernel
theorem dX3_carryOut_52 : decode cX3_carryOut 52 = .ok (.iload_n 3, 1) := by decide +kernel
theorem dX3_carryOut_53 : decode cX3_carryOut 53 = .ok (.iconst 2, 1) := by decide +kernel
theorem dX3_carryOut_54 : decode cX3_carryOut 54 = .ok (.iadd, 1) := by decide +kernel
theorem dX3_carryOut_55 : decode cX3_carryOut 55 = .ok (.invokevirtual 88, 3) := by decide +kernel
theorem dX3_carryOut_58 : decode cX3_carryOut 58 = .ok (.istore 7, 2) := by decide +kernel
theorem dX3_carryOut_60 : decode cX3_carryOut 60 = .ok (.aload_n 0, 1) := by decide +kernel
theorem dX3_carryOut_61 : decode cX3_carryOut 61 = .ok (.iload_n 3, 1) := by decide +kernel
theorem dX3_carryOut_62 : decode cX3_carryOut 62 = .ok (.iconst 3, 1) := by decide +kernel
theorem dX3_carryOut_63 : decode cX3_carryOut 63 = .ok (.iadd, 1) := by decide +kernel
theorem dX3_carryOut_64 : decode cX3_carryOut 64 = .ok (.invokevirtual 85, 3) := by decide +kernel
theorem dX3_carryOut_67 : decode cX3_carryOut 67 = .ok (.istore 8, 2) := by decide +kernel
theorem dX3_carryOut_69 : decode cX3_carryOut 69 = .ok (.aload_n 0, 1) := by decide +kernel
theorem dX3_carryOut_70 : decode cX3_carryOut 70 = .ok (.iload_n 3, 1) := by decide +kernel
theorem dX3_carryOut_71 : decode cX3_carryOut 71 = .ok (.iconst 4, 1) := by decide +kernel
theorem dX3_carryOut_72 : decode cX3_carryOut 72 = .ok (.iadd, 1) := by decide +kernel
theorem dX3_carryOut_73 : decode cX3_carryOut 73 = .ok (.invokevirtual 88, 3) := by decide +kernel
theorem dX3_carryOut_76 : decode cX3_carryOut 76 = .ok (.istore 9, 2) := by decide +kernel
theorem dX3_carryOut_78 : decode cX3_carryOut 78 = .ok (.iload 4, 2) := by decide +kernel
theorem dX3_carryOut_80 : decode cX3_carryOut 80 = .ok (.bipush 114, 2) := by decide +kernel
theorem dX3_carryOut_82 : decode cX3_carryOut 82 = .ok (.if_icmp .ne 47, 3) := by decide +kernel
theorem dX3_carryOut_85 : decode cX3_carryOut 85 = .ok (.bipush 16, 2) := by decide +kernel
theorem dX3_carryOut_87 : decode cX3_carryOut 87 = .ok (.aload_n 0, 1) := by decide +kernel
theorem dX3_carryOut_88 : decode cX3_carryOut 88 = .ok (.iload_n 3, 1) := by decide +kernel
theorem dX3_carryOut_89 : decode cX3_carryOut 89 = .ok (.bipush 6, 2) := by decide +kernel
theorem dX3_carryOut_91 : decode cX3_carryOut 91 = .ok (.iadd, 1) := by decide +kernel
theorem dX3_carryOut_92 : decode cX3_carryOut 92 = .ok (.invokevirtual 78, 3) := by decide +kernel
theorem dX3_carryOut_95 : decode cX3_carryOut 95 = .ok (.imul, 1) := by decide +kernel
theorem dX3_carryOut_96 : decode cX3_carryOut 96 = .ok (.aload_n 0, 1) := by decide +kernel
theorem dX3_carryOut_97 : decode cX3_carryOut 97 = .ok (.iload_n 3, 1) := by decide +kernel
theorem dX3_carryOut_98 : decode cX3_carryOut 98 = .ok (.bipush 7, 2) := by decide +kernel
theorem dX3_carryOut_100 : decode cX3_carryOut 100 = .ok (.iadd, 1) := by decide +kernel
theorem dX3_carryOut_101 : decode cX3_carryOut 101 = .ok (.invokevirtual 78, 3) := by decide +kernel
theorem dX3_carryOut_104 : decode cX3_carryOut 104 = .ok (.iadd, 1) := by decide +kernel
theorem dX3_carryOut_105 : decode cX3_carryOut 105 = .ok (.istore 10, 2) := by decide +kernel
theorem dX3_carryOut_107 : decode cX3_carryOut 107 = .ok (.aload_n 2, 1) := by decide +kernel
theorem dX3_carryOut_108 : decode cX3_carryOut 108 = .ok (.aload_n 2, 1) := by decide +kernel
theorem dX3_carryOut_109 : decode cX3_carryOut 109 = .ok (.getfield 100, 3) := by decide +kernel
theorem dX3_carryOut_112 : decode cX3_carryOut 112 = .ok (.iload 6, 2) := by decide +kernel
theorem dX3_carryOut_114 : decode cX3_carryOut 114 = .ok (.iload 7, 2) := by decide +kernel
theorem dX3_carryOut_116 : decode cX3_carryOut 116 = .ok (.iload 8, 2) := by decide +kernel
theorem dX3_carryOut_118 : decode cX3_carryOut 118 = .ok (.iload 9, 2) := by decide +kernel
theorem dX3_carryOut_120 : decode cX3_carryOut 120 = .ok (.iload 10, 2) := by decide +kernel
theorem dX3_carryOut_122 : decode cX3_carryOut 122 = .ok (.invokevirtual 103, 3) := by decide +kernel
theorem dX3_carryOut_125 : decode cX3_carryOut 125 = .ok (.pop, 1) := by decide +kernel
theorem dX3_carryOut_126 : decode cX3_carryOut 126 = .ok (.goto 32, 3) := by decide +kernel
theorem dX3_carryOut_129 : decode cX3_carryOut 129 = .ok (.aload_n 2, 1) := by decide +kernel
theorem dX3_carryOut_130 : decode cX3_carryOut 130 = .ok (.aload_n 2, 1) := by decide +kernel
theorem dX3_carryOut_131 : decode cX3_carryOut 131 = .ok (.getfield 107, 3) := by decide +kernel
theorem dX3_carryOut_134 : decode cX3_carryOut 134 = .ok (.iload 6, 2) := by decide +kernel
theorem dX3_carryOut_136 : decode cX3_carryOut 136 = .ok (.iload 7, 2) := by decide +kernel
theorem dX3_carryOut_138 : decode cX3_carryOut 138 = .ok (.iload 8, 2) := by decide +kernel
theorem dX3_carryOut_140 : decode cX3_carryOut 140 = .ok (.iload 9, 2) := by decide +kernel
theorem dX3_carryOut_142 : decode cX3_carryOut 142 = .ok (.iload 4, 2) := by decide +kernel
theorem dX3_carryOut_144 : decode cX3_carryOut 144 = .ok (.bipush 109, 2) := by decide +kernel
theorem dX3_carryOut_146 : decode cX3_carryOut 146 = .ok (.if_icmp .ne 7, 3) := by decide +kernel
theorem dX3_carryOut_149 : decode cX3_carryOut 149 = .ok (.iconst 1, 1) := by decide +kernel
theorem dX3_carryOut_150 : decode cX3_carryOut 150 = .ok (.goto 4, 3) := by decide +kernel
theorem dX3_carryOut_153 : decode cX3_carryOut 153 = .ok (.iconst 0, 1) := by decide +kernel
theorem dX3_carryOut_154 : decode cX3_carryOut 154 = .ok (.invokevirtual 103, 3) := by decide +kernel
theorem dX3_carryOut_157 : decode cX3_carryOut 157 = .ok (.pop, 1) := by decide +kernel
theorem dX3_carryOut_158 : decode cX3_carryOut 158 = .ok (.return_, 1) := by decide +kernel
theorem dX4_init_0 : decode cX4_init 0 = .ok (.aload_n 0, 1) := by decide +kernel
theorem dX4_init_1 : decode cX4_init 1 = .ok (.invokespecial 3, 3) := by decide +kernel
theorem dX4_init_4 : decode cX4_init 4 = .ok (.aload_n 0, 1) := by decide +kernel
theorem dX4_init_5 : decode cX4_init 5 = .ok (.bipush 64, 2) := by decide +kernel
theorem dX4_init_7 : decode cX4_init 7 = .ok (.newarray .int, 2) := by decide +kernel
theorem dX4_init_9 : decode cX4_init 9 = .ok (.putfield 9, 3) := by decide +kernel
theorem dX4_init_12 : decode cX4_init 12 = .ok (.aload_n 0, 1) := by decide +kernel
theorem dX4_init_13 : decode cX4_init 13 = .ok (.bipush 64, 2) := by decide +kernel
theorem dX4_init_15 : decode cX4_init 15 = .ok (.newarray .int, 2) := by decide +kernel
theorem dX4_init_17 : decode cX4_init 17 = .ok (.putfield 15, 3) := by decide +kernel
theorem dX4_init_20 : decode cX4_init 20 = .ok (.aload_n 0, 1) := by decide +kernel
theorem dX4_init_21 : decode cX4_init 21 = .ok (.bipush 64, 2) := by decide +kernel
theorem dX4_init_23 : decode cX4_init 23 = .ok (.newarray .int, 2) := by decide +kernel
theorem dX4_init_25 : decode cX4_init 25 = .ok (.putfield 18, 3) := by decide +kernel
theorem dX4_init_28 : decode cX4_init 28 = .ok (.aload_n 0, 1) := by decide +kernel
theorem dX4_init_29 : decode cX4_init 29 = .ok (.bipush 64, 2) := by decide +kernel
theorem dX4_init_31 : decode cX4_init 31 = .ok (.newarray .int, 2) := by decide +kernel
theorem dX4_init_33 : decode cX4_init 33 = .ok (.putfield 21, 3) := by decide +kernel
theorem dX4_init_36 : decode cX4_init 36 = .ok (.aload_n 0, 1) := by decide +kernel
theorem dX4_init_37 : decode cX4_init 37 = .ok (.bipush 64, 2) := by decide +kernel
theorem dX4_init_39 : decode cX4_init 39 = .ok (.newarray .int, 2) := by decide +kernel
theorem dX4_init_41 : decode cX4_init 41 = .ok (.putfield 24, 3) := by decide +kernel
theorem dX4_init_44 : decode cX4_init 44 = .ok (.aload_n 0, 1) := by decide +kernel
theorem dX4_init_45 : decode cX4_init 45 = .ok (.bipush 64, 2) := by decide +kernel
theorem dX4_init_47 : decode cX4_init 47 = .ok (.newarray .int, 2) := by decide +kernel
theorem dX4_init_49 : decode cX4_init 49 = .ok (.putfield 27, 3) := by decide +kernel
theorem dX4_init_52 : decode cX4_init 52 = .ok (.aload_n 0, 1) := by decide +kernel
theorem dX4_init_53 : decode cX4_init 53 = .ok (.bipush 64, 2) := by decide +kernel
theorem dX4_init_55 : decode cX4_init 55 = .ok (.newarray .int, 2) := by decide +kernel
theorem dX4_init_57 : decode cX4_init 57 = .ok (.putfield 30, 3) := by decide +kernel
theorem dX4_init_60 : decode cX4_init 60 = .ok (.aload_n 0, 1) := by decide +kernel
theorem dX4_init_61 : decode cX4_init 61 = .ok (.bipush 8, 2) := by decide +kernel
theorem dX4_init_63 : decode cX4_init 63 = .ok (.newarray .int, 2) := by decide +kernel
theorem dX4_init_65 : decode cX4_init 65 = .ok (.putfield 33, 3) := by decide +kernel
theorem dX4_init_68 : decode cX4_init 68 = .ok (.return_, 1) := by decide +kernel
theorem dX4_load_0 : decode cX4_load 0 = .ok (.aload_n 0, 1) := by decide +kernel
theorem dX4_load_1 : decode cX4_load 1 = .ok (.aload_n 1, 1) := by decide +kernel
theorem dX4_load_2 : decode cX4_load 2 = .ok (.iload_n 2, 1) := by decide +kernel
theorem dX4_load_3 : decode cX4_load 3 = .ok (.invokevirtual 36, 3) := by decide +kernel
theorem dX4_load_6 : decode cX4_load 6 = .ok (.putfield 42, 3) := by decide +kernel
theorem dX4_load_9 : decode cX4_load 9 = .ok (.aload_n 0, 1) := by decide +kernel
theorem dX4_load_10 : decode cX4_load 10 = .ok (.aload_n 1, 1) := by decide +kernel
theorem dX4_load_11 : decode cX4_load 11 = .ok (.iload_n 2, 1) := by decide +kernel
theorem dX4_load_12 : decode cX4_load 12 = .ok (.invokevirtual 46, 3) := by decide +kernel
theorem dX4_load_15 : decode cX4_load 15 = .ok (.putfield 49, 3) := by decide +kernel
theorem dX4_load_18 : decode cX4_load 18 = .ok (.aload_n 0, 1) := by decide +kernel
theorem dX4_load_19 : decode cX4_load 19 = .ok (.aload_n 1, 1) := by decide +kernel
theorem dX4_load_20 : decode cX4_load 20 = .ok (.iload_n 2, 1) := by decide +kernel
theorem dX4_load_21 : decode cX4_load 21 = .ok (.invokevirtual 52, 3) := by decide +kernel
theorem dX4_load_24 : decode cX4_load 24 = .ok (.putfield 55, 3) := by decide +kernel
theorem dX4_load_27 : decode cX4_load 27 = .ok (.aload_n 0, 1) := by decide +kernel
theorem dX4_load_28 : decode cX4_load 28 = .ok (.aload_n 1, 1) := by decide +kernel
theorem dX4_load_29 : decode cX4_load 29 = .ok (.iload_n 2, 1) := by decide +kernel
theorem dX4_load_30 : decode cX4_load 30 = .ok (.invokevirtual 58, 3) := by decide +kernel
theorem dX4_load_33 : decode cX4_load 33 = .ok (.putfield 61, 3) := by decide +kernel
theorem dX4_load_36 : decode cX4_load 36 = .ok (.aload_n 0, 1) := by decide +kernel
theorem dX4_load_37 : decode cX4_load 37 = .ok (.aload_n 1, 1) := by decide +kernel
theorem dX4_load_38 : decode cX4_load 38 = .ok (.getfield 64, 3) := by decide +kernel
theorem dX4_load_41 : decode cX4_load 41 = .ok (.putfield 67, 3) := by decide +kernel
theorem dX4_load_44 : decode cX4_load 44 = .ok (.aload_n 0, 1) := by decide +kernel
theorem dX4_load_45 : decode cX4_load 45 = .ok (.iconst 0, 1) := by decide +kernel
theorem dX4_load_46 : decode cX4_load 46 = .ok (.putfield 68, 3) := by decide +kernel
theorem dX4_load_49 : decode cX4_load 49 = .ok (.aload_n 0, 1) := by decide +kernel
theorem dX4_load_50 : decode cX4_load 50 = .ok (.getfield 68, 3) := by decide +kernel
theorem dX4_load_53 : decode cX4_load 53 = .ok (.aload_n 1, 1) := by decide +kernel
theorem dX4_load_54 : decode cX4_load 54 = .ok (.getfield 71, 3) := by decide +kernel
theorem dX4_load_57 : decode cX4_load 57 = .ok (.if_icmp .ge 46, 3) := by decide +kernel
theorem dX4_load_60 : decode cX4_load 60 = .ok (.aload_n 0, 1) := by decide +kernel
theorem dX4_load_61 : decode cX4_load 61 = .ok (.getfield 55, 3) := by decide +kernel
theorem dX4_load_64 : decode cX4_load 64 = .ok (.aload_n 0, 1) := by decide +kernel
theorem dX4_load_65 : decode cX4_load 65 = .ok (.getfield 68, 3) := by decide +kernel
theorem dX4_load_68 : decode cX4_load 68 = .ok (.invokestatic 74, 3) := by decide +kernel
theorem dX4_load_71 : decode cX4_load 71 = .ok (.iconst 1, 1) := by decide +kernel
theorem dX4_load_72 : decode cX4_load 72 = .ok (.if_icmp .gt 18, 3) := by decide +kernel
theorem dX4_load_75 : decode cX4_load 75 = .ok (.aload_n 0, 1) := by decide +kernel
theorem dX4_load_76 : decode cX4_load 76 = .ok (.getfield 61, 3) := by decide +kernel
theorem dX4_load_79 : decode cX4_load 79 = .ok (.aload_n 0, 1) := by decide +kernel
theorem dX4_load_80 : decode cX4_load 80 = .ok (.getfield 68, 3) := by decide +kernel
theorem dX4_load_83 : decode cX4_load 83 = .ok (.invokestatic 74, 3) := by decide +kernel
theorem dX4_load_86 : decode cX4_load 86 = .ok (.iconst 1, 1) := by decide +kernel
theorem dX4_load_87 : decode cX4_load 87 = .ok (.if_icmp .le 16, 3) := by decide +kernel
theorem dX4_load_90 : decode cX4_load 90 = .ok (.aload_n 0, 1) := by decide +kernel
theorem dX4_load_91 : decode cX4_load 91 = .ok (.dup, 1) := by decide +kernel
theorem dX4_load_92 : decode cX4_load 92 = .ok (.getfield 68, 3) := by decide +kernel
theorem dX4_load_95 : decode cX4_load 95 = .ok (.iconst 1, 1) := by decide +kernel
theorem dX4_load_96 : decode cX4_load 96 = .ok (.iadd, 1) := by decide +kernel
theorem dX4_load_97 : decode cX4_load 97 = .ok (.putfield 68, 3) := by decide +kernel
theorem dX4_load_100 : decode cX4_load 100 = .ok (.goto (-51), 3) := by decide +kernel
theorem dX4_load_103 : decode cX4_load 103 = .ok (.iconst 0, 1) := by decide +kernel
theorem dX4_load_104 : decode cX4_load 104 = .ok (.istore_n 3, 1) := by decide +kernel
theorem dX4_load_105 : decode cX4_load 105 = .ok (.iload_n 3, 1) := by decide +kernel
theorem dX4_load_106 : decode cX4_load 106 = .ok (.aload_n 0, 1) := by decide +kernel
theorem dX4_load_107 : decode cX4_load 107 = .ok (.getfield 61, 3) := by decide +kernel
theorem dX4_load_110 : decode cX4_load 110 = .ok (.if_icmp .ge 91, 3) := by decide +kernel
theorem dX4_load_113 : decode cX4_load 113 = .ok (.iconst 0, 1) := by decide +kernel
theorem dX4_load_114 : decode cX4_load 114 = .ok (.istore 4, 2) := by decide +kernel
theorem dX4_load_116 : decode cX4_load 116 = .ok (.iload 4, 2) := by decide +kernel
theorem dX4_load_118 : decode cX4_load 118 = .ok (.aload_n 0, 1) := by decide +kernel
theorem dX4_load_119 : decode cX4_load 119 = .ok (.getfield 55, 3) := by decide +kernel
theorem dX4_load_122 : decode cX4_load 122 = .ok (.if_icmp .ge 73, 3) := by decide +kernel
theorem dX4_load_125 : decode cX4_load 125 = .ok (.aload_n 1, 1) := by decide +kernel
theorem dX4_load_126 : decode cX4_load 126 = .ok (.getfield 78, 3) := by decide +kernel
theorem dX4_load_129 : decode cX4_load 129 = .ok (.aload_n 1, 1) := by decide +kernel
theorem dX4_load_130 : decode cX4_load 130 = .ok (.aload_n 0, 1) := by decide +kernel
theorem dX4_load_131 : decode cX4_load 131 = .ok (.getfield 42, 3) := by decide +kernel
theorem dX4_load_134 : decode cX4_load 134 = .ok (.iload 4, 2) := by decide +kernel
theorem dX4_load_136 : decode cX4_load 136 = .ok (.iadd, 1) := by decide +kernel
theorem dX4_load_137 : decode cX4_load 137 = .ok (.aload_n 0, 1) := by decide +kernel
theorem dX4_load_138 : decode cX4_load 138 = .ok (.getfield 49, 3) := by decide +kernel
theorem dX4_load_141 : decode cX4_load 141 = .ok (.iload_n 3, 1) := by decide +kernel
theorem dX4_load_142 : decode cX4_load 142 = .ok (.iadd, 1) := by decide +kernel
theorem dX4_load_143 : decode cX4_load 143 = .ok (.invokevirtual 81, 3) := by decide +kernel
theorem dX4_load_146 : decode cX4_load 146 = .ok (.invokestatic 84, 3) := by decide +kernel
theorem dX4_load_149 : decode cX4_load 149 = .ok (.istore 5, 2) := by decide +kernel
theorem dX4_load_151 : decode cX4_load 151 = .ok (.aload_n 0, 1) := by decide +kernel
theorem dX4_load_152 : decode cX4_load 152 = .ok (.getfield 9, 3) := by decide +kernel
theorem dX4_load_155 : decode cX4_load 155 = .ok (.iload 4, 2) := by decide +kernel
theorem dX4_load_157 : decode cX4_load 157 = .ok (.iload_n 3, 1) := by decide +kernel
theorem dX4_load_158 : decode cX4_load 158 = .ok (.invokestatic 88, 3) := by decide +kernel
theorem dX4_load_161 : decode cX4_load 161 = .ok (.iload 5, 2) := by decide +kernel
theorem dX4_load_163 : decode cX4_load 163 = .ok (.invokestatic 91, 3) := by decide +kernel
theorem dX4_load_166 : decode cX4_load 166 = .ok (.aload_n 0, 1) := by decide +kernel
theorem dX4_load_167 : decode cX4_load 167 = .ok (.getfield 15, 3) := by decide +kernel
theorem dX4_load_170 : decode cX4_load 170 = .ok (.iload 4, 2) := by decide +kernel
theorem dX4_load_172 : decode cX4_load 172 = .ok (.iload_n 3, 1) := by decide +kernel
theorem dX4_load_173 : decode cX4_load 173 = .ok (.invokestatic 88, 3) := by decide +kernel
theorem dX4_load_176 : decode cX4_load 176 = .ok (.iload 5, 2) := by decide +kernel
theorem dX4_load_178 : decode cX4_load 178 = .ok (.invokestatic 91, 3) := by decide +kernel
theorem dX4_load_181 : decode cX4_load 181 = .ok (.aload_n 0, 1) := by decide +kernel
theorem dX4_load_182 : decode cX4_load 182 = .ok (.aload_n 1, 1) := by decide +kernel
theorem dX4_load_183 : decode cX4_load 183 = .ok (.iload 4, 2) := by decide +kernel
theorem dX4_load_185 : decode cX4_load 185 = .ok (.iload_n 3, 1) := by decide +kernel
theorem dX4_load_186 : decode cX4_load 186 = .ok (.invokevirtual 95, 3) := by decide +kernel
theorem dX4_load_189 : decode cX4_load 189 = .ok (.iinc 4 1, 3) := by decide +kernel
theorem dX4_load_192 : decode cX4_load 192 = .ok (.goto (-76), 3) := by decide +kernel
theorem dX4_load_195 : decode cX4_load 195 = .ok (.iinc 3 1, 3) := by decide +kernel
theorem dX4_load_198 : decode cX4_load 198 = .ok (.goto (-93), 3) := by decide +kernel
theorem dX4_load_201 : decode cX4_load 201 = .ok (.iconst 1, 1) := by decide +kernel
theorem dX4_load_202 : decode cX4_load 202 = .ok (.istore_n 3, 1) := by decide +kernel
theorem dX4_load_203 : decode cX4_load 203 = .ok (.iload_n 3, 1) := by decide +kernel
theorem dX4_load_204 : decode cX4_load 204 = .ok (.aload_n 0, 1) := by decide +kernel
theorem dX4_load_205 : decode cX4_load 205 = .ok (.getfield 68, 3) := by decide +kernel
theorem dX4_load_208 : decode cX4_load 208 = .ok (.if_icmp .gt 33, 3) := by decide +kernel
theorem dX4_load_211 : decode cX4_load 211 = .ok (.aload_n 0, 1) := by decide +kernel
theorem dX4_load_212 : decode cX4_load 212 = .ok (.aload_n 0, 1) := by decide +kernel
theorem dX4_load_213 : decode cX4_load 213 = .ok (.getfield 55, 3) := by decide +kernel
theorem dX4_load_216 : decode cX4_load 216 = .ok (.iload_n 3, 1) := by decide +kernel
theorem dX4_load_217 : decode cX4_load 217 = .ok (.iconst 1, 1) := by decide +kernel
theorem dX4_load_218 : decode cX4_load 218 = .ok (.isub, 1) := by decide +kernel
theorem dX4_load_219 : decode cX4_load 219 = .ok (.invokestatic 74, 3) := by decide +kernel
theorem dX4_load_222 : decode cX4_load 222 = .ok (.aload_n 0, 1) := by decide +kernel
theorem dX4_load_223 : decode cX4_load 223 = .ok (.getfield 61, 3) := by decide +kernel
theorem dX4_load_226 : decode cX4_load 226 = .ok (.iload_n 3, 1) := by decide +kernel
theorem dX4_load_227 : decode cX4_load 227 = .ok (.iconst 1, 1) := by decide +kernel
theorem dX4_load_228 : decode cX4_load 228 = .ok (.isub, 1) := by decide +kernel
theorem dX4_load_229 : decode cX4_load 229 = .ok (.invokestatic 74, 3) := by decide +kernel
theorem dX4_load_232 : decode cX4_load 232 = .ok (.invokevirtual 99, 3) := by decide +kernel
theorem dX4_load_235 : decode cX4_load 235 = .ok (.iinc 3 1, 3) := by decide +kernel
theorem dX4_load_238 : decode cX4_load 238 = .ok (.goto (-35), 3) := by decide +kernel
theorem dX4_load_241 : decode cX4_load 241 = .ok (.return_, 1) := by decide +kernel
theorem dX4_lows_0 : decode cX4_lows 0 = .ok (.iload_n 0, 1) := by decide +kernel
theorem dX4_lows_1 : decode cX4_lows 1 = .ok (.iconst 1, 1) := by decide +kernel
theorem dX4_lows_2 : decode cX4_lows 2 = .ok (.iload_n 1, 1) := by decide +kernel
theorem dX4_lows_3 : decode cX4_lows 3 = .ok (.ishl, 1) := by decide +kernel
theorem dX4_lows_4 : decode cX4_lows 4 = .ok (.iadd, 1) := by decide +kernel
theorem dX4_lows_5 : decode cX4_lows 5 = .ok (.iconst 1, 1) := by decide +kernel
theorem dX4_lows_6 : decode cX4_lows 6 = .ok (.isub, 1) := by decide +kernel
theorem dX4_lows_7 : decode cX4_lows 7 = .ok (.iload_n 1, 1) := by decide +kernel
theorem dX4_lows_8 : decode cX4_lows 8 = .ok (.ishr, 1) := by decide +kernel
theorem dX4_lows_9 : decode cX4_lows 9 = .ok (.ireturn, 1) := by decide +kernel
theorem dX4_describe_0 : decode cX4_describe 0 = .ok (.aload_n 0, 1) := by decide +kernel
theorem dX4_describe_1 : decode cX4_describe 1 = .ok (.iload_n 2, 1) := by decide +kernel
theorem dX4_describe_2 : decode cX4_describe 2 = .ok (.iload_n 3, 1) := by decide +kernel
theorem dX4_describe_3 : decode cX4_describe 3 = .ok (.invokevirtual 103, 3) := by decide +kernel
theorem dX4_describe_6 : decode cX4_describe 6 = .ok (.istore 4, 2) := by decide +kernel
theorem dX4_describe_8 : decode cX4_describe 8 = .ok (.iload_n 2, 1) := by decide +kernel
theorem dX4_describe_9 : decode cX4_describe 9 = .ok (.istore 5, 2) := by decide +kernel
theorem dX4_describe_11 : decode cX4_describe 11 = .ok (.iload_n 3, 1) := by decide +kernel
theorem dX4_describe_12 : decode cX4_describe 12 = .ok (.istore 6, 2) := by decide +kernel
theorem dX4_describe_14 : decode cX4_describe 14 = .ok (.iconst 0, 1) := by decide +kernel
theorem dX4_describe_15 : decode cX4_describe 15 = .ok (.istore 7, 2) := by decide +kernel
theorem dX4_describe_17 : decode cX4_describe 17 = .ok (.iload 4, 2) := by decide +kernel
theorem dX4_describe_19 : decode cX4_describe 19 = .ok (.ifCond .le 33, 3) := by decide +kernel
theorem dX4_describe_22 : decode cX4_describe 22 = .ok (.iload_n 2, 1) := by decide +kernel
theorem dX4_describe_23 : decode cX4_describe 23 = .ok (.aload_n 0, 1) := by decide +kernel
theorem dX4_describe_24 : decode cX4_describe 24 = .ok (.getfield 55, 3) := by decide +kernel
theorem dX4_describe_27 : decode cX4_describe 27 = .ok (.iload 4, 2) := by decide +kernel
theorem dX4_describe_29 : decode cX4_describe 29 = .ok (.invokestatic 74, 3) := by decide +kernel
theorem dX4_describe_32 : decode cX4_describe 32 = .ok (.if_icmp .lt 20, 3) := by decide +kernel
theorem dX4_describe_35 : decode cX4_describe 35 = .ok (.iinc 7 1, 3) := by decide +kernel
theorem dX4_describe_38 : decode cX4_describe 38 = .ok (.iload 5, 2) := by decide +kernel
theorem dX4_describe_40 : decode cX4_describe 40 = .ok (.aload_n 0, 1) := by decide +kernel
theorem dX4_describe_41 : decode cX4_describe 41 = .ok (.getfield 55, 3) := by decide +kernel
theorem dX4_describe_44 : decode cX4_describe 44 = .ok (.iload 4, 2) := by decide +kernel
theorem dX4_describe_46 : decode cX4_describe 46 = .ok (.invokestatic 74, 3) := by decide +kernel
theorem dX4_describe_49 : decode cX4_describe 49 = .ok (.isub, 1) := by decide +kernel
theorem dX4_describe_50 : decode cX4_describe 50 = .ok (.istore 5, 2) := by decide +kernel
theorem dX4_describe_52 : decode cX4_describe 52 = .ok (.iload 4, 2) := by decide +kernel
theorem dX4_describe_54 : decode cX4_describe 54 = .ok (.ifCond .le 33, 3) := by decide +kernel
theorem dX4_describe_57 : decode cX4_describe 57 = .ok (.iload_n 3, 1) := by decide +kernel
theorem dX4_describe_58 : decode cX4_describe 58 = .ok (.aload_n 0, 1) := by decide +kernel
theorem dX4_describe_59 : decode cX4_describe 59 = .ok (.getfield 61, 3) := by decide +kernel
theorem dX4_describe_62 : decode cX4_describe 62 = .ok (.iload 4, 2) := by decide +kernel
theorem dX4_describe_64 : decode cX4_describe 64 = .ok (.invokestatic 74, 3) := by decide +kernel
theorem dX4_describe_67 : decode cX4_describe 67 = .ok (.if_icmp .lt 20, 3) := by decide +kernel
theorem dX4_describe_70 : decode cX4_describe 70 = .ok (.iinc 7 2, 3) := by decide +kernel
theorem dX4_describe_73 : decode cX4_describe 73 = .ok (.iload 6, 2) := by decide +kernel
theorem dX4_describe_75 : decode cX4_describe 75 = .ok (.aload_n 0, 1) := by decide +kernel
theorem dX4_describe_76 : decode cX4_describe 76 = .ok (.getfield 61, 3) := by decide +kernel
theorem dX4_describe_79 : decode cX4_describe 79 = .ok (.iload 4, 2) := by decide +kernel
theorem dX4_describe_81 : decode cX4_describe 81 = .ok (.invokestatic 74, 3) := by decide +kernel
theorem dX4_describe_84 : decode cX4_describe 84 = .ok (.isub, 1) := by decide +kernel
theorem dX4_describe_85 : decode cX4_describe 85 = .ok (.istore 6, 2) := by decide +kernel
theorem dX4_describe_87 : decode cX4_describe 87 = .ok (.iload_n 2, 1) := by decide +kernel
theorem dX4_describe_88 : decode cX4_describe 88 = .ok (.iload_n 3, 1) := by decide +kernel
theorem dX4_describe_89 : decode cX4_describe 89 = .ok (.invokestatic 88, 3) := by decide +kernel
theorem dX4_describe_92 : decode cX4_describe 92 = .ok (.istore 8, 2) := by decide +kernel
theorem dX4_describe_94 : decode cX4_describe 94 = .ok (.aload_n 0, 1) := by decide +kernel
theorem dX4_describe_95 : decode cX4_describe 95 = .ok (.getfield 18, 3) := by decide +kernel
theorem dX4_describe_98 : decode cX4_describe 98 = .ok (.iload 8, 2) := by decide +kernel
theorem dX4_describe_100 : decode cX4_describe 100 = .ok (.bipush 10, 2) := by decide +kernel
theorem dX4_describe_102 : decode cX4_describe 102 = .ok (.iload 4, 2) := by decide +kernel
theorem dX4_describe_104 : decode cX4_describe 104 = .ok (.imul, 1) := by decide +kernel
theorem dX4_describe_105 : decode cX4_describe 105 = .ok (.iload 7, 2) := by decide +kernel
theorem dX4_describe_107 : decode cX4_describe 107 = .ok (.iadd, 1) := by decide +kernel
theorem dX4_describe_108 : decode cX4_describe 108 = .ok (.invokestatic 91, 3) := by decide +kernel
theorem dX4_describe_111 : decode cX4_describe 111 = .ok (.aload_n 0, 1) := by decide +kernel
theorem dX4_describe_112 : decode cX4_describe 112 = .ok (.getfield 21, 3) := by decide +kernel
theorem dX4_describe_115 : decode cX4_describe 115 = .ok (.iload 8, 2) := by decide +kernel
theorem dX4_describe_117 : decode cX4_describe 117 = .ok (.aload_n 0, 1) := by decide +kernel
theorem dX4_describe_118 : decode cX4_describe 118 = .ok (.iload 4, 2) := by decide +kernel
theorem dX4_describe_120 : decode cX4_describe 120 = .ok (.iload 7, 2) := by decide +kernel
theorem dX4_describe_122 : decode cX4_describe 122 = .ok (.iload 5, 2) := by decide +kernel
theorem dX4_describe_124 : decode cX4_describe 124 = .ok (.iload 6, 2) := by decide +kernel
theorem dX4_describe_126 : decode cX4_describe 126 = .ok (.invokevirtual 106, 3) := by decide +kernel
theorem dX4_describe_129 : decode cX4_describe 129 = .ok (.invokestatic 91, 3) := by decide +kernel
theorem dX4_describe_132 : decode cX4_describe 132 = .ok (.aload_n 0, 1) := by decide +kernel
theorem dX4_describe_133 : decode cX4_describe 133 = .ok (.getfield 24, 3) := by decide +kernel
theorem dX4_describe_136 : decode cX4_describe 136 = .ok (.iload 8, 2) := by decide +kernel
theorem dX4_describe_138 : decode cX4_describe 138 = .ok (.aload_n 0, 1) := by decide +kernel
theorem dX4_describe_139 : decode cX4_describe 139 = .ok (.aload_n 1, 1) := by decide +kernel
theorem dX4_describe_140 : decode cX4_describe 140 = .ok (.iload 5, 2) := by decide +kernel
theorem dX4_describe_142 : decode cX4_describe 142 = .ok (.iload 6, 2) := by decide +kernel
theorem dX4_describe_144 : decode cX4_describe 144 = .ok (.iload 4, 2) := by decide +kernel
theorem dX4_describe_146 : decode cX4_describe 146 = .ok (.ifCond .ne 10, 3) := by decide +kernel
theorem dX4_describe_149 : decode cX4_describe 149 = .ok (.aload_n 0, 1) := by decide +kernel
theorem dX4_describe_150 : decode cX4_describe 150 = .ok (.getfield 68, 3) := by decide +kernel
theorem dX4_describe_153 : decode cX4_describe 153 = .ok (.goto 5, 3) := by decide +kernel
theorem dX4_describe_156 : decode cX4_describe 156 = .ok (.iload 4, 2) := by decide +kernel
theorem dX4_describe_158 : decode cX4_describe 158 = .ok (.invokevirtual 110, 3) := by decide +kernel
theorem dX4_describe_161 : decode cX4_describe 161 = .ok (.ifCond .eq 7, 3) := by decide +kernel
theorem dX4_describe_164 : decode cX4_describe 164 = .ok (.iconst 1, 1) := by decide +kernel
theorem dX4_describe_165 : decode cX4_describe 165 = .ok (.goto 4, 3) := by decide +kernel
theorem dX4_describe_168 : decode cX4_describe 168 = .ok (.iconst 0, 1) := by decide +kernel
theorem dX4_describe_169 : decode cX4_describe 169 = .ok (.invokestatic 91, 3) := by decide +kernel
theorem dX4_describe_172 : decode cX4_describe 172 = .ok (.return_, 1) := by decide +kernel
theorem dX4_levelAt_0 : decode cX4_levelAt 0 = .ok (.iconst 1, 1) := by decide +kernel
theorem dX4_levelAt_1 : decode cX4_levelAt 1 = .ok (.istore_n 3, 1) := by decide +kernel
theorem dX4_levelAt_2 : decode cX4_levelAt 2 = .ok (.iload_n 3, 1) := by decide +kernel
theorem dX4_levelAt_3 : decode cX4_levelAt 3 = .ok (.aload_n 0, 1) := by decide +kernel
theorem dX4_levelAt_4 : decode cX4_levelAt 4 = .ok (.getfield 68, 3) := by decide +kernel
theorem dX4_levelAt_7 : decode cX4_levelAt 7 = .ok (.if_icmp .gt 35, 3) := by decide +kernel
theorem dX4_levelAt_10 : decode cX4_levelAt 10 = .ok (.iload_n 1, 1) := by decide +kernel
theorem dX4_levelAt_11 : decode cX4_levelAt 11 = .ok (.aload_n 0, 1) := by decide +kernel
theorem dX4_levelAt_12 : decode cX4_levelAt 12 = .ok (.getfield 55, 3) := by decide +kernel
theorem dX4_levelAt_15 : decode cX4_levelAt 15 = .ok (.iload_n 3, 1) := by decide +kernel
theorem dX4_levelAt_16 : decode cX4_levelAt 16 = .ok (.invokestatic 74, 3) := by decide +kernel
theorem dX4_levelAt_19 : decode cX4_levelAt 19 = .ok (.if_icmp .ge 15, 3) := by decide +kernel
theorem dX4_levelAt_22 : decode cX4_levelAt 22 = .ok (.iload_n 2, 1) := by decide +kernel
theorem dX4_levelAt_23 : decode cX4_levelAt 23 = .ok (.aload_n 0, 1) := by decide +kernel
theorem dX4_levelAt_24 : decode cX4_levelAt 24 = .ok (.getfield 61, 3) := by decide +kernel
theorem dX4_levelAt_27 : decode cX4_levelAt 27 = .ok (.iload_n 3, 1) := by decide +kernel
theorem dX4_levelAt_28 : decode cX4_levelAt 28 = .ok (.invokestatic 74, 3) := by decide +kernel
theorem dX4_levelAt_31 : decode cX4_levelAt 31 = .ok (.if_icmp .lt 5, 3) := by decide +kernel
theorem dX4_levelAt_34 : decode cX4_levelAt 34 = .ok (.iload_n 3, 1) := by decide +kernel
theorem dX4_levelAt_35 : decode cX4_levelAt 35 = .ok (.ireturn, 1) := by decide +kernel
theorem dX4_levelAt_36 : decode cX4_levelAt 36 = .ok (.iinc 3 1, 3) := by decide +kernel
theorem dX4_levelAt_39 : decode cX4_levelAt 39 = .ok (.goto (-37), 3) := by decide +kernel
theorem dX4_levelAt_42 : decode cX4_levelAt 42 = .ok (.iconst 0, 1) := by decide +kernel
theorem dX4_levelAt_43 : decode cX4_levelAt 43 = .ok (.ireturn, 1) := by decide +kernel
theorem dX4_parentOf_0 : decode cX4_parentOf 0 = .ok (.iload_n 1, 1) := by decide +kernel
theorem dX4_parentOf_1 : decode cX4_parentOf 1 = .ok (.ifCond .ne 5, 3) := by decide +kernel
theorem dX4_parentOf_4 : decode cX4_parentOf 4 = .ok (.iconst (-1), 1) := by decide +kernel
theorem dX4_parentOf_5 : decode cX4_parentOf 5 = .ok (.ireturn, 1) := by decide +kernel
theorem dX4_parentOf_6 : decode cX4_parentOf 6 = .ok (.iload_n 1, 1) := by decide +kernel
theorem dX4_parentOf_7 : decode cX4_parentOf 7 = .ok (.aload_n 0, 1) := by decide +kernel
theorem dX4_parentOf_8 : decode cX4_parentOf 8 = .ok (.getfield 68, 3) := by decide +kernel
theorem dX4_parentOf_11 : decode cX4_parentOf 11 = .ok (.if_icmp .ne 10, 3) := by decide +kernel
theorem dX4_parentOf_14 : decode cX4_parentOf 14 = .ok (.iload_n 3, 1) := by decide +kernel
theorem dX4_parentOf_15 : decode cX4_parentOf 15 = .ok (.iload 4, 2) := by decide +kernel
theorem dX4_parentOf_17 : decode cX4_parentOf 17 = .ok (.invokestatic 88, 3) := by decide +kernel
theorem dX4_parentOf_20 : decode cX4_parentOf 20 = .ok (.ireturn, 1) := by decide +kernel
theorem dX4_parentOf_21 : decode cX4_parentOf 21 = .ok (.iload_n 3, 1) := by decide +kernel
theorem dX4_parentOf_22 : decode cX4_parentOf 22 = .ok (.iconst 1, 1) := by decide +kernel
theorem dX4_parentOf_23 : decode cX4_parentOf 23 = .ok (.ishr, 1) := by decide +kernel
theorem dX4_parentOf_24 : decode cX4_parentOf 24 = .ok (.iload_n 2, 1) := by decide +kernel
theorem dX4_parentOf_25 : decode cX4_parentOf 25 = .ok (.iconst 1, 1) := by decide +kernel
theorem dX4_parentOf_26 : decode cX4_parentOf 26 = .ok (.iand, 1) := by decide +kernel
theorem dX4_parentOf_27 : decode cX4_parentOf 27 = .ok (.ifCond .eq 16, 3) := by decide +kernel
theorem dX4_parentOf_30 : decode cX4_parentOf 30 = .ok (.aload_n 0, 1) := by decide +kernel
theorem dX4_parentOf_31 : decode cX4_parentOf 31 = .ok (.getfield 55, 3) := by decide +kernel
theorem dX4_parentOf_34 : decode cX4_parentOf 34 = .ok (.iload_n 1, 1) := by decide +kernel
theorem dX4_parentOf_35 : decode cX4_parentOf 35 = .ok (.iconst 1, 1) := by decide +kernel
theorem dX4_parentOf_36 : decode cX4_parentOf 36 = .ok (.iadd, 1) := by decide +kernel
theorem dX4_parentOf_37 : decode cX4_parentOf 37 = .ok (.invokestatic 74, 3) := by decide +kernel
theorem dX4_parentOf_40 : decode cX4_parentOf 40 = .ok (.goto 4, 3) := by decide +kernel
theorem dX4_parentOf_43 : decode cX4_parentOf 43 = .ok (.iconst 0, 1) := by decide +kernel
theorem dX4_parentOf_44 : decode cX4_parentOf 44 = .ok (.iadd, 1) := by decide +kernel
theorem dX4_parentOf_45 : decode cX4_parentOf 45 = .ok (.istore 5, 2) := by decide +kernel
theorem dX4_parentOf_47 : decode cX4_parentOf 47 = .ok (.iload 4, 2) := by decide +kernel
theorem dX4_parentOf_49 : decode cX4_parentOf 49 = .ok (.iconst 1, 1) := by decide +kernel
theorem dX4_parentOf_50 : decode cX4_parentOf 50 = .ok (.ishr, 1) := by decide +kernel
theorem dX4_parentOf_51 : decode cX4_parentOf 51 = .ok (.iload_n 2, 1) := by decide +kernel
theorem dX4_parentOf_52 : decode cX4_parentOf 52 = .ok (.iconst 2, 1) := by decide +kernel
theorem dX4_parentOf_53 : decode cX4_parentOf 53 = .ok (.iand, 1) := by decide +kernel
theorem dX4_parentOf_54 : decode cX4_parentOf 54 = .ok (.ifCond .eq 16, 3) := by decide +kernel
theorem dX4_parentOf_57 : decode cX4_parentOf 57 = .ok (.aload_n 0, 1) := by decide +kernel
theorem dX4_parentOf_58 : decode cX4_parentOf 58 = .ok (.getfield 61, 3) := by decide +kernel
theorem dX4_parentOf_61 : decode cX4_parentOf 61 = .ok (.iload_n 1, 1) := by decide +kernel
theorem dX4_parentOf_62 : decode cX4_parentOf 62 = .ok (.iconst 1, 1) := by decide +kernel
theorem dX4_parentOf_63 : decode cX4_parentOf 63 = .ok (.iadd, 1) := by decide +kernel
theorem dX4_parentOf_64 : decode cX4_parentOf 64 = .ok (.invokestatic 74, 3) := by decide +kernel
theorem dX4_parentOf_67 : decode cX4_parentOf 67 = .ok (.goto 4, 3) := by decide +kernel
theorem dX4_parentOf_70 : decode cX4_parentOf 70 = .ok (.iconst 0, 1) := by decide +kernel
theorem dX4_parentOf_71 : decode cX4_parentOf 71 = .ok (.iadd, 1) := by decide +kernel
theorem dX4_parentOf_72 : decode cX4_parentOf 72 = .ok (.istore 6, 2) := by decide +kernel
theorem dX4_parentOf_74 : decode cX4_parentOf 74 = .ok (.iload 5, 2) := by decide +kernel
theorem dX4_parentOf_76 : decode cX4_parentOf 76 = .ok (.aload_n 0, 1) := by decide +kernel
theorem dX4_parentOf_77 : decode cX4_parentOf 77 = .ok (.getfield 55, 3) := by decide +kernel
theorem dX4_parentOf_80 : decode cX4_parentOf 80 = .ok (.iload_n 1, 1) := by decide +kernel
theorem dX4_parentOf_81 : decode cX4_parentOf 81 = .ok (.invokestatic 74, 3) := by decide +kernel
theorem dX4_parentOf_84 : decode cX4_parentOf 84 = .ok (.if_icmp .ge 26, 3) := by decide +kernel
theorem dX4_parentOf_87 : decode cX4_parentOf 87 = .ok (.iload 6, 2) := by decide +kernel
theorem dX4_parentOf_89 : decode cX4_parentOf 89 = .ok (.aload_n 0, 1) := by decide +kernel
theorem dX4_parentOf_90 : decode cX4_parentOf 90 = .ok (.getfield 61, 3) := by decide +kernel
theorem dX4_parentOf_93 : decode cX4_parentOf 93 = .ok (.iload_n 1, 1) := by decide +kernel
theorem dX4_parentOf_94 : decode cX4_parentOf 94 = .ok (.invokestatic 74, 3) := by decide +kernel
theorem dX4_parentOf_97 : decode cX4_parentOf 97 = .ok (.if_icmp .ge 13, 3) := by decide +kernel
theorem dX4_parentOf_100 : decode cX4_parentOf 100 = .ok (.iload 5, 2) := by decide +kernel
theorem dX4_parentOf_102 : decode cX4_parentOf 102 = .ok (.iload 6, 2) := by decide +kernel
theorem dX4_parentOf_104 : decode cX4_parentOf 104 = .ok (.invokestatic 88, 3) := by decide +kernel
theorem dX4_parentOf_107 : decode cX4_parentOf 107 = .ok (.goto 4, 3) := by decide +kernel
theorem dX4_parentOf_110 : decode cX4_parentOf 110 = .ok (.iconst (-1), 1) := by decide +kernel
theorem dX4_parentOf_111 : decode cX4_parentOf 111 = .ok (.ireturn, 1) := by decide +kernel
theorem dX4_isMade_0 : decode cX4_isMade 0 = .ok (.iload_n 2, 1) := by decide +kernel
theorem dX4_isMade_1 : decode cX4_isMade 1 = .ok (.iload 4, 2) := by decide +kernel
theorem dX4_isMade_3 : decode cX4_isMade 3 = .ok (.ishl, 1) := by decide +kernel
theorem dX4_isMade_4 : decode cX4_isMade 4 = .ok (.istore 5, 2) := by decide +kernel
theorem dX4_isMade_6 : decode cX4_isMade 6 = .ok (.iload_n 3, 1) := by decide +kernel
theorem dX4_isMade_7 : decode cX4_isMade 7 = .ok (.iload 4, 2) := by decide +kernel
theorem dX4_isMade_9 : decode cX4_isMade 9 = .ok (.ishl, 1) := by decide +kernel
theorem dX4_isMade_10 : decode cX4_isMade 10 = .ok (.istore 6, 2) := by decide +kernel
theorem dX4_isMade_12 : decode cX4_isMade 12 = .ok (.aload_n 0, 1) := by decide +kernel
theorem dX4_isMade_13 : decode cX4_isMade 13 = .ok (.getfield 55, 3) := by decide +kernel
theorem dX4_isMade_16 : decode cX4_isMade 16 = .ok (.iload_n 2, 1) := by decide +kernel
theorem dX4_isMade_17 : decode cX4_isMade 17 = .ok (.iconst 1, 1) := by decide +kernel
theorem dX4_isMade_18 : decode cX4_isMade 18 = .ok (.iadd, 1) := by decide +kernel
theorem dX4_isMade_19 : decode cX4_isMade 19 = .ok (.iload 4, 2) := by decide +kernel
theorem dX4_isMade_21 : decode cX4_isMade 21 = .ok (.ishl, 1) := by decide +kernel
theorem dX4_isMade_22 : decode cX4_isMade 22 = .ok (.invokestatic 114, 3) := by decide +kernel
theorem dX4_isMade_25 : decode cX4_isMade 25 = .ok (.istore 7, 2) := by decide +kernel
theorem dX4_isMade_27 : decode cX4_isMade 27 = .ok (.aload_n 0, 1) := by decide +kernel
theorem dX4_isMade_28 : decode cX4_isMade 28 = .ok (.getfield 61, 3) := by decide +kernel
theorem dX4_isMade_31 : decode cX4_isMade 31 = .ok (.iload_n 3, 1) := by decide +kernel
theorem dX4_isMade_32 : decode cX4_isMade 32 = .ok (.iconst 1, 1) := by decide +kernel
theorem dX4_isMade_33 : decode cX4_isMade 33 = .ok (.iadd, 1) := by decide +kernel
theorem dX4_isMade_34 : decode cX4_isMade 34 = .ok (.iload 4, 2) := by decide +kernel
theorem dX4_isMade_36 : decode cX4_isMade 36 = .ok (.ishl, 1) := by decide +kernel
theorem dX4_isMade_37 : decode cX4_isMade 37 = .ok (.invokestatic 114, 3) := by decide +kernel
theorem dX4_isMade_40 : decode cX4_isMade 40 = .ok (.istore 8, 2) := by decide +kernel
theorem dX4_isMade_42 : decode cX4_isMade 42 = .ok (.aload_n 1, 1) := by decide +kernel
theorem dX4_isMade_43 : decode cX4_isMade 43 = .ok (.aload_n 1, 1) := by decide +kernel
theorem dX4_isMade_44 : decode cX4_isMade 44 = .ok (.getfield 119, 3) := by decide +kernel
theorem dX4_isMade_47 : decode cX4_isMade 47 = .ok (.aload_n 0, 1) := by decide +kernel
theorem dX4_isMade_48 : decode cX4_isMade 48 = .ok (.getfield 42, 3) := by decide +kernel
theorem dX4_isMade_51 : decode cX4_isMade 51 = .ok (.iload 5, 2) := by decide +kernel
theorem dX4_isMade_53 : decode cX4_isMade 53 = .ok (.iadd, 1) := by decide +kernel
theorem dX4_isMade_54 : decode cX4_isMade 54 = .ok (.aload_n 0, 1) := by decide +kernel
theorem dX4_isMade_55 : decode cX4_isMade 55 = .ok (.getfield 49, 3) := by decide +kernel
theorem dX4_isMade_58 : decode cX4_isMade 58 = .ok (.iload 6, 2) := by decide +kernel
theorem dX4_isMade_60 : decode cX4_isMade 60 = .ok (.iadd, 1) := by decide +kernel
theorem dX4_isMade_61 : decode cX4_isMade 61 = .ok (.aload_n 0, 1) := by decide +kernel
theorem dX4_isMade_62 : decode cX4_isMade 62 = .ok (.getfield 42, 3) := by decide +kernel
theorem dX4_isMade_65 : decode cX4_isMade 65 = .ok (.iload 7, 2) := by decide +kernel
theorem dX4_isMade_67 : decode cX4_isMade 67 = .ok (.iadd, 1) := by decide +kernel
theorem dX4_isMade_68 : decode cX4_isMade 68 = .ok (.aload_n 0, 1) := by decide +kernel
theorem dX4_isMade_69 : decode cX4_isMade 69 = .ok (.getfield 49, 3) := by decide +kernel
theorem dX4_isMade_72 : decode cX4_isMade 72 = .ok (.iload 8, 2) := by decide +kernel
theorem dX4_isMade_74 : decode cX4_isMade 74 = .ok (.iadd, 1) := by decide +kernel
theorem dX4_isMade_75 : decode cX4_isMade 75 = .ok (.invokevirtual 120, 3) := by decide +kernel
theorem dX4_isMade_78 : decode cX4_isMade 78 = .ok (.ifCond .le 7, 3) := by decide +kernel
theorem dX4_isMade_81 : decode cX4_isMade 81 = .ok (.iconst 1, 1) := by decide +kernel
theorem dX4_isMade_82 : decode cX4_isMade 82 = .ok (.goto 4, 3) := by decide +kernel
theorem dX4_isMade_85 : decode cX4_isMade 85 = .ok (.iconst 0, 1) := by decide +kernel
theorem dX4_isMade_86 : decode cX4_isMade 86 = .ok (.ireturn, 1) := by decide +kernel
theorem dX4_splitArea_0 : decode cX4_splitArea 0 = .ok (.iconst 0, 1) := by decide +kernel
theorem dX4_splitArea_1 : decode cX4_splitArea 1 = .ok (.istore_n 3, 1) := by decide +kernel
theorem dX4_splitArea_2 : decode cX4_splitArea 2 = .ok (.iload_n 3, 1) := by decide +kernel
theorem dX4_splitArea_3 : decode cX4_splitArea 3 = .ok (.iload_n 2, 1) := by decide +kernel
theorem dX4_splitArea_4 : decode cX4_splitArea 4 = .ok (.if_icmp .ge 20, 3) := by decide +kernel
theorem dX4_splitArea_7 : decode cX4_splitArea 7 = .ok (.aload_n 0, 1) := by decide +kernel
theorem dX4_splitArea_8 : decode cX4_splitArea 8 = .ok (.iconst 0, 1) := by decide +kernel
theorem dX4_splitArea_9 : decode cX4_splitArea 9 = .ok (.iload_n 3, 1) := by decide +kernel
theorem dX4_splitArea_10 : decode cX4_splitArea 10 = .ok (.invokestatic 88, 3) := by decide +kernel
theorem dX4_splitArea_13 : decode cX4_splitArea 13 = .ok (.iconst 1, 1) := by decide +kernel
theorem dX4_splitArea_14 : decode cX4_splitArea 14 = .ok (.iload_n 1, 1) := by decide +kernel
theorem dX4_splitArea_15 : decode cX4_splitArea 15 = .ok (.invokevirtual 124, 3) := by decide +kernel
theorem dX4_splitArea_18 : decode cX4_splitArea 18 = .ok (.iinc 3 1, 3) := by decide +kernel
theorem dX4_splitArea_21 : decode cX4_splitArea 21 = .ok (.goto (-19), 3) := by decide +kernel
theorem dX4_splitArea_24 : decode cX4_splitArea 24 = .ok (.iconst 0, 1) := by decide +kernel
theorem dX4_splitArea_25 : decode cX4_splitArea 25 = .ok (.istore_n 3, 1) := by decide +kernel
theorem dX4_splitArea_26 : decode cX4_splitArea 26 = .ok (.iload_n 3, 1) := by decide +kernel
theorem dX4_splitArea_27 : decode cX4_splitArea 27 = .ok (.iload_n 1, 1) := by decide +kernel
theorem dX4_splitArea_28 : decode cX4_splitArea 28 = .ok (.if_icmp .ge 21, 3) := by decide +kernel
theorem dX4_splitArea_31 : decode cX4_splitArea 31 = .ok (.aload_n 0, 1) := by decide +kernel
theorem dX4_splitArea_32 : decode cX4_splitArea 32 = .ok (.iload_n 3, 1) := by decide +kernel
theorem dX4_splitArea_33 : decode cX4_splitArea 33 = .ok (.iconst 0, 1) := by decide +kernel
theorem dX4_splitArea_34 : decode cX4_splitArea 34 = .ok (.invokestatic 88, 3) := by decide +kernel
theorem dX4_splitArea_37 : decode cX4_splitArea 37 = .ok (.bipush 8, 2) := by decide +kernel
theorem dX4_splitArea_39 : decode cX4_splitArea 39 = .ok (.iload_n 2, 1) := by decide +kernel
theorem dX4_splitArea_40 : decode cX4_splitArea 40 = .ok (.invokevirtual 124, 3) := by decide +kernel
theorem dX4_splitArea_43 : decode cX4_splitArea 43 = .ok (.iinc 3 1, 3) := by decide +kernel
theorem dX4_splitArea_46 : decode cX4_splitArea 46 = .ok (.goto (-20), 3) := by decide +kernel
theorem dX4_splitArea_49 : decode cX4_splitArea 49 = .ok (.return_, 1) := by decide +kernel
theorem dX4_splitLine_0 : decode cX4_splitLine 0 = .ok (.aload_n 0, 1) := by decide +kernel
theorem dX4_splitLine_1 : decode cX4_splitLine 1 = .ok (.aload_n 0, 1) := by decide +kernel
theorem dX4_splitLine_2 : decode cX4_splitLine 2 = .ok (.getfield 15, 3) := by decide +kernel
theorem dX4_splitLine_5 : decode cX4_splitLine 5 = .ok (.iload_n 1, 1) := by decide +kernel
theorem dX4_splitLine_6 : decode cX4_splitLine 6 = .ok (.iload_n 2, 1) := by decide +kernel
theorem dX4_splitLine_7 : decode cX4_splitLine 7 = .ok (.iload_n 3, 1) := by decide +kernel
theorem dX4_splitLine_8 : decode cX4_splitLine 8 = .ok (.invokevirtual 128, 3) := by decide +kernel
theorem dX4_splitLine_11 : decode cX4_splitLine 11 = .ok (.iload_n 3, 1) := by decide +kernel
theorem dX4_splitLine_12 : decode cX4_splitLine 12 = .ok (.iconst 1, 1) := by decide +kernel
theorem dX4_splitLine_13 : decode cX4_splitLine 13 = .ok (.invokestatic 74, 3) := by decide +kernel
theorem dX4_splitLine_16 : decode cX4_splitLine 16 = .ok (.istore 4, 2) := by decide +kernel
theorem dX4_splitLine_18 : decode cX4_splitLine 18 = .ok (.iconst 0, 1) := by decide +kernel
theorem dX4_splitLine_19 : decode cX4_splitLine 19 = .ok (.istore 5, 2) := by decide +kernel
theorem dX4_splitLine_21 : decode cX4_splitLine 21 = .ok (.iload 5, 2) := by decide +kernel
theorem dX4_splitLine_23 : decode cX4_splitLine 23 = .ok (.iload 4, 2) := by decide +kernel
theorem dX4_splitLine_25 : decode cX4_splitLine 25 = .ok (.if_icmp .ge 106, 3) := by decide +kernel
theorem dX4_splitLine_28 : decode cX4_splitLine 28 = .ok (.aload_n 0, 1) := by decide +kernel
theorem dX4_splitLine_29 : decode cX4_splitLine 29 = .ok (.getfield 33, 3) := by decide +kernel
theorem dX4_splitLine_32 : decode cX4_splitLine 32 = .ok (.iconst 2, 1) := by decide +kernel
theorem dX4_splitLine_33 : decode cX4_splitLine 33 = .ok (.iload 5, 2) := by decide +kernel
theorem dX4_splitLine_35 : decode cX4_splitLine 35 = .ok (.imul, 1) := by decide +kernel
theorem dX4_splitLine_36 : decode cX4_splitLine 36 = .ok (.invokestatic 84, 3) := by decide +kernel
theorem dX4_splitLine_39 : decode cX4_splitLine 39 = .ok (.istore 6, 2) := by decide +kernel
theorem dX4_splitLine_41 : decode cX4_splitLine 41 = .ok (.iconst 2, 1) := by decide +kernel
theorem dX4_splitLine_42 : decode cX4_splitLine 42 = .ok (.iload 5, 2) := by decide +kernel
theorem dX4_splitLine_44 : decode cX4_splitLine 44 = .ok (.imul, 1) := by decide +kernel
theorem dX4_splitLine_45 : decode cX4_splitLine 45 = .ok (.iconst 1, 1) := by decide +kernel
theorem dX4_splitLine_46 : decode cX4_splitLine 46 = .ok (.iadd, 1) := by decide +kernel
theorem dX4_splitLine_47 : decode cX4_splitLine 47 = .ok (.iload_n 3, 1) := by decide +kernel
theorem dX4_splitLine_48 : decode cX4_splitLine 48 = .ok (.if_icmp .ge 62, 3) := by decide +kernel
theorem dX4_splitLine_51 : decode cX4_splitLine 51 = .ok (.aload_n 0, 1) := by decide +kernel
theorem dX4_splitLine_52 : decode cX4_splitLine 52 = .ok (.getfield 33, 3) := by decide +kernel
theorem dX4_splitLine_55 : decode cX4_splitLine 55 = .ok (.iconst 2, 1) := by decide +kernel
theorem dX4_splitLine_56 : decode cX4_splitLine 56 = .ok (.iload 5, 2) := by decide +kernel
theorem dX4_splitLine_58 : decode cX4_splitLine 58 = .ok (.imul, 1) := by decide +kernel
theorem dX4_splitLine_59 : decode cX4_splitLine 59 = .ok (.iconst 1, 1) := by decide +kernel
theorem dX4_splitLine_60 : decode cX4_splitLine 60 = .ok (.iadd, 1) := by decide +kernel
theorem dX4_splitLine_61 : decode cX4_splitLine 61 = .ok (.invokestatic 84, 3) := by decide +kernel
theorem dX4_splitLine_64 : decode cX4_splitLine 64 = .ok (.istore 7, 2) := by decide +kernel
theorem dX4_splitLine_66 : decode cX4_splitLine 66 = .ok (.aload_n 0, 1) := by decide +kernel
theorem dX4_splitLine_67 : decode cX4_splitLine 67 = .ok (.getfield 15, 3) := by decide +kernel
theorem dX4_splitLine_70 : decode cX4_splitLine 70 = .ok (.iload_n 1, 1) := by decide +kernel
theorem dX4_splitLine_71 : decode cX4_splitLine 71 = .ok (.iload 5, 2) := by decide +kernel
theorem dX4_splitLine_73 : decode cX4_splitLine 73 = .ok (.iload_n 2, 1) := by decide +kernel
theorem dX4_splitLine_74 : decode cX4_splitLine 74 = .ok (.imul, 1) := by decide +kernel
theorem dX4_splitLine_75 : decode cX4_splitLine 75 = .ok (.iadd, 1) := by decide +kernel
theorem dX4_splitLine_76 : decode cX4_splitLine 76 = .ok (.iload 6, 2) := by decide +kernel
theorem dX4_splitLine_78 : decode cX4_splitLine 78 = .ok (.iload 7, 2) := by decide +kernel
theorem dX4_splitLine_80 : decode cX4_splitLine 80 = .ok (.iadd, 1) := by decide +kernel
theorem dX4_splitLine_81 : decode cX4_splitLine 81 = .ok (.iconst 1, 1) := by decide +kernel
theorem dX4_splitLine_82 : decode cX4_splitLine 82 = .ok (.ishr, 1) := by decide +kernel
theorem dX4_splitLine_83 : decode cX4_splitLine 83 = .ok (.invokestatic 91, 3) := by decide +kernel
theorem dX4_splitLine_86 : decode cX4_splitLine 86 = .ok (.aload_n 0, 1) := by decide +kernel
theorem dX4_splitLine_87 : decode cX4_splitLine 87 = .ok (.getfield 15, 3) := by decide +kernel
theorem dX4_splitLine_90 : decode cX4_splitLine 90 = .ok (.iload_n 1, 1) := by decide +kernel
theorem dX4_splitLine_91 : decode cX4_splitLine 91 = .ok (.iload 4, 2) := by decide +kernel
theorem dX4_splitLine_93 : decode cX4_splitLine 93 = .ok (.iload 5, 2) := by decide +kernel
theorem dX4_splitLine_95 : decode cX4_splitLine 95 = .ok (.iadd, 1) := by decide +kernel
theorem dX4_splitLine_96 : decode cX4_splitLine 96 = .ok (.iload_n 2, 1) := by decide +kernel
theorem dX4_splitLine_97 : decode cX4_splitLine 97 = .ok (.imul, 1) := by decide +kernel
theorem dX4_splitLine_98 : decode cX4_splitLine 98 = .ok (.iadd, 1) := by decide +kernel
theorem dX4_splitLine_99 : decode cX4_splitLine 99 = .ok (.iload 6, 2) := by decide +kernel
theorem dX4_splitLine_101 : decode cX4_splitLine 101 = .ok (.iload 7, 2) := by decide +kernel
theorem dX4_splitLine_103 : decode cX4_splitLine 103 = .ok (.isub, 1) := by decide +kernel
theorem dX4_splitLine_104 : decode cX4_splitLine 104 = .ok (.invokestatic 91, 3) := by decide +kernel
theorem dX4_splitLine_107 : decode cX4_splitLine 107 = .ok (.goto 18, 3) := by decide +kernel
theorem dX4_splitLine_110 : decode cX4_splitLine 110 = .ok (.aload_n 0, 1) := by decide +kernel
theorem dX4_splitLine_111 : decode cX4_splitLine 111 = .ok (.getfield 15, 3) := by decide +kernel
theorem dX4_splitLine_114 : decode cX4_splitLine 114 = .ok (.iload_n 1, 1) := by decide +kernel
theorem dX4_splitLine_115 : decode cX4_splitLine 115 = .ok (.iload 5, 2) := by decide +kernel
theorem dX4_splitLine_117 : decode cX4_splitLine 117 = .ok (.iload_n 2, 1) := by decide +kernel
theorem dX4_splitLine_118 : decode cX4_splitLine 118 = .ok (.imul, 1) := by decide +kernel
theorem dX4_splitLine_119 : decode cX4_splitLine 119 = .ok (.iadd, 1) := by decide +kernel
theorem dX4_splitLine_120 : decode cX4_splitLine 120 = .ok (.iload 6, 2) := by decide +kernel
theorem dX4_splitLine_122 : decode cX4_splitLine 122 = .ok (.invokestatic 91, 3) := by decide +kernel
theorem dX4_splitLine_125 : decode cX4_splitLine 125 = .ok (.iinc 5 1, 3) := by decide +kernel
theorem dX4_splitLine_128 : decode cX4_splitLine 128 = .ok (.goto (-107), 3) := by decide +kernel
theorem dX4_splitLine_131 : decode cX4_splitLine 131 = .ok (.return_, 1) := by decide +kernel
theorem dX4_takeLine_0 : decode cX4_takeLine 0 = .ok (.iconst 0, 1) := by decide +kernel
theorem dX4_takeLine_1 : decode cX4_takeLine 1 = .ok (.istore 5, 2) := by decide +kernel
theorem dX4_takeLine_3 : decode cX4_takeLine 3 = .ok (.iload 5, 2) := by decide +kernel
theorem dX4_takeLine_5 : decode cX4_takeLine 5 = .ok (.iload 4, 2) := by decide +kernel
theorem dX4_takeLine_7 : decode cX4_takeLine 7 = .ok (.if_icmp .ge 28, 3) := by decide +kernel
theorem dX4_takeLine_10 : decode cX4_takeLine 10 = .ok (.aload_n 0, 1) := by decide +kernel
theorem dX4_takeLine_11 : decode cX4_takeLine 11 = .ok (.getfield 33, 3) := by decide +kernel
theorem dX4_takeLine_14 : decode cX4_takeLine 14 = .ok (.iload 5, 2) := by decide +kernel
theorem dX4_takeLine_16 : decode cX4_takeLine 16 = .ok (.aload_n 1, 1) := by decide +kernel
theorem dX4_takeLine_17 : decode cX4_takeLine 17 = .ok (.iload_n 2, 1) := by decide +kernel
theorem dX4_takeLine_18 : decode cX4_takeLine 18 = .ok (.iload 5, 2) := by decide +kernel
theorem dX4_takeLine_20 : decode cX4_takeLine 20 = .ok (.iload_n 3, 1) := by decide +kernel
theorem dX4_takeLine_21 : decode cX4_takeLine 21 = .ok (.imul, 1) := by decide +kernel
theorem dX4_takeLine_22 : decode cX4_takeLine 22 = .ok (.iadd, 1) := by decide +kernel
theorem dX4_takeLine_23 : decode cX4_takeLine 23 = .ok (.invokestatic 84, 3) := by decide +kernel
theorem dX4_takeLine_26 : decode cX4_takeLine 26 = .ok (.invokestatic 91, 3) := by decide +kernel
theorem dX4_takeLine_29 : decode cX4_takeLine 29 = .ok (.iinc 5 1, 3) := by decide +kernel
theorem dX4_takeLine_32 : decode cX4_takeLine 32 = .ok (.goto (-29), 3) := by decide +kernel
theorem dX4_takeLine_35 : decode cX4_takeLine 35 = .ok (.return_, 1) := by decide +kernel
theorem dX4_joinLevels_0 : decode cX4_joinLevels 0 = .ok (.aload_n 0, 1) := by decide +kernel
theorem dX4_joinLevels_1 : decode cX4_joinLevels 1 = .ok (.getfield 68, 3) := by decide +kernel
theorem dX4_joinLevels_4 : decode cX4_joinLevels 4 = .ok (.istore_n 2, 1) := by decide +kernel
theorem dX4_joinLevels_5 : decode cX4_joinLevels 5 = .ok (.iload_n 2, 1) := by decide +kernel
theorem dX4_joinLevels_6 : decode cX4_joinLevels 6 = .ok (.ifCond .le 91, 3) := by decide +kernel
theorem dX4_joinLevels_9 : decode cX4_joinLevels 9 = .ok (.aload_n 0, 1) := by decide +kernel
theorem dX4_joinLevels_10 : decode cX4_joinLevels 10 = .ok (.getfield 55, 3) := by decide +kernel
theorem dX4_joinLevels_13 : decode cX4_joinLevels 13 = .ok (.iload_n 2, 1) := by decide +kernel
theorem dX4_joinLevels_14 : decode cX4_joinLevels 14 = .ok (.iconst 1, 1) := by decide +kernel
theorem dX4_joinLevels_15 : decode cX4_joinLevels 15 = .ok (.isub, 1) := by decide +kernel
theorem dX4_joinLevels_16 : decode cX4_joinLevels 16 = .ok (.invokestatic 74, 3) := by decide +kernel
theorem dX4_joinLevels_19 : decode cX4_joinLevels 19 = .ok (.istore_n 3, 1) := by decide +kernel
theorem dX4_joinLevels_20 : decode cX4_joinLevels 20 = .ok (.aload_n 0, 1) := by decide +kernel
theorem dX4_joinLevels_21 : decode cX4_joinLevels 21 = .ok (.getfield 61, 3) := by decide +kernel
theorem dX4_joinLevels_24 : decode cX4_joinLevels 24 = .ok (.iload_n 2, 1) := by decide +kernel
theorem dX4_joinLevels_25 : decode cX4_joinLevels 25 = .ok (.iconst 1, 1) := by decide +kernel
theorem dX4_joinLevels_26 : decode cX4_joinLevels 26 = .ok (.isub, 1) := by decide +kernel
theorem dX4_joinLevels_27 : decode cX4_joinLevels 27 = .ok (.invokestatic 74, 3) := by decide +kernel
theorem dX4_joinLevels_30 : decode cX4_joinLevels 30 = .ok (.istore 4, 2) := by decide +kernel
theorem dX4_joinLevels_32 : decode cX4_joinLevels 32 = .ok (.iconst 0, 1) := by decide +kernel
theorem dX4_joinLevels_33 : decode cX4_joinLevels 33 = .ok (.istore 5, 2) := by decide +kernel
theorem dX4_joinLevels_35 : decode cX4_joinLevels 35 = .ok (.iload 5, 2) := by decide +kernel
theorem dX4_joinLevels_37 : decode cX4_joinLevels 37 = .ok (.iload_n 3, 1) := by decide +kernel
theorem dX4_joinLevels_38 : decode cX4_joinLevels 38 = .ok (.if_icmp .ge 24, 3) := by decide +kernel
theorem dX4_joinLevels_41 : decode cX4_joinLevels 41 = .ok (.aload_n 0, 1) := by decide +kernel
theorem dX4_joinLevels_42 : decode cX4_joinLevels 42 = .ok (.iload 5, 2) := by decide +kernel
theorem dX4_joinLevels_44 : decode cX4_joinLevels 44 = .ok (.iconst 0, 1) := by decide +kernel
theorem dX4_joinLevels_45 : decode cX4_joinLevels 45 = .ok (.invokestatic 88, 3) := by decide +kernel
theorem dX4_joinLevels_48 : decode cX4_joinLevels 48 = .ok (.bipush 8, 2) := by decide +kernel
theorem dX4_joinLevels_50 : decode cX4_joinLevels 50 = .ok (.iload 4, 2) := by decide +kernel
theorem dX4_joinLevels_52 : decode cX4_joinLevels 52 = .ok (.iload_n 1, 1) := by decide +kernel
theorem dX4_joinLevels_53 : decode cX4_joinLevels 53 = .ok (.invokevirtual 132, 3) := by decide +kernel
theorem dX4_joinLevels_56 : decode cX4_joinLevels 56 = .ok (.iinc 5 1, 3) := by decide +kernel
theorem dX4_joinLevels_59 : decode cX4_joinLevels 59 = .ok (.goto (-24), 3) := by decide +kernel
theorem dX4_joinLevels_62 : decode cX4_joinLevels 62 = .ok (.iconst 0, 1) := by decide +kernel
theorem dX4_joinLevels_63 : decode cX4_joinLevels 63 = .ok (.istore 5, 2) := by decide +kernel
theorem dX4_joinLevels_65 : decode cX4_joinLevels 65 = .ok (.iload 5, 2) := by decide +kernel
theorem dX4_joinLevels_67 : decode cX4_joinLevels 67 = .ok (.iload 4, 2) := by decide +kernel
theorem dX4_joinLevels_69 : decode cX4_joinLevels 69 = .ok (.if_icmp .ge 22, 3) := by decide +kernel
theorem dX4_joinLevels_72 : decode cX4_joinLevels 72 = .ok (.aload_n 0, 1) := by decide +kernel
theorem dX4_joinLevels_73 : decode cX4_joinLevels 73 = .ok (.iconst 0, 1) := by decide +kernel
theorem dX4_joinLevels_74 : decode cX4_joinLevels 74 = .ok (.iload 5, 2) := by decide +kernel
theorem dX4_joinLevels_76 : decode cX4_joinLevels 76 = .ok (.invokestatic 88, 3) := by decide +kernel
theorem dX4_joinLevels_79 : decode cX4_joinLevels 79 = .ok (.iconst 1, 1) := by decide +kernel
theorem dX4_joinLevels_80 : decode cX4_joinLevels 80 = .ok (.iload_n 3, 1) := by decide +kernel
theorem dX4_joinLevels_81 : decode cX4_joinLevels 81 = .ok (.iload_n 1, 1) := by decide +kernel
theorem dX4_joinLevels_82 : decode cX4_joinLevels 82 = .ok (.invokevirtual 132, 3) := by decide +kernel
theorem dX4_joinLevels_85 : decode cX4_joinLevels 85 = .ok (.iinc 5 1, 3) := by decide +kernel
theorem dX4_joinLevels_88 : decode cX4_joinLevels 88 = .ok (.goto (-23), 3) := by decide +kernel
theorem dX4_joinLevels_91 : decode cX4_joinLevels 91 = .ok (.iinc 2 (-1), 3) := by decide +kernel
theorem dX4_joinLevels_94 : decode cX4_joinLevels 94 = .ok (.goto (-89), 3) := by decide +kernel
theorem dX4_joinLevels_97 : decode cX4_joinLevels 97 = .ok (.return_, 1) := by decide +kernel
theorem dX4_joinLine_0 : decode cX4_joinLine 0 = .ok (.aload_n 0, 1) := by decide +kernel
theorem dX4_joinLine_1 : decode cX4_joinLine 1 = .ok (.aload_n 0, 1) := by decide +kernel
theorem dX4_joinLine_2 : decode cX4_joinLine 2 = .ok (.getfield 30, 3) := by decide +kernel
theorem dX4_joinLine_5 : decode cX4_joinLine 5 = .ok (.iload_n 1, 1) := by decide +kernel
theorem dX4_joinLine_6 : decode cX4_joinLine 6 = .ok (.iload_n 2, 1) := by decide +kernel
theorem dX4_joinLine_7 : decode cX4_joinLine 7 = .ok (.iload_n 3, 1) := by decide +kernel
theorem dX4_joinLine_8 : decode cX4_joinLine 8 = .ok (.invokevirtual 128, 3) := by decide +kernel
theorem dX4_joinLine_11 : decode cX4_joinLine 11 = .ok (.iload_n 3, 1) := by decide +kernel
theorem dX4_joinLine_12 : decode cX4_joinLine 12 = .ok (.iconst 1, 1) := by decide +kernel
theorem dX4_joinLine_13 : decode cX4_joinLine 13 = .ok (.invokestatic 74, 3) := by decide +kernel
theorem dX4_joinLine_16 : decode cX4_joinLine 16 = .ok (.istore 5, 2) := by decide +kernel
theorem dX4_joinLine_18 : decode cX4_joinLine 18 = .ok (.iconst 0, 1) := by decide +kernel
theorem dX4_joinLine_19 : decode cX4_joinLine 19 = .ok (.istore 6, 2) := by decide +kernel
theorem dX4_joinLine_21 : decode cX4_joinLine 21 = .ok (.iload 6, 2) := by decide +kernel
theorem dX4_joinLine_23 : decode cX4_joinLine 23 = .ok (.iload 5, 2) := by decide +kernel
theorem dX4_joinLine_25 : decode cX4_joinLine 25 = .ok (.if_icmp .ge 124, 3) := by decide +kernel
theorem dX4_joinLine_28 : decode cX4_joinLine 28 = .ok (.aload_n 0, 1) := by decide +kernel
theorem dX4_joinLine_29 : decode cX4_joinLine 29 = .ok (.getfield 33, 3) := by decide +kernel
theorem dX4_joinLine_32 : decode cX4_joinLine 32 = .ok (.iload 6, 2) := by decide +kernel
theorem dX4_joinLine_34 : decode cX4_joinLine 34 = .ok (.invokestatic 84, 3) := by decide +kernel
theorem dX4_joinLine_37 : decode cX4_joinLine 37 = .ok (.istore 7, 2) := by decide +kernel
theorem dX4_joinLine_39 : decode cX4_joinLine 39 = .ok (.iconst 2, 1) := by decide +kernel
theorem dX4_joinLine_40 : decode cX4_joinLine 40 = .ok (.iload 6, 2) := by decide +kernel
theorem dX4_joinLine_42 : decode cX4_joinLine 42 = .ok (.imul, 1) := by decide +kernel
theorem dX4_joinLine_43 : decode cX4_joinLine 43 = .ok (.iconst 1, 1) := by decide +kernel
theorem dX4_joinLine_44 : decode cX4_joinLine 44 = .ok (.iadd, 1) := by decide +kernel
theorem dX4_joinLine_45 : decode cX4_joinLine 45 = .ok (.iload_n 3, 1) := by decide +kernel
theorem dX4_joinLine_46 : decode cX4_joinLine 46 = .ok (.if_icmp .ge 80, 3) := by decide +kernel
theorem dX4_joinLine_49 : decode cX4_joinLine 49 = .ok (.aload_n 0, 1) := by decide +kernel
theorem dX4_joinLine_50 : decode cX4_joinLine 50 = .ok (.getfield 33, 3) := by decide +kernel
theorem dX4_joinLine_53 : decode cX4_joinLine 53 = .ok (.iload 5, 2) := by decide +kernel
theorem dX4_joinLine_55 : decode cX4_joinLine 55 = .ok (.iload 6, 2) := by decide +kernel
theorem dX4_joinLine_57 : decode cX4_joinLine 57 = .ok (.iadd, 1) := by decide +kernel
theorem dX4_joinLine_58 : decode cX4_joinLine 58 = .ok (.invokestatic 84, 3) := by decide +kernel
theorem dX4_joinLine_61 : decode cX4_joinLine 61 = .ok (.istore 8, 2) := by decide +kernel
theorem dX4_joinLine_63 : decode cX4_joinLine 63 = .ok (.iload 7, 2) := by decide +kernel
theorem dX4_joinLine_65 : decode cX4_joinLine 65 = .ok (.iload 8, 2) := by decide +kernel
theorem dX4_joinLine_67 : decode cX4_joinLine 67 = .ok (.iconst 1, 1) := by decide +kernel
theorem dX4_joinLine_68 : decode cX4_joinLine 68 = .ok (.iadd, 1) := by decide +kernel
theorem dX4_joinLine_69 : decode cX4_joinLine 69 = .ok (.iconst 1, 1) := by decide +kernel
theorem dX4_joinLine_70 : decode cX4_joinLine 70 = .ok (.ishr, 1) := by decide +kernel
theorem dX4_joinLine_71 : decode cX4_joinLine 71 = .ok (.iadd, 1) := by decide +kernel
theorem dX4_joinLine_72 : decode cX4_joinLine 72 = .ok (.istore 9, 2) := by decide +kernel
theorem dX4_joinLine_74 : decode cX4_joinLine 74 = .ok (.aload_n 0, 1) := by decide +kernel
theorem dX4_joinLine_75 : decode cX4_joinLine 75 = .ok (.getfield 30, 3) := by decide +kernel
theorem dX4_joinLine_78 : decode cX4_joinLine 78 = .ok (.iload_n 1, 1) := by decide +kernel
theorem dX4_joinLine_79 : decode cX4_joinLine 79 = .ok (.iconst 2, 1) := by decide +kernel
theorem dX4_joinLine_80 : decode cX4_joinLine 80 = .ok (.iload 6, 2) := by decide +kernel
theorem dX4_joinLine_82 : decode cX4_joinLine 82 = .ok (.imul, 1) := by decide +kernel
theorem dX4_joinLine_83 : decode cX4_joinLine 83 = .ok (.iload_n 2, 1) := by decide +kernel
theorem dX4_joinLine_84 : decode cX4_joinLine 84 = .ok (.imul, 1) := by decide +kernel
theorem dX4_joinLine_85 : decode cX4_joinLine 85 = .ok (.iadd, 1) := by decide +kernel
theorem dX4_joinLine_86 : decode cX4_joinLine 86 = .ok (.iload 9, 2) := by decide +kernel
theorem dX4_joinLine_88 : decode cX4_joinLine 88 = .ok (.invokestatic 91, 3) := by decide +kernel
theorem dX4_joinLine_91 : decode cX4_joinLine 91 = .ok (.aload_n 0, 1) := by decide +kernel
theorem dX4_joinLine_92 : decode cX4_joinLine 92 = .ok (.getfield 30, 3) := by decide +kernel
theorem dX4_joinLine_95 : decode cX4_joinLine 95 = .ok (.iload_n 1, 1) := by decide +kernel
theorem dX4_joinLine_96 : decode cX4_joinLine 96 = .ok (.iconst 2, 1) := by decide +kernel
theorem dX4_joinLine_97 : decode cX4_joinLine 97 = .ok (.iload 6, 2) := by decide +kernel
theorem dX4_joinLine_99 : decode cX4_joinLine 99 = .ok (.imul, 1) := by decide +kernel
theorem dX4_joinLine_100 : decode cX4_joinLine 100 = .ok (.iconst 1, 1) := by decide +kernel
theorem dX4_joinLine_101 : decode cX4_joinLine 101 = .ok (.iadd, 1) := by decide +kernel
theorem dX4_joinLine_102 : decode cX4_joinLine 102 = .ok (.iload_n 2, 1) := by decide +kernel
theorem dX4_joinLine_103 : decode cX4_joinLine 103 = .ok (.imul, 1) := by decide +kernel
theorem dX4_joinLine_104 : decode cX4_joinLine 104 = .ok (.iadd, 1) := by decide +kernel
theorem dX4_joinLine_105 : decode cX4_joinLine 105 = .ok (.iload 4, 2) := by decide +kernel
theorem dX4_joinLine_107 : decode cX4_joinLine 107 = .ok (.ifCond .eq 8, 3) := by decide +kernel
theorem dX4_joinLine_110 : decode cX4_joinLine 110 = .ok (.iload 9, 2) := by decide +kernel
theorem dX4_joinLine_112 : decode cX4_joinLine 112 = .ok (.goto 8, 3) := by decide +kernel
theorem dX4_joinLine_115 : decode cX4_joinLine 115 = .ok (.iload 9, 2) := by decide +kernel
theorem dX4_joinLine_117 : decode cX4_joinLine 117 = .ok (.iload 8, 2) := by decide +kernel
theorem dX4_joinLine_119 : decode cX4_joinLine 119 = .ok (.isub, 1) := by decide +kernel
theorem dX4_joinLine_120 : decode cX4_joinLine 120 = .ok (.invokestatic 91, 3) := by decide +kernel
theorem dX4_joinLine_123 : decode cX4_joinLine 123 = .ok (.goto 20, 3) := by decide +kernel
theorem dX4_joinLine_126 : decode cX4_joinLine 126 = .ok (.aload_n 0, 1) := by decide +kernel
theorem dX4_joinLine_127 : decode cX4_joinLine 127 = .ok (.getfield 30, 3) := by decide +kernel
theorem dX4_joinLine_130 : decode cX4_joinLine 130 = .ok (.iload_n 1, 1) := by decide +kernel
theorem dX4_joinLine_131 : decode cX4_joinLine 131 = .ok (.iconst 2, 1) := by decide +kernel
theorem dX4_joinLine_132 : decode cX4_joinLine 132 = .ok (.iload 6, 2) := by decide +kernel
theorem dX4_joinLine_134 : decode cX4_joinLine 134 = .ok (.imul, 1) := by decide +kernel
theorem dX4_joinLine_135 : decode cX4_joinLine 135 = .ok (.iload_n 2, 1) := by decide +kernel
theorem dX4_joinLine_136 : decode cX4_joinLine 136 = .ok (.imul, 1) := by decide +kernel
theorem dX4_joinLine_137 : decode cX4_joinLine 137 = .ok (.iadd, 1) := by decide +kernel
theorem dX4_joinLine_138 : decode cX4_joinLine 138 = .ok (.iload 7, 2) := by decide +kernel
theorem dX4_joinLine_140 : decode cX4_joinLine 140 = .ok (.invokestatic 91, 3) := by decide +kernel
theorem dX4_joinLine_143 : decode cX4_joinLine 143 = .ok (.iinc 6 1, 3) := by decide +kernel
theorem dX4_joinLine_146 : decode cX4_joinLine 146 = .ok (.goto (-125), 3) := by decide +kernel
theorem dX4_joinLine_149 : decode cX4_joinLine 149 = .ok (.return_, 1) := by decide +kernel
theorem dX4_countOther_0 : decode cX4_countOther 0 = .ok (.iconst 0, 1) := by decide +kernel
theorem dX4_countOther_1 : decode cX4_countOther 1 = .ok (.istore_n 2, 1) := by decide +kernel
theorem dX4_countOther_2 : decode cX4_countOther 2 = .ok (.iconst 0, 1) := by decide +kernel
theorem dX4_countOther_3 : decode cX4_countOther 3 = .ok (.istore_n 3, 1) := by decide +kernel
theorem dX4_countOther_4 : decode cX4_countOther 4 = .ok (.iload_n 3, 1) := by decide +kernel
theorem dX4_countOther_5 : decode cX4_countOther 5 = .ok (.aload_n 0, 1) := by decide +kernel
theorem dX4_countOther_6 : decode cX4_countOther 6 = .ok (.getfield 61, 3) := by decide +kernel
theorem dX4_countOther_9 : decode cX4_countOther 9 = .ok (.if_icmp .ge 43, 3) := by decide +kernel
theorem dX4_countOther_12 : decode cX4_countOther 12 = .ok (.iconst 0, 1) := by decide +kernel
theorem dX4_countOther_13 : decode cX4_countOther 13 = .ok (.istore 4, 2) := by decide +kernel
theorem dX4_countOther_15 : decode cX4_countOther 15 = .ok (.iload 4, 2) := by decide +kernel
theorem dX4_countOther_17 : decode cX4_countOther 17 = .ok (.aload_n 0, 1) := by decide +kernel
theorem dX4_countOther_18 : decode cX4_countOther 18 = .ok (.getfield 55, 3) := by decide +kernel
theorem dX4_countOther_21 : decode cX4_countOther 21 = .ok (.if_icmp .ge 25, 3) := by decide +kernel
theorem dX4_countOther_24 : decode cX4_countOther 24 = .ok (.aload_n 1, 1) := by decide +kernel
theorem dX4_countOther_25 : decode cX4_countOther 25 = .ok (.iload 4, 2) := by decide +kernel
theorem dX4_countOther_27 : decode cX4_countOther 27 = .ok (.iload_n 3, 1) := by decide +kernel
theorem dX4_countOther_28 : decode cX4_countOther 28 = .ok (.invokestatic 88, 3) := by decide +kernel
theorem dX4_countOther_31 : decode cX4_countOther 31 = .ok (.invokestatic 84, 3) := by decide +kernel
theorem dX4_countOther_34 : decode cX4_countOther 34 = .ok (.ifCond .eq 6, 3) := by decide +kernel
theorem dX4_countOther_37 : decode cX4_countOther 37 = .ok (.iinc 2 1, 3) := by decide +kernel
theorem dX4_countOther_40 : decode cX4_countOther 40 = .ok (.iinc 4 1, 3) := by decide +kernel
theorem dX4_countOther_43 : decode cX4_countOther 43 = .ok (.goto (-28), 3) := by decide +kernel
theorem dX4_countOther_46 : decode cX4_countOther 46 = .ok (.iinc 3 1, 3) := by decide +kernel
theorem dX4_countOther_49 : decode cX4_countOther 49 = .ok (.goto (-45), 3) := by decide +kernel
theorem dX4_countOther_52 : decode cX4_countOther 52 = .ok (.iload_n 2, 1) := by decide +kernel
theorem dX4_countOther_53 : decode cX4_countOther 53 = .ok (.ireturn, 1) := by decide +kernel
theorem dX4_layerAt_0 : decode cX4_layerAt 0 = .ok (.bipush 8, 2) := by decide +kernel
theorem dX4_layerAt_2 : decode cX4_layerAt 2 = .ok (.iload_n 2, 1) := by decide +kernel
theorem dX4_layerAt_3 : decode cX4_layerAt 3 = .ok (.isub, 1) := by decide +kernel
theorem dX4_layerAt_4 : decode cX4_layerAt 4 = .ok (.istore_n 3, 1) := by decide +kernel
theorem dX4_layerAt_5 : decode cX4_layerAt 5 = .ok (.iconst 0, 1) := by decide +kernel
theorem dX4_layerAt_6 : decode cX4_layerAt 6 = .ok (.aload_n 0, 1) := by decide +kernel
theorem dX4_layerAt_7 : decode cX4_layerAt 7 = .ok (.getfield 24, 3) := by decide +kernel
theorem dX4_layerAt_10 : decode cX4_layerAt 10 = .ok (.iload_n 1, 1) := by decide +kernel
theorem dX4_layerAt_11 : decode cX4_layerAt 11 = .ok (.invokestatic 84, 3) := by decide +kernel
theorem dX4_layerAt_14 : decode cX4_layerAt 14 = .ok (.ifCond .eq 12, 3) := by decide +kernel
theorem dX4_layerAt_17 : decode cX4_layerAt 17 = .ok (.iload_n 3, 1) := by decide +kernel
theorem dX4_layerAt_18 : decode cX4_layerAt 18 = .ok (.aload_n 0, 1) := by decide +kernel
theorem dX4_layerAt_19 : decode cX4_layerAt 19 = .ok (.getfield 67, 3) := by decide +kernel
theorem dX4_layerAt_22 : decode cX4_layerAt 22 = .ok (.isub, 1) := by decide +kernel
theorem dX4_layerAt_23 : decode cX4_layerAt 23 = .ok (.goto 4, 3) := by decide +kernel
theorem dX4_layerAt_26 : decode cX4_layerAt 26 = .ok (.iload_n 3, 1) := by decide +kernel
theorem dX4_layerAt_27 : decode cX4_layerAt 27 = .ok (.invokestatic 136, 3) := by decide +kernel
theorem dX4_layerAt_30 : decode cX4_layerAt 30 = .ok (.ireturn, 1) := by decide +kernel
theorem dX4_missingPlanes_0 : decode cX4_missingPlanes 0 = .ok (.iload_n 2, 1) := by decide +kernel
theorem dX4_missingPlanes_1 : decode cX4_missingPlanes 1 = .ok (.iconst 1, 1) := by decide +kernel
theorem dX4_missingPlanes_2 : decode cX4_missingPlanes 2 = .ok (.if_icmp .ge 8, 3) := by decide +kernel
theorem dX4_missingPlanes_5 : decode cX4_missingPlanes 5 = .ok (.bipush 9, 2) := by decide +kernel
theorem dX4_missingPlanes_7 : decode cX4_missingPlanes 7 = .ok (.goto 17, 3) := by decide +kernel
theorem dX4_missingPlanes_10 : decode cX4_missingPlanes 10 = .ok (.iconst 0, 1) := by decide +kernel
theorem dX4_missingPlanes_11 : decode cX4_missingPlanes 11 = .ok (.aload_n 0, 1) := by decide +kernel
theorem dX4_missingPlanes_12 : decode cX4_missingPlanes 12 = .ok (.iload_n 1, 1) := by decide +kernel
theorem dX4_missingPlanes_13 : decode cX4_missingPlanes 13 = .ok (.iconst 0, 1) := by decide +kernel
theorem dX4_missingPlanes_14 : decode cX4_missingPlanes 14 = .ok (.invokevirtual 139, 3) := by decide +kernel
theorem dX4_missingPlanes_17 : decode cX4_missingPlanes 17 = .ok (.iconst 1, 1) := by decide +kernel
theorem dX4_missingPlanes_18 : decode cX4_missingPlanes 18 = .ok (.iadd, 1) := by decide +kernel
theorem dX4_missingPlanes_19 : decode cX4_missingPlanes 19 = .ok (.iload_n 2, 1) := by decide +kernel
theorem dX4_missingPlanes_20 : decode cX4_missingPlanes 20 = .ok (.isub, 1) := by decide +kernel
theorem dX4_missingPlanes_21 : decode cX4_missingPlanes 21 = .ok (.invokestatic 136, 3) := by decide +kernel
theorem dX4_missingPlanes_24 : decode cX4_missingPlanes 24 = .ok (.ireturn, 1) := by decide +kernel
theorem dX4_bitTotal_0 : decode cX4_bitTotal 0 = .ok (.iconst 0, 1) := by decide +kernel
theorem dX4_bitTotal_1 : decode cX4_bitTotal 1 = .ok (.istore_n 2, 1) := by decide +kernel
theorem dX4_bitTotal_2 : decode cX4_bitTotal 2 = .ok (.iconst 0, 1) := by decide +kernel
theorem dX4_bitTotal_3 : decode cX4_bitTotal 3 = .ok (.istore_n 3, 1) := by decide +kernel
theorem dX4_bitTotal_4 : decode cX4_bitTotal 4 = .ok (.iload_n 3, 1) := by decide +kernel
theorem dX4_bitTotal_5 : decode cX4_bitTotal 5 = .ok (.aload_n 0, 1) := by decide +kernel
theorem dX4_bitTotal_6 : decode cX4_bitTotal 6 = .ok (.getfield 61, 3) := by decide +kernel
theorem dX4_bitTotal_9 : decode cX4_bitTotal 9 = .ok (.if_icmp .ge 41, 3) := by decide +kernel
theorem dX4_bitTotal_12 : decode cX4_bitTotal 12 = .ok (.iconst 0, 1) := by decide +kernel
theorem dX4_bitTotal_13 : decode cX4_bitTotal 13 = .ok (.istore 4, 2) := by decide +kernel
theorem dX4_bitTotal_15 : decode cX4_bitTotal 15 = .ok (.iload 4, 2) := by decide +kernel
theorem dX4_bitTotal_17 : decode cX4_bitTotal 17 = .ok (.aload_n 0, 1) := by decide +kernel
theorem dX4_bitTotal_18 : decode cX4_bitTotal 18 = .ok (.getfield 55, 3) := by decide +kernel
theorem dX4_bitTotal_21 : decode cX4_bitTotal 21 = .ok (.if_icmp .ge 23, 3) := by decide +kernel
theorem dX4_bitTotal_24 : decode cX4_bitTotal 24 = .ok (.iload_n 2, 1) := by decide +kernel
theorem dX4_bitTotal_25 : decode cX4_bitTotal 25 = .ok (.aload_n 0, 1) := by decide +kernel
theorem dX4_bitTotal_26 : decode cX4_bitTotal 26 = .ok (.iload 4, 2) := by decide +kernel
theorem dX4_bitTotal_28 : decode cX4_bitTotal 28 = .ok (.iload_n 3, 1) := by decide +kernel
theorem dX4_bitTotal_29 : decode cX4_bitTotal 29 = .ok (.invokestatic 88, 3) := by decide +kernel
theorem dX4_bitTotal_32 : decode cX4_bitTotal 32 = .ok (.iload_n 1, 1) := by decide +kernel
theorem dX4_bitTotal_33 : decode cX4_bitTotal 33 = .ok (.invokevirtual 142, 3) := by decide +kernel
theorem dX4_bitTotal_36 : decode cX4_bitTotal 36 = .ok (.iadd, 1) := by decide +kernel
theorem dX4_bitTotal_37 : decode cX4_bitTotal 37 = .ok (.istore_n 2, 1) := by decide +kernel
theorem dX4_bitTotal_38 : decode cX4_bitTotal 38 = .ok (.iinc 4 1, 3) := by decide +kernel
theorem dX4_bitTotal_41 : decode cX4_bitTotal 41 = .ok (.goto (-26), 3) := by decide +kernel
theorem dX4_bitTotal_44 : decode cX4_bitTotal 44 = .ok (.iinc 3 1, 3) := by decide +kernel
theorem dX4_bitTotal_47 : decode cX4_bitTotal 47 = .ok (.goto (-43), 3) := by decide +kernel
theorem dX4_bitTotal_50 : decode cX4_bitTotal 50 = .ok (.iload_n 2, 1) := by decide +kernel
theorem dX4_bitTotal_51 : decode cX4_bitTotal 51 = .ok (.ireturn, 1) := by decide +kernel
theorem dX4_bitsAt_0 : decode cX4_bitsAt 0 = .ok (.aload_n 0, 1) := by decide +kernel
theorem dX4_bitsAt_1 : decode cX4_bitsAt 1 = .ok (.getfield 15, 3) := by decide +kernel
theorem dX4_bitsAt_4 : decode cX4_bitsAt 4 = .ok (.iload_n 1, 1) := by decide +kernel
theorem dX4_bitsAt_5 : decode cX4_bitsAt 5 = .ok (.invokestatic 84, 3) := by decide +kernel
theorem dX4_bitsAt_8 : decode cX4_bitsAt 8 = .ok (.invokestatic 145, 3) := by decide +kernel
theorem dX4_bitsAt_11 : decode cX4_bitsAt 11 = .ok (.istore_n 3, 1) := by decide +kernel
theorem dX4_bitsAt_12 : decode cX4_bitsAt 12 = .ok (.iconst 0, 1) := by decide +kernel
theorem dX4_bitsAt_13 : decode cX4_bitsAt 13 = .ok (.istore 4, 2) := by decide +kernel
theorem dX4_bitsAt_15 : decode cX4_bitsAt 15 = .ok (.iconst 0, 1) := by decide +kernel
theorem dX4_bitsAt_16 : decode cX4_bitsAt 16 = .ok (.istore 5, 2) := by decide +kernel
theorem dX4_bitsAt_18 : decode cX4_bitsAt 18 = .ok (.iload 5, 2) := by decide +kernel
theorem dX4_bitsAt_20 : decode cX4_bitsAt 20 = .ok (.bipush 9, 2) := by decide +kernel
theorem dX4_bitsAt_22 : decode cX4_bitsAt 22 = .ok (.if_icmp .ge 55, 3) := by decide +kernel
theorem dX4_bitsAt_25 : decode cX4_bitsAt 25 = .ok (.iload_n 2, 1) := by decide +kernel
theorem dX4_bitsAt_26 : decode cX4_bitsAt 26 = .ok (.iconst (-1), 1) := by decide +kernel
theorem dX4_bitsAt_27 : decode cX4_bitsAt 27 = .ok (.if_icmp .eq 14, 3) := by decide +kernel
theorem dX4_bitsAt_30 : decode cX4_bitsAt 30 = .ok (.aload_n 0, 1) := by decide +kernel
theorem dX4_bitsAt_31 : decode cX4_bitsAt 31 = .ok (.iload_n 1, 1) := by decide +kernel
theorem dX4_bitsAt_32 : decode cX4_bitsAt 32 = .ok (.iload 5, 2) := by decide +kernel
theorem dX4_bitsAt_34 : decode cX4_bitsAt 34 = .ok (.invokevirtual 139, 3) := by decide +kernel
theorem dX4_bitsAt_37 : decode cX4_bitsAt 37 = .ok (.iload_n 2, 1) := by decide +kernel
theorem dX4_bitsAt_38 : decode cX4_bitsAt 38 = .ok (.if_icmp .ne 33, 3) := by decide +kernel
theorem dX4_bitsAt_41 : decode cX4_bitsAt 41 = .ok (.iload_n 3, 1) := by decide +kernel
theorem dX4_bitsAt_42 : decode cX4_bitsAt 42 = .ok (.iload 5, 2) := by decide +kernel
theorem dX4_bitsAt_44 : decode cX4_bitsAt 44 = .ok (.ishr, 1) := by decide +kernel
theorem dX4_bitsAt_45 : decode cX4_bitsAt 45 = .ok (.iconst 1, 1) := by decide +kernel
theorem dX4_bitsAt_46 : decode cX4_bitsAt 46 = .ok (.if_icmp .ne 7, 3) := by decide +kernel
theorem dX4_bitsAt_49 : decode cX4_bitsAt 49 = .ok (.iconst 1, 1) := by decide +kernel
theorem dX4_bitsAt_50 : decode cX4_bitsAt 50 = .ok (.goto 4, 3) := by decide +kernel
theorem dX4_bitsAt_53 : decode cX4_bitsAt 53 = .ok (.iconst 0, 1) := by decide +kernel
theorem dX4_bitsAt_54 : decode cX4_bitsAt 54 = .ok (.istore 6, 2) := by decide +kernel
theorem dX4_bitsAt_56 : decode cX4_bitsAt 56 = .ok (.iload 4, 2) := by decide +kernel
theorem dX4_bitsAt_58 : decode cX4_bitsAt 58 = .ok (.iload 6, 2) := by decide +kernel
theorem dX4_bitsAt_60 : decode cX4_bitsAt 60 = .ok (.ifCond .eq 7, 3) := by decide +kernel
theorem dX4_bitsAt_63 : decode cX4_bitsAt 63 = .ok (.iconst 2, 1) := by decide +kernel
theorem dX4_bitsAt_64 : decode cX4_bitsAt 64 = .ok (.goto 4, 3) := by decide +kernel
theorem dX4_bitsAt_67 : decode cX4_bitsAt 67 = .ok (.iconst 1, 1) := by decide +kernel
theorem dX4_bitsAt_68 : decode cX4_bitsAt 68 = .ok (.iadd, 1) := by decide +kernel
theorem dX4_bitsAt_69 : decode cX4_bitsAt 69 = .ok (.istore 4, 2) := by decide +kernel
theorem dX4_bitsAt_71 : decode cX4_bitsAt 71 = .ok (.iinc 5 1, 3) := by decide +kernel
theorem dX4_bitsAt_74 : decode cX4_bitsAt 74 = .ok (.goto (-56), 3) := by decide +kernel
theorem dX4_bitsAt_77 : decode cX4_bitsAt 77 = .ok (.iload 4, 2) := by decide +kernel
theorem dX4_bitsAt_79 : decode cX4_bitsAt 79 = .ok (.ireturn, 1) := by decide +kernel
theorem dX4_countBelow_0 : decode cX4_countBelow 0 = .ok (.iconst 0, 1) := by decide +kernel
theorem dX4_countBelow_1 : decode cX4_countBelow 1 = .ok (.istore_n 2, 1) := by decide +kernel
theorem dX4_countBelow_2 : decode cX4_countBelow 2 = .ok (.iconst 0, 1) := by decide +kernel
theorem dX4_countBelow_3 : decode cX4_countBelow 3 = .ok (.istore_n 3, 1) := by decide +kernel
theorem dX4_countBelow_4 : decode cX4_countBelow 4 = .ok (.iload_n 3, 1) := by decide +kernel
theorem dX4_countBelow_5 : decode cX4_countBelow 5 = .ok (.aload_n 0, 1) := by decide +kernel
theorem dX4_countBelow_6 : decode cX4_countBelow 6 = .ok (.getfield 61, 3) := by decide +kernel
theorem dX4_countBelow_9 : decode cX4_countBelow 9 = .ok (.if_icmp .ge 44, 3) := by decide +kernel
theorem dX4_countBelow_12 : decode cX4_countBelow 12 = .ok (.iconst 0, 1) := by decide +kernel
theorem dX4_countBelow_13 : decode cX4_countBelow 13 = .ok (.istore 4, 2) := by decide +kernel
theorem dX4_countBelow_15 : decode cX4_countBelow 15 = .ok (.iload 4, 2) := by decide +kernel
theorem dX4_countBelow_17 : decode cX4_countBelow 17 = .ok (.aload_n 0, 1) := by decide +kernel
theorem dX4_countBelow_18 : decode cX4_countBelow 18 = .ok (.getfield 55, 3) := by decide +kernel
theorem dX4_countBelow_21 : decode cX4_countBelow 21 = .ok (.if_icmp .ge 26, 3) := by decide +kernel
theorem dX4_countBelow_24 : decode cX4_countBelow 24 = .ok (.aload_n 0, 1) := by decide +kernel
theorem dX4_countBelow_25 : decode cX4_countBelow 25 = .ok (.iload 4, 2) := by decide +kernel
theorem dX4_countBelow_27 : decode cX4_countBelow 27 = .ok (.iload_n 3, 1) := by decide +kernel
theorem dX4_countBelow_28 : decode cX4_countBelow 28 = .ok (.invokestatic 88, 3) := by decide +kernel
theorem dX4_countBelow_31 : decode cX4_countBelow 31 = .ok (.iload_n 1, 1) := by decide +kernel
theorem dX4_countBelow_32 : decode cX4_countBelow 32 = .ok (.invokevirtual 148, 3) := by decide +kernel
theorem dX4_countBelow_35 : decode cX4_countBelow 35 = .ok (.ifCond .eq 6, 3) := by decide +kernel
theorem dX4_countBelow_38 : decode cX4_countBelow 38 = .ok (.iinc 2 1, 3) := by decide +kernel
theorem dX4_countBelow_41 : decode cX4_countBelow 41 = .ok (.iinc 4 1, 3) := by decide +kernel
theorem dX4_countBelow_44 : decode cX4_countBelow 44 = .ok (.goto (-29), 3) := by decide +kernel
theorem dX4_countBelow_47 : decode cX4_countBelow 47 = .ok (.iinc 3 1, 3) := by decide +kernel
theorem dX4_countBelow_50 : decode cX4_countBelow 50 = .ok (.goto (-46), 3) := by decide +kernel
theorem dX4_countBelow_53 : decode cX4_countBelow 53 = .ok (.iload_n 2, 1) := by decide +kernel
theorem dX4_countBelow_54 : decode cX4_countBelow 54 = .ok (.ireturn, 1) := by decide +kernel
theorem dX4_isBelow_0 : decode cX4_isBelow 0 = .ok (.aload_n 0, 1) := by decide +kernel
theorem dX4_isBelow_1 : decode cX4_isBelow 1 = .ok (.getfield 21, 3) := by decide +kernel
theorem dX4_isBelow_4 : decode cX4_isBelow 4 = .ok (.iload_n 1, 1) := by decide +kernel
theorem dX4_isBelow_5 : decode cX4_isBelow 5 = .ok (.invokestatic 84, 3) := by decide +kernel
theorem dX4_isBelow_8 : decode cX4_isBelow 8 = .ok (.istore_n 3, 1) := by decide +kernel
theorem dX4_isBelow_9 : decode cX4_isBelow 9 = .ok (.iconst 0, 1) := by decide +kernel
theorem dX4_isBelow_10 : decode cX4_isBelow 10 = .ok (.istore 4, 2) := by decide +kernel
theorem dX4_isBelow_12 : decode cX4_isBelow 12 = .ok (.iload 4, 2) := by decide +kernel
theorem dX4_isBelow_14 : decode cX4_isBelow 14 = .ok (.iconst 3, 1) := by decide +kernel
theorem dX4_isBelow_15 : decode cX4_isBelow 15 = .ok (.if_icmp .ge 29, 3) := by decide +kernel
theorem dX4_isBelow_18 : decode cX4_isBelow 18 = .ok (.iload_n 3, 1) := by decide +kernel
theorem dX4_isBelow_19 : decode cX4_isBelow 19 = .ok (.ifCond .lt 25, 3) := by decide +kernel
theorem dX4_isBelow_22 : decode cX4_isBelow 22 = .ok (.iload_n 3, 1) := by decide +kernel
theorem dX4_isBelow_23 : decode cX4_isBelow 23 = .ok (.iload_n 2, 1) := by decide +kernel
theorem dX4_isBelow_24 : decode cX4_isBelow 24 = .ok (.if_icmp .ne 5, 3) := by decide +kernel
theorem dX4_isBelow_27 : decode cX4_isBelow 27 = .ok (.iconst 1, 1) := by decide +kernel
theorem dX4_isBelow_28 : decode cX4_isBelow 28 = .ok (.ireturn, 1) := by decide +kernel
theorem dX4_isBelow_29 : decode cX4_isBelow 29 = .ok (.aload_n 0, 1) := by decide +kernel
theorem dX4_isBelow_30 : decode cX4_isBelow 30 = .ok (.getfield 21, 3) := by decide +kernel
theorem dX4_isBelow_33 : decode cX4_isBelow 33 = .ok (.iload_n 3, 1) := by decide +kernel
theorem dX4_isBelow_34 : decode cX4_isBelow 34 = .ok (.invokestatic 84, 3) := by decide +kernel
theorem dX4_isBelow_37 : decode cX4_isBelow 37 = .ok (.istore_n 3, 1) := by decide +kernel
theorem dX4_isBelow_38 : decode cX4_isBelow 38 = .ok (.iinc 4 1, 3) := by decide +kernel
theorem dX4_isBelow_41 : decode cX4_isBelow 41 = .ok (.goto (-29), 3) := by decide +kernel
theorem dX4_isBelow_44 : decode cX4_isBelow 44 = .ok (.iconst 0, 1) := by decide +kernel
theorem dX4_isBelow_45 : decode cX4_isBelow 45 = .ok (.ireturn, 1) := by decide +kernel
theorem dX4_countRoots_0 : decode cX4_countRoots 0 = .ok (.aload_n 0, 1) := by decide +kernel
theorem dX4_countRoots_1 : decode cX4_countRoots 1 = .ok (.iconst 1, 1) := by decide +kernel
theorem dX4_countRoots_2 : decode cX4_countRoots 2 = .ok (.iload_n 1, 1) := by decide +kernel
theorem dX4_countRoots_3 : decode cX4_countRoots 3 = .ok (.ishl, 1) := by decide +kernel
theorem dX4_countRoots_4 : decode cX4_countRoots 4 = .ok (.invokevirtual 152, 3) := by decide +kernel
theorem dX4_countRoots_7 : decode cX4_countRoots 7 = .ok (.iconst 0, 1) := by decide +kernel
theorem dX4_countRoots_8 : decode cX4_countRoots 8 = .ok (.istore_n 2, 1) := by decide +kernel
theorem dX4_countRoots_9 : decode cX4_countRoots 9 = .ok (.iconst 0, 1) := by decide +kernel
theorem dX4_countRoots_10 : decode cX4_countRoots 10 = .ok (.istore_n 3, 1) := by decide +kernel
theorem dX4_countRoots_11 : decode cX4_countRoots 11 = .ok (.iload_n 3, 1) := by decide +kernel
theorem dX4_countRoots_12 : decode cX4_countRoots 12 = .ok (.aload_n 0, 1) := by decide +kernel
theorem dX4_countRoots_13 : decode cX4_countRoots 13 = .ok (.getfield 61, 3) := by decide +kernel
theorem dX4_countRoots_16 : decode cX4_countRoots 16 = .ok (.if_icmp .ge 78, 3) := by decide +kernel
theorem dX4_countRoots_19 : decode cX4_countRoots 19 = .ok (.iconst 0, 1) := by decide +kernel
theorem dX4_countRoots_20 : decode cX4_countRoots 20 = .ok (.istore 4, 2) := by decide +kernel
theorem dX4_countRoots_22 : decode cX4_countRoots 22 = .ok (.iload 4, 2) := by decide +kernel
theorem dX4_countRoots_24 : decode cX4_countRoots 24 = .ok (.aload_n 0, 1) := by decide +kernel
theorem dX4_countRoots_25 : decode cX4_countRoots 25 = .ok (.getfield 55, 3) := by decide +kernel
theorem dX4_countRoots_28 : decode cX4_countRoots 28 = .ok (.if_icmp .ge 60, 3) := by decide +kernel
theorem dX4_countRoots_31 : decode cX4_countRoots 31 = .ok (.iload 4, 2) := by decide +kernel
theorem dX4_countRoots_33 : decode cX4_countRoots 33 = .ok (.iload_n 3, 1) := by decide +kernel
theorem dX4_countRoots_34 : decode cX4_countRoots 34 = .ok (.invokestatic 88, 3) := by decide +kernel
theorem dX4_countRoots_37 : decode cX4_countRoots 37 = .ok (.istore 5, 2) := by decide +kernel
theorem dX4_countRoots_39 : decode cX4_countRoots 39 = .ok (.aload_n 0, 1) := by decide +kernel
theorem dX4_countRoots_40 : decode cX4_countRoots 40 = .ok (.getfield 21, 3) := by decide +kernel
theorem dX4_countRoots_43 : decode cX4_countRoots 43 = .ok (.iload 5, 2) := by decide +kernel
theorem dX4_countRoots_45 : decode cX4_countRoots 45 = .ok (.invokestatic 84, 3) := by decide +kernel
theorem dX4_countRoots_48 : decode cX4_countRoots 48 = .ok (.istore 6, 2) := by decide +kernel
theorem dX4_countRoots_50 : decode cX4_countRoots 50 = .ok (.aload_n 0, 1) := by decide +kernel
theorem dX4_countRoots_51 : decode cX4_countRoots 51 = .ok (.getfield 27, 3) := by decide +kernel
theorem dX4_countRoots_54 : decode cX4_countRoots 54 = .ok (.iload 5, 2) := by decide +kernel
theorem dX4_countRoots_56 : decode cX4_countRoots 56 = .ok (.invokestatic 84, 3) := by decide +kernel
theorem dX4_countRoots_59 : decode cX4_countRoots 59 = .ok (.ifCond .ne 23, 3) := by decide +kernel
theorem dX4_countRoots_62 : decode cX4_countRoots 62 = .ok (.iload 6, 2) := by decide +kernel
theorem dX4_countRoots_64 : decode cX4_countRoots 64 = .ok (.ifCond .lt 15, 3) := by decide +kernel
theorem dX4_countRoots_67 : decode cX4_countRoots 67 = .ok (.aload_n 0, 1) := by decide +kernel
theorem dX4_countRoots_68 : decode cX4_countRoots 68 = .ok (.getfield 27, 3) := by decide +kernel
theorem dX4_countRoots_71 : decode cX4_countRoots 71 = .ok (.iload 6, 2) := by decide +kernel
theorem dX4_countRoots_73 : decode cX4_countRoots 73 = .ok (.invokestatic 84, 3) := by decide +kernel
theorem dX4_countRoots_76 : decode cX4_countRoots 76 = .ok (.ifCond .eq 6, 3) := by decide +kernel
theorem dX4_countRoots_79 : decode cX4_countRoots 79 = .ok (.iinc 2 1, 3) := by decide +kernel
theorem dX4_countRoots_82 : decode cX4_countRoots 82 = .ok (.iinc 4 1, 3) := by decide +kernel
theorem dX4_countRoots_85 : decode cX4_countRoots 85 = .ok (.goto (-63), 3) := by decide +kernel
theorem dX4_countRoots_88 : decode cX4_countRoots 88 = .ok (.iinc 3 1, 3) := by decide +kernel
theorem dX4_countRoots_91 : decode cX4_countRoots 91 = .ok (.goto (-80), 3) := by decide +kernel
theorem dX4_countRoots_94 : decode cX4_countRoots 94 = .ok (.iload_n 2, 1) := by decide +kernel
theorem dX4_countRoots_95 : decode cX4_countRoots 95 = .ok (.ireturn, 1) := by decide +kernel
theorem dX4_markLoud_0 : decode cX4_markLoud 0 = .ok (.iconst 0, 1) := by decide +kernel
theorem dX4_markLoud_1 : decode cX4_markLoud 1 = .ok (.istore_n 2, 1) := by decide +kernel
theorem dX4_markLoud_2 : decode cX4_markLoud 2 = .ok (.iload_n 2, 1) := by decide +kernel
theorem dX4_markLoud_3 : decode cX4_markLoud 3 = .ok (.bipush 64, 2) := by decide +kernel
theorem dX4_markLoud_5 : decode cX4_markLoud 5 = .ok (.if_icmp .ge 18, 3) := by decide +kernel
theorem dX4_markLoud_8 : decode cX4_markLoud 8 = .ok (.aload_n 0, 1) := by decide +kernel
theorem dX4_markLoud_9 : decode cX4_markLoud 9 = .ok (.getfield 27, 3) := by decide +kernel
theorem dX4_markLoud_12 : decode cX4_markLoud 12 = .ok (.iload_n 2, 1) := by decide +kernel
theorem dX4_markLoud_13 : decode cX4_markLoud 13 = .ok (.iconst 0, 1) := by decide +kernel
theorem dX4_markLoud_14 : decode cX4_markLoud 14 = .ok (.invokestatic 91, 3) := by decide +kernel
theorem dX4_markLoud_17 : decode cX4_markLoud 17 = .ok (.iinc 2 1, 3) := by decide +kernel
theorem dX4_markLoud_20 : decode cX4_markLoud 20 = .ok (.goto (-18), 3) := by decide +kernel
theorem dX4_markLoud_23 : decode cX4_markLoud 23 = .ok (.iconst 0, 1) := by decide +kernel
theorem dX4_markLoud_24 : decode cX4_markLoud 24 = .ok (.istore_n 2, 1) := by decide +kernel
theorem dX4_markLoud_25 : decode cX4_markLoud 25 = .ok (.iload_n 2, 1) := by decide +kernel
theorem dX4_markLoud_26 : decode cX4_markLoud 26 = .ok (.aload_n 0, 1) := by decide +kernel
theorem dX4_markLoud_27 : decode cX4_markLoud 27 = .ok (.getfield 61, 3) := by decide +kernel
theorem dX4_markLoud_30 : decode cX4_markLoud 30 = .ok (.if_icmp .ge 54, 3) := by decide +kernel
theorem dX4_markLoud_33 : decode cX4_markLoud 33 = .ok (.iconst 0, 1) := by decide +kernel
theorem dX4_markLoud_34 : decode cX4_markLoud 34 = .ok (.istore_n 3, 1) := by decide +kernel
theorem dX4_markLoud_35 : decode cX4_markLoud 35 = .ok (.iload_n 3, 1) := by decide +kernel
theorem dX4_markLoud_36 : decode cX4_markLoud 36 = .ok (.aload_n 0, 1) := by decide +kernel
theorem dX4_markLoud_37 : decode cX4_markLoud 37 = .ok (.getfield 55, 3) := by decide +kernel
theorem dX4_markLoud_40 : decode cX4_markLoud 40 = .ok (.if_icmp .ge 38, 3) := by decide +kernel
theorem dX4_markLoud_43 : decode cX4_markLoud 43 = .ok (.iload_n 3, 1) := by decide +kernel
theorem dX4_markLoud_44 : decode cX4_markLoud 44 = .ok (.iload_n 2, 1) := by decide +kernel
theorem dX4_markLoud_45 : decode cX4_markLoud 45 = .ok (.invokestatic 88, 3) := by decide +kernel
theorem dX4_markLoud_48 : decode cX4_markLoud 48 = .ok (.istore 4, 2) := by decide +kernel
theorem dX4_markLoud_50 : decode cX4_markLoud 50 = .ok (.aload_n 0, 1) := by decide +kernel
theorem dX4_markLoud_51 : decode cX4_markLoud 51 = .ok (.getfield 15, 3) := by decide +kernel
theorem dX4_markLoud_54 : decode cX4_markLoud 54 = .ok (.iload 4, 2) := by decide +kernel
theorem dX4_markLoud_56 : decode cX4_markLoud 56 = .ok (.invokestatic 84, 3) := by decide +kernel
theorem dX4_markLoud_59 : decode cX4_markLoud 59 = .ok (.invokestatic 145, 3) := by decide +kernel
theorem dX4_markLoud_62 : decode cX4_markLoud 62 = .ok (.iload_n 1, 1) := by decide +kernel
theorem dX4_markLoud_63 : decode cX4_markLoud 63 = .ok (.if_icmp .lt 9, 3) := by decide +kernel
theorem dX4_markLoud_66 : decode cX4_markLoud 66 = .ok (.aload_n 0, 1) := by decide +kernel
theorem dX4_markLoud_67 : decode cX4_markLoud 67 = .ok (.iload 4, 2) := by decide +kernel
theorem dX4_markLoud_69 : decode cX4_markLoud 69 = .ok (.invokevirtual 156, 3) := by decide +kernel
theorem dX4_markLoud_72 : decode cX4_markLoud 72 = .ok (.iinc 3 1, 3) := by decide +kernel
theorem dX4_markLoud_75 : decode cX4_markLoud 75 = .ok (.goto (-40), 3) := by decide +kernel
theorem dX4_markLoud_78 : decode cX4_markLoud 78 = .ok (.iinc 2 1, 3) := by decide +kernel
theorem dX4_markLoud_81 : decode cX4_markLoud 81 = .ok (.goto (-56), 3) := by decide +kernel
theorem dX4_markLoud_84 : decode cX4_markLoud 84 = .ok (.return_, 1) := by decide +kernel
theorem dX4_markUpwards_0 : decode cX4_markUpwards 0 = .ok (.iload_n 1, 1) := by decide +kernel
theorem dX4_markUpwards_1 : decode cX4_markUpwards 1 = .ok (.istore_n 2, 1) := by decide +kernel
theorem dX4_markUpwards_2 : decode cX4_markUpwards 2 = .ok (.iconst 0, 1) := by decide +kernel
theorem dX4_markUpwards_3 : decode cX4_markUpwards 3 = .ok (.istore_n 3, 1) := by decide +kernel
theorem dX4_markUpwards_4 : decode cX4_markUpwards 4 = .ok (.iload_n 3, 1) := by decide +kernel
theorem dX4_markUpwards_5 : decode cX4_markUpwards 5 = .ok (.iconst 3, 1) := by decide +kernel
theorem dX4_markUpwards_6 : decode cX4_markUpwards 6 = .ok (.if_icmp .gt 31, 3) := by decide +kernel
theorem dX4_markUpwards_9 : decode cX4_markUpwards 9 = .ok (.iload_n 2, 1) := by decide +kernel
theorem dX4_markUpwards_10 : decode cX4_markUpwards 10 = .ok (.ifCond .lt 27, 3) := by decide +kernel
theorem dX4_markUpwards_13 : decode cX4_markUpwards 13 = .ok (.aload_n 0, 1) := by decide +kernel
theorem dX4_markUpwards_14 : decode cX4_markUpwards 14 = .ok (.getfield 27, 3) := by decide +kernel
theorem dX4_markUpwards_17 : decode cX4_markUpwards 17 = .ok (.iload_n 2, 1) := by decide +kernel
theorem dX4_markUpwards_18 : decode cX4_markUpwards 18 = .ok (.iconst 1, 1) := by decide +kernel
theorem dX4_markUpwards_19 : decode cX4_markUpwards 19 = .ok (.invokestatic 91, 3) := by decide +kernel
theorem dX4_markUpwards_22 : decode cX4_markUpwards 22 = .ok (.aload_n 0, 1) := by decide +kernel
theorem dX4_markUpwards_23 : decode cX4_markUpwards 23 = .ok (.getfield 21, 3) := by decide +kernel
theorem dX4_markUpwards_26 : decode cX4_markUpwards 26 = .ok (.iload_n 2, 1) := by decide +kernel
theorem dX4_markUpwards_27 : decode cX4_markUpwards 27 = .ok (.invokestatic 84, 3) := by decide +kernel
theorem dX4_markUpwards_30 : decode cX4_markUpwards 30 = .ok (.istore_n 2, 1) := by decide +kernel
theorem dX4_markUpwards_31 : decode cX4_markUpwards 31 = .ok (.iinc 3 1, 3) := by decide +kernel
theorem dX4_markUpwards_34 : decode cX4_markUpwards 34 = .ok (.goto (-30), 3) := by decide +kernel
theorem dX4_markUpwards_37 : decode cX4_markUpwards 37 = .ok (.return_, 1) := by decide +kernel
theorem dX4_countJoined_0 : decode cX4_countJoined 0 = .ok (.iconst 1, 1) := by decide +kernel
theorem dX4_countJoined_1 : decode cX4_countJoined 1 = .ok (.istore_n 3, 1) := by decide +kernel
theorem dX4_countJoined_2 : decode cX4_countJoined 2 = .ok (.iconst 1, 1) := by decide +kernel
theorem dX4_countJoined_3 : decode cX4_countJoined 3 = .ok (.istore 4, 2) := by decide +kernel
theorem dX4_countJoined_5 : decode cX4_countJoined 5 = .ok (.iload 4, 2) := by decide +kernel
theorem dX4_countJoined_7 : decode cX4_countJoined 7 = .ok (.aload_n 0, 1) := by decide +kernel
theorem dX4_countJoined_8 : decode cX4_countJoined 8 = .ok (.getfield 68, 3) := by decide +kernel
theorem dX4_countJoined_11 : decode cX4_countJoined 11 = .ok (.if_icmp .gt 63, 3) := by decide +kernel
theorem dX4_countJoined_14 : decode cX4_countJoined 14 = .ok (.iload_n 1, 1) := by decide +kernel
theorem dX4_countJoined_15 : decode cX4_countJoined 15 = .ok (.iload 4, 2) := by decide +kernel
theorem dX4_countJoined_17 : decode cX4_countJoined 17 = .ok (.iconst 1, 1) := by decide +kernel
theorem dX4_countJoined_18 : decode cX4_countJoined 18 = .ok (.isub, 1) := by decide +kernel
theorem dX4_countJoined_19 : decode cX4_countJoined 19 = .ok (.ishr, 1) := by decide +kernel
theorem dX4_countJoined_20 : decode cX4_countJoined 20 = .ok (.aload_n 0, 1) := by decide +kernel
theorem dX4_countJoined_21 : decode cX4_countJoined 21 = .ok (.getfield 55, 3) := by decide +kernel
theorem dX4_countJoined_24 : decode cX4_countJoined 24 = .ok (.iload 4, 2) := by decide +kernel
theorem dX4_countJoined_26 : decode cX4_countJoined 26 = .ok (.iconst 1, 1) := by decide +kernel
theorem dX4_countJoined_27 : decode cX4_countJoined 27 = .ok (.isub, 1) := by decide +kernel
theorem dX4_countJoined_28 : decode cX4_countJoined 28 = .ok (.invokestatic 74, 3) := by decide +kernel
theorem dX4_countJoined_31 : decode cX4_countJoined 31 = .ok (.invokestatic 159, 3) := by decide +kernel
theorem dX4_countJoined_34 : decode cX4_countJoined 34 = .ok (.istore 5, 2) := by decide +kernel
theorem dX4_countJoined_36 : decode cX4_countJoined 36 = .ok (.iload_n 2, 1) := by decide +kernel
theorem dX4_countJoined_37 : decode cX4_countJoined 37 = .ok (.iload 4, 2) := by decide +kernel
theorem dX4_countJoined_39 : decode cX4_countJoined 39 = .ok (.iconst 1, 1) := by decide +kernel
theorem dX4_countJoined_40 : decode cX4_countJoined 40 = .ok (.isub, 1) := by decide +kernel
theorem dX4_countJoined_41 : decode cX4_countJoined 41 = .ok (.ishr, 1) := by decide +kernel
theorem dX4_countJoined_42 : decode cX4_countJoined 42 = .ok (.aload_n 0, 1) := by decide +kernel
theorem dX4_countJoined_43 : decode cX4_countJoined 43 = .ok (.getfield 61, 3) := by decide +kernel
theorem dX4_countJoined_46 : decode cX4_countJoined 46 = .ok (.iload 4, 2) := by decide +kernel
theorem dX4_countJoined_48 : decode cX4_countJoined 48 = .ok (.iconst 1, 1) := by decide +kernel
theorem dX4_countJoined_49 : decode cX4_countJoined 49 = .ok (.isub, 1) := by decide +kernel
theorem dX4_countJoined_50 : decode cX4_countJoined 50 = .ok (.invokestatic 74, 3) := by decide +kernel
theorem dX4_countJoined_53 : decode cX4_countJoined 53 = .ok (.invokestatic 159, 3) := by decide +kernel
theorem dX4_countJoined_56 : decode cX4_countJoined 56 = .ok (.istore 6, 2) := by decide +kernel
theorem dX4_countJoined_58 : decode cX4_countJoined 58 = .ok (.iload_n 3, 1) := by decide +kernel
theorem dX4_countJoined_59 : decode cX4_countJoined 59 = .ok (.iload 5, 2) := by decide +kernel
theorem dX4_countJoined_61 : decode cX4_countJoined 61 = .ok (.iload 6, 2) := by decide +kernel
theorem dX4_countJoined_63 : decode cX4_countJoined 63 = .ok (.imul, 1) := by decide +kernel
theorem dX4_countJoined_64 : decode cX4_countJoined 64 = .ok (.iconst 1, 1) := by decide +kernel
theorem dX4_countJoined_65 : decode cX4_countJoined 65 = .ok (.isub, 1) := by decide +kernel
theorem dX4_countJoined_66 : decode cX4_countJoined 66 = .ok (.iadd, 1) := by decide +kernel
theorem dX4_countJoined_67 : decode cX4_countJoined 67 = .ok (.istore_n 3, 1) := by decide +kernel
theorem dX4_countJoined_68 : decode cX4_countJoined 68 = .ok (.iinc 4 1, 3) := by decide +kernel
theorem dX4_countJoined_71 : decode cX4_countJoined 71 = .ok (.goto (-66), 3) := by decide +kernel
theorem dX4_countJoined_74 : decode cX4_countJoined 74 = .ok (.iload_n 3, 1) := by decide +kernel
theorem dX4_countJoined_75 : decode cX4_countJoined 75 = .ok (.ireturn, 1) := by decide +kernel
theorem dX4_joinedOf_0 : decode cX4_joinedOf 0 = .ok (.iload_n 0, 1) := by decide +kernel
theorem dX4_joinedOf_1 : decode cX4_joinedOf 1 = .ok (.iconst 1, 1) := by decide +kernel
theorem dX4_joinedOf_2 : decode cX4_joinedOf 2 = .ok (.ior, 1) := by decide +kernel
theorem dX4_joinedOf_3 : decode cX4_joinedOf 3 = .ok (.iload_n 1, 1) := by decide +kernel
theorem dX4_joinedOf_4 : decode cX4_joinedOf 4 = .ok (.if_icmp .ge 7, 3) := by decide +kernel
theorem dX4_joinedOf_7 : decode cX4_joinedOf 7 = .ok (.iconst 2, 1) := by decide +kernel
theorem dX4_joinedOf_8 : decode cX4_joinedOf 8 = .ok (.goto 4, 3) := by decide +kernel
theorem dX4_joinedOf_11 : decode cX4_joinedOf 11 = .ok (.iconst 1, 1) := by decide +kernel
theorem dX4_joinedOf_12 : decode cX4_joinedOf 12 = .ok (.ireturn, 1) := by decide +kernel
theorem dX4_decode_0 : decode cX4_decode 0 = .ok (.iconst 0, 1) := by decide +kernel
theorem dX4_decode_1 : decode cX4_decode 1 = .ok (.istore_n 2, 1) := by decide +kernel
theorem dX4_decode_2 : decode cX4_decode 2 = .ok (.iload_n 2, 1) := by decide +kernel
theorem dX4_decode_3 : decode cX4_decode 3 = .ok (.aload_n 0, 1) := by decide +kernel
theorem dX4_decode_4 : decode cX4_decode 4 = .ok (.getfield 61, 3) := by decide +kernel
theorem dX4_decode_7 : decode cX4_decode 7 = .ok (.if_icmp .ge 87, 3) := by decide +kernel
theorem dX4_decode_10 : decode cX4_decode 10 = .ok (.iconst 0, 1) := by decide +kernel
theorem dX4_decode_11 : decode cX4_decode 11 = .ok (.istore_n 3, 1) := by decide +kernel
theorem dX4_decode_12 : decode cX4_decode 12 = .ok (.iload_n 3, 1) := by decide +kernel
theorem dX4_decode_13 : decode cX4_decode 13 = .ok (.aload_n 0, 1) := by decide +kernel
theorem dX4_decode_14 : decode cX4_decode 14 = .ok (.getfield 55, 3) := by decide +kernel
theorem dX4_decode_17 : decode cX4_decode 17 = .ok (.if_icmp .ge 71, 3) := by decide +kernel
theorem dX4_decode_20 : decode cX4_decode 20 = .ok (.iload_n 3, 1) := by decide +kernel
theorem dX4_decode_21 : decode cX4_decode 21 = .ok (.iload_n 2, 1) := by decide +kernel
theorem dX4_decode_22 : decode cX4_decode 22 = .ok (.invokestatic 88, 3) := by decide +kernel
theorem dX4_decode_25 : decode cX4_decode 25 = .ok (.istore 4, 2) := by decide +kernel
theorem dX4_decode_27 : decode cX4_decode 27 = .ok (.aload_n 0, 1) := by decide +kernel
theorem dX4_decode_28 : decode cX4_decode 28 = .ok (.getfield 15, 3) := by decide +kernel
theorem dX4_decode_31 : decode cX4_decode 31 = .ok (.iload 4, 2) := by decide +kernel
theorem dX4_decode_33 : decode cX4_decode 33 = .ok (.invokestatic 84, 3) := by decide +kernel
theorem dX4_decode_36 : decode cX4_decode 36 = .ok (.istore 5, 2) := by decide +kernel
theorem dX4_decode_38 : decode cX4_decode 38 = .ok (.aload_n 0, 1) := by decide +kernel
theorem dX4_decode_39 : decode cX4_decode 39 = .ok (.iload 4, 2) := by decide +kernel
theorem dX4_decode_41 : decode cX4_decode 41 = .ok (.iload_n 1, 1) := by decide +kernel
theorem dX4_decode_42 : decode cX4_decode 42 = .ok (.invokevirtual 162, 3) := by decide +kernel
theorem dX4_decode_45 : decode cX4_decode 45 = .ok (.istore 6, 2) := by decide +kernel
theorem dX4_decode_47 : decode cX4_decode 47 = .ok (.iload 5, 2) := by decide +kernel
theorem dX4_decode_49 : decode cX4_decode 49 = .ok (.invokestatic 145, 3) := by decide +kernel
theorem dX4_decode_52 : decode cX4_decode 52 = .ok (.iload 6, 2) := by decide +kernel
theorem dX4_decode_54 : decode cX4_decode 54 = .ok (.ishr, 1) := by decide +kernel
theorem dX4_decode_55 : decode cX4_decode 55 = .ok (.iload 6, 2) := by decide +kernel
theorem dX4_decode_57 : decode cX4_decode 57 = .ok (.ishl, 1) := by decide +kernel
theorem dX4_decode_58 : decode cX4_decode 58 = .ok (.istore 7, 2) := by decide +kernel
theorem dX4_decode_60 : decode cX4_decode 60 = .ok (.aload_n 0, 1) := by decide +kernel
theorem dX4_decode_61 : decode cX4_decode 61 = .ok (.getfield 30, 3) := by decide +kernel
theorem dX4_decode_64 : decode cX4_decode 64 = .ok (.iload 4, 2) := by decide +kernel
theorem dX4_decode_66 : decode cX4_decode 66 = .ok (.iload 5, 2) := by decide +kernel
theorem dX4_decode_68 : decode cX4_decode 68 = .ok (.ifCond .ge 9, 3) := by decide +kernel
theorem dX4_decode_71 : decode cX4_decode 71 = .ok (.iload 7, 2) := by decide +kernel
theorem dX4_decode_73 : decode cX4_decode 73 = .ok (.ineg, 1) := by decide +kernel
theorem dX4_decode_74 : decode cX4_decode 74 = .ok (.goto 5, 3) := by decide +kernel
theorem dX4_decode_77 : decode cX4_decode 77 = .ok (.iload 7, 2) := by decide +kernel
theorem dX4_decode_79 : decode cX4_decode 79 = .ok (.invokestatic 91, 3) := by decide +kernel
theorem dX4_decode_82 : decode cX4_decode 82 = .ok (.iinc 3 1, 3) := by decide +kernel
theorem dX4_decode_85 : decode cX4_decode 85 = .ok (.goto (-73), 3) := by decide +kernel
theorem dX4_decode_88 : decode cX4_decode 88 = .ok (.iinc 2 1, 3) := by decide +kernel
theorem dX4_decode_91 : decode cX4_decode 91 = .ok (.goto (-89), 3) := by decide +kernel
theorem dX4_decode_94 : decode cX4_decode 94 = .ok (.aload_n 0, 1) := by decide +kernel
theorem dX4_decode_95 : decode cX4_decode 95 = .ok (.iconst 0, 1) := by decide +kernel
theorem dX4_decode_96 : decode cX4_decode 96 = .ok (.invokevirtual 165, 3) := by decide +kernel
theorem dX4_decode_99 : decode cX4_decode 99 = .ok (.iconst 0, 1) := by decide +kernel
theorem dX4_decode_100 : decode cX4_decode 100 = .ok (.istore_n 2, 1) := by decide +kernel
theorem dX4_decode_101 : decode cX4_decode 101 = .ok (.iload_n 2, 1) := by decide +kernel
theorem dX4_decode_102 : decode cX4_decode 102 = .ok (.bipush 64, 2) := by decide +kernel
theorem dX4_decode_104 : decode cX4_decode 104 = .ok (.if_icmp .ge 35, 3) := by decide +kernel
theorem dX4_decode_107 : decode cX4_decode 107 = .ok (.aload_n 0, 1) := by decide +kernel
theorem dX4_decode_108 : decode cX4_decode 108 = .ok (.getfield 30, 3) := by decide +kernel
theorem dX4_decode_111 : decode cX4_decode 111 = .ok (.iload_n 2, 1) := by decide +kernel
theorem dX4_decode_112 : decode cX4_decode 112 = .ok (.iconst 0, 1) := by decide +kernel
theorem dX4_decode_113 : decode cX4_decode 113 = .ok (.sipush 255, 3) := by decide +kernel
theorem dX4_decode_116 : decode cX4_decode 116 = .ok (.aload_n 0, 1) := by decide +kernel
theorem dX4_decode_117 : decode cX4_decode 117 = .ok (.getfield 30, 3) := by decide +kernel
theorem dX4_decode_120 : decode cX4_decode 120 = .ok (.iload_n 2, 1) := by decide +kernel
theorem dX4_decode_121 : decode cX4_decode 121 = .ok (.invokestatic 84, 3) := by decide +kernel
theorem dX4_decode_124 : decode cX4_decode 124 = .ok (.invokestatic 114, 3) := by decide +kernel
theorem dX4_decode_127 : decode cX4_decode 127 = .ok (.invokestatic 136, 3) := by decide +kernel
theorem dX4_decode_130 : decode cX4_decode 130 = .ok (.invokestatic 91, 3) := by decide +kernel
theorem dX4_decode_133 : decode cX4_decode 133 = .ok (.iinc 2 1, 3) := by decide +kernel
theorem dX4_decode_136 : decode cX4_decode 136 = .ok (.goto (-35), 3) := by decide +kernel
theorem dX4_decode_139 : decode cX4_decode 139 = .ok (.return_, 1) := by decide +kernel
theorem dX4_differenceAt_0 : decode cX4_differenceAt 0 = .ok (.aload_n 0, 1) := by decide +kernel
theorem dX4_differenceAt_1 : decode cX4_differenceAt 1 = .ok (.getfield 30, 3) := by decide +kernel
theorem dX4_differenceAt_4 : decode cX4_differenceAt 4 = .ok (.iload_n 1, 1) := by decide +kernel
theorem dX4_differenceAt_5 : decode cX4_differenceAt 5 = .ok (.invokestatic 84, 3) := by decide +kernel
theorem dX4_differenceAt_8 : decode cX4_differenceAt 8 = .ok (.aload_n 0, 1) := by decide +kernel
theorem dX4_differenceAt_9 : decode cX4_differenceAt 9 = .ok (.getfield 9, 3) := by decide +kernel
theorem dX4_differenceAt_12 : decode cX4_differenceAt 12 = .ok (.iload_n 1, 1) := by decide +kernel
theorem dX4_differenceAt_13 : decode cX4_differenceAt 13 = .ok (.invokestatic 84, 3) := by decide +kernel
theorem dX4_differenceAt_16 : decode cX4_differenceAt 16 = .ok (.isub, 1) := by decide +kernel
theorem dX4_differenceAt_17 : decode cX4_differenceAt 17 = .ok (.invokestatic 145, 3) := by decide +kernel
theorem dX4_differenceAt_20 : decode cX4_differenceAt 20 = .ok (.ireturn, 1) := by decide +kernel
theorem dX4_greatestDifference_0 : decode cX4_greatestDifference 0 = .ok (.aload_n 0, 1) := by decide +kernel
theorem dX4_greatestDifference_1 : decode cX4_greatestDifference 1 = .ok (.iload_n 1, 1) := by decide +kernel
theorem dX4_greatestDifference_2 : decode cX4_greatestDifference 2 = .ok (.invokevirtual 169, 3) := by decide +kernel
theorem dX4_greatestDifference_5 : decode cX4_greatestDifference 5 = .ok (.iconst 0, 1) := by decide +kernel
theorem dX4_greatestDifference_6 : decode cX4_greatestDifference 6 = .ok (.istore_n 2, 1) := by decide +kernel
theorem dX4_greatestDifference_7 : decode cX4_greatestDifference 7 = .ok (.iconst 0, 1) := by decide +kernel
theorem dX4_greatestDifference_8 : decode cX4_greatestDifference 8 = .ok (.istore_n 3, 1) := by decide +kernel
theorem dX4_greatestDifference_9 : decode cX4_greatestDifference 9 = .ok (.iload_n 3, 1) := by decide +kernel
theorem dX4_greatestDifference_10 : decode cX4_greatestDifference 10 = .ok (.aload_n 0, 1) := by decide +kernel
theorem dX4_greatestDifference_11 : decode cX4_greatestDifference 11 = .ok (.getfield 61, 3) := by decide +kernel
theorem dX4_greatestDifference_14 : decode cX4_greatestDifference 14 = .ok (.if_icmp .ge 42, 3) := by decide +kernel
theorem dX4_greatestDifference_17 : decode cX4_greatestDifference 17 = .ok (.iconst 0, 1) := by decide +kernel
theorem dX4_greatestDifference_18 : decode cX4_greatestDifference 18 = .ok (.istore 4, 2) := by decide +kernel
theorem dX4_greatestDifference_20 : decode cX4_greatestDifference 20 = .ok (.iload 4, 2) := by decide +kernel
theorem dX4_greatestDifference_22 : decode cX4_greatestDifference 22 = .ok (.aload_n 0, 1) := by decide +kernel
theorem dX4_greatestDifference_23 : decode cX4_greatestDifference 23 = .ok (.getfield 55, 3) := by decide +kernel
theorem dX4_greatestDifference_26 : decode cX4_greatestDifference 26 = .ok (.if_icmp .ge 24, 3) := by decide +kernel
theorem dX4_greatestDifference_29 : decode cX4_greatestDifference 29 = .ok (.iload_n 2, 1) := by decide +kernel
theorem dX4_greatestDifference_30 : decode cX4_greatestDifference 30 = .ok (.aload_n 0, 1) := by decide +kernel
theorem dX4_greatestDifference_31 : decode cX4_greatestDifference 31 = .ok (.iload 4, 2) := by decide +kernel
theorem dX4_greatestDifference_33 : decode cX4_greatestDifference 33 = .ok (.iload_n 3, 1) := by decide +kernel
theorem dX4_greatestDifference_34 : decode cX4_greatestDifference 34 = .ok (.invokestatic 88, 3) := by decide +kernel
theorem dX4_greatestDifference_37 : decode cX4_greatestDifference 37 = .ok (.invokevirtual 172, 3) := by decide +kernel
theorem dX4_greatestDifference_40 : decode cX4_greatestDifference 40 = .ok (.invokestatic 136, 3) := by decide +kernel
theorem dX4_greatestDifference_43 : decode cX4_greatestDifference 43 = .ok (.istore_n 2, 1) := by decide +kernel
theorem dX4_greatestDifference_44 : decode cX4_greatestDifference 44 = .ok (.iinc 4 1, 3) := by decide +kernel
theorem dX4_greatestDifference_47 : decode cX4_greatestDifference 47 = .ok (.goto (-27), 3) := by decide +kernel
theorem dX4_greatestDifference_50 : decode cX4_greatestDifference 50 = .ok (.iinc 3 1, 3) := by decide +kernel
theorem dX4_greatestDifference_53 : decode cX4_greatestDifference 53 = .ok (.goto (-44), 3) := by decide +kernel
theorem dX4_greatestDifference_56 : decode cX4_greatestDifference 56 = .ok (.iload_n 2, 1) := by decide +kernel
theorem dX4_greatestDifference_57 : decode cX4_greatestDifference 57 = .ok (.ireturn, 1) := by decide +kernel
theorem dX4_sumOfSquares_0 : decode cX4_sumOfSquares 0 = .ok (.aload_n 0, 1) := by decide +kernel
theorem dX4_sumOfSquares_1 : decode cX4_sumOfSquares 1 = .ok (.iload_n 1, 1) := by decide +kernel
theorem dX4_sumOfSquares_2 : decode cX4_sumOfSquares 2 = .ok (.invokevirtual 169, 3) := by decide +kernel
theorem dX4_sumOfSquares_5 : decode cX4_sumOfSquares 5 = .ok (.iconst 0, 1) := by decide +kernel
theorem dX4_sumOfSquares_6 : decode cX4_sumOfSquares 6 = .ok (.istore_n 2, 1) := by decide +kernel
theorem dX4_sumOfSquares_7 : decode cX4_sumOfSquares 7 = .ok (.iconst 0, 1) := by decide +kernel
theorem dX4_sumOfSquares_8 : decode cX4_sumOfSquares 8 = .ok (.istore_n 3, 1) := by decide +kernel
theorem dX4_sumOfSquares_9 : decode cX4_sumOfSquares 9 = .ok (.iload_n 3, 1) := by decide +kernel
theorem dX4_sumOfSquares_10 : decode cX4_sumOfSquares 10 = .ok (.aload_n 0, 1) := by decide +kernel
theorem dX4_sumOfSquares_11 : decode cX4_sumOfSquares 11 = .ok (.getfield 61, 3) := by decide +kernel
theorem dX4_sumOfSquares_14 : decode cX4_sumOfSquares 14 = .ok (.if_icmp .ge 47, 3) := by decide +kernel
theorem dX4_sumOfSquares_17 : decode cX4_sumOfSquares 17 = .ok (.iconst 0, 1) := by decide +kernel
theorem dX4_sumOfSquares_18 : decode cX4_sumOfSquares 18 = .ok (.istore 4, 2) := by decide +kernel
theorem dX4_sumOfSquares_20 : decode cX4_sumOfSquares 20 = .ok (.iload 4, 2) := by decide +kernel
theorem dX4_sumOfSquares_22 : decode cX4_sumOfSquares 22 = .ok (.aload_n 0, 1) := by decide +kernel
theorem dX4_sumOfSquares_23 : decode cX4_sumOfSquares 23 = .ok (.getfield 55, 3) := by decide +kernel
theorem dX4_sumOfSquares_26 : decode cX4_sumOfSquares 26 = .ok (.if_icmp .ge 29, 3) := by decide +kernel
theorem dX4_sumOfSquares_29 : decode cX4_sumOfSquares 29 = .ok (.aload_n 0, 1) := by decide +kernel
theorem dX4_sumOfSquares_30 : decode cX4_sumOfSquares 30 = .ok (.iload 4, 2) := by decide +kernel
theorem dX4_sumOfSquares_32 : decode cX4_sumOfSquares 32 = .ok (.iload_n 3, 1) := by decide +kernel
theorem dX4_sumOfSquares_33 : decode cX4_sumOfSquares 33 = .ok (.invokestatic 88, 3) := by decide +kernel
theorem dX4_sumOfSquares_36 : decode cX4_sumOfSquares 36 = .ok (.invokevirtual 172, 3) := by decide +kernel
theorem dX4_sumOfSquares_39 : decode cX4_sumOfSquares 39 = .ok (.istore 5, 2) := by decide +kernel
theorem dX4_sumOfSquares_41 : decode cX4_sumOfSquares 41 = .ok (.iload_n 2, 1) := by decide +kernel
theorem dX4_sumOfSquares_42 : decode cX4_sumOfSquares 42 = .ok (.iload 5, 2) := by decide +kernel
theorem dX4_sumOfSquares_44 : decode cX4_sumOfSquares 44 = .ok (.iload 5, 2) := by decide +kernel
theorem dX4_sumOfSquares_46 : decode cX4_sumOfSquares 46 = .ok (.imul, 1) := by decide +kernel
theorem dX4_sumOfSquares_47 : decode cX4_sumOfSquares 47 = .ok (.iadd, 1) := by decide +kernel
theorem dX4_sumOfSquares_48 : decode cX4_sumOfSquares 48 = .ok (.istore_n 2, 1) := by decide +kernel
theorem dX4_sumOfSquares_49 : decode cX4_sumOfSquares 49 = .ok (.iinc 4 1, 3) := by decide +kernel
theorem dX4_sumOfSquares_52 : decode cX4_sumOfSquares 52 = .ok (.goto (-32), 3) := by decide +kernel
theorem dX4_sumOfSquares_55 : decode cX4_sumOfSquares 55 = .ok (.iinc 3 1, 3) := by decide +kernel
theorem dX4_sumOfSquares_58 : decode cX4_sumOfSquares 58 = .ok (.goto (-49), 3) := by decide +kernel
theorem dX4_sumOfSquares_61 : decode cX4_sumOfSquares 61 = .ok (.iload_n 2, 1) := by decide +kernel
theorem dX4_sumOfSquares_62 : decode cX4_sumOfSquares 62 = .ok (.ireturn, 1) := by decide +kernel
theorem dX4_greatestDoubt_0 : decode cX4_greatestDoubt 0 = .ok (.iconst 0, 1) := by decide +kernel
theorem dX4_greatestDoubt_1 : decode cX4_greatestDoubt 1 = .ok (.istore_n 2, 1) := by decide +kernel
theorem dX4_greatestDoubt_2 : decode cX4_greatestDoubt 2 = .ok (.iload_n 2, 1) := by decide +kernel
theorem dX4_greatestDoubt_3 : decode cX4_greatestDoubt 3 = .ok (.aload_n 0, 1) := by decide +kernel
theorem dX4_greatestDoubt_4 : decode cX4_greatestDoubt 4 = .ok (.getfield 61, 3) := by decide +kernel
theorem dX4_greatestDoubt_7 : decode cX4_greatestDoubt 7 = .ok (.if_icmp .ge 52, 3) := by decide +kernel
theorem dX4_greatestDoubt_10 : decode cX4_greatestDoubt 10 = .ok (.iconst 0, 1) := by decide +kernel
theorem dX4_greatestDoubt_11 : decode cX4_greatestDoubt 11 = .ok (.istore_n 3, 1) := by decide +kernel
theorem dX4_greatestDoubt_12 : decode cX4_greatestDoubt 12 = .ok (.iload_n 3, 1) := by decide +kernel
theorem dX4_greatestDoubt_13 : decode cX4_greatestDoubt 13 = .ok (.aload_n 0, 1) := by decide +kernel
theorem dX4_greatestDoubt_14 : decode cX4_greatestDoubt 14 = .ok (.getfield 55, 3) := by decide +kernel
theorem dX4_greatestDoubt_17 : decode cX4_greatestDoubt 17 = .ok (.if_icmp .ge 36, 3) := by decide +kernel
theorem dX4_greatestDoubt_20 : decode cX4_greatestDoubt 20 = .ok (.iload_n 3, 1) := by decide +kernel
theorem dX4_greatestDoubt_21 : decode cX4_greatestDoubt 21 = .ok (.iload_n 2, 1) := by decide +kernel
theorem dX4_greatestDoubt_22 : decode cX4_greatestDoubt 22 = .ok (.invokestatic 88, 3) := by decide +kernel
theorem dX4_greatestDoubt_25 : decode cX4_greatestDoubt 25 = .ok (.istore 4, 2) := by decide +kernel
theorem dX4_greatestDoubt_27 : decode cX4_greatestDoubt 27 = .ok (.aload_n 0, 1) := by decide +kernel
theorem dX4_greatestDoubt_28 : decode cX4_greatestDoubt 28 = .ok (.getfield 30, 3) := by decide +kernel
theorem dX4_greatestDoubt_31 : decode cX4_greatestDoubt 31 = .ok (.iload 4, 2) := by decide +kernel
theorem dX4_greatestDoubt_33 : decode cX4_greatestDoubt 33 = .ok (.iconst 1, 1) := by decide +kernel
theorem dX4_greatestDoubt_34 : decode cX4_greatestDoubt 34 = .ok (.aload_n 0, 1) := by decide +kernel
theorem dX4_greatestDoubt_35 : decode cX4_greatestDoubt 35 = .ok (.iload 4, 2) := by decide +kernel
theorem dX4_greatestDoubt_37 : decode cX4_greatestDoubt 37 = .ok (.iload_n 1, 1) := by decide +kernel
theorem dX4_greatestDoubt_38 : decode cX4_greatestDoubt 38 = .ok (.invokevirtual 162, 3) := by decide +kernel
theorem dX4_greatestDoubt_41 : decode cX4_greatestDoubt 41 = .ok (.ishl, 1) := by decide +kernel
theorem dX4_greatestDoubt_42 : decode cX4_greatestDoubt 42 = .ok (.iconst 1, 1) := by decide +kernel
theorem dX4_greatestDoubt_43 : decode cX4_greatestDoubt 43 = .ok (.isub, 1) := by decide +kernel
theorem dX4_greatestDoubt_44 : decode cX4_greatestDoubt 44 = .ok (.invokestatic 91, 3) := by decide +kernel
theorem dX4_greatestDoubt_47 : decode cX4_greatestDoubt 47 = .ok (.iinc 3 1, 3) := by decide +kernel
theorem dX4_greatestDoubt_50 : decode cX4_greatestDoubt 50 = .ok (.goto (-38), 3) := by decide +kernel
theorem dX4_greatestDoubt_53 : decode cX4_greatestDoubt 53 = .ok (.iinc 2 1, 3) := by decide +kernel
theorem dX4_greatestDoubt_56 : decode cX4_greatestDoubt 56 = .ok (.goto (-54), 3) := by decide +kernel
theorem dX4_greatestDoubt_59 : decode cX4_greatestDoubt 59 = .ok (.aload_n 0, 1) := by decide +kernel
theorem dX4_greatestDoubt_60 : decode cX4_greatestDoubt 60 = .ok (.iconst 1, 1) := by decide +kernel
theorem dX4_greatestDoubt_61 : decode cX4_greatestDoubt 61 = .ok (.invokevirtual 165, 3) := by decide +kernel
theorem dX4_greatestDoubt_64 : decode cX4_greatestDoubt 64 = .ok (.iconst 0, 1) := by decide +kernel
theorem dX4_greatestDoubt_65 : decode cX4_greatestDoubt 65 = .ok (.istore_n 2, 1) := by decide +kernel
theorem dX4_greatestDoubt_66 : decode cX4_greatestDoubt 66 = .ok (.iconst 0, 1) := by decide +kernel
theorem dX4_greatestDoubt_67 : decode cX4_greatestDoubt 67 = .ok (.istore_n 3, 1) := by decide +kernel
theorem dX4_greatestDoubt_68 : decode cX4_greatestDoubt 68 = .ok (.iload_n 3, 1) := by decide +kernel
theorem dX4_greatestDoubt_69 : decode cX4_greatestDoubt 69 = .ok (.aload_n 0, 1) := by decide +kernel
theorem dX4_greatestDoubt_70 : decode cX4_greatestDoubt 70 = .ok (.getfield 61, 3) := by decide +kernel
theorem dX4_greatestDoubt_73 : decode cX4_greatestDoubt 73 = .ok (.if_icmp .ge 45, 3) := by decide +kernel
theorem dX4_greatestDoubt_76 : decode cX4_greatestDoubt 76 = .ok (.iconst 0, 1) := by decide +kernel
theorem dX4_greatestDoubt_77 : decode cX4_greatestDoubt 77 = .ok (.istore 4, 2) := by decide +kernel
theorem dX4_greatestDoubt_79 : decode cX4_greatestDoubt 79 = .ok (.iload 4, 2) := by decide +kernel
theorem dX4_greatestDoubt_81 : decode cX4_greatestDoubt 81 = .ok (.aload_n 0, 1) := by decide +kernel
theorem dX4_greatestDoubt_82 : decode cX4_greatestDoubt 82 = .ok (.getfield 55, 3) := by decide +kernel
theorem dX4_greatestDoubt_85 : decode cX4_greatestDoubt 85 = .ok (.if_icmp .ge 27, 3) := by decide +kernel
theorem dX4_greatestDoubt_88 : decode cX4_greatestDoubt 88 = .ok (.iload_n 2, 1) := by decide +kernel
theorem dX4_greatestDoubt_89 : decode cX4_greatestDoubt 89 = .ok (.aload_n 0, 1) := by decide +kernel
theorem dX4_greatestDoubt_90 : decode cX4_greatestDoubt 90 = .ok (.getfield 30, 3) := by decide +kernel
theorem dX4_greatestDoubt_93 : decode cX4_greatestDoubt 93 = .ok (.iload 4, 2) := by decide +kernel
theorem dX4_greatestDoubt_95 : decode cX4_greatestDoubt 95 = .ok (.iload_n 3, 1) := by decide +kernel
theorem dX4_greatestDoubt_96 : decode cX4_greatestDoubt 96 = .ok (.invokestatic 88, 3) := by decide +kernel
theorem dX4_greatestDoubt_99 : decode cX4_greatestDoubt 99 = .ok (.invokestatic 84, 3) := by decide +kernel
theorem dX4_greatestDoubt_102 : decode cX4_greatestDoubt 102 = .ok (.invokestatic 136, 3) := by decide +kernel
theorem dX4_greatestDoubt_105 : decode cX4_greatestDoubt 105 = .ok (.istore_n 2, 1) := by decide +kernel
theorem dX4_greatestDoubt_106 : decode cX4_greatestDoubt 106 = .ok (.iinc 4 1, 3) := by decide +kernel
theorem dX4_greatestDoubt_109 : decode cX4_greatestDoubt 109 = .ok (.goto (-30), 3) := by decide +kernel
theorem dX4_greatestDoubt_112 : decode cX4_greatestDoubt 112 = .ok (.iinc 3 1, 3) := by decide +kernel
theorem dX4_greatestDoubt_115 : decode cX4_greatestDoubt 115 = .ok (.goto (-47), 3) := by decide +kernel
theorem dX4_greatestDoubt_118 : decode cX4_greatestDoubt 118 = .ok (.sipush 255, 3) := by decide +kernel
theorem dX4_greatestDoubt_121 : decode cX4_greatestDoubt 121 = .ok (.iload_n 2, 1) := by decide +kernel
theorem dX4_greatestDoubt_122 : decode cX4_greatestDoubt 122 = .ok (.invokestatic 114, 3) := by decide +kernel
theorem dX4_greatestDoubt_125 : decode cX4_greatestDoubt 125 = .ok (.ireturn, 1) := by decide +kernel
theorem dX4_storeDecoded_0 : decode cX4_storeDecoded 0 = .ok (.iconst 0, 1) := by decide +kernel
theorem dX4_storeDecoded_1 : decode cX4_storeDecoded 1 = .ok (.istore_n 2, 1) := by decide +kernel
theorem dX4_storeDecoded_2 : decode cX4_storeDecoded 2 = .ok (.iconst 0, 1) := by decide +kernel
theorem dX4_storeDecoded_3 : decode cX4_storeDecoded 3 = .ok (.istore_n 3, 1) := by decide +kernel
theorem dX4_storeDecoded_4 : decode cX4_storeDecoded 4 = .ok (.iload_n 3, 1) := by decide +kernel
theorem dX4_storeDecoded_5 : decode cX4_storeDecoded 5 = .ok (.aload_n 0, 1) := by decide +kernel
theorem dX4_storeDecoded_6 : decode cX4_storeDecoded 6 = .ok (.getfield 61, 3) := by decide +kernel
theorem dX4_storeDecoded_9 : decode cX4_storeDecoded 9 = .ok (.if_icmp .ge 80, 3) := by decide +kernel
theorem dX4_storeDecoded_12 : decode cX4_storeDecoded 12 = .ok (.iconst 0, 1) := by decide +kernel
theorem dX4_storeDecoded_13 : decode cX4_storeDecoded 13 = .ok (.istore 4, 2) := by decide +kernel
theorem dX4_storeDecoded_15 : decode cX4_storeDecoded 15 = .ok (.iload 4, 2) := by decide +kernel
theorem dX4_storeDecoded_17 : decode cX4_storeDecoded 17 = .ok (.aload_n 0, 1) := by decide +kernel
theorem dX4_storeDecoded_18 : decode cX4_storeDecoded 18 = .ok (.getfield 55, 3) := by decide +kernel
theorem dX4_storeDecoded_21 : decode cX4_storeDecoded 21 = .ok (.if_icmp .ge 62, 3) := by decide +kernel
theorem dX4_storeDecoded_24 : decode cX4_storeDecoded 24 = .ok (.iload 4, 2) := by decide +kernel
theorem dX4_storeDecoded_26 : decode cX4_storeDecoded 26 = .ok (.iload_n 3, 1) := by decide +kernel
theorem dX4_storeDecoded_27 : decode cX4_storeDecoded 27 = .ok (.invokestatic 88, 3) := by decide +kernel
theorem dX4_storeDecoded_30 : decode cX4_storeDecoded 30 = .ok (.istore 5, 2) := by decide +kernel
theorem dX4_storeDecoded_32 : decode cX4_storeDecoded 32 = .ok (.aload_n 0, 1) := by decide +kernel
theorem dX4_storeDecoded_33 : decode cX4_storeDecoded 33 = .ok (.iload 5, 2) := by decide +kernel
theorem dX4_storeDecoded_35 : decode cX4_storeDecoded 35 = .ok (.invokevirtual 172, 3) := by decide +kernel
theorem dX4_storeDecoded_38 : decode cX4_storeDecoded 38 = .ok (.ifCond .eq 6, 3) := by decide +kernel
theorem dX4_storeDecoded_41 : decode cX4_storeDecoded 41 = .ok (.iinc 2 1, 3) := by decide +kernel
theorem dX4_storeDecoded_44 : decode cX4_storeDecoded 44 = .ok (.aload_n 1, 1) := by decide +kernel
theorem dX4_storeDecoded_45 : decode cX4_storeDecoded 45 = .ok (.getfield 78, 3) := by decide +kernel
theorem dX4_storeDecoded_48 : decode cX4_storeDecoded 48 = .ok (.aload_n 1, 1) := by decide +kernel
theorem dX4_storeDecoded_49 : decode cX4_storeDecoded 49 = .ok (.aload_n 0, 1) := by decide +kernel
theorem dX4_storeDecoded_50 : decode cX4_storeDecoded 50 = .ok (.getfield 42, 3) := by decide +kernel
theorem dX4_storeDecoded_53 : decode cX4_storeDecoded 53 = .ok (.iload 4, 2) := by decide +kernel
theorem dX4_storeDecoded_55 : decode cX4_storeDecoded 55 = .ok (.iadd, 1) := by decide +kernel
theorem dX4_storeDecoded_56 : decode cX4_storeDecoded 56 = .ok (.aload_n 0, 1) := by decide +kernel
theorem dX4_storeDecoded_57 : decode cX4_storeDecoded 57 = .ok (.getfield 49, 3) := by decide +kernel
theorem dX4_storeDecoded_60 : decode cX4_storeDecoded 60 = .ok (.iload_n 3, 1) := by decide +kernel
theorem dX4_storeDecoded_61 : decode cX4_storeDecoded 61 = .ok (.iadd, 1) := by decide +kernel
theorem dX4_storeDecoded_62 : decode cX4_storeDecoded 62 = .ok (.invokevirtual 81, 3) := by decide +kernel
theorem dX4_storeDecoded_65 : decode cX4_storeDecoded 65 = .ok (.aload_n 0, 1) := by decide +kernel
theorem dX4_storeDecoded_66 : decode cX4_storeDecoded 66 = .ok (.getfield 30, 3) := by decide +kernel
theorem dX4_storeDecoded_69 : decode cX4_storeDecoded 69 = .ok (.iload 5, 2) := by decide +kernel
theorem dX4_storeDecoded_71 : decode cX4_storeDecoded 71 = .ok (.invokestatic 84, 3) := by decide +kernel
theorem dX4_storeDecoded_74 : decode cX4_storeDecoded 74 = .ok (.invokestatic 91, 3) := by decide +kernel
theorem dX4_storeDecoded_77 : decode cX4_storeDecoded 77 = .ok (.iinc 4 1, 3) := by decide +kernel
theorem dX4_storeDecoded_80 : decode cX4_storeDecoded 80 = .ok (.goto (-65), 3) := by decide +kernel
theorem dX4_storeDecoded_83 : decode cX4_storeDecoded 83 = .ok (.iinc 3 1, 3) := by decide +kernel
theorem dX4_storeDecoded_86 : decode cX4_storeDecoded 86 = .ok (.goto (-82), 3) := by decide +kernel
theorem dX4_storeDecoded_89 : decode cX4_storeDecoded 89 = .ok (.iload_n 2, 1) := by decide +kernel
theorem dX4_storeDecoded_90 : decode cX4_storeDecoded 90 = .ok (.ireturn, 1) := by decide +kernel
theorem dX5_init_0 : decode cX5_init 0 = .ok (.aload_n 0, 1) := by decide +kernel
theorem dX5_init_1 : decode cX5_init 1 = .ok (.invokespecial 1, 3) := by decide +kernel
theorem dX5_init_4 : decode cX5_init 4 = .ok (.aload_n 0, 1) := by decide +kernel
theorem dX5_init_5 : decode cX5_init 5 = .ok (.new 7, 3) := by decide +kernel
theorem dX5_init_8 : decode cX5_init 8 = .ok (.dup, 1) := by decide +kernel
theorem dX5_init_9 : decode cX5_init 9 = .ok (.invokespecial 9, 3) := by decide +kernel
theorem dX5_init_12 : decode cX5_init 12 = .ok (.putfield 10, 3) := by decide +kernel
theorem dX5_init_15 : decode cX5_init 15 = .ok (.aload_n 0, 1) := by decide +kernel
theorem dX5_init_16 : decode cX5_init 16 = .ok (.new 7, 3) := by decide +kernel
theorem dX5_init_19 : decode cX5_init 19 = .ok (.dup, 1) := by decide +kernel
theorem dX5_init_20 : decode cX5_init 20 = .ok (.invokespecial 9, 3) := by decide +kernel
theorem dX5_init_23 : decode cX5_init 23 = .ok (.putfield 16, 3) := by decide +kernel
theorem dX5_init_26 : decode cX5_init 26 = .ok (.aload_n 0, 1) := by decide +kernel
theorem dX5_init_27 : decode cX5_init 27 = .ok (.iconst 0, 1) := by decide +kernel
theorem dX5_init_28 : decode cX5_init 28 = .ok (.putfield 19, 3) := by decide +kernel
theorem dX5_init_31 : decode cX5_init 31 = .ok (.aload_n 0, 1) := by decide +kernel
theorem dX5_init_32 : decode cX5_init 32 = .ok (.new 23, 3) := by decide +kernel
theorem dX5_init_35 : decode cX5_init 35 = .ok (.dup, 1) := by decide +kernel
theorem dX5_init_36 : decode cX5_init 36 = .ok (.invokespecial 25, 3) := by decide +kernel
theorem dX5_init_39 : decode cX5_init 39 = .ok (.putfield 26, 3) := by decide +kernel
theorem dX5_init_42 : decode cX5_init 42 = .ok (.aload_n 0, 1) := by decide +kernel
theorem dX5_init_43 : decode cX5_init 43 = .ok (.new 30, 3) := by decide +kernel
theorem dX5_init_46 : decode cX5_init 46 = .ok (.dup, 1) := by decide +kernel
theorem dX5_init_47 : decode cX5_init 47 = .ok (.invokespecial 32, 3) := by decide +kernel
theorem dX5_init_50 : decode cX5_init 50 = .ok (.putfield 33, 3) := by decide +kernel
theorem dX5_init_53 : decode cX5_init 53 = .ok (.aload_n 0, 1) := by decide +kernel
theorem dX5_init_54 : decode cX5_init 54 = .ok (.new 37, 3) := by decide +kernel
theorem dX5_init_57 : decode cX5_init 57 = .ok (.dup, 1) := by decide +kernel
theorem dX5_init_58 : decode cX5_init 58 = .ok (.invokespecial 39, 3) := by decide +kernel
theorem dX5_init_61 : decode cX5_init 61 = .ok (.putfield 40, 3) := by decide +kernel
theorem dX5_init_64 : decode cX5_init 64 = .ok (.aload_n 0, 1) := by decide +kernel
theorem dX5_init_65 : decode cX5_init 65 = .ok (.new 44, 3) := by decide +kernel
theorem dX5_init_68 : decode cX5_init 68 = .ok (.dup, 1) := by decide +kernel
theorem dX5_init_69 : decode cX5_init 69 = .ok (.invokespecial 46, 3) := by decide +kernel
theorem dX5_init_72 : decode cX5_init 72 = .ok (.putfield 47, 3) := by decide +kernel
theorem dX5_init_75 : decode cX5_init 75 = .ok (.aload_n 0, 1) := by decide +kernel
theorem dX5_init_76 : decode cX5_init 76 = .ok (.iconst (-1), 1) := by decide +kernel
theorem dX5_init_77 : decode cX5_init 77 = .ok (.putfield 51, 3) := by decide +kernel
theorem dX5_init_80 : decode cX5_init 80 = .ok (.aload_n 0, 1) := by decide +kernel
theorem dX5_init_81 : decode cX5_init 81 = .ok (.iconst (-1), 1) := by decide +kernel
theorem dX5_init_82 : decode cX5_init 82 = .ok (.putfield 55, 3) := by decide +kernel
theorem dX5_init_85 : decode cX5_init 85 = .ok (.aload_n 0, 1) := by decide +kernel
theorem dX5_init_86 : decode cX5_init 86 = .ok (.iconst 0, 1) := by decide +kernel
theorem dX5_init_87 : decode cX5_init 87 = .ok (.putfield 58, 3) := by decide +kernel
theorem dX5_init_90 : decode cX5_init 90 = .ok (.return_, 1) := by decide +kernel
theorem dX5_size_0 : decode cX5_size 0 = .ok (.iload_n 1, 1) := by decide +kernel
theorem dX5_size_1 : decode cX5_size 1 = .ok (.iconst 2, 1) := by decide +kernel
theorem dX5_size_2 : decode cX5_size 2 = .ok (.bipush 16, 2) := by decide +kernel
theorem dX5_size_4 : decode cX5_size 4 = .ok (.invokestatic 61, 3) := by decide +kernel
theorem dX5_size_7 : decode cX5_size 7 = .ok (.ifCond .eq 13, 3) := by decide +kernel
theorem dX5_size_10 : decode cX5_size 10 = .ok (.iload_n 2, 1) := by decide +kernel
theorem dX5_size_11 : decode cX5_size 11 = .ok (.iconst 2, 1) := by decide +kernel
theorem dX5_size_12 : decode cX5_size 12 = .ok (.bipush 16, 2) := by decide +kernel
theorem dX5_size_14 : decode cX5_size 14 = .ok (.invokestatic 61, 3) := by decide +kernel
theorem dX5_size_17 : decode cX5_size 17 = .ok (.ifCond .ne 13, 3) := by decide +kernel
theorem dX5_size_20 : decode cX5_size 20 = .ok (.new 65, 3) := by decide +kernel
theorem dX5_size_23 : decode cX5_size 23 = .ok (.dup, 1) := by decide +kernel
theorem dX5_size_24 : decode cX5_size 24 = .ok (.ldc 67, 2) := by decide +kernel
theorem dX5_size_26 : decode cX5_size 26 = .ok (.invokespecial 69, 3) := by decide +kernel
theorem dX5_size_29 : decode cX5_size 29 = .ok (.athrow, 1) := by decide +kernel
theorem dX5_size_30 : decode cX5_size 30 = .ok (.aload_n 0, 1) := by decide +kernel
theorem dX5_size_31 : decode cX5_size 31 = .ok (.getfield 26, 3) := by decide +kernel
theorem dX5_size_34 : decode cX5_size 34 = .ok (.aload_n 0, 1) := by decide +kernel
theorem dX5_size_35 : decode cX5_size 35 = .ok (.getfield 10, 3) := by decide +kernel
theorem dX5_size_38 : decode cX5_size 38 = .ok (.invokevirtual 72, 3) := by decide +kernel
theorem dX5_size_41 : decode cX5_size 41 = .ok (.aload_n 0, 1) := by decide +kernel
theorem dX5_size_42 : decode cX5_size 42 = .ok (.getfield 10, 3) := by decide +kernel
theorem dX5_size_45 : decode cX5_size 45 = .ok (.iload_n 1, 1) := by decide +kernel
theorem dX5_size_46 : decode cX5_size 46 = .ok (.iload_n 2, 1) := by decide +kernel
theorem dX5_size_47 : decode cX5_size 47 = .ok (.invokevirtual 76, 3) := by decide +kernel
theorem dX5_size_50 : decode cX5_size 50 = .ok (.aload_n 0, 1) := by decide +kernel
theorem dX5_size_51 : decode cX5_size 51 = .ok (.getfield 10, 3) := by decide +kernel
theorem dX5_size_54 : decode cX5_size 54 = .ok (.invokevirtual 80, 3) := by decide +kernel
theorem dX5_size_57 : decode cX5_size 57 = .ok (.ireturn, 1) := by decide +kernel
theorem dX5_setting_0 : decode cX5_setting 0 = .ok (.iload_n 1, 1) := by decide +kernel
theorem dX5_setting_1 : decode cX5_setting 1 = .ok (.iload_n 2, 1) := by decide +kernel
theorem dX5_setting_2 : decode cX5_setting 2 = .ok (.invokestatic 84, 3) := by decide +kernel
theorem dX5_setting_5 : decode cX5_setting 5 = .ok (.ifCond .ne 13, 3) := by decide +kernel
theorem dX5_setting_8 : decode cX5_setting 8 = .ok (.new 65, 3) := by decide +kernel
theorem dX5_setting_11 : decode cX5_setting 11 = .ok (.dup, 1) := by decide +kernel
theorem dX5_setting_12 : decode cX5_setting 12 = .ok (.ldc 88, 2) := by decide +kernel
theorem dX5_setting_14 : decode cX5_setting 14 = .ok (.invokespecial 69, 3) := by decide +kernel
theorem dX5_setting_17 : decode cX5_setting 17 = .ok (.athrow, 1) := by decide +kernel
theorem dX5_setting_18 : decode cX5_setting 18 = .ok (.aload_n 0, 1) := by decide +kernel
theorem dX5_setting_19 : decode cX5_setting 19 = .ok (.getfield 10, 3) := by decide +kernel
theorem dX5_setting_22 : decode cX5_setting 22 = .ok (.iload_n 1, 1) := by decide +kernel
theorem dX5_setting_23 : decode cX5_setting 23 = .ok (.invokevirtual 90, 3) := by decide +kernel
theorem dX5_setting_26 : decode cX5_setting 26 = .ok (.istore_n 3, 1) := by decide +kernel
theorem dX5_setting_27 : decode cX5_setting 27 = .ok (.aload_n 0, 1) := by decide +kernel
theorem dX5_setting_28 : decode cX5_setting 28 = .ok (.getfield 26, 3) := by decide +kernel
theorem dX5_setting_31 : decode cX5_setting 31 = .ok (.aload_n 0, 1) := by decide +kernel
theorem dX5_setting_32 : decode cX5_setting 32 = .ok (.getfield 10, 3) := by decide +kernel
theorem dX5_setting_35 : decode cX5_setting 35 = .ok (.invokevirtual 72, 3) := by decide +kernel
theorem dX5_setting_38 : decode cX5_setting 38 = .ok (.aload_n 0, 1) := by decide +kernel
theorem dX5_setting_39 : decode cX5_setting 39 = .ok (.getfield 10, 3) := by decide +kernel
theorem dX5_setting_42 : decode cX5_setting 42 = .ok (.iload_n 1, 1) := by decide +kernel
theorem dX5_setting_43 : decode cX5_setting 43 = .ok (.iload_n 2, 1) := by decide +kernel
theorem dX5_setting_44 : decode cX5_setting 44 = .ok (.invokevirtual 94, 3) := by decide +kernel
theorem dX5_setting_47 : decode cX5_setting 47 = .ok (.iload_n 3, 1) := by decide +kernel
theorem dX5_setting_48 : decode cX5_setting 48 = .ok (.ireturn, 1) := by decide +kernel
theorem dX5_number_0 : decode cX5_number 0 = .ok (.iload_n 1, 1) := by decide +kernel
theorem dX5_number_1 : decode cX5_number 1 = .ok (.tableswitch 149 0 9 #[55, 63, 71, 79, 87, 95, 103, 118, 133, 141], 55) := by decide +kernel
theorem dX5_number_56 : decode cX5_number 56 = .ok (.aload_n 0, 1) := by decide +kernel
theorem dX5_number_57 : decode cX5_number 57 = .ok (.getfield 10, 3) := by decide +kernel
theorem dX5_number_60 : decode cX5_number 60 = .ok (.getfield 97, 3) := by decide +kernel
theorem dX5_number_63 : decode cX5_number 63 = .ok (.ireturn, 1) := by decide +kernel
theorem dX5_number_64 : decode cX5_number 64 = .ok (.aload_n 0, 1) := by decide +kernel
theorem dX5_number_65 : decode cX5_number 65 = .ok (.getfield 10, 3) := by decide +kernel
theorem dX5_number_68 : decode cX5_number 68 = .ok (.getfield 100, 3) := by decide +kernel
theorem dX5_number_71 : decode cX5_number 71 = .ok (.ireturn, 1) := by decide +kernel
theorem dX5_number_72 : decode cX5_number 72 = .ok (.aload_n 0, 1) := by decide +kernel
theorem dX5_number_73 : decode cX5_number 73 = .ok (.getfield 10, 3) := by decide +kernel
theorem dX5_number_76 : decode cX5_number 76 = .ok (.getfield 103, 3) := by decide +kernel
theorem dX5_number_79 : decode cX5_number 79 = .ok (.ireturn, 1) := by decide +kernel
theorem dX5_number_80 : decode cX5_number 80 = .ok (.aload_n 0, 1) := by decide +kernel
theorem dX5_number_81 : decode cX5_number 81 = .ok (.getfield 10, 3) := by decide +kernel
theorem dX5_number_84 : decode cX5_number 84 = .ok (.getfield 106, 3) := by decide +kernel
theorem dX5_number_87 : decode cX5_number 87 = .ok (.ireturn, 1) := by decide +kernel
theorem dX5_number_88 : decode cX5_number 88 = .ok (.aload_n 0, 1) := by decide +kernel
theorem dX5_number_89 : decode cX5_number 89 = .ok (.getfield 10, 3) := by decide +kernel
theorem dX5_number_92 : decode cX5_number 92 = .ok (.getfield 109, 3) := by decide +kernel
theorem dX5_number_95 : decode cX5_number 95 = .ok (.ireturn, 1) := by decide +kernel
theorem dX5_number_96 : decode cX5_number 96 = .ok (.aload_n 0, 1) := by decide +kernel
theorem dX5_number_97 : decode cX5_number 97 = .ok (.getfield 10, 3) := by decide +kernel
theorem dX5_number_100 : decode cX5_number 100 = .ok (.invokevirtual 80, 3) := by decide +kernel
theorem dX5_number_103 : decode cX5_number 103 = .ok (.ireturn, 1) := by decide +kernel
theorem dX5_number_104 : decode cX5_number 104 = .ok (.aload_n 0, 1) := by decide +kernel
theorem dX5_number_105 : decode cX5_number 105 = .ok (.getfield 10, 3) := by decide +kernel
theorem dX5_number_108 : decode cX5_number 108 = .ok (.aload_n 0, 1) := by decide +kernel
theorem dX5_number_109 : decode cX5_number 109 = .ok (.getfield 10, 3) := by decide +kernel
theorem dX5_number_112 : decode cX5_number 112 = .ok (.getfield 112, 3) := by decide +kernel
theorem dX5_number_115 : decode cX5_number 115 = .ok (.invokevirtual 116, 3) := by decide +kernel
theorem dX5_number_118 : decode cX5_number 118 = .ok (.ireturn, 1) := by decide +kernel
theorem dX5_number_119 : decode cX5_number 119 = .ok (.aload_n 0, 1) := by decide +kernel
theorem dX5_number_120 : decode cX5_number 120 = .ok (.getfield 10, 3) := by decide +kernel
theorem dX5_number_123 : decode cX5_number 123 = .ok (.aload_n 0, 1) := by decide +kernel
theorem dX5_number_124 : decode cX5_number 124 = .ok (.getfield 10, 3) := by decide +kernel
theorem dX5_number_127 : decode cX5_number 127 = .ok (.getfield 120, 3) := by decide +kernel
theorem dX5_number_130 : decode cX5_number 130 = .ok (.invokevirtual 116, 3) := by decide +kernel
theorem dX5_number_133 : decode cX5_number 133 = .ok (.ireturn, 1) := by decide +kernel
theorem dX5_number_134 : decode cX5_number 134 = .ok (.aload_n 0, 1) := by decide +kernel
theorem dX5_number_135 : decode cX5_number 135 = .ok (.getfield 26, 3) := by decide +kernel
theorem dX5_number_138 : decode cX5_number 138 = .ok (.getfield 123, 3) := by decide +kernel
theorem dX5_number_141 : decode cX5_number 141 = .ok (.ireturn, 1) := by decide +kernel
theorem dX5_number_142 : decode cX5_number 142 = .ok (.aload_n 0, 1) := by decide +kernel
theorem dX5_number_143 : decode cX5_number 143 = .ok (.getfield 47, 3) := by decide +kernel
theorem dX5_number_146 : decode cX5_number 146 = .ok (.getfield 126, 3) := by decide +kernel
theorem dX5_number_149 : decode cX5_number 149 = .ok (.ireturn, 1) := by decide +kernel
theorem dX5_number_150 : decode cX5_number 150 = .ok (.new 65, 3) := by decide +kernel
theorem dX5_number_153 : decode cX5_number 153 = .ok (.dup, 1) := by decide +kernel
theorem dX5_number_154 : decode cX5_number 154 = .ok (.ldc 129, 2) := by decide +kernel
theorem dX5_number_156 : decode cX5_number 156 = .ok (.invokespecial 69, 3) := by decide +kernel
theorem dX5_number_159 : decode cX5_number 159 = .ok (.athrow, 1) := by decide +kernel
theorem dX5_set_0 : decode cX5_set 0 = .ok (.aload_n 0, 1) := by decide +kernel
theorem dX5_set_1 : decode cX5_set 1 = .ok (.getfield 10, 3) := by decide +kernel
theorem dX5_set_4 : decode cX5_set 4 = .ok (.iload_n 1, 1) := by decide +kernel
theorem dX5_set_5 : decode cX5_set 5 = .ok (.iload_n 2, 1) := by decide +kernel
theorem dX5_set_6 : decode cX5_set 6 = .ok (.invokevirtual 131, 3) := by decide +kernel
theorem dX5_set_9 : decode cX5_set 9 = .ok (.ifCond .ne 13, 3) := by decide +kernel
theorem dX5_set_12 : decode cX5_set 12 = .ok (.new 134, 3) := by decide +kernel
theorem dX5_set_15 : decode cX5_set 15 = .ok (.dup, 1) := by decide +kernel
theorem dX5_set_16 : decode cX5_set 16 = .ok (.ldc 136, 2) := by decide +kernel
theorem dX5_set_18 : decode cX5_set 18 = .ok (.invokespecial 138, 3) := by decide +kernel
theorem dX5_set_21 : decode cX5_set 21 = .ok (.athrow, 1) := by decide +kernel
theorem dX5_set_22 : decode cX5_set 22 = .ok (.iload_n 3, 1) := by decide +kernel
theorem dX5_set_23 : decode cX5_set 23 = .ok (.iconst 0, 1) := by decide +kernel
theorem dX5_set_24 : decode cX5_set 24 = .ok (.sipush 255, 3) := by decide +kernel
theorem dX5_set_27 : decode cX5_set 27 = .ok (.invokestatic 61, 3) := by decide +kernel
theorem dX5_set_30 : decode cX5_set 30 = .ok (.ifCond .ne 13, 3) := by decide +kernel
theorem dX5_set_33 : decode cX5_set 33 = .ok (.new 65, 3) := by decide +kernel
theorem dX5_set_36 : decode cX5_set 36 = .ok (.dup, 1) := by decide +kernel
theorem dX5_set_37 : decode cX5_set 37 = .ok (.ldc 139, 2) := by decide +kernel
theorem dX5_set_39 : decode cX5_set 39 = .ok (.invokespecial 69, 3) := by decide +kernel
theorem dX5_set_42 : decode cX5_set 42 = .ok (.athrow, 1) := by decide +kernel
theorem dX5_set_43 : decode cX5_set 43 = .ok (.aload_n 0, 1) := by decide +kernel
theorem dX5_set_44 : decode cX5_set 44 = .ok (.getfield 10, 3) := by decide +kernel
theorem dX5_set_47 : decode cX5_set 47 = .ok (.iload_n 1, 1) := by decide +kernel
theorem dX5_set_48 : decode cX5_set 48 = .ok (.iload_n 2, 1) := by decide +kernel
theorem dX5_set_49 : decode cX5_set 49 = .ok (.invokevirtual 141, 3) := by decide +kernel
theorem dX5_set_52 : decode cX5_set 52 = .ok (.istore 4, 2) := by decide +kernel
theorem dX5_set_54 : decode cX5_set 54 = .ok (.aload_n 0, 1) := by decide +kernel
theorem dX5_set_55 : decode cX5_set 55 = .ok (.getfield 10, 3) := by decide +kernel
theorem dX5_set_58 : decode cX5_set 58 = .ok (.getfield 120, 3) := by decide +kernel
theorem dX5_set_61 : decode cX5_set 61 = .ok (.iload 4, 2) := by decide +kernel
theorem dX5_set_63 : decode cX5_set 63 = .ok (.invokestatic 145, 3) := by decide +kernel
theorem dX5_set_66 : decode cX5_set 66 = .ok (.istore 5, 2) := by decide +kernel
theorem dX5_set_68 : decode cX5_set 68 = .ok (.aload_n 0, 1) := by decide +kernel
theorem dX5_set_69 : decode cX5_set 69 = .ok (.getfield 26, 3) := by decide +kernel
theorem dX5_set_72 : decode cX5_set 72 = .ok (.aload_n 0, 1) := by decide +kernel
theorem dX5_set_73 : decode cX5_set 73 = .ok (.getfield 10, 3) := by decide +kernel
theorem dX5_set_76 : decode cX5_set 76 = .ok (.invokevirtual 72, 3) := by decide +kernel
theorem dX5_set_79 : decode cX5_set 79 = .ok (.aload_n 0, 1) := by decide +kernel
theorem dX5_set_80 : decode cX5_set 80 = .ok (.getfield 10, 3) := by decide +kernel
theorem dX5_set_83 : decode cX5_set 83 = .ok (.getfield 120, 3) := by decide +kernel
theorem dX5_set_86 : decode cX5_set 86 = .ok (.iload 4, 2) := by decide +kernel
theorem dX5_set_88 : decode cX5_set 88 = .ok (.iload_n 3, 1) := by decide +kernel
theorem dX5_set_89 : decode cX5_set 89 = .ok (.invokestatic 149, 3) := by decide +kernel
theorem dX5_set_92 : decode cX5_set 92 = .ok (.iload 5, 2) := by decide +kernel
theorem dX5_set_94 : decode cX5_set 94 = .ok (.ireturn, 1) := by decide +kernel
theorem dX5_pixel_0 : decode cX5_pixel 0 = .ok (.aload_n 0, 1) := by decide +kernel
theorem dX5_pixel_1 : decode cX5_pixel 1 = .ok (.getfield 10, 3) := by decide +kernel
theorem dX5_pixel_4 : decode cX5_pixel 4 = .ok (.iload_n 1, 1) := by decide +kernel
theorem dX5_pixel_5 : decode cX5_pixel 5 = .ok (.iload_n 2, 1) := by decide +kernel
theorem dX5_pixel_6 : decode cX5_pixel 6 = .ok (.invokevirtual 131, 3) := by decide +kernel
theorem dX5_pixel_9 : decode cX5_pixel 9 = .ok (.ifCond .ne 13, 3) := by decide +kernel
theorem dX5_pixel_12 : decode cX5_pixel 12 = .ok (.new 134, 3) := by decide +kernel
theorem dX5_pixel_15 : decode cX5_pixel 15 = .ok (.dup, 1) := by decide +kernel
theorem dX5_pixel_16 : decode cX5_pixel 16 = .ok (.ldc 136, 2) := by decide +kernel
theorem dX5_pixel_18 : decode cX5_pixel 18 = .ok (.invokespecial 138, 3) := by decide +kernel
theorem dX5_pixel_21 : decode cX5_pixel 21 = .ok (.athrow, 1) := by decide +kernel
theorem dX5_pixel_22 : decode cX5_pixel 22 = .ok (.aload_n 0, 1) := by decide +kernel
theorem dX5_pixel_23 : decode cX5_pixel 23 = .ok (.getfield 10, 3) := by decide +kernel
theorem dX5_pixel_26 : decode cX5_pixel 26 = .ok (.getfield 120, 3) := by decide +kernel
theorem dX5_pixel_29 : decode cX5_pixel 29 = .ok (.aload_n 0, 1) := by decide +kernel
theorem dX5_pixel_30 : decode cX5_pixel 30 = .ok (.getfield 10, 3) := by decide +kernel
theorem dX5_pixel_33 : decode cX5_pixel 33 = .ok (.iload_n 1, 1) := by decide +kernel
theorem dX5_pixel_34 : decode cX5_pixel 34 = .ok (.iload_n 2, 1) := by decide +kernel
theorem dX5_pixel_35 : decode cX5_pixel 35 = .ok (.invokevirtual 141, 3) := by decide +kernel
theorem dX5_pixel_38 : decode cX5_pixel 38 = .ok (.invokestatic 145, 3) := by decide +kernel
theorem dX5_pixel_41 : decode cX5_pixel 41 = .ok (.ireturn, 1) := by decide +kernel
theorem dX5_fill_0 : decode cX5_fill 0 = .ok (.aload_n 0, 1) := by decide +kernel
theorem dX5_fill_1 : decode cX5_fill 1 = .ok (.getfield 10, 3) := by decide +kernel
theorem dX5_fill_4 : decode cX5_fill 4 = .ok (.iload_n 1, 1) := by decide +kernel
theorem dX5_fill_5 : decode cX5_fill 5 = .ok (.iload_n 2, 1) := by decide +kernel
theorem dX5_fill_6 : decode cX5_fill 6 = .ok (.invokevirtual 131, 3) := by decide +kernel
theorem dX5_fill_9 : decode cX5_fill 9 = .ok (.ifCond .eq 16, 3) := by decide +kernel
theorem dX5_fill_12 : decode cX5_fill 12 = .ok (.aload_n 0, 1) := by decide +kernel
theorem dX5_fill_13 : decode cX5_fill 13 = .ok (.getfield 10, 3) := by decide +kernel
theorem dX5_fill_16 : decode cX5_fill 16 = .ok (.iload_n 3, 1) := by decide +kernel
theorem dX5_fill_17 : decode cX5_fill 17 = .ok (.iload 4, 2) := by decide +kernel
theorem dX5_fill_19 : decode cX5_fill 19 = .ok (.invokevirtual 131, 3) := by decide +kernel
theorem dX5_fill_22 : decode cX5_fill 22 = .ok (.ifCond .ne 13, 3) := by decide +kernel
theorem dX5_fill_25 : decode cX5_fill 25 = .ok (.new 134, 3) := by decide +kernel
theorem dX5_fill_28 : decode cX5_fill 28 = .ok (.dup, 1) := by decide +kernel
theorem dX5_fill_29 : decode cX5_fill 29 = .ok (.ldc 153, 2) := by decide +kernel
theorem dX5_fill_31 : decode cX5_fill 31 = .ok (.invokespecial 138, 3) := by decide +kernel
theorem dX5_fill_34 : decode cX5_fill 34 = .ok (.athrow, 1) := by decide +kernel
theorem dX5_fill_35 : decode cX5_fill 35 = .ok (.iload_n 1, 1) := by decide +kernel
theorem dX5_fill_36 : decode cX5_fill 36 = .ok (.iload_n 3, 1) := by decide +kernel
theorem dX5_fill_37 : decode cX5_fill 37 = .ok (.if_icmp .gt 9, 3) := by decide +kernel
theorem dX5_fill_40 : decode cX5_fill 40 = .ok (.iload_n 2, 1) := by decide +kernel
theorem dX5_fill_41 : decode cX5_fill 41 = .ok (.iload 4, 2) := by decide +kernel
theorem dX5_fill_43 : decode cX5_fill 43 = .ok (.if_icmp .le 13, 3) := by decide +kernel
theorem dX5_fill_46 : decode cX5_fill 46 = .ok (.new 65, 3) := by decide +kernel
theorem dX5_fill_49 : decode cX5_fill 49 = .ok (.dup, 1) := by decide +kernel
theorem dX5_fill_50 : decode cX5_fill 50 = .ok (.ldc 155, 2) := by decide +kernel
theorem dX5_fill_52 : decode cX5_fill 52 = .ok (.invokespecial 69, 3) := by decide +kernel
theorem dX5_fill_55 : decode cX5_fill 55 = .ok (.athrow, 1) := by decide +kernel
theorem dX5_fill_56 : decode cX5_fill 56 = .ok (.iload 5, 2) := by decide +kernel
theorem dX5_fill_58 : decode cX5_fill 58 = .ok (.iconst 0, 1) := by decide +kernel
theorem dX5_fill_59 : decode cX5_fill 59 = .ok (.sipush 255, 3) := by decide +kernel
theorem dX5_fill_62 : decode cX5_fill 62 = .ok (.invokestatic 61, 3) := by decide +kernel
theorem dX5_fill_65 : decode cX5_fill 65 = .ok (.ifCond .ne 13, 3) := by decide +kernel
theorem dX5_fill_68 : decode cX5_fill 68 = .ok (.new 65, 3) := by decide +kernel
theorem dX5_fill_71 : decode cX5_fill 71 = .ok (.dup, 1) := by decide +kernel
theorem dX5_fill_72 : decode cX5_fill 72 = .ok (.ldc 139, 2) := by decide +kernel
theorem dX5_fill_74 : decode cX5_fill 74 = .ok (.invokespecial 69, 3) := by decide +kernel
theorem dX5_fill_77 : decode cX5_fill 77 = .ok (.athrow, 1) := by decide +kernel
theorem dX5_fill_78 : decode cX5_fill 78 = .ok (.aload_n 0, 1) := by decide +kernel
theorem dX5_fill_79 : decode cX5_fill 79 = .ok (.getfield 26, 3) := by decide +kernel
theorem dX5_fill_82 : decode cX5_fill 82 = .ok (.aload_n 0, 1) := by decide +kernel
theorem dX5_fill_83 : decode cX5_fill 83 = .ok (.getfield 10, 3) := by decide +kernel
theorem dX5_fill_86 : decode cX5_fill 86 = .ok (.invokevirtual 72, 3) := by decide +kernel
theorem dX5_fill_89 : decode cX5_fill 89 = .ok (.aload_n 0, 1) := by decide +kernel
theorem dX5_fill_90 : decode cX5_fill 90 = .ok (.getfield 10, 3) := by decide +kernel
theorem dX5_fill_93 : decode cX5_fill 93 = .ok (.aload_n 0, 1) := by decide +kernel
theorem dX5_fill_94 : decode cX5_fill 94 = .ok (.getfield 10, 3) := by decide +kernel
theorem dX5_fill_97 : decode cX5_fill 97 = .ok (.getfield 120, 3) := by decide +kernel
theorem dX5_fill_100 : decode cX5_fill 100 = .ok (.iload_n 1, 1) := by decide +kernel
theorem dX5_fill_101 : decode cX5_fill 101 = .ok (.iload_n 2, 1) := by decide +kernel
theorem dX5_fill_102 : decode cX5_fill 102 = .ok (.iload_n 3, 1) := by decide +kernel
theorem dX5_fill_103 : decode cX5_fill 103 = .ok (.iload 4, 2) := by decide +kernel
theorem dX5_fill_105 : decode cX5_fill 105 = .ok (.iload 5, 2) := by decide +kernel
theorem dX5_fill_107 : decode cX5_fill 107 = .ok (.invokevirtual 157, 3) := by decide +kernel
theorem dX5_fill_110 : decode cX5_fill 110 = .ok (.ireturn, 1) := by decide +kernel
theorem dX5_mask_0 : decode cX5_mask 0 = .ok (.aload_n 0, 1) := by decide +kernel
theorem dX5_mask_1 : decode cX5_mask 1 = .ok (.getfield 10, 3) := by decide +kernel
theorem dX5_mask_4 : decode cX5_mask 4 = .ok (.iload_n 1, 1) := by decide +kernel
theorem dX5_mask_5 : decode cX5_mask 5 = .ok (.iload_n 2, 1) := by decide +kernel
theorem dX5_mask_6 : decode cX5_mask 6 = .ok (.invokevirtual 131, 3) := by decide +kernel
theorem dX5_mask_9 : decode cX5_mask 9 = .ok (.ifCond .eq 16, 3) := by decide +kernel
theorem dX5_mask_12 : decode cX5_mask 12 = .ok (.aload_n 0, 1) := by decide +kernel
theorem dX5_mask_13 : decode cX5_mask 13 = .ok (.getfield 10, 3) := by decide +kernel
theorem dX5_mask_16 : decode cX5_mask 16 = .ok (.iload_n 3, 1) := by decide +kernel
theorem dX5_mask_17 : decode cX5_mask 17 = .ok (.iload 4, 2) := by decide +kernel
theorem dX5_mask_19 : decode cX5_mask 19 = .ok (.invokevirtual 131, 3) := by decide +kernel
theorem dX5_mask_22 : decode cX5_mask 22 = .ok (.ifCond .ne 13, 3) := by decide +kernel
theorem dX5_mask_25 : decode cX5_mask 25 = .ok (.new 134, 3) := by decide +kernel
theorem dX5_mask_28 : decode cX5_mask 28 = .ok (.dup, 1) := by decide +kernel
theorem dX5_mask_29 : decode cX5_mask 29 = .ok (.ldc 153, 2) := by decide +kernel
theorem dX5_mask_31 : decode cX5_mask 31 = .ok (.invokespecial 138, 3) := by decide +kernel
theorem dX5_mask_34 : decode cX5_mask 34 = .ok (.athrow, 1) := by decide +kernel
theorem dX5_mask_35 : decode cX5_mask 35 = .ok (.iload_n 1, 1) := by decide +kernel
theorem dX5_mask_36 : decode cX5_mask 36 = .ok (.iload_n 3, 1) := by decide +kernel
theorem dX5_mask_37 : decode cX5_mask 37 = .ok (.if_icmp .gt 9, 3) := by decide +kernel
theorem dX5_mask_40 : decode cX5_mask 40 = .ok (.iload_n 2, 1) := by decide +kernel
theorem dX5_mask_41 : decode cX5_mask 41 = .ok (.iload 4, 2) := by decide +kernel
theorem dX5_mask_43 : decode cX5_mask 43 = .ok (.if_icmp .le 13, 3) := by decide +kernel
theorem dX5_mask_46 : decode cX5_mask 46 = .ok (.new 65, 3) := by decide +kernel
theorem dX5_mask_49 : decode cX5_mask 49 = .ok (.dup, 1) := by decide +kernel
theorem dX5_mask_50 : decode cX5_mask 50 = .ok (.ldc 155, 2) := by decide +kernel
theorem dX5_mask_52 : decode cX5_mask 52 = .ok (.invokespecial 69, 3) := by decide +kernel
theorem dX5_mask_55 : decode cX5_mask 55 = .ok (.athrow, 1) := by decide +kernel
theorem dX5_mask_56 : decode cX5_mask 56 = .ok (.aload_n 0, 1) := by decide +kernel
theorem dX5_mask_57 : decode cX5_mask 57 = .ok (.getfield 26, 3) := by decide +kernel
theorem dX5_mask_60 : decode cX5_mask 60 = .ok (.aload_n 0, 1) := by decide +kernel
theorem dX5_mask_61 : decode cX5_mask 61 = .ok (.getfield 10, 3) := by decide +kernel
theorem dX5_mask_64 : decode cX5_mask 64 = .ok (.invokevirtual 72, 3) := by decide +kernel
theorem dX5_mask_67 : decode cX5_mask 67 = .ok (.aload_n 0, 1) := by decide +kernel
theorem dX5_mask_68 : decode cX5_mask 68 = .ok (.getfield 10, 3) := by decide +kernel
theorem dX5_mask_71 : decode cX5_mask 71 = .ok (.aload_n 0, 1) := by decide +kernel
theorem dX5_mask_72 : decode cX5_mask 72 = .ok (.getfield 10, 3) := by decide +kernel
theorem dX5_mask_75 : decode cX5_mask 75 = .ok (.getfield 112, 3) := by decide +kernel
theorem dX5_mask_78 : decode cX5_mask 78 = .ok (.iload_n 1, 1) := by decide +kernel
theorem dX5_mask_79 : decode cX5_mask 79 = .ok (.iload_n 2, 1) := by decide +kernel
theorem dX5_mask_80 : decode cX5_mask 80 = .ok (.iload_n 3, 1) := by decide +kernel
theorem dX5_mask_81 : decode cX5_mask 81 = .ok (.iload 4, 2) := by decide +kernel
theorem dX5_mask_83 : decode cX5_mask 83 = .ok (.iload 5, 2) := by decide +kernel
theorem dX5_mask_85 : decode cX5_mask 85 = .ok (.ifCond .eq 7, 3) := by decide +kernel
theorem dX5_mask_88 : decode cX5_mask 88 = .ok (.iconst 1, 1) := by decide +kernel
theorem dX5_mask_89 : decode cX5_mask 89 = .ok (.goto 4, 3) := by decide +kernel
theorem dX5_mask_92 : decode cX5_mask 92 = .ok (.iconst 0, 1) := by decide +kernel
theorem dX5_mask_93 : decode cX5_mask 93 = .ok (.invokevirtual 157, 3) := by decide +kernel
theorem dX5_mask_96 : decode cX5_mask 96 = .ok (.pop, 1) := by decide +kernel
theorem dX5_mask_97 : decode cX5_mask 97 = .ok (.aload_n 0, 1) := by decide +kernel
theorem dX5_mask_98 : decode cX5_mask 98 = .ok (.getfield 10, 3) := by decide +kernel
theorem dX5_mask_101 : decode cX5_mask 101 = .ok (.aload_n 0, 1) := by decide +kernel
theorem dX5_mask_102 : decode cX5_mask 102 = .ok (.getfield 10, 3) := by decide +kernel
theorem dX5_mask_105 : decode cX5_mask 105 = .ok (.getfield 112, 3) := by decide +kernel
theorem dX5_mask_108 : decode cX5_mask 108 = .ok (.invokevirtual 116, 3) := by decide +kernel
theorem dX5_mask_111 : decode cX5_mask 111 = .ok (.ireturn, 1) := by decide +kernel
theorem dX5_tileOf_0 : decode cX5_tileOf 0 = .ok (.aload_n 0, 1) := by decide +kernel
theorem dX5_tileOf_1 : decode cX5_tileOf 1 = .ok (.getfield 10, 3) := by decide +kernel
theorem dX5_tileOf_4 : decode cX5_tileOf 4 = .ok (.iload_n 1, 1) := by decide +kernel
theorem dX5_tileOf_5 : decode cX5_tileOf 5 = .ok (.iload_n 2, 1) := by decide +kernel
theorem dX5_tileOf_6 : decode cX5_tileOf 6 = .ok (.invokevirtual 131, 3) := by decide +kernel
theorem dX5_tileOf_9 : decode cX5_tileOf 9 = .ok (.ifCond .ne 13, 3) := by decide +kernel
theorem dX5_tileOf_12 : decode cX5_tileOf 12 = .ok (.new 134, 3) := by decide +kernel
theorem dX5_tileOf_15 : decode cX5_tileOf 15 = .ok (.dup, 1) := by decide +kernel
theorem dX5_tileOf_16 : decode cX5_tileOf 16 = .ok (.ldc 136, 2) := by decide +kernel
theorem dX5_tileOf_18 : decode cX5_tileOf 18 = .ok (.invokespecial 138, 3) := by decide +kernel
theorem dX5_tileOf_21 : decode cX5_tileOf 21 = .ok (.athrow, 1) := by decide +kernel
theorem dX5_tileOf_22 : decode cX5_tileOf 22 = .ok (.aload_n 0, 1) := by decide +kernel
theorem dX5_tileOf_23 : decode cX5_tileOf 23 = .ok (.getfield 10, 3) := by decide +kernel
theorem dX5_tileOf_26 : decode cX5_tileOf 26 = .ok (.iload_n 1, 1) := by decide +kernel
theorem dX5_tileOf_27 : decode cX5_tileOf 27 = .ok (.iload_n 2, 1) := by decide +kernel
theorem dX5_tileOf_28 : decode cX5_tileOf 28 = .ok (.invokevirtual 161, 3) := by decide +kernel
theorem dX5_tileOf_31 : decode cX5_tileOf 31 = .ok (.ireturn, 1) := by decide +kernel
theorem dX5_tile_0 : decode cX5_tile 0 = .ok (.aload_n 0, 1) := by decide +kernel
theorem dX5_tile_1 : decode cX5_tile 1 = .ok (.getfield 10, 3) := by decide +kernel
theorem dX5_tile_4 : decode cX5_tile 4 = .ok (.iload_n 1, 1) := by decide +kernel
theorem dX5_tile_5 : decode cX5_tile 5 = .ok (.invokevirtual 164, 3) := by decide +kernel
theorem dX5_tile_8 : decode cX5_tile 8 = .ok (.ifCond .ne 13, 3) := by decide +kernel
theorem dX5_tile_11 : decode cX5_tile 11 = .ok (.new 134, 3) := by decide +kernel
theorem dX5_tile_14 : decode cX5_tile 14 = .ok (.dup, 1) := by decide +kernel
theorem dX5_tile_15 : decode cX5_tile 15 = .ok (.ldc 168, 2) := by decide +kernel
theorem dX5_tile_17 : decode cX5_tile 17 = .ok (.invokespecial 138, 3) := by decide +kernel
theorem dX5_tile_20 : decode cX5_tile 20 = .ok (.athrow, 1) := by decide +kernel
theorem dX5_tile_21 : decode cX5_tile 21 = .ok (.aload_n 0, 1) := by decide +kernel
theorem dX5_tile_22 : decode cX5_tile 22 = .ok (.getfield 33, 3) := by decide +kernel
theorem dX5_tile_25 : decode cX5_tile 25 = .ok (.aload_n 0, 1) := by decide +kernel
theorem dX5_tile_26 : decode cX5_tile 26 = .ok (.getfield 10, 3) := by decide +kernel
theorem dX5_tile_29 : decode cX5_tile 29 = .ok (.iload_n 1, 1) := by decide +kernel
theorem dX5_tile_30 : decode cX5_tile 30 = .ok (.invokevirtual 170, 3) := by decide +kernel
theorem dX5_tile_33 : decode cX5_tile 33 = .ok (.iload_n 2, 1) := by decide +kernel
theorem dX5_tile_34 : decode cX5_tile 34 = .ok (.tableswitch 152 0 8 #[50, 58, 66, 74, 82, 90, 106, 121, 136], 50) := by decide +kernel
theorem dX5_tile_84 : decode cX5_tile 84 = .ok (.aload_n 0, 1) := by decide +kernel
theorem dX5_tile_85 : decode cX5_tile 85 = .ok (.getfield 33, 3) := by decide +kernel
theorem dX5_tile_88 : decode cX5_tile 88 = .ok (.getfield 174, 3) := by decide +kernel
theorem dX5_tile_91 : decode cX5_tile 91 = .ok (.ireturn, 1) := by decide +kernel
theorem dX5_tile_92 : decode cX5_tile 92 = .ok (.aload_n 0, 1) := by decide +kernel
theorem dX5_tile_93 : decode cX5_tile 93 = .ok (.getfield 33, 3) := by decide +kernel
theorem dX5_tile_96 : decode cX5_tile 96 = .ok (.getfield 177, 3) := by decide +kernel
theorem dX5_tile_99 : decode cX5_tile 99 = .ok (.ireturn, 1) := by decide +kernel
theorem dX5_tile_100 : decode cX5_tile 100 = .ok (.aload_n 0, 1) := by decide +kernel
theorem dX5_tile_101 : decode cX5_tile 101 = .ok (.getfield 33, 3) := by decide +kernel
theorem dX5_tile_104 : decode cX5_tile 104 = .ok (.getfield 180, 3) := by decide +kernel
theorem dX5_tile_107 : decode cX5_tile 107 = .ok (.ireturn, 1) := by decide +kernel
theorem dX5_tile_108 : decode cX5_tile 108 = .ok (.aload_n 0, 1) := by decide +kernel
theorem dX5_tile_109 : decode cX5_tile 109 = .ok (.getfield 33, 3) := by decide +kernel
theorem dX5_tile_112 : decode cX5_tile 112 = .ok (.getfield 183, 3) := by decide +kernel
theorem dX5_tile_115 : decode cX5_tile 115 = .ok (.ireturn, 1) := by decide +kernel
theorem dX5_tile_116 : decode cX5_tile 116 = .ok (.aload_n 0, 1) := by decide +kernel
theorem dX5_tile_117 : decode cX5_tile 117 = .ok (.getfield 33, 3) := by decide +kernel
theorem dX5_tile_120 : decode cX5_tile 120 = .ok (.getfield 186, 3) := by decide +kernel
theorem dX5_tile_123 : decode cX5_tile 123 = .ok (.ireturn, 1) := by decide +kernel
theorem dX5_tile_124 : decode cX5_tile 124 = .ok (.aload_n 0, 1) := by decide +kernel
theorem dX5_tile_125 : decode cX5_tile 125 = .ok (.getfield 10, 3) := by decide +kernel
theorem dX5_tile_128 : decode cX5_tile 128 = .ok (.aload_n 0, 1) := by decide +kernel
theorem dX5_tile_129 : decode cX5_tile 129 = .ok (.getfield 10, 3) := by decide +kernel
theorem dX5_tile_132 : decode cX5_tile 132 = .ok (.getfield 112, 3) := by decide +kernel
theorem dX5_tile_135 : decode cX5_tile 135 = .ok (.iload_n 1, 1) := by decide +kernel
theorem dX5_tile_136 : decode cX5_tile 136 = .ok (.invokevirtual 189, 3) := by decide +kernel
theorem dX5_tile_139 : decode cX5_tile 139 = .ok (.ireturn, 1) := by decide +kernel
theorem dX5_tile_140 : decode cX5_tile 140 = .ok (.aload_n 0, 1) := by decide +kernel
theorem dX5_tile_141 : decode cX5_tile 141 = .ok (.getfield 33, 3) := by decide +kernel
theorem dX5_tile_144 : decode cX5_tile 144 = .ok (.aload_n 0, 1) := by decide +kernel
theorem dX5_tile_145 : decode cX5_tile 145 = .ok (.getfield 33, 3) := by decide +kernel
theorem dX5_tile_148 : decode cX5_tile 148 = .ok (.getfield 192, 3) := by decide +kernel
theorem dX5_tile_151 : decode cX5_tile 151 = .ok (.invokevirtual 193, 3) := by decide +kernel
theorem dX5_tile_154 : decode cX5_tile 154 = .ok (.ireturn, 1) := by decide +kernel
theorem dX5_tile_155 : decode cX5_tile 155 = .ok (.aload_n 0, 1) := by decide +kernel
theorem dX5_tile_156 : decode cX5_tile 156 = .ok (.getfield 33, 3) := by decide +kernel
theorem dX5_tile_159 : decode cX5_tile 159 = .ok (.aload_n 0, 1) := by decide +kernel
theorem dX5_tile_160 : decode cX5_tile 160 = .ok (.getfield 33, 3) := by decide +kernel
theorem dX5_tile_163 : decode cX5_tile 163 = .ok (.getfield 196, 3) := by decide +kernel
theorem dX5_tile_166 : decode cX5_tile 166 = .ok (.invokevirtual 193, 3) := by decide +kernel
theorem dX5_tile_169 : decode cX5_tile 169 = .ok (.ireturn, 1) := by decide +kernel
theorem dX5_tile_170 : decode cX5_tile 170 = .ok (.aload_n 0, 1) := by decide +kernel
theorem dX5_tile_171 : decode cX5_tile 171 = .ok (.getfield 10, 3) := by decide +kernel
theorem dX5_tile_174 : decode cX5_tile 174 = .ok (.aload_n 0, 1) := by decide +kernel
theorem dX5_tile_175 : decode cX5_tile 175 = .ok (.getfield 10, 3) := by decide +kernel
theorem dX5_tile_178 : decode cX5_tile 178 = .ok (.getfield 120, 3) := by decide +kernel
theorem dX5_tile_181 : decode cX5_tile 181 = .ok (.iload_n 1, 1) := by decide +kernel
theorem dX5_tile_182 : decode cX5_tile 182 = .ok (.invokevirtual 189, 3) := by decide +kernel
theorem dX5_tile_185 : decode cX5_tile 185 = .ok (.ireturn, 1) := by decide +kernel
theorem dX5_tile_186 : decode cX5_tile 186 = .ok (.new 65, 3) := by decide +kernel
theorem dX5_tile_189 : decode cX5_tile 189 = .ok (.dup, 1) := by decide +kernel
theorem dX5_tile_190 : decode cX5_tile 190 = .ok (.ldc 199, 2) := by decide +kernel
theorem dX5_tile_192 : decode cX5_tile 192 = .ok (.invokespecial 69, 3) := by decide +kernel
theorem dX5_tile_195 : decode cX5_tile 195 = .ok (.athrow, 1) := by decide +kernel
theorem dX5_raise_0 : decode cX5_raise 0 = .ok (.aload_n 0, 1) := by decide +kernel
theorem dX5_raise_1 : decode cX5_raise 1 = .ok (.getfield 10, 3) := by decide +kernel
theorem dX5_raise_4 : decode cX5_raise 4 = .ok (.iload_n 1, 1) := by decide +kernel
theorem dX5_raise_5 : decode cX5_raise 5 = .ok (.invokevirtual 164, 3) := by decide +kernel
theorem dX5_raise_8 : decode cX5_raise 8 = .ok (.ifCond .ne 13, 3) := by decide +kernel
theorem dX5_raise_11 : decode cX5_raise 11 = .ok (.new 134, 3) := by decide +kernel
theorem dX5_raise_14 : decode cX5_raise 14 = .ok (.dup, 1) := by decide +kernel
theorem dX5_raise_15 : decode cX5_raise 15 = .ok (.ldc 168, 2) := by decide +kernel
theorem dX5_raise_17 : decode cX5_raise 17 = .ok (.invokespecial 138, 3) := by decide +kernel
theorem dX5_raise_20 : decode cX5_raise 20 = .ok (.athrow, 1) := by decide +kernel
theorem dX5_raise_21 : decode cX5_raise 21 = .ok (.iload_n 2, 1) := by decide +kernel
theorem dX5_raise_22 : decode cX5_raise 22 = .ok (.sipush (-255), 3) := by decide +kernel
theorem dX5_raise_25 : decode cX5_raise 25 = .ok (.sipush 255, 3) := by decide +kernel
theorem dX5_raise_28 : decode cX5_raise 28 = .ok (.invokestatic 61, 3) := by decide +kernel
theorem dX5_raise_31 : decode cX5_raise 31 = .ok (.ifCond .ne 13, 3) := by decide +kernel
theorem dX5_raise_34 : decode cX5_raise 34 = .ok (.new 65, 3) := by decide +kernel
theorem dX5_raise_37 : decode cX5_raise 37 = .ok (.dup, 1) := by decide +kernel
theorem dX5_raise_38 : decode cX5_raise 38 = .ok (.ldc 201, 2) := by decide +kernel
theorem dX5_raise_40 : decode cX5_raise 40 = .ok (.invokespecial 69, 3) := by decide +kernel
theorem dX5_raise_43 : decode cX5_raise 43 = .ok (.athrow, 1) := by decide +kernel
theorem dX5_raise_44 : decode cX5_raise 44 = .ok (.aload_n 0, 1) := by decide +kernel
theorem dX5_raise_45 : decode cX5_raise 45 = .ok (.getfield 10, 3) := by decide +kernel
theorem dX5_raise_48 : decode cX5_raise 48 = .ok (.iload_n 1, 1) := by decide +kernel
theorem dX5_raise_49 : decode cX5_raise 49 = .ok (.iload_n 2, 1) := by decide +kernel
theorem dX5_raise_50 : decode cX5_raise 50 = .ok (.invokevirtual 203, 3) := by decide +kernel
theorem dX5_raise_53 : decode cX5_raise 53 = .ok (.istore_n 3, 1) := by decide +kernel
theorem dX5_raise_54 : decode cX5_raise 54 = .ok (.iload_n 3, 1) := by decide +kernel
theorem dX5_raise_55 : decode cX5_raise 55 = .ok (.ifCond .lt 27, 3) := by decide +kernel
theorem dX5_raise_58 : decode cX5_raise 58 = .ok (.aload_n 0, 1) := by decide +kernel
theorem dX5_raise_59 : decode cX5_raise 59 = .ok (.iload_n 2, 1) := by decide +kernel
theorem dX5_raise_60 : decode cX5_raise 60 = .ok (.ifCond .ge 7, 3) := by decide +kernel
theorem dX5_raise_63 : decode cX5_raise 63 = .ok (.iconst 4, 1) := by decide +kernel
theorem dX5_raise_64 : decode cX5_raise 64 = .ok (.goto 4, 3) := by decide +kernel
theorem dX5_raise_67 : decode cX5_raise 67 = .ok (.iconst 5, 1) := by decide +kernel
theorem dX5_raise_68 : decode cX5_raise 68 = .ok (.iload_n 3, 1) := by decide +kernel
theorem dX5_raise_69 : decode cX5_raise 69 = .ok (.invokevirtual 206, 3) := by decide +kernel
theorem dX5_raise_72 : decode cX5_raise 72 = .ok (.new 209, 3) := by decide +kernel
theorem dX5_raise_75 : decode cX5_raise 75 = .ok (.dup, 1) := by decide +kernel
theorem dX5_raise_76 : decode cX5_raise 76 = .ok (.ldc 211, 2) := by decide +kernel
theorem dX5_raise_78 : decode cX5_raise 78 = .ok (.invokespecial 213, 3) := by decide +kernel
theorem dX5_raise_81 : decode cX5_raise 81 = .ok (.athrow, 1) := by decide +kernel
theorem dX5_raise_82 : decode cX5_raise 82 = .ok (.aload_n 0, 1) := by decide +kernel
theorem dX5_raise_83 : decode cX5_raise 83 = .ok (.getfield 26, 3) := by decide +kernel
theorem dX5_raise_86 : decode cX5_raise 86 = .ok (.aload_n 0, 1) := by decide +kernel
theorem dX5_raise_87 : decode cX5_raise 87 = .ok (.getfield 10, 3) := by decide +kernel
theorem dX5_raise_90 : decode cX5_raise 90 = .ok (.invokevirtual 72, 3) := by decide +kernel
theorem dX5_raise_93 : decode cX5_raise 93 = .ok (.aload_n 0, 1) := by decide +kernel
theorem dX5_raise_94 : decode cX5_raise 94 = .ok (.getfield 10, 3) := by decide +kernel
theorem dX5_raise_97 : decode cX5_raise 97 = .ok (.iload_n 1, 1) := by decide +kernel
theorem dX5_raise_98 : decode cX5_raise 98 = .ok (.iload_n 2, 1) := by decide +kernel
theorem dX5_raise_99 : decode cX5_raise 99 = .ok (.invokevirtual 214, 3) := by decide +kernel
theorem dX5_raise_102 : decode cX5_raise 102 = .ok (.aload_n 0, 1) := by decide +kernel
theorem dX5_raise_103 : decode cX5_raise 103 = .ok (.getfield 10, 3) := by decide +kernel
theorem dX5_raise_106 : decode cX5_raise 106 = .ok (.aload_n 0, 1) := by decide +kernel
theorem dX5_raise_107 : decode cX5_raise 107 = .ok (.getfield 10, 3) := by decide +kernel
theorem dX5_raise_110 : decode cX5_raise 110 = .ok (.getfield 120, 3) := by decide +kernel
theorem dX5_raise_113 : decode cX5_raise 113 = .ok (.iload_n 1, 1) := by decide +kernel
theorem dX5_raise_114 : decode cX5_raise 114 = .ok (.invokevirtual 189, 3) := by decide +kernel
theorem dX5_raise_117 : decode cX5_raise 117 = .ok (.ireturn, 1) := by decide +kernel
theorem dX5_swap_0 : decode cX5_swap 0 = .ok (.aload_n 0, 1) := by decide +kernel
theorem dX5_swap_1 : decode cX5_swap 1 = .ok (.getfield 10, 3) := by decide +kernel
theorem dX5_swap_4 : decode cX5_swap 4 = .ok (.iload_n 1, 1) := by decide +kernel
theorem dX5_swap_5 : decode cX5_swap 5 = .ok (.invokevirtual 164, 3) := by decide +kernel
theorem dX5_swap_8 : decode cX5_swap 8 = .ok (.ifCond .eq 14, 3) := by decide +kernel
theorem dX5_swap_11 : decode cX5_swap 11 = .ok (.aload_n 0, 1) := by decide +kernel
theorem dX5_swap_12 : decode cX5_swap 12 = .ok (.getfield 10, 3) := by decide +kernel
theorem dX5_swap_15 : decode cX5_swap 15 = .ok (.iload_n 2, 1) := by decide +kernel
theorem dX5_swap_16 : decode cX5_swap 16 = .ok (.invokevirtual 164, 3) := by decide +kernel
theorem dX5_swap_19 : decode cX5_swap 19 = .ok (.ifCond .ne 13, 3) := by decide +kernel
theorem dX5_swap_22 : decode cX5_swap 22 = .ok (.new 134, 3) := by decide +kernel
theorem dX5_swap_25 : decode cX5_swap 25 = .ok (.dup, 1) := by decide +kernel
theorem dX5_swap_26 : decode cX5_swap 26 = .ok (.ldc 168, 2) := by decide +kernel
theorem dX5_swap_28 : decode cX5_swap 28 = .ok (.invokespecial 138, 3) := by decide +kernel
theorem dX5_swap_31 : decode cX5_swap 31 = .ok (.athrow, 1) := by decide +kernel
theorem dX5_swap_32 : decode cX5_swap 32 = .ok (.aload_n 0, 1) := by decide +kernel
theorem dX5_swap_33 : decode cX5_swap 33 = .ok (.getfield 10, 3) := by decide +kernel
theorem dX5_swap_36 : decode cX5_swap 36 = .ok (.iload_n 1, 1) := by decide +kernel
theorem dX5_swap_37 : decode cX5_swap 37 = .ok (.invokevirtual 217, 3) := by decide +kernel
theorem dX5_swap_40 : decode cX5_swap 40 = .ok (.aload_n 0, 1) := by decide +kernel
theorem dX5_swap_41 : decode cX5_swap 41 = .ok (.getfield 10, 3) := by decide +kernel
theorem dX5_swap_44 : decode cX5_swap 44 = .ok (.iload_n 2, 1) := by decide +kernel
theorem dX5_swap_45 : decode cX5_swap 45 = .ok (.invokevirtual 217, 3) := by decide +kernel
theorem dX5_swap_48 : decode cX5_swap 48 = .ok (.if_icmp .ne 22, 3) := by decide +kernel
theorem dX5_swap_51 : decode cX5_swap 51 = .ok (.aload_n 0, 1) := by decide +kernel
theorem dX5_swap_52 : decode cX5_swap 52 = .ok (.getfield 10, 3) := by decide +kernel
theorem dX5_swap_55 : decode cX5_swap 55 = .ok (.iload_n 1, 1) := by decide +kernel
theorem dX5_swap_56 : decode cX5_swap 56 = .ok (.invokevirtual 220, 3) := by decide +kernel
theorem dX5_swap_59 : decode cX5_swap 59 = .ok (.aload_n 0, 1) := by decide +kernel
theorem dX5_swap_60 : decode cX5_swap 60 = .ok (.getfield 10, 3) := by decide +kernel
theorem dX5_swap_63 : decode cX5_swap 63 = .ok (.iload_n 2, 1) := by decide +kernel
theorem dX5_swap_64 : decode cX5_swap 64 = .ok (.invokevirtual 220, 3) := by decide +kernel
theorem dX5_swap_67 : decode cX5_swap 67 = .ok (.if_icmp .eq 20, 3) := by decide +kernel
theorem dX5_swap_70 : decode cX5_swap 70 = .ok (.aload_n 0, 1) := by decide +kernel
theorem dX5_swap_71 : decode cX5_swap 71 = .ok (.bipush 6, 2) := by decide +kernel
theorem dX5_swap_73 : decode cX5_swap 73 = .ok (.iconst 0, 1) := by decide +kernel
theorem dX5_swap_74 : decode cX5_swap 74 = .ok (.invokevirtual 206, 3) := by decide +kernel
theorem dX5_swap_77 : decode cX5_swap 77 = .ok (.new 209, 3) := by decide +kernel
theorem dX5_swap_80 : decode cX5_swap 80 = .ok (.dup, 1) := by decide +kernel
theorem dX5_swap_81 : decode cX5_swap 81 = .ok (.ldc 223, 2) := by decide +kernel
theorem dX5_swap_83 : decode cX5_swap 83 = .ok (.invokespecial 213, 3) := by decide +kernel
theorem dX5_swap_86 : decode cX5_swap 86 = .ok (.athrow, 1) := by decide +kernel
theorem dX5_swap_87 : decode cX5_swap 87 = .ok (.aload_n 0, 1) := by decide +kernel
theorem dX5_swap_88 : decode cX5_swap 88 = .ok (.getfield 26, 3) := by decide +kernel
theorem dX5_swap_91 : decode cX5_swap 91 = .ok (.aload_n 0, 1) := by decide +kernel
theorem dX5_swap_92 : decode cX5_swap 92 = .ok (.getfield 10, 3) := by decide +kernel
theorem dX5_swap_95 : decode cX5_swap 95 = .ok (.invokevirtual 72, 3) := by decide +kernel
theorem dX5_swap_98 : decode cX5_swap 98 = .ok (.aload_n 0, 1) := by decide +kernel
theorem dX5_swap_99 : decode cX5_swap 99 = .ok (.getfield 10, 3) := by decide +kernel
theorem dX5_swap_102 : decode cX5_swap 102 = .ok (.iload_n 1, 1) := by decide +kernel
theorem dX5_swap_103 : decode cX5_swap 103 = .ok (.iload_n 2, 1) := by decide +kernel
theorem dX5_swap_104 : decode cX5_swap 104 = .ok (.invokevirtual 225, 3) := by decide +kernel
theorem dX5_swap_107 : decode cX5_swap 107 = .ok (.ireturn, 1) := by decide +kernel
theorem dX5_soften_0 : decode cX5_soften 0 = .ok (.aload_n 0, 1) := by decide +kernel
theorem dX5_soften_1 : decode cX5_soften 1 = .ok (.getfield 10, 3) := by decide +kernel
theorem dX5_soften_4 : decode cX5_soften 4 = .ok (.iload_n 1, 1) := by decide +kernel
theorem dX5_soften_5 : decode cX5_soften 5 = .ok (.invokevirtual 164, 3) := by decide +kernel
theorem dX5_soften_8 : decode cX5_soften 8 = .ok (.ifCond .ne 13, 3) := by decide +kernel
theorem dX5_soften_11 : decode cX5_soften 11 = .ok (.new 134, 3) := by decide +kernel
theorem dX5_soften_14 : decode cX5_soften 14 = .ok (.dup, 1) := by decide +kernel
theorem dX5_soften_15 : decode cX5_soften 15 = .ok (.ldc 168, 2) := by decide +kernel
theorem dX5_soften_17 : decode cX5_soften 17 = .ok (.invokespecial 138, 3) := by decide +kernel
theorem dX5_soften_20 : decode cX5_soften 20 = .ok (.athrow, 1) := by decide +kernel
theorem dX5_soften_21 : decode cX5_soften 21 = .ok (.iload_n 2, 1) := by decide +kernel
theorem dX5_soften_22 : decode cX5_soften 22 = .ok (.iconst 0, 1) := by decide +kernel
theorem dX5_soften_23 : decode cX5_soften 23 = .ok (.bipush 9, 2) := by decide +kernel
theorem dX5_soften_25 : decode cX5_soften 25 = .ok (.invokestatic 61, 3) := by decide +kernel
theorem dX5_soften_28 : decode cX5_soften 28 = .ok (.ifCond .ne 13, 3) := by decide +kernel
theorem dX5_soften_31 : decode cX5_soften 31 = .ok (.new 65, 3) := by decide +kernel
theorem dX5_soften_34 : decode cX5_soften 34 = .ok (.dup, 1) := by decide +kernel
theorem dX5_soften_35 : decode cX5_soften 35 = .ok (.ldc 228, 2) := by decide +kernel
theorem dX5_soften_37 : decode cX5_soften 37 = .ok (.invokespecial 69, 3) := by decide +kernel
theorem dX5_soften_40 : decode cX5_soften 40 = .ok (.athrow, 1) := by decide +kernel
theorem dX5_soften_41 : decode cX5_soften 41 = .ok (.aload_n 0, 1) := by decide +kernel
theorem dX5_soften_42 : decode cX5_soften 42 = .ok (.getfield 33, 3) := by decide +kernel
theorem dX5_soften_45 : decode cX5_soften 45 = .ok (.aload_n 0, 1) := by decide +kernel
theorem dX5_soften_46 : decode cX5_soften 46 = .ok (.getfield 10, 3) := by decide +kernel
theorem dX5_soften_49 : decode cX5_soften 49 = .ok (.iload_n 1, 1) := by decide +kernel
theorem dX5_soften_50 : decode cX5_soften 50 = .ok (.invokevirtual 170, 3) := by decide +kernel
theorem dX5_soften_53 : decode cX5_soften 53 = .ok (.aload_n 0, 1) := by decide +kernel
theorem dX5_soften_54 : decode cX5_soften 54 = .ok (.getfield 33, 3) := by decide +kernel
theorem dX5_soften_57 : decode cX5_soften 57 = .ok (.iload_n 2, 1) := by decide +kernel
theorem dX5_soften_58 : decode cX5_soften 58 = .ok (.invokevirtual 230, 3) := by decide +kernel
theorem dX5_soften_61 : decode cX5_soften 61 = .ok (.aload_n 0, 1) := by decide +kernel
theorem dX5_soften_62 : decode cX5_soften 62 = .ok (.getfield 26, 3) := by decide +kernel
theorem dX5_soften_65 : decode cX5_soften 65 = .ok (.aload_n 0, 1) := by decide +kernel
theorem dX5_soften_66 : decode cX5_soften 66 = .ok (.getfield 10, 3) := by decide +kernel
theorem dX5_soften_69 : decode cX5_soften 69 = .ok (.invokevirtual 72, 3) := by decide +kernel
theorem dX5_soften_72 : decode cX5_soften 72 = .ok (.aload_n 0, 1) := by decide +kernel
theorem dX5_soften_73 : decode cX5_soften 73 = .ok (.getfield 33, 3) := by decide +kernel
theorem dX5_soften_76 : decode cX5_soften 76 = .ok (.aload_n 0, 1) := by decide +kernel
theorem dX5_soften_77 : decode cX5_soften 77 = .ok (.getfield 10, 3) := by decide +kernel
theorem dX5_soften_80 : decode cX5_soften 80 = .ok (.invokevirtual 234, 3) := by decide +kernel
theorem dX5_soften_83 : decode cX5_soften 83 = .ok (.ireturn, 1) := by decide +kernel
theorem dX5_coefficient_0 : decode cX5_coefficient 0 = .ok (.aload_n 0, 1) := by decide +kernel
theorem dX5_coefficient_1 : decode cX5_coefficient 1 = .ok (.iload_n 1, 1) := by decide +kernel
theorem dX5_coefficient_2 : decode cX5_coefficient 2 = .ok (.iload_n 2, 1) := by decide +kernel
theorem dX5_coefficient_3 : decode cX5_coefficient 3 = .ok (.iload_n 3, 1) := by decide +kernel
theorem dX5_coefficient_4 : decode cX5_coefficient 4 = .ok (.invokevirtual 238, 3) := by decide +kernel
theorem dX5_coefficient_7 : decode cX5_coefficient 7 = .ok (.ifCond .ne 13, 3) := by decide +kernel
theorem dX5_coefficient_10 : decode cX5_coefficient 10 = .ok (.new 134, 3) := by decide +kernel
theorem dX5_coefficient_13 : decode cX5_coefficient 13 = .ok (.dup, 1) := by decide +kernel
theorem dX5_coefficient_14 : decode cX5_coefficient 14 = .ok (.ldc 241, 2) := by decide +kernel
theorem dX5_coefficient_16 : decode cX5_coefficient 16 = .ok (.invokespecial 138, 3) := by decide +kernel
theorem dX5_coefficient_19 : decode cX5_coefficient 19 = .ok (.athrow, 1) := by decide +kernel
theorem dX5_coefficient_20 : decode cX5_coefficient 20 = .ok (.aload_n 0, 1) := by decide +kernel
theorem dX5_coefficient_21 : decode cX5_coefficient 21 = .ok (.getfield 33, 3) := by decide +kernel
theorem dX5_coefficient_24 : decode cX5_coefficient 24 = .ok (.aload_n 0, 1) := by decide +kernel
theorem dX5_coefficient_25 : decode cX5_coefficient 25 = .ok (.getfield 10, 3) := by decide +kernel
theorem dX5_coefficient_28 : decode cX5_coefficient 28 = .ok (.iload_n 1, 1) := by decide +kernel
theorem dX5_coefficient_29 : decode cX5_coefficient 29 = .ok (.invokevirtual 170, 3) := by decide +kernel
theorem dX5_coefficient_32 : decode cX5_coefficient 32 = .ok (.aload_n 0, 1) := by decide +kernel
theorem dX5_coefficient_33 : decode cX5_coefficient 33 = .ok (.getfield 33, 3) := by decide +kernel
theorem dX5_coefficient_36 : decode cX5_coefficient 36 = .ok (.getfield 196, 3) := by decide +kernel
theorem dX5_coefficient_39 : decode cX5_coefficient 39 = .ok (.iload_n 2, 1) := by decide +kernel
theorem dX5_coefficient_40 : decode cX5_coefficient 40 = .ok (.iload_n 3, 1) := by decide +kernel
theorem dX5_coefficient_41 : decode cX5_coefficient 41 = .ok (.invokestatic 243, 3) := by decide +kernel
theorem dX5_coefficient_44 : decode cX5_coefficient 44 = .ok (.invokestatic 145, 3) := by decide +kernel
theorem dX5_coefficient_47 : decode cX5_coefficient 47 = .ok (.ireturn, 1) := by decide +kernel
theorem dX5_band_0 : decode cX5_band 0 = .ok (.aload_n 0, 1) := by decide +kernel
theorem dX5_band_1 : decode cX5_band 1 = .ok (.iload_n 1, 1) := by decide +kernel
theorem dX5_band_2 : decode cX5_band 2 = .ok (.iload_n 2, 1) := by decide +kernel
theorem dX5_band_3 : decode cX5_band 3 = .ok (.iload_n 3, 1) := by decide +kernel
theorem dX5_band_4 : decode cX5_band 4 = .ok (.invokevirtual 238, 3) := by decide +kernel
theorem dX5_band_7 : decode cX5_band 7 = .ok (.ifCond .ne 13, 3) := by decide +kernel
theorem dX5_band_10 : decode cX5_band 10 = .ok (.new 134, 3) := by decide +kernel
theorem dX5_band_13 : decode cX5_band 13 = .ok (.dup, 1) := by decide +kernel
theorem dX5_band_14 : decode cX5_band 14 = .ok (.ldc 241, 2) := by decide +kernel
theorem dX5_band_16 : decode cX5_band 16 = .ok (.invokespecial 138, 3) := by decide +kernel
theorem dX5_band_19 : decode cX5_band 19 = .ok (.athrow, 1) := by decide +kernel
theorem dX5_band_20 : decode cX5_band 20 = .ok (.aload_n 0, 1) := by decide +kernel
theorem dX5_band_21 : decode cX5_band 21 = .ok (.getfield 33, 3) := by decide +kernel
theorem dX5_band_24 : decode cX5_band 24 = .ok (.aload_n 0, 1) := by decide +kernel
theorem dX5_band_25 : decode cX5_band 25 = .ok (.getfield 10, 3) := by decide +kernel
theorem dX5_band_28 : decode cX5_band 28 = .ok (.iload_n 1, 1) := by decide +kernel
theorem dX5_band_29 : decode cX5_band 29 = .ok (.invokevirtual 170, 3) := by decide +kernel
theorem dX5_band_32 : decode cX5_band 32 = .ok (.aload_n 0, 1) := by decide +kernel
theorem dX5_band_33 : decode cX5_band 33 = .ok (.getfield 33, 3) := by decide +kernel
theorem dX5_band_36 : decode cX5_band 36 = .ok (.getfield 246, 3) := by decide +kernel
theorem dX5_band_39 : decode cX5_band 39 = .ok (.iload_n 2, 1) := by decide +kernel
theorem dX5_band_40 : decode cX5_band 40 = .ok (.iload_n 3, 1) := by decide +kernel
theorem dX5_band_41 : decode cX5_band 41 = .ok (.invokestatic 243, 3) := by decide +kernel
theorem dX5_band_44 : decode cX5_band 44 = .ok (.invokestatic 145, 3) := by decide +kernel
theorem dX5_band_47 : decode cX5_band 47 = .ok (.ireturn, 1) := by decide +kernel
theorem dX5_layerOf_0 : decode cX5_layerOf 0 = .ok (.aload_n 0, 1) := by decide +kernel
theorem dX5_layerOf_1 : decode cX5_layerOf 1 = .ok (.iload_n 1, 1) := by decide +kernel
theorem dX5_layerOf_2 : decode cX5_layerOf 2 = .ok (.iload_n 2, 1) := by decide +kernel
theorem dX5_layerOf_3 : decode cX5_layerOf 3 = .ok (.iload_n 3, 1) := by decide +kernel
theorem dX5_layerOf_4 : decode cX5_layerOf 4 = .ok (.invokevirtual 238, 3) := by decide +kernel
theorem dX5_layerOf_7 : decode cX5_layerOf 7 = .ok (.ifCond .ne 13, 3) := by decide +kernel
theorem dX5_layerOf_10 : decode cX5_layerOf 10 = .ok (.new 134, 3) := by decide +kernel
theorem dX5_layerOf_13 : decode cX5_layerOf 13 = .ok (.dup, 1) := by decide +kernel
theorem dX5_layerOf_14 : decode cX5_layerOf 14 = .ok (.ldc 241, 2) := by decide +kernel
theorem dX5_layerOf_16 : decode cX5_layerOf 16 = .ok (.invokespecial 138, 3) := by decide +kernel
theorem dX5_layerOf_19 : decode cX5_layerOf 19 = .ok (.athrow, 1) := by decide +kernel
theorem dX5_layerOf_20 : decode cX5_layerOf 20 = .ok (.iload 4, 2) := by decide +kernel
theorem dX5_layerOf_22 : decode cX5_layerOf 22 = .ok (.iconst 0, 1) := by decide +kernel
theorem dX5_layerOf_23 : decode cX5_layerOf 23 = .ok (.bipush 8, 2) := by decide +kernel
theorem dX5_layerOf_25 : decode cX5_layerOf 25 = .ok (.invokestatic 61, 3) := by decide +kernel
theorem dX5_layerOf_28 : decode cX5_layerOf 28 = .ok (.ifCond .ne 13, 3) := by decide +kernel
theorem dX5_layerOf_31 : decode cX5_layerOf 31 = .ok (.new 65, 3) := by decide +kernel
theorem dX5_layerOf_34 : decode cX5_layerOf 34 = .ok (.dup, 1) := by decide +kernel
theorem dX5_layerOf_35 : decode cX5_layerOf 35 = .ok (.ldc 249, 2) := by decide +kernel
theorem dX5_layerOf_37 : decode cX5_layerOf 37 = .ok (.invokespecial 69, 3) := by decide +kernel
theorem dX5_layerOf_40 : decode cX5_layerOf 40 = .ok (.athrow, 1) := by decide +kernel
theorem dX5_layerOf_41 : decode cX5_layerOf 41 = .ok (.aload_n 0, 1) := by decide +kernel
theorem dX5_layerOf_42 : decode cX5_layerOf 42 = .ok (.getfield 33, 3) := by decide +kernel
theorem dX5_layerOf_45 : decode cX5_layerOf 45 = .ok (.aload_n 0, 1) := by decide +kernel
theorem dX5_layerOf_46 : decode cX5_layerOf 46 = .ok (.getfield 10, 3) := by decide +kernel
theorem dX5_layerOf_49 : decode cX5_layerOf 49 = .ok (.iload_n 1, 1) := by decide +kernel
theorem dX5_layerOf_50 : decode cX5_layerOf 50 = .ok (.invokevirtual 170, 3) := by decide +kernel
theorem dX5_layerOf_53 : decode cX5_layerOf 53 = .ok (.aload_n 0, 1) := by decide +kernel
theorem dX5_layerOf_54 : decode cX5_layerOf 54 = .ok (.getfield 33, 3) := by decide +kernel
theorem dX5_layerOf_57 : decode cX5_layerOf 57 = .ok (.iload_n 2, 1) := by decide +kernel
theorem dX5_layerOf_58 : decode cX5_layerOf 58 = .ok (.iload_n 3, 1) := by decide +kernel
theorem dX5_layerOf_59 : decode cX5_layerOf 59 = .ok (.invokestatic 243, 3) := by decide +kernel
theorem dX5_layerOf_62 : decode cX5_layerOf 62 = .ok (.iload 4, 2) := by decide +kernel
theorem dX5_layerOf_64 : decode cX5_layerOf 64 = .ok (.invokevirtual 251, 3) := by decide +kernel
theorem dX5_layerOf_67 : decode cX5_layerOf 67 = .ok (.ireturn, 1) := by decide +kernel
theorem dX5_bits_0 : decode cX5_bits 0 = .ok (.aload_n 0, 1) := by decide +kernel
theorem dX5_bits_1 : decode cX5_bits 1 = .ok (.getfield 10, 3) := by decide +kernel
theorem dX5_bits_4 : decode cX5_bits 4 = .ok (.iload_n 1, 1) := by decide +kernel
theorem dX5_bits_5 : decode cX5_bits 5 = .ok (.invokevirtual 164, 3) := by decide +kernel
theorem dX5_bits_8 : decode cX5_bits 8 = .ok (.ifCond .ne 13, 3) := by decide +kernel
theorem dX5_bits_11 : decode cX5_bits 11 = .ok (.new 134, 3) := by decide +kernel
theorem dX5_bits_14 : decode cX5_bits 14 = .ok (.dup, 1) := by decide +kernel
theorem dX5_bits_15 : decode cX5_bits 15 = .ok (.ldc 168, 2) := by decide +kernel
theorem dX5_bits_17 : decode cX5_bits 17 = .ok (.invokespecial 138, 3) := by decide +kernel
theorem dX5_bits_20 : decode cX5_bits 20 = .ok (.athrow, 1) := by decide +kernel
theorem dX5_bits_21 : decode cX5_bits 21 = .ok (.iload_n 2, 1) := by decide +kernel
theorem dX5_bits_22 : decode cX5_bits 22 = .ok (.iconst (-1), 1) := by decide +kernel
theorem dX5_bits_23 : decode cX5_bits 23 = .ok (.bipush 8, 2) := by decide +kernel
theorem dX5_bits_25 : decode cX5_bits 25 = .ok (.invokestatic 61, 3) := by decide +kernel
theorem dX5_bits_28 : decode cX5_bits 28 = .ok (.ifCond .ne 13, 3) := by decide +kernel
theorem dX5_bits_31 : decode cX5_bits 31 = .ok (.new 65, 3) := by decide +kernel
theorem dX5_bits_34 : decode cX5_bits 34 = .ok (.dup, 1) := by decide +kernel
theorem dX5_bits_35 : decode cX5_bits 35 = .ok (.ldc 254, 2) := by decide +kernel
theorem dX5_bits_37 : decode cX5_bits 37 = .ok (.invokespecial 69, 3) := by decide +kernel
theorem dX5_bits_40 : decode cX5_bits 40 = .ok (.athrow, 1) := by decide +kernel
theorem dX5_bits_41 : decode cX5_bits 41 = .ok (.aload_n 0, 1) := by decide +kernel
theorem dX5_bits_42 : decode cX5_bits 42 = .ok (.getfield 33, 3) := by decide +kernel
theorem dX5_bits_45 : decode cX5_bits 45 = .ok (.aload_n 0, 1) := by decide +kernel
theorem dX5_bits_46 : decode cX5_bits 46 = .ok (.getfield 10, 3) := by decide +kernel
theorem dX5_bits_49 : decode cX5_bits 49 = .ok (.iload_n 1, 1) := by decide +kernel
theorem dX5_bits_50 : decode cX5_bits 50 = .ok (.invokevirtual 170, 3) := by decide +kernel
theorem dX5_bits_53 : decode cX5_bits 53 = .ok (.aload_n 0, 1) := by decide +kernel
theorem dX5_bits_54 : decode cX5_bits 54 = .ok (.getfield 33, 3) := by decide +kernel
theorem dX5_bits_57 : decode cX5_bits 57 = .ok (.iload_n 2, 1) := by decide +kernel
theorem dX5_bits_58 : decode cX5_bits 58 = .ok (.invokevirtual 256, 3) := by decide +kernel
theorem dX5_bits_61 : decode cX5_bits 61 = .ok (.ireturn, 1) := by decide +kernel
theorem dX5_descendants_0 : decode cX5_descendants 0 = .ok (.aload_n 0, 1) := by decide +kernel
theorem dX5_descendants_1 : decode cX5_descendants 1 = .ok (.iload_n 1, 1) := by decide +kernel
theorem dX5_descendants_2 : decode cX5_descendants 2 = .ok (.iload_n 2, 1) := by decide +kernel
theorem dX5_descendants_3 : decode cX5_descendants 3 = .ok (.iload_n 3, 1) := by decide +kernel
theorem dX5_descendants_4 : decode cX5_descendants 4 = .ok (.invokevirtual 238, 3) := by decide +kernel
theorem dX5_descendants_7 : decode cX5_descendants 7 = .ok (.ifCond .ne 13, 3) := by decide +kernel
theorem dX5_descendants_10 : decode cX5_descendants 10 = .ok (.new 134, 3) := by decide +kernel
theorem dX5_descendants_13 : decode cX5_descendants 13 = .ok (.dup, 1) := by decide +kernel
theorem dX5_descendants_14 : decode cX5_descendants 14 = .ok (.ldc 241, 2) := by decide +kernel
theorem dX5_descendants_16 : decode cX5_descendants 16 = .ok (.invokespecial 138, 3) := by decide +kernel
theorem dX5_descendants_19 : decode cX5_descendants 19 = .ok (.athrow, 1) := by decide +kernel
theorem dX5_descendants_20 : decode cX5_descendants 20 = .ok (.aload_n 0, 1) := by decide +kernel
theorem dX5_descendants_21 : decode cX5_descendants 21 = .ok (.getfield 33, 3) := by decide +kernel
theorem dX5_descendants_24 : decode cX5_descendants 24 = .ok (.aload_n 0, 1) := by decide +kernel
theorem dX5_descendants_25 : decode cX5_descendants 25 = .ok (.getfield 10, 3) := by decide +kernel
theorem dX5_descendants_28 : decode cX5_descendants 28 = .ok (.iload_n 1, 1) := by decide +kernel
theorem dX5_descendants_29 : decode cX5_descendants 29 = .ok (.invokevirtual 170, 3) := by decide +kernel
theorem dX5_descendants_32 : decode cX5_descendants 32 = .ok (.aload_n 0, 1) := by decide +kernel
theorem dX5_descendants_33 : decode cX5_descendants 33 = .ok (.getfield 33, 3) := by decide +kernel
theorem dX5_descendants_36 : decode cX5_descendants 36 = .ok (.iload_n 2, 1) := by decide +kernel
theorem dX5_descendants_37 : decode cX5_descendants 37 = .ok (.iload_n 3, 1) := by decide +kernel
theorem dX5_descendants_38 : decode cX5_descendants 38 = .ok (.invokestatic 243, 3) := by decide +kernel
theorem dX5_descendants_41 : decode cX5_descendants 41 = .ok (.invokevirtual 259, 3) := by decide +kernel
theorem dX5_descendants_44 : decode cX5_descendants 44 = .ok (.ireturn, 1) := by decide +kernel
theorem dX5_roots_0 : decode cX5_roots 0 = .ok (.aload_n 0, 1) := by decide +kernel
theorem dX5_roots_1 : decode cX5_roots 1 = .ok (.getfield 10, 3) := by decide +kernel
theorem dX5_roots_4 : decode cX5_roots 4 = .ok (.iload_n 1, 1) := by decide +kernel
theorem dX5_roots_5 : decode cX5_roots 5 = .ok (.invokevirtual 164, 3) := by decide +kernel
theorem dX5_roots_8 : decode cX5_roots 8 = .ok (.ifCond .ne 13, 3) := by decide +kernel
theorem dX5_roots_11 : decode cX5_roots 11 = .ok (.new 134, 3) := by decide +kernel
theorem dX5_roots_14 : decode cX5_roots 14 = .ok (.dup, 1) := by decide +kernel
theorem dX5_roots_15 : decode cX5_roots 15 = .ok (.ldc 168, 2) := by decide +kernel
theorem dX5_roots_17 : decode cX5_roots 17 = .ok (.invokespecial 138, 3) := by decide +kernel
theorem dX5_roots_20 : decode cX5_roots 20 = .ok (.athrow, 1) := by decide +kernel
theorem dX5_roots_21 : decode cX5_roots 21 = .ok (.iload_n 2, 1) := by decide +kernel
theorem dX5_roots_22 : decode cX5_roots 22 = .ok (.iconst 0, 1) := by decide +kernel
theorem dX5_roots_23 : decode cX5_roots 23 = .ok (.bipush 9, 2) := by decide +kernel
theorem dX5_roots_25 : decode cX5_roots 25 = .ok (.invokestatic 61, 3) := by decide +kernel
theorem dX5_roots_28 : decode cX5_roots 28 = .ok (.ifCond .ne 14, 3) := by decide +kernel
theorem dX5_roots_31 : decode cX5_roots 31 = .ok (.new 65, 3) := by decide +kernel
theorem dX5_roots_34 : decode cX5_roots 34 = .ok (.dup, 1) := by decide +kernel
theorem dX5_roots_35 : decode cX5_roots 35 = .ok (.ldc_w 262, 3) := by decide +kernel
theorem dX5_roots_38 : decode cX5_roots 38 = .ok (.invokespecial 69, 3) := by decide +kernel
theorem dX5_roots_41 : decode cX5_roots 41 = .ok (.athrow, 1) := by decide +kernel
theorem dX5_roots_42 : decode cX5_roots 42 = .ok (.aload_n 0, 1) := by decide +kernel
theorem dX5_roots_43 : decode cX5_roots 43 = .ok (.getfield 33, 3) := by decide +kernel
theorem dX5_roots_46 : decode cX5_roots 46 = .ok (.aload_n 0, 1) := by decide +kernel
theorem dX5_roots_47 : decode cX5_roots 47 = .ok (.getfield 10, 3) := by decide +kernel
theorem dX5_roots_50 : decode cX5_roots 50 = .ok (.iload_n 1, 1) := by decide +kernel
theorem dX5_roots_51 : decode cX5_roots 51 = .ok (.invokevirtual 170, 3) := by decide +kernel
theorem dX5_roots_54 : decode cX5_roots 54 = .ok (.aload_n 0, 1) := by decide +kernel
theorem dX5_roots_55 : decode cX5_roots 55 = .ok (.getfield 33, 3) := by decide +kernel
theorem dX5_roots_58 : decode cX5_roots 58 = .ok (.iload_n 2, 1) := by decide +kernel
theorem dX5_roots_59 : decode cX5_roots 59 = .ok (.invokevirtual 264, 3) := by decide +kernel
theorem dX5_roots_62 : decode cX5_roots 62 = .ok (.ireturn, 1) := by decide +kernel
theorem dX5_needed_0 : decode cX5_needed 0 = .ok (.aload_n 0, 1) := by decide +kernel
theorem dX5_needed_1 : decode cX5_needed 1 = .ok (.getfield 10, 3) := by decide +kernel
theorem dX5_needed_4 : decode cX5_needed 4 = .ok (.iload_n 1, 1) := by decide +kernel
theorem dX5_needed_5 : decode cX5_needed 5 = .ok (.iload_n 2, 1) := by decide +kernel
theorem dX5_needed_6 : decode cX5_needed 6 = .ok (.invokevirtual 131, 3) := by decide +kernel
theorem dX5_needed_9 : decode cX5_needed 9 = .ok (.ifCond .ne 13, 3) := by decide +kernel
theorem dX5_needed_12 : decode cX5_needed 12 = .ok (.new 134, 3) := by decide +kernel
theorem dX5_needed_15 : decode cX5_needed 15 = .ok (.dup, 1) := by decide +kernel
theorem dX5_needed_16 : decode cX5_needed 16 = .ok (.ldc 136, 2) := by decide +kernel
theorem dX5_needed_18 : decode cX5_needed 18 = .ok (.invokespecial 138, 3) := by decide +kernel
theorem dX5_needed_21 : decode cX5_needed 21 = .ok (.athrow, 1) := by decide +kernel
theorem dX5_needed_22 : decode cX5_needed 22 = .ok (.aload_n 0, 1) := by decide +kernel
theorem dX5_needed_23 : decode cX5_needed 23 = .ok (.getfield 33, 3) := by decide +kernel
theorem dX5_needed_26 : decode cX5_needed 26 = .ok (.aload_n 0, 1) := by decide +kernel
theorem dX5_needed_27 : decode cX5_needed 27 = .ok (.getfield 10, 3) := by decide +kernel
theorem dX5_needed_30 : decode cX5_needed 30 = .ok (.aload_n 0, 1) := by decide +kernel
theorem dX5_needed_31 : decode cX5_needed 31 = .ok (.getfield 10, 3) := by decide +kernel
theorem dX5_needed_34 : decode cX5_needed 34 = .ok (.iload_n 1, 1) := by decide +kernel
theorem dX5_needed_35 : decode cX5_needed 35 = .ok (.iload_n 2, 1) := by decide +kernel
theorem dX5_needed_36 : decode cX5_needed 36 = .ok (.invokevirtual 161, 3) := by decide +kernel
theorem dX5_needed_39 : decode cX5_needed 39 = .ok (.invokevirtual 170, 3) := by decide +kernel
theorem dX5_needed_42 : decode cX5_needed 42 = .ok (.aload_n 0, 1) := by decide +kernel
theorem dX5_needed_43 : decode cX5_needed 43 = .ok (.getfield 33, 3) := by decide +kernel
theorem dX5_needed_46 : decode cX5_needed 46 = .ok (.iload_n 1, 1) := by decide +kernel
theorem dX5_needed_47 : decode cX5_needed 47 = .ok (.aload_n 0, 1) := by decide +kernel
theorem dX5_needed_48 : decode cX5_needed 48 = .ok (.getfield 33, 3) := by decide +kernel
theorem dX5_needed_51 : decode cX5_needed 51 = .ok (.getfield 174, 3) := by decide +kernel
theorem dX5_needed_54 : decode cX5_needed 54 = .ok (.isub, 1) := by decide +kernel
theorem dX5_needed_55 : decode cX5_needed 55 = .ok (.iload_n 2, 1) := by decide +kernel
theorem dX5_needed_56 : decode cX5_needed 56 = .ok (.aload_n 0, 1) := by decide +kernel
theorem dX5_needed_57 : decode cX5_needed 57 = .ok (.getfield 33, 3) := by decide +kernel
theorem dX5_needed_60 : decode cX5_needed 60 = .ok (.getfield 177, 3) := by decide +kernel
theorem dX5_needed_63 : decode cX5_needed 63 = .ok (.isub, 1) := by decide +kernel
theorem dX5_needed_64 : decode cX5_needed 64 = .ok (.invokevirtual 267, 3) := by decide +kernel
theorem dX5_needed_67 : decode cX5_needed 67 = .ok (.ireturn, 1) := by decide +kernel
theorem dX5_decoded_0 : decode cX5_decoded 0 = .ok (.iload_n 1, 1) := by decide +kernel
theorem dX5_decoded_1 : decode cX5_decoded 1 = .ok (.iconst 0, 1) := by decide +kernel
theorem dX5_decoded_2 : decode cX5_decoded 2 = .ok (.bipush 9, 2) := by decide +kernel
theorem dX5_decoded_4 : decode cX5_decoded 4 = .ok (.invokestatic 61, 3) := by decide +kernel
theorem dX5_decoded_7 : decode cX5_decoded 7 = .ok (.ifCond .ne 13, 3) := by decide +kernel
theorem dX5_decoded_10 : decode cX5_decoded 10 = .ok (.new 65, 3) := by decide +kernel
theorem dX5_decoded_13 : decode cX5_decoded 13 = .ok (.dup, 1) := by decide +kernel
theorem dX5_decoded_14 : decode cX5_decoded 14 = .ok (.ldc 228, 2) := by decide +kernel
theorem dX5_decoded_16 : decode cX5_decoded 16 = .ok (.invokespecial 69, 3) := by decide +kernel
theorem dX5_decoded_19 : decode cX5_decoded 19 = .ok (.athrow, 1) := by decide +kernel
theorem dX5_decoded_20 : decode cX5_decoded 20 = .ok (.aload_n 0, 1) := by decide +kernel
theorem dX5_decoded_21 : decode cX5_decoded 21 = .ok (.getfield 10, 3) := by decide +kernel
theorem dX5_decoded_24 : decode cX5_decoded 24 = .ok (.iload_n 2, 1) := by decide +kernel
theorem dX5_decoded_25 : decode cX5_decoded 25 = .ok (.iload_n 3, 1) := by decide +kernel
theorem dX5_decoded_26 : decode cX5_decoded 26 = .ok (.invokevirtual 131, 3) := by decide +kernel
theorem dX5_decoded_29 : decode cX5_decoded 29 = .ok (.ifCond .ne 13, 3) := by decide +kernel
theorem dX5_decoded_32 : decode cX5_decoded 32 = .ok (.new 134, 3) := by decide +kernel
theorem dX5_decoded_35 : decode cX5_decoded 35 = .ok (.dup, 1) := by decide +kernel
theorem dX5_decoded_36 : decode cX5_decoded 36 = .ok (.ldc 136, 2) := by decide +kernel
theorem dX5_decoded_38 : decode cX5_decoded 38 = .ok (.invokespecial 138, 3) := by decide +kernel
theorem dX5_decoded_41 : decode cX5_decoded 41 = .ok (.athrow, 1) := by decide +kernel
theorem dX5_decoded_42 : decode cX5_decoded 42 = .ok (.aload_n 0, 1) := by decide +kernel
theorem dX5_decoded_43 : decode cX5_decoded 43 = .ok (.getfield 33, 3) := by decide +kernel
theorem dX5_decoded_46 : decode cX5_decoded 46 = .ok (.aload_n 0, 1) := by decide +kernel
theorem dX5_decoded_47 : decode cX5_decoded 47 = .ok (.getfield 10, 3) := by decide +kernel
theorem dX5_decoded_50 : decode cX5_decoded 50 = .ok (.aload_n 0, 1) := by decide +kernel
theorem dX5_decoded_51 : decode cX5_decoded 51 = .ok (.getfield 10, 3) := by decide +kernel
theorem dX5_decoded_54 : decode cX5_decoded 54 = .ok (.iload_n 2, 1) := by decide +kernel
theorem dX5_decoded_55 : decode cX5_decoded 55 = .ok (.iload_n 3, 1) := by decide +kernel
theorem dX5_decoded_56 : decode cX5_decoded 56 = .ok (.invokevirtual 161, 3) := by decide +kernel
theorem dX5_decoded_59 : decode cX5_decoded 59 = .ok (.invokevirtual 170, 3) := by decide +kernel
theorem dX5_decoded_62 : decode cX5_decoded 62 = .ok (.aload_n 0, 1) := by decide +kernel
theorem dX5_decoded_63 : decode cX5_decoded 63 = .ok (.getfield 33, 3) := by decide +kernel
theorem dX5_decoded_66 : decode cX5_decoded 66 = .ok (.iload_n 1, 1) := by decide +kernel
theorem dX5_decoded_67 : decode cX5_decoded 67 = .ok (.invokevirtual 230, 3) := by decide +kernel
theorem dX5_decoded_70 : decode cX5_decoded 70 = .ok (.aload_n 0, 1) := by decide +kernel
theorem dX5_decoded_71 : decode cX5_decoded 71 = .ok (.getfield 33, 3) := by decide +kernel
theorem dX5_decoded_74 : decode cX5_decoded 74 = .ok (.getfield 270, 3) := by decide +kernel
