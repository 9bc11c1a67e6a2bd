theorem d_Row_empty_0 : decode b_Row_empty 0 = .ok (.aload_n 0, 1) := by decide +kernel
theorem d_Row_empty_1 : decode b_Row_empty 1 = .ok (.iconst 0, 1) := by decide +kernel
theorem d_Row_empty_2 : decode b_Row_empty 2 = .ok (.putfield 21, 3) := by decide +kernel
theorem d_Row_empty_5 : decode b_Row_empty 5 = .ok (.aload_n 0, 1) := by decide +kernel
theorem d_Row_empty_6 : decode b_Row_empty 6 = .ok (.iconst 0, 1) := by decide +kernel
theorem d_Row_empty_7 : decode b_Row_empty 7 = .ok (.putfield 25, 3) := by decide +kernel
theorem d_Row_empty_10 : decode b_Row_empty 10 = .ok (.return_, 1) := by decide +kernel
theorem d_Row_put_0 : decode b_Row_put 0 = .ok (.aload_n 0, 1) := by decide +kernel
theorem d_Row_put_1 : decode b_Row_put 1 = .ok (.getfield 21, 3) := by decide +kernel
theorem d_Row_put_4 : decode b_Row_put 4 = .ok (.ifCond .lt 38, 3) := by decide +kernel
theorem d_Row_put_7 : decode b_Row_put 7 = .ok (.aload_n 0, 1) := by decide +kernel
theorem d_Row_put_8 : decode b_Row_put 8 = .ok (.getfield 21, 3) := by decide +kernel
theorem d_Row_put_11 : decode b_Row_put 11 = .ok (.aload_n 0, 1) := by decide +kernel
theorem d_Row_put_12 : decode b_Row_put 12 = .ok (.getfield 15, 3) := by decide +kernel
theorem d_Row_put_15 : decode b_Row_put 15 = .ok (.arraylength, 1) := by decide +kernel
theorem d_Row_put_16 : decode b_Row_put 16 = .ok (.if_icmp .ge 26, 3) := by decide +kernel
theorem d_Row_put_19 : decode b_Row_put 19 = .ok (.aload_n 0, 1) := by decide +kernel
theorem d_Row_put_20 : decode b_Row_put 20 = .ok (.getfield 15, 3) := by decide +kernel
theorem d_Row_put_23 : decode b_Row_put 23 = .ok (.aload_n 0, 1) := by decide +kernel
theorem d_Row_put_24 : decode b_Row_put 24 = .ok (.getfield 21, 3) := by decide +kernel
theorem d_Row_put_27 : decode b_Row_put 27 = .ok (.iload_n 1, 1) := by decide +kernel
theorem d_Row_put_28 : decode b_Row_put 28 = .ok (.iastore, 1) := by decide +kernel
theorem d_Row_put_29 : decode b_Row_put 29 = .ok (.aload_n 0, 1) := by decide +kernel
theorem d_Row_put_30 : decode b_Row_put 30 = .ok (.dup, 1) := by decide +kernel
theorem d_Row_put_31 : decode b_Row_put 31 = .ok (.getfield 21, 3) := by decide +kernel
theorem d_Row_put_34 : decode b_Row_put 34 = .ok (.iconst 1, 1) := by decide +kernel
theorem d_Row_put_35 : decode b_Row_put 35 = .ok (.iadd, 1) := by decide +kernel
theorem d_Row_put_36 : decode b_Row_put 36 = .ok (.putfield 21, 3) := by decide +kernel
theorem d_Row_put_39 : decode b_Row_put 39 = .ok (.goto 8, 3) := by decide +kernel
theorem d_Row_put_42 : decode b_Row_put 42 = .ok (.aload_n 0, 1) := by decide +kernel
theorem d_Row_put_43 : decode b_Row_put 43 = .ok (.iconst 1, 1) := by decide +kernel
theorem d_Row_put_44 : decode b_Row_put 44 = .ok (.putfield 25, 3) := by decide +kernel
theorem d_Row_put_47 : decode b_Row_put 47 = .ok (.return_, 1) := by decide +kernel
theorem d_Row_get_0 : decode b_Row_get 0 = .ok (.iload_n 1, 1) := by decide +kernel
theorem d_Row_get_1 : decode b_Row_get 1 = .ok (.ifCond .lt 29, 3) := by decide +kernel
theorem d_Row_get_4 : decode b_Row_get 4 = .ok (.iload_n 1, 1) := by decide +kernel
theorem d_Row_get_5 : decode b_Row_get 5 = .ok (.aload_n 0, 1) := by decide +kernel
theorem d_Row_get_6 : decode b_Row_get 6 = .ok (.getfield 21, 3) := by decide +kernel
theorem d_Row_get_9 : decode b_Row_get 9 = .ok (.if_icmp .ge 21, 3) := by decide +kernel
theorem d_Row_get_12 : decode b_Row_get 12 = .ok (.iload_n 1, 1) := by decide +kernel
theorem d_Row_get_13 : decode b_Row_get 13 = .ok (.aload_n 0, 1) := by decide +kernel
theorem d_Row_get_14 : decode b_Row_get 14 = .ok (.getfield 15, 3) := by decide +kernel
theorem d_Row_get_17 : decode b_Row_get 17 = .ok (.arraylength, 1) := by decide +kernel
theorem d_Row_get_18 : decode b_Row_get 18 = .ok (.if_icmp .ge 12, 3) := by decide +kernel
theorem d_Row_get_21 : decode b_Row_get 21 = .ok (.aload_n 0, 1) := by decide +kernel
theorem d_Row_get_22 : decode b_Row_get 22 = .ok (.getfield 15, 3) := by decide +kernel
theorem d_Row_get_25 : decode b_Row_get 25 = .ok (.iload_n 1, 1) := by decide +kernel
theorem d_Row_get_26 : decode b_Row_get 26 = .ok (.iaload, 1) := by decide +kernel
theorem d_Row_get_27 : decode b_Row_get 27 = .ok (.goto 4, 3) := by decide +kernel
theorem d_Row_get_30 : decode b_Row_get 30 = .ok (.iconst (-1), 1) := by decide +kernel
theorem d_Row_get_31 : decode b_Row_get 31 = .ok (.ireturn, 1) := by decide +kernel
theorem d_Row_size_0 : decode b_Row_size 0 = .ok (.aload_n 0, 1) := by decide +kernel
theorem d_Row_size_1 : decode b_Row_size 1 = .ok (.getfield 21, 3) := by decide +kernel
theorem d_Row_size_4 : decode b_Row_size 4 = .ok (.ireturn, 1) := by decide +kernel
theorem d_Row_room_0 : decode b_Row_room 0 = .ok (.aload_n 0, 1) := by decide +kernel
theorem d_Row_room_1 : decode b_Row_room 1 = .ok (.getfield 15, 3) := by decide +kernel
theorem d_Row_room_4 : decode b_Row_room 4 = .ok (.arraylength, 1) := by decide +kernel
theorem d_Row_room_5 : decode b_Row_room 5 = .ok (.aload_n 0, 1) := by decide +kernel
theorem d_Row_room_6 : decode b_Row_room 6 = .ok (.getfield 21, 3) := by decide +kernel
theorem d_Row_room_9 : decode b_Row_room 9 = .ok (.isub, 1) := by decide +kernel
theorem d_Row_room_10 : decode b_Row_room 10 = .ok (.ireturn, 1) := by decide +kernel
theorem d_JString_coder_0 : decode b_JString_coder 0 = .ok (.getstatic 38, 3) := by decide +kernel
theorem d_JString_coder_3 : decode b_JString_coder 3 = .ok (.ifCond .eq 10, 3) := by decide +kernel
theorem d_JString_coder_6 : decode b_JString_coder 6 = .ok (.aload_n 0, 1) := by decide +kernel
theorem d_JString_coder_7 : decode b_JString_coder 7 = .ok (.getfield 15, 3) := by decide +kernel
theorem d_JString_coder_10 : decode b_JString_coder 10 = .ok (.goto 4, 3) := by decide +kernel
theorem d_JString_coder_13 : decode b_JString_coder 13 = .ok (.iconst 1, 1) := by decide +kernel
theorem d_JString_coder_14 : decode b_JString_coder 14 = .ok (.ireturn, 1) := by decide +kernel
theorem d_JString_isLatin1_0 : decode b_JString_isLatin1 0 = .ok (.getstatic 38, 3) := by decide +kernel
theorem d_JString_isLatin1_3 : decode b_JString_isLatin1 3 = .ok (.ifCond .eq 14, 3) := by decide +kernel
theorem d_JString_isLatin1_6 : decode b_JString_isLatin1 6 = .ok (.aload_n 0, 1) := by decide +kernel
theorem d_JString_isLatin1_7 : decode b_JString_isLatin1 7 = .ok (.getfield 15, 3) := by decide +kernel
theorem d_JString_isLatin1_10 : decode b_JString_isLatin1 10 = .ok (.ifCond .ne 7, 3) := by decide +kernel
theorem d_JString_isLatin1_13 : decode b_JString_isLatin1 13 = .ok (.iconst 1, 1) := by decide +kernel
theorem d_JString_isLatin1_14 : decode b_JString_isLatin1 14 = .ok (.goto 4, 3) := by decide +kernel
theorem d_JString_isLatin1_17 : decode b_JString_isLatin1 17 = .ok (.iconst 0, 1) := by decide +kernel
theorem d_JString_isLatin1_18 : decode b_JString_isLatin1 18 = .ok (.ireturn, 1) := by decide +kernel
theorem d_JString_length_0 : decode b_JString_length 0 = .ok (.aload_n 0, 1) := by decide +kernel
theorem d_JString_length_1 : decode b_JString_length 1 = .ok (.getfield 9, 3) := by decide +kernel
theorem d_JString_length_4 : decode b_JString_length 4 = .ok (.arraylength, 1) := by decide +kernel
theorem d_JString_length_5 : decode b_JString_length 5 = .ok (.aload_n 0, 1) := by decide +kernel
theorem d_JString_length_6 : decode b_JString_length 6 = .ok (.invokevirtual 335, 3) := by decide +kernel
theorem d_JString_length_9 : decode b_JString_length 9 = .ok (.ishr, 1) := by decide +kernel
theorem d_JString_length_10 : decode b_JString_length 10 = .ok (.ireturn, 1) := by decide +kernel
theorem d_JPreconditions_checkIndex_0 : decode b_JPreconditions_checkIndex 0 = .ok (.iload_n 0, 1) := by decide +kernel
theorem d_JPreconditions_checkIndex_1 : decode b_JPreconditions_checkIndex 1 = .ok (.ifCond .lt 8, 3) := by decide +kernel
theorem d_JPreconditions_checkIndex_4 : decode b_JPreconditions_checkIndex 4 = .ok (.iload_n 0, 1) := by decide +kernel
theorem d_JPreconditions_checkIndex_5 : decode b_JPreconditions_checkIndex 5 = .ok (.iload_n 1, 1) := by decide +kernel
theorem d_JPreconditions_checkIndex_6 : decode b_JPreconditions_checkIndex 6 = .ok (.if_icmp .lt 10, 3) := by decide +kernel
theorem d_JPreconditions_checkIndex_9 : decode b_JPreconditions_checkIndex 9 = .ok (.aload_n 2, 1) := by decide +kernel
theorem d_JPreconditions_checkIndex_10 : decode b_JPreconditions_checkIndex 10 = .ok (.iload_n 0, 1) := by decide +kernel
theorem d_JPreconditions_checkIndex_11 : decode b_JPreconditions_checkIndex 11 = .ok (.iload_n 1, 1) := by decide +kernel
theorem d_JPreconditions_checkIndex_12 : decode b_JPreconditions_checkIndex 12 = .ok (.invokestatic 95, 3) := by decide +kernel
theorem d_JPreconditions_checkIndex_15 : decode b_JPreconditions_checkIndex 15 = .ok (.athrow, 1) := by decide +kernel
theorem d_JPreconditions_checkIndex_16 : decode b_JPreconditions_checkIndex 16 = .ok (.iload_n 0, 1) := by decide +kernel
theorem d_JPreconditions_checkIndex_17 : decode b_JPreconditions_checkIndex 17 = .ok (.ireturn, 1) := by decide +kernel
theorem d_JString_checkIndex_0 : decode b_JString_checkIndex 0 = .ok (.iload_n 0, 1) := by decide +kernel
theorem d_JString_checkIndex_1 : decode b_JString_checkIndex 1 = .ok (.iload_n 1, 1) := by decide +kernel
theorem d_JString_checkIndex_2 : decode b_JString_checkIndex 2 = .ok (.getstatic 1053, 3) := by decide +kernel
theorem d_JString_checkIndex_5 : decode b_JString_checkIndex 5 = .ok (.invokestatic 1059, 3) := by decide +kernel
theorem d_JString_checkIndex_8 : decode b_JString_checkIndex 8 = .ok (.pop, 1) := by decide +kernel
theorem d_JString_checkIndex_9 : decode b_JString_checkIndex 9 = .ok (.return_, 1) := by decide +kernel
theorem d_JStringLatin1_charAt_0 : decode b_JStringLatin1_charAt 0 = .ok (.iload_n 1, 1) := by decide +kernel
theorem d_JStringLatin1_charAt_1 : decode b_JStringLatin1_charAt 1 = .ok (.aload_n 0, 1) := by decide +kernel
theorem d_JStringLatin1_charAt_2 : decode b_JStringLatin1_charAt 2 = .ok (.arraylength, 1) := by decide +kernel
theorem d_JStringLatin1_charAt_3 : decode b_JStringLatin1_charAt 3 = .ok (.invokestatic 9, 3) := by decide +kernel
theorem d_JStringLatin1_charAt_6 : decode b_JStringLatin1_charAt 6 = .ok (.aload_n 0, 1) := by decide +kernel
theorem d_JStringLatin1_charAt_7 : decode b_JStringLatin1_charAt 7 = .ok (.iload_n 1, 1) := by decide +kernel
theorem d_JStringLatin1_charAt_8 : decode b_JStringLatin1_charAt 8 = .ok (.baload, 1) := by decide +kernel
theorem d_JStringLatin1_charAt_9 : decode b_JStringLatin1_charAt 9 = .ok (.sipush 255, 3) := by decide +kernel
theorem d_JStringLatin1_charAt_12 : decode b_JStringLatin1_charAt 12 = .ok (.iand, 1) := by decide +kernel
theorem d_JStringLatin1_charAt_13 : decode b_JStringLatin1_charAt 13 = .ok (.i2c, 1) := by decide +kernel
theorem d_JStringLatin1_charAt_14 : decode b_JStringLatin1_charAt 14 = .ok (.ireturn, 1) := by decide +kernel
theorem d_JString_charAt_0 : decode b_JString_charAt 0 = .ok (.aload_n 0, 1) := by decide +kernel
theorem d_JString_charAt_1 : decode b_JString_charAt 1 = .ok (.invokevirtual 492, 3) := by decide +kernel
theorem d_JString_charAt_4 : decode b_JString_charAt 4 = .ok (.ifCond .eq 12, 3) := by decide +kernel
theorem d_JString_charAt_7 : decode b_JString_charAt 7 = .ok (.aload_n 0, 1) := by decide +kernel
theorem d_JString_charAt_8 : decode b_JString_charAt 8 = .ok (.getfield 9, 3) := by decide +kernel
theorem d_JString_charAt_11 : decode b_JString_charAt 11 = .ok (.iload_n 1, 1) := by decide +kernel
theorem d_JString_charAt_12 : decode b_JString_charAt 12 = .ok (.invokestatic 495, 3) := by decide +kernel
theorem d_JString_charAt_15 : decode b_JString_charAt 15 = .ok (.ireturn, 1) := by decide +kernel
theorem d_JString_charAt_16 : decode b_JString_charAt 16 = .ok (.aload_n 0, 1) := by decide +kernel
theorem d_JString_charAt_17 : decode b_JString_charAt 17 = .ok (.getfield 9, 3) := by decide +kernel
theorem d_JString_charAt_20 : decode b_JString_charAt 20 = .ok (.iload_n 1, 1) := by decide +kernel
theorem d_JString_charAt_21 : decode b_JString_charAt 21 = .ok (.invokestatic 498, 3) := by decide +kernel
theorem d_JString_charAt_24 : decode b_JString_charAt 24 = .ok (.ireturn, 1) := by decide +kernel
theorem d_MC_feed_0 : decode b_MC_feed 0 = .ok (.aload_n 0, 1) := by decide +kernel
theorem d_MC_feed_1 : decode b_MC_feed 1 = .ok (.getfield 9, 3) := by decide +kernel
theorem d_MC_feed_4 : decode b_MC_feed 4 = .ok (.iconst 0, 1) := by decide +kernel
theorem d_MC_feed_5 : decode b_MC_feed 5 = .ok (.iload_n 1, 1) := by decide +kernel
theorem d_MC_feed_6 : decode b_MC_feed 6 = .ok (.iastore, 1) := by decide +kernel
theorem d_MC_feed_7 : decode b_MC_feed 7 = .ok (.aload_n 0, 1) := by decide +kernel
theorem d_MC_feed_8 : decode b_MC_feed 8 = .ok (.getfield 9, 3) := by decide +kernel
theorem d_MC_feed_11 : decode b_MC_feed 11 = .ok (.iconst 1, 1) := by decide +kernel
theorem d_MC_feed_12 : decode b_MC_feed 12 = .ok (.iload_n 2, 1) := by decide +kernel
theorem d_MC_feed_13 : decode b_MC_feed 13 = .ok (.iastore, 1) := by decide +kernel
theorem d_MC_feed_14 : decode b_MC_feed 14 = .ok (.aload_n 0, 1) := by decide +kernel
theorem d_MC_feed_15 : decode b_MC_feed 15 = .ok (.getfield 9, 3) := by decide +kernel
theorem d_MC_feed_18 : decode b_MC_feed 18 = .ok (.iconst 2, 1) := by decide +kernel
theorem d_MC_feed_19 : decode b_MC_feed 19 = .ok (.iload_n 3, 1) := by decide +kernel
theorem d_MC_feed_20 : decode b_MC_feed 20 = .ok (.iastore, 1) := by decide +kernel
theorem d_MC_feed_21 : decode b_MC_feed 21 = .ok (.aload_n 0, 1) := by decide +kernel
theorem d_MC_feed_22 : decode b_MC_feed 22 = .ok (.getfield 9, 3) := by decide +kernel
theorem d_MC_feed_25 : decode b_MC_feed 25 = .ok (.iconst 3, 1) := by decide +kernel
theorem d_MC_feed_26 : decode b_MC_feed 26 = .ok (.iload 4, 2) := by decide +kernel
theorem d_MC_feed_28 : decode b_MC_feed 28 = .ok (.iastore, 1) := by decide +kernel
theorem d_MC_feed_29 : decode b_MC_feed 29 = .ok (.aload_n 0, 1) := by decide +kernel
theorem d_MC_feed_30 : decode b_MC_feed 30 = .ok (.getfield 9, 3) := by decide +kernel
theorem d_MC_feed_33 : decode b_MC_feed 33 = .ok (.iconst 4, 1) := by decide +kernel
theorem d_MC_feed_34 : decode b_MC_feed 34 = .ok (.iload 5, 2) := by decide +kernel
theorem d_MC_feed_36 : decode b_MC_feed 36 = .ok (.iastore, 1) := by decide +kernel
theorem d_MC_feed_37 : decode b_MC_feed 37 = .ok (.return_, 1) := by decide +kernel
theorem d_MC_end_0 : decode b_MC_end 0 = .ok (.iload_n 1, 1) := by decide +kernel
theorem d_MC_end_1 : decode b_MC_end 1 = .ok (.ifCond .lt 20, 3) := by decide +kernel
theorem d_MC_end_4 : decode b_MC_end 4 = .ok (.iload_n 1, 1) := by decide +kernel
theorem d_MC_end_5 : decode b_MC_end 5 = .ok (.bipush 20, 2) := by decide +kernel
theorem d_MC_end_7 : decode b_MC_end 7 = .ok (.if_icmp .gt 14, 3) := by decide +kernel
theorem d_MC_end_10 : decode b_MC_end 10 = .ok (.iload_n 1, 1) := by decide +kernel
theorem d_MC_end_11 : decode b_MC_end 11 = .ok (.aload_n 0, 1) := by decide +kernel
theorem d_MC_end_12 : decode b_MC_end 12 = .ok (.getfield 57, 3) := by decide +kernel
theorem d_MC_end_15 : decode b_MC_end 15 = .ok (.invokevirtual 63, 3) := by decide +kernel
theorem d_MC_end_18 : decode b_MC_end 18 = .ok (.if_icmp .le 5, 3) := by decide +kernel
theorem d_MC_end_21 : decode b_MC_end 21 = .ok (.iconst (-1), 1) := by decide +kernel
theorem d_MC_end_22 : decode b_MC_end 22 = .ok (.ireturn, 1) := by decide +kernel
theorem d_MC_end_23 : decode b_MC_end 23 = .ok (.iconst 0, 1) := by decide +kernel
theorem d_MC_end_24 : decode b_MC_end 24 = .ok (.istore_n 2, 1) := by decide +kernel
theorem d_MC_end_25 : decode b_MC_end 25 = .ok (.iload_n 2, 1) := by decide +kernel
theorem d_MC_end_26 : decode b_MC_end 26 = .ok (.iload_n 1, 1) := by decide +kernel
theorem d_MC_end_27 : decode b_MC_end 27 = .ok (.if_icmp .ge 38, 3) := by decide +kernel
theorem d_MC_end_30 : decode b_MC_end 30 = .ok (.aload_n 0, 1) := by decide +kernel
theorem d_MC_end_31 : decode b_MC_end 31 = .ok (.getfield 57, 3) := by decide +kernel
theorem d_MC_end_34 : decode b_MC_end 34 = .ok (.aload_n 0, 1) := by decide +kernel
theorem d_MC_end_35 : decode b_MC_end 35 = .ok (.getfield 9, 3) := by decide +kernel
theorem d_MC_end_38 : decode b_MC_end 38 = .ok (.iload_n 2, 1) := by decide +kernel
theorem d_MC_end_39 : decode b_MC_end 39 = .ok (.iconst 4, 1) := by decide +kernel
theorem d_MC_end_40 : decode b_MC_end 40 = .ok (.idiv, 1) := by decide +kernel
theorem d_MC_end_41 : decode b_MC_end 41 = .ok (.iaload, 1) := by decide +kernel
theorem d_MC_end_42 : decode b_MC_end 42 = .ok (.bipush 24, 2) := by decide +kernel
theorem d_MC_end_44 : decode b_MC_end 44 = .ok (.iload_n 2, 1) := by decide +kernel
theorem d_MC_end_45 : decode b_MC_end 45 = .ok (.iconst 4, 1) := by decide +kernel
theorem d_MC_end_46 : decode b_MC_end 46 = .ok (.irem, 1) := by decide +kernel
theorem d_MC_end_47 : decode b_MC_end 47 = .ok (.bipush 8, 2) := by decide +kernel
theorem d_MC_end_49 : decode b_MC_end 49 = .ok (.imul, 1) := by decide +kernel
theorem d_MC_end_50 : decode b_MC_end 50 = .ok (.isub, 1) := by decide +kernel
theorem d_MC_end_51 : decode b_MC_end 51 = .ok (.ishr, 1) := by decide +kernel
theorem d_MC_end_52 : decode b_MC_end 52 = .ok (.sipush 255, 3) := by decide +kernel
theorem d_MC_end_55 : decode b_MC_end 55 = .ok (.iand, 1) := by decide +kernel
theorem d_MC_end_56 : decode b_MC_end 56 = .ok (.invokevirtual 67, 3) := by decide +kernel
theorem d_MC_end_59 : decode b_MC_end 59 = .ok (.iinc 2 1, 3) := by decide +kernel
theorem d_MC_end_62 : decode b_MC_end 62 = .ok (.goto (-37), 3) := by decide +kernel
theorem d_MC_end_65 : decode b_MC_end 65 = .ok (.aload_n 0, 1) := by decide +kernel
theorem d_MC_end_66 : decode b_MC_end 66 = .ok (.iconst 0, 1) := by decide +kernel
theorem d_MC_end_67 : decode b_MC_end 67 = .ok (.iconst 0, 1) := by decide +kernel
theorem d_MC_end_68 : decode b_MC_end 68 = .ok (.iconst 0, 1) := by decide +kernel
theorem d_MC_end_69 : decode b_MC_end 69 = .ok (.iconst 0, 1) := by decide +kernel
theorem d_MC_end_70 : decode b_MC_end 70 = .ok (.iconst 0, 1) := by decide +kernel
theorem d_MC_end_71 : decode b_MC_end 71 = .ok (.invokevirtual 70, 3) := by decide +kernel
theorem d_MC_end_74 : decode b_MC_end 74 = .ok (.aload_n 0, 1) := by decide +kernel
theorem d_MC_end_75 : decode b_MC_end 75 = .ok (.getfield 57, 3) := by decide +kernel
theorem d_MC_end_78 : decode b_MC_end 78 = .ok (.invokevirtual 74, 3) := by decide +kernel
theorem d_MC_end_81 : decode b_MC_end 81 = .ok (.ireturn, 1) := by decide +kernel
theorem d_Names_namesOf_0 : decode b_Names_namesOf 0 = .ok (.iload_n 0, 1) := by decide +kernel
theorem d_Names_namesOf_1 : decode b_Names_namesOf 1 = .ok (.tableswitch 85 0 9 #[55, 58, 61, 64, 67, 70, 73, 76, 79, 82], 55) := by decide +kernel
theorem d_Names_namesOf_56 : decode b_Names_namesOf 56 = .ok (.ldc 19, 2) := by decide +kernel
theorem d_Names_namesOf_58 : decode b_Names_namesOf 58 = .ok (.areturn, 1) := by decide +kernel
theorem d_Names_namesOf_59 : decode b_Names_namesOf 59 = .ok (.ldc 21, 2) := by decide +kernel
theorem d_Names_namesOf_61 : decode b_Names_namesOf 61 = .ok (.areturn, 1) := by decide +kernel
theorem d_Names_namesOf_62 : decode b_Names_namesOf 62 = .ok (.ldc 23, 2) := by decide +kernel
theorem d_Names_namesOf_64 : decode b_Names_namesOf 64 = .ok (.areturn, 1) := by decide +kernel
theorem d_Names_namesOf_65 : decode b_Names_namesOf 65 = .ok (.ldc 25, 2) := by decide +kernel
theorem d_Names_namesOf_67 : decode b_Names_namesOf 67 = .ok (.areturn, 1) := by decide +kernel
theorem d_Names_namesOf_68 : decode b_Names_namesOf 68 = .ok (.ldc 27, 2) := by decide +kernel
theorem d_Names_namesOf_70 : decode b_Names_namesOf 70 = .ok (.areturn, 1) := by decide +kernel
theorem d_Names_namesOf_71 : decode b_Names_namesOf 71 = .ok (.ldc 29, 2) := by decide +kernel
theorem d_Names_namesOf_73 : decode b_Names_namesOf 73 = .ok (.areturn, 1) := by decide +kernel
theorem d_Names_namesOf_74 : decode b_Names_namesOf 74 = .ok (.ldc 31, 2) := by decide +kernel
theorem d_Names_namesOf_76 : decode b_Names_namesOf 76 = .ok (.areturn, 1) := by decide +kernel
theorem d_Names_namesOf_77 : decode b_Names_namesOf 77 = .ok (.ldc 33, 2) := by decide +kernel
theorem d_Names_namesOf_79 : decode b_Names_namesOf 79 = .ok (.areturn, 1) := by decide +kernel
theorem d_Names_namesOf_80 : decode b_Names_namesOf 80 = .ok (.ldc 35, 2) := by decide +kernel
theorem d_Names_namesOf_82 : decode b_Names_namesOf 82 = .ok (.areturn, 1) := by decide +kernel
theorem d_Names_namesOf_83 : decode b_Names_namesOf 83 = .ok (.ldc 37, 2) := by decide +kernel
theorem d_Names_namesOf_85 : decode b_Names_namesOf 85 = .ok (.areturn, 1) := by decide +kernel
theorem d_Names_namesOf_86 : decode b_Names_namesOf 86 = .ok (.ldc 39, 2) := by decide +kernel
theorem d_Names_namesOf_88 : decode b_Names_namesOf 88 = .ok (.areturn, 1) := by decide +kernel
theorem d_Names_small_0 : decode b_Names_small 0 = .ok (.iload_n 0, 1) := by decide +kernel
theorem d_Names_small_1 : decode b_Names_small 1 = .ok (.bipush 65, 2) := by decide +kernel
theorem d_Names_small_3 : decode b_Names_small 3 = .ok (.if_icmp .lt 16, 3) := by decide +kernel
theorem d_Names_small_6 : decode b_Names_small 6 = .ok (.iload_n 0, 1) := by decide +kernel
theorem d_Names_small_7 : decode b_Names_small 7 = .ok (.bipush 90, 2) := by decide +kernel
theorem d_Names_small_9 : decode b_Names_small 9 = .ok (.if_icmp .gt 10, 3) := by decide +kernel
theorem d_Names_small_12 : decode b_Names_small 12 = .ok (.iload_n 0, 1) := by decide +kernel
theorem d_Names_small_13 : decode b_Names_small 13 = .ok (.bipush 32, 2) := by decide +kernel
theorem d_Names_small_15 : decode b_Names_small 15 = .ok (.iadd, 1) := by decide +kernel
theorem d_Names_small_16 : decode b_Names_small 16 = .ok (.goto 4, 3) := by decide +kernel
theorem d_Names_small_19 : decode b_Names_small 19 = .ok (.iload_n 0, 1) := by decide +kernel
theorem d_Names_small_20 : decode b_Names_small 20 = .ok (.ireturn, 1) := by decide +kernel
theorem d_Word_endOfName_0 : decode b_Word_endOfName 0 = .ok (.iload_n 1, 1) := by decide +kernel
theorem d_Word_endOfName_1 : decode b_Word_endOfName 1 = .ok (.istore_n 2, 1) := by decide +kernel
theorem d_Word_endOfName_2 : decode b_Word_endOfName 2 = .ok (.iload_n 2, 1) := by decide +kernel
theorem d_Word_endOfName_3 : decode b_Word_endOfName 3 = .ok (.aload_n 0, 1) := by decide +kernel
theorem d_Word_endOfName_4 : decode b_Word_endOfName 4 = .ok (.invokevirtual 54, 3) := by decide +kernel
theorem d_Word_endOfName_7 : decode b_Word_endOfName 7 = .ok (.if_icmp .ge 21, 3) := by decide +kernel
theorem d_Word_endOfName_10 : decode b_Word_endOfName 10 = .ok (.aload_n 0, 1) := by decide +kernel
theorem d_Word_endOfName_11 : decode b_Word_endOfName 11 = .ok (.iload_n 2, 1) := by decide +kernel
theorem d_Word_endOfName_12 : decode b_Word_endOfName 12 = .ok (.invokevirtual 9, 3) := by decide +kernel
theorem d_Word_endOfName_15 : decode b_Word_endOfName 15 = .ok (.bipush 63, 2) := by decide +kernel
theorem d_Word_endOfName_17 : decode b_Word_endOfName 17 = .ok (.if_icmp .ne 5, 3) := by decide +kernel
theorem d_Word_endOfName_20 : decode b_Word_endOfName 20 = .ok (.iload_n 2, 1) := by decide +kernel
theorem d_Word_endOfName_21 : decode b_Word_endOfName 21 = .ok (.ireturn, 1) := by decide +kernel
theorem d_Word_endOfName_22 : decode b_Word_endOfName 22 = .ok (.iinc 2 1, 3) := by decide +kernel
theorem d_Word_endOfName_25 : decode b_Word_endOfName 25 = .ok (.goto (-23), 3) := by decide +kernel
theorem d_Word_endOfName_28 : decode b_Word_endOfName 28 = .ok (.aload_n 0, 1) := by decide +kernel
theorem d_Word_endOfName_29 : decode b_Word_endOfName 29 = .ok (.invokevirtual 54, 3) := by decide +kernel
theorem d_Word_endOfName_32 : decode b_Word_endOfName 32 = .ok (.ireturn, 1) := by decide +kernel
theorem d_Word_takesKind_0 : decode b_Word_takesKind 0 = .ok (.aload_n 0, 1) := by decide +kernel
theorem d_Word_takesKind_1 : decode b_Word_takesKind 1 = .ok (.iload_n 1, 1) := by decide +kernel
theorem d_Word_takesKind_2 : decode b_Word_takesKind 2 = .ok (.bipush 66, 2) := by decide +kernel
theorem d_Word_takesKind_4 : decode b_Word_takesKind 4 = .ok (.if_icmp .eq 9, 3) := by decide +kernel
theorem d_Word_takesKind_7 : decode b_Word_takesKind 7 = .ok (.iload_n 1, 1) := by decide +kernel
theorem d_Word_takesKind_8 : decode b_Word_takesKind 8 = .ok (.bipush 98, 2) := by decide +kernel
theorem d_Word_takesKind_10 : decode b_Word_takesKind 10 = .ok (.if_icmp .ne 7, 3) := by decide +kernel
theorem d_Word_takesKind_13 : decode b_Word_takesKind 13 = .ok (.iconst 1, 1) := by decide +kernel
theorem d_Word_takesKind_14 : decode b_Word_takesKind 14 = .ok (.goto 4, 3) := by decide +kernel
theorem d_Word_takesKind_17 : decode b_Word_takesKind 17 = .ok (.iconst 0, 1) := by decide +kernel
theorem d_Word_takesKind_18 : decode b_Word_takesKind 18 = .ok (.putfield 50, 3) := by decide +kernel
theorem d_Word_takesKind_21 : decode b_Word_takesKind 21 = .ok (.aload_n 0, 1) := by decide +kernel
theorem d_Word_takesKind_22 : decode b_Word_takesKind 22 = .ok (.getfield 50, 3) := by decide +kernel
theorem d_Word_takesKind_25 : decode b_Word_takesKind 25 = .ok (.ifCond .ne 15, 3) := by decide +kernel
theorem d_Word_takesKind_28 : decode b_Word_takesKind 28 = .ok (.iload_n 1, 1) := by decide +kernel
theorem d_Word_takesKind_29 : decode b_Word_takesKind 29 = .ok (.bipush 81, 2) := by decide +kernel
theorem d_Word_takesKind_31 : decode b_Word_takesKind 31 = .ok (.if_icmp .eq 9, 3) := by decide +kernel
theorem d_Word_takesKind_34 : decode b_Word_takesKind 34 = .ok (.iload_n 1, 1) := by decide +kernel
theorem d_Word_takesKind_35 : decode b_Word_takesKind 35 = .ok (.bipush 113, 2) := by decide +kernel
theorem d_Word_takesKind_37 : decode b_Word_takesKind 37 = .ok (.if_icmp .ne 7, 3) := by decide +kernel
theorem d_Word_takesKind_40 : decode b_Word_takesKind 40 = .ok (.iconst 1, 1) := by decide +kernel
theorem d_Word_takesKind_41 : decode b_Word_takesKind 41 = .ok (.goto 4, 3) := by decide +kernel
theorem d_Word_takesKind_44 : decode b_Word_takesKind 44 = .ok (.iconst 0, 1) := by decide +kernel
theorem d_Word_takesKind_45 : decode b_Word_takesKind 45 = .ok (.ireturn, 1) := by decide +kernel
theorem d_Word_endOfBytes_0 : decode b_Word_endOfBytes 0 = .ok (.iload_n 1, 1) := by decide +kernel
theorem d_Word_endOfBytes_1 : decode b_Word_endOfBytes 1 = .ok (.istore_n 2, 1) := by decide +kernel
theorem d_Word_endOfBytes_2 : decode b_Word_endOfBytes 2 = .ok (.iload_n 2, 1) := by decide +kernel
theorem d_Word_endOfBytes_3 : decode b_Word_endOfBytes 3 = .ok (.aload_n 0, 1) := by decide +kernel
theorem d_Word_endOfBytes_4 : decode b_Word_endOfBytes 4 = .ok (.invokevirtual 54, 3) := by decide +kernel
theorem d_Word_endOfBytes_7 : decode b_Word_endOfBytes 7 = .ok (.if_icmp .ge 35, 3) := by decide +kernel
theorem d_Word_endOfBytes_10 : decode b_Word_endOfBytes 10 = .ok (.aload_n 0, 1) := by decide +kernel
theorem d_Word_endOfBytes_11 : decode b_Word_endOfBytes 11 = .ok (.iload_n 2, 1) := by decide +kernel
theorem d_Word_endOfBytes_12 : decode b_Word_endOfBytes 12 = .ok (.invokevirtual 9, 3) := by decide +kernel
theorem d_Word_endOfBytes_15 : decode b_Word_endOfBytes 15 = .ok (.istore_n 3, 1) := by decide +kernel
theorem d_Word_endOfBytes_16 : decode b_Word_endOfBytes 16 = .ok (.iload_n 3, 1) := by decide +kernel
theorem d_Word_endOfBytes_17 : decode b_Word_endOfBytes 17 = .ok (.bipush 63, 2) := by decide +kernel
theorem d_Word_endOfBytes_19 : decode b_Word_endOfBytes 19 = .ok (.if_icmp .eq 15, 3) := by decide +kernel
theorem d_Word_endOfBytes_22 : decode b_Word_endOfBytes 22 = .ok (.iload_n 3, 1) := by decide +kernel
theorem d_Word_endOfBytes_23 : decode b_Word_endOfBytes 23 = .ok (.bipush 32, 2) := by decide +kernel
theorem d_Word_endOfBytes_25 : decode b_Word_endOfBytes 25 = .ok (.if_icmp .eq 9, 3) := by decide +kernel
theorem d_Word_endOfBytes_28 : decode b_Word_endOfBytes 28 = .ok (.iload_n 3, 1) := by decide +kernel
theorem d_Word_endOfBytes_29 : decode b_Word_endOfBytes 29 = .ok (.bipush 9, 2) := by decide +kernel
theorem d_Word_endOfBytes_31 : decode b_Word_endOfBytes 31 = .ok (.if_icmp .ne 5, 3) := by decide +kernel
theorem d_Word_endOfBytes_34 : decode b_Word_endOfBytes 34 = .ok (.iload_n 2, 1) := by decide +kernel
theorem d_Word_endOfBytes_35 : decode b_Word_endOfBytes 35 = .ok (.ireturn, 1) := by decide +kernel
theorem d_Word_endOfBytes_36 : decode b_Word_endOfBytes 36 = .ok (.iinc 2 1, 3) := by decide +kernel
theorem d_Word_endOfBytes_39 : decode b_Word_endOfBytes 39 = .ok (.goto (-37), 3) := by decide +kernel
theorem d_Word_endOfBytes_42 : decode b_Word_endOfBytes 42 = .ok (.aload_n 0, 1) := by decide +kernel
theorem d_Word_endOfBytes_43 : decode b_Word_endOfBytes 43 = .ok (.invokevirtual 54, 3) := by decide +kernel
theorem d_Word_endOfBytes_46 : decode b_Word_endOfBytes 46 = .ok (.ireturn, 1) := by decide +kernel
theorem d_Word_starOrEnd_0 : decode b_Word_starOrEnd 0 = .ok (.iload_n 1, 1) := by decide +kernel
theorem d_Word_starOrEnd_1 : decode b_Word_starOrEnd 1 = .ok (.istore_n 3, 1) := by decide +kernel
theorem d_Word_starOrEnd_2 : decode b_Word_starOrEnd 2 = .ok (.iload_n 3, 1) := by decide +kernel
theorem d_Word_starOrEnd_3 : decode b_Word_starOrEnd 3 = .ok (.iload_n 2, 1) := by decide +kernel
theorem d_Word_starOrEnd_4 : decode b_Word_starOrEnd 4 = .ok (.if_icmp .ge 21, 3) := by decide +kernel
theorem d_Word_starOrEnd_7 : decode b_Word_starOrEnd 7 = .ok (.aload_n 0, 1) := by decide +kernel
theorem d_Word_starOrEnd_8 : decode b_Word_starOrEnd 8 = .ok (.iload_n 3, 1) := by decide +kernel
theorem d_Word_starOrEnd_9 : decode b_Word_starOrEnd 9 = .ok (.invokevirtual 9, 3) := by decide +kernel
theorem d_Word_starOrEnd_12 : decode b_Word_starOrEnd 12 = .ok (.bipush 42, 2) := by decide +kernel
theorem d_Word_starOrEnd_14 : decode b_Word_starOrEnd 14 = .ok (.if_icmp .ne 5, 3) := by decide +kernel
theorem d_Word_starOrEnd_17 : decode b_Word_starOrEnd 17 = .ok (.iload_n 3, 1) := by decide +kernel
theorem d_Word_starOrEnd_18 : decode b_Word_starOrEnd 18 = .ok (.ireturn, 1) := by decide +kernel
theorem d_Word_starOrEnd_19 : decode b_Word_starOrEnd 19 = .ok (.iinc 3 1, 3) := by decide +kernel
theorem d_Word_starOrEnd_22 : decode b_Word_starOrEnd 22 = .ok (.goto (-20), 3) := by decide +kernel
theorem d_Word_starOrEnd_25 : decode b_Word_starOrEnd 25 = .ok (.iload_n 2, 1) := by decide +kernel
theorem d_Word_starOrEnd_26 : decode b_Word_starOrEnd 26 = .ok (.ireturn, 1) := by decide +kernel
theorem d_MC_isBlank_0 : decode b_MC_isBlank 0 = .ok (.iload_n 1, 1) := by decide +kernel
theorem d_MC_isBlank_1 : decode b_MC_isBlank 1 = .ok (.istore_n 3, 1) := by decide +kernel
theorem d_MC_isBlank_2 : decode b_MC_isBlank 2 = .ok (.iload_n 3, 1) := by decide +kernel
theorem d_MC_isBlank_3 : decode b_MC_isBlank 3 = .ok (.iload_n 2, 1) := by decide +kernel
theorem d_MC_isBlank_4 : decode b_MC_isBlank 4 = .ok (.if_icmp .ge 49, 3) := by decide +kernel
theorem d_MC_isBlank_7 : decode b_MC_isBlank 7 = .ok (.aload_n 0, 1) := by decide +kernel
theorem d_MC_isBlank_8 : decode b_MC_isBlank 8 = .ok (.getfield 57, 3) := by decide +kernel
theorem d_MC_isBlank_11 : decode b_MC_isBlank 11 = .ok (.iload_n 3, 1) := by decide +kernel
theorem d_MC_isBlank_12 : decode b_MC_isBlank 12 = .ok (.invokevirtual 142, 3) := by decide +kernel
theorem d_MC_isBlank_15 : decode b_MC_isBlank 15 = .ok (.istore 4, 2) := by decide +kernel
theorem d_MC_isBlank_17 : decode b_MC_isBlank 17 = .ok (.iload 4, 2) := by decide +kernel
theorem d_MC_isBlank_19 : decode b_MC_isBlank 19 = .ok (.bipush 32, 2) := by decide +kernel
theorem d_MC_isBlank_21 : decode b_MC_isBlank 21 = .ok (.if_icmp .eq 26, 3) := by decide +kernel
theorem d_MC_isBlank_24 : decode b_MC_isBlank 24 = .ok (.iload 4, 2) := by decide +kernel
theorem d_MC_isBlank_26 : decode b_MC_isBlank 26 = .ok (.bipush 9, 2) := by decide +kernel
theorem d_MC_isBlank_28 : decode b_MC_isBlank 28 = .ok (.if_icmp .eq 19, 3) := by decide +kernel
theorem d_MC_isBlank_31 : decode b_MC_isBlank 31 = .ok (.iload 4, 2) := by decide +kernel
theorem d_MC_isBlank_33 : decode b_MC_isBlank 33 = .ok (.bipush 13, 2) := by decide +kernel
theorem d_MC_isBlank_35 : decode b_MC_isBlank 35 = .ok (.if_icmp .eq 12, 3) := by decide +kernel
theorem d_MC_isBlank_38 : decode b_MC_isBlank 38 = .ok (.iload 4, 2) := by decide +kernel
theorem d_MC_isBlank_40 : decode b_MC_isBlank 40 = .ok (.bipush 10, 2) := by decide +kernel
theorem d_MC_isBlank_42 : decode b_MC_isBlank 42 = .ok (.if_icmp .eq 5, 3) := by decide +kernel
theorem d_MC_isBlank_45 : decode b_MC_isBlank 45 = .ok (.iconst 0, 1) := by decide +kernel
theorem d_MC_isBlank_46 : decode b_MC_isBlank 46 = .ok (.ireturn, 1) := by decide +kernel
theorem d_MC_isBlank_47 : decode b_MC_isBlank 47 = .ok (.iinc 3 1, 3) := by decide +kernel
theorem d_MC_isBlank_50 : decode b_MC_isBlank 50 = .ok (.goto (-48), 3) := by decide +kernel
theorem d_MC_isBlank_53 : decode b_MC_isBlank 53 = .ok (.iconst 1, 1) := by decide +kernel
theorem d_MC_isBlank_54 : decode b_MC_isBlank 54 = .ok (.ireturn, 1) := by decide +kernel
theorem d_Reader_bytesBehind_0 : decode b_Reader_bytesBehind 0 = .ok (.iload_n 0, 1) := by decide +kernel
theorem d_Reader_bytesBehind_1 : decode b_Reader_bytesBehind 1 = .ok (.sipush 194, 3) := by decide +kernel
theorem d_Reader_bytesBehind_4 : decode b_Reader_bytesBehind 4 = .ok (.if_icmp .lt 10, 3) := by decide +kernel
theorem d_Reader_bytesBehind_7 : decode b_Reader_bytesBehind 7 = .ok (.iload_n 0, 1) := by decide +kernel
theorem d_Reader_bytesBehind_8 : decode b_Reader_bytesBehind 8 = .ok (.sipush 244, 3) := by decide +kernel
theorem d_Reader_bytesBehind_11 : decode b_Reader_bytesBehind 11 = .ok (.if_icmp .le 5, 3) := by decide +kernel
theorem d_Reader_bytesBehind_14 : decode b_Reader_bytesBehind 14 = .ok (.iconst 0, 1) := by decide +kernel
theorem d_Reader_bytesBehind_15 : decode b_Reader_bytesBehind 15 = .ok (.ireturn, 1) := by decide +kernel
theorem d_Reader_bytesBehind_16 : decode b_Reader_bytesBehind 16 = .ok (.iload_n 0, 1) := by decide +kernel
theorem d_Reader_bytesBehind_17 : decode b_Reader_bytesBehind 17 = .ok (.sipush 224, 3) := by decide +kernel
theorem d_Reader_bytesBehind_20 : decode b_Reader_bytesBehind 20 = .ok (.if_icmp .ge 5, 3) := by decide +kernel
theorem d_Reader_bytesBehind_23 : decode b_Reader_bytesBehind 23 = .ok (.iconst 1, 1) := by decide +kernel
theorem d_Reader_bytesBehind_24 : decode b_Reader_bytesBehind 24 = .ok (.ireturn, 1) := by decide +kernel
theorem d_Reader_bytesBehind_25 : decode b_Reader_bytesBehind 25 = .ok (.iload_n 0, 1) := by decide +kernel
theorem d_Reader_bytesBehind_26 : decode b_Reader_bytesBehind 26 = .ok (.sipush 240, 3) := by decide +kernel
theorem d_Reader_bytesBehind_29 : decode b_Reader_bytesBehind 29 = .ok (.if_icmp .ge 7, 3) := by decide +kernel
theorem d_Reader_bytesBehind_32 : decode b_Reader_bytesBehind 32 = .ok (.iconst 2, 1) := by decide +kernel
theorem d_Reader_bytesBehind_33 : decode b_Reader_bytesBehind 33 = .ok (.goto 4, 3) := by decide +kernel
theorem d_Reader_bytesBehind_36 : decode b_Reader_bytesBehind 36 = .ok (.iconst 3, 1) := by decide +kernel
theorem d_Reader_bytesBehind_37 : decode b_Reader_bytesBehind 37 = .ok (.ireturn, 1) := by decide +kernel
theorem d_Reader_lowestBehind_0 : decode b_Reader_lowestBehind 0 = .ok (.iload_n 0, 1) := by decide +kernel
theorem d_Reader_lowestBehind_1 : decode b_Reader_lowestBehind 1 = .ok (.sipush 224, 3) := by decide +kernel
theorem d_Reader_lowestBehind_4 : decode b_Reader_lowestBehind 4 = .ok (.if_icmp .ne 7, 3) := by decide +kernel
theorem d_Reader_lowestBehind_7 : decode b_Reader_lowestBehind 7 = .ok (.sipush 160, 3) := by decide +kernel
theorem d_Reader_lowestBehind_10 : decode b_Reader_lowestBehind 10 = .ok (.ireturn, 1) := by decide +kernel
theorem d_Reader_lowestBehind_11 : decode b_Reader_lowestBehind 11 = .ok (.iload_n 0, 1) := by decide +kernel
theorem d_Reader_lowestBehind_12 : decode b_Reader_lowestBehind 12 = .ok (.sipush 240, 3) := by decide +kernel
theorem d_Reader_lowestBehind_15 : decode b_Reader_lowestBehind 15 = .ok (.if_icmp .ne 9, 3) := by decide +kernel
theorem d_Reader_lowestBehind_18 : decode b_Reader_lowestBehind 18 = .ok (.sipush 144, 3) := by decide +kernel
theorem d_Reader_lowestBehind_21 : decode b_Reader_lowestBehind 21 = .ok (.goto 6, 3) := by decide +kernel
theorem d_Reader_lowestBehind_24 : decode b_Reader_lowestBehind 24 = .ok (.sipush 128, 3) := by decide +kernel
theorem d_Reader_lowestBehind_27 : decode b_Reader_lowestBehind 27 = .ok (.ireturn, 1) := by decide +kernel
theorem d_Reader_highestBehind_0 : decode b_Reader_highestBehind 0 = .ok (.iload_n 0, 1) := by decide +kernel
theorem d_Reader_highestBehind_1 : decode b_Reader_highestBehind 1 = .ok (.sipush 237, 3) := by decide +kernel
theorem d_Reader_highestBehind_4 : decode b_Reader_highestBehind 4 = .ok (.if_icmp .ne 7, 3) := by decide +kernel
theorem d_Reader_highestBehind_7 : decode b_Reader_highestBehind 7 = .ok (.sipush 159, 3) := by decide +kernel
theorem d_Reader_highestBehind_10 : decode b_Reader_highestBehind 10 = .ok (.ireturn, 1) := by decide +kernel
theorem d_Reader_highestBehind_11 : decode b_Reader_highestBehind 11 = .ok (.iload_n 0, 1) := by decide +kernel
theorem d_Reader_highestBehind_12 : decode b_Reader_highestBehind 12 = .ok (.sipush 244, 3) := by decide +kernel
theorem d_Reader_highestBehind_15 : decode b_Reader_highestBehind 15 = .ok (.if_icmp .ne 9, 3) := by decide +kernel
theorem d_Reader_highestBehind_18 : decode b_Reader_highestBehind 18 = .ok (.sipush 143, 3) := by decide +kernel
theorem d_Reader_highestBehind_21 : decode b_Reader_highestBehind 21 = .ok (.goto 6, 3) := by decide +kernel
theorem d_Reader_highestBehind_24 : decode b_Reader_highestBehind 24 = .ok (.sipush 191, 3) := by decide +kernel
theorem d_Reader_highestBehind_27 : decode b_Reader_highestBehind 27 = .ok (.ireturn, 1) := by decide +kernel
theorem d_Reader_endUnits_0 : decode b_Reader_endUnits 0 = .ok (.aload_n 0, 1) := by decide +kernel
theorem d_Reader_endUnits_1 : decode b_Reader_endUnits 1 = .ok (.getfield 94, 3) := by decide +kernel
theorem d_Reader_endUnits_4 : decode b_Reader_endUnits 4 = .ok (.ifCond .eq 14, 3) := by decide +kernel
theorem d_Reader_endUnits_7 : decode b_Reader_endUnits 7 = .ok (.aload_n 1, 1) := by decide +kernel
theorem d_Reader_endUnits_8 : decode b_Reader_endUnits 8 = .ok (.ldc 52, 2) := by decide +kernel
theorem d_Reader_endUnits_10 : decode b_Reader_endUnits 10 = .ok (.invokevirtual 48, 3) := by decide +kernel
theorem d_Reader_endUnits_13 : decode b_Reader_endUnits 13 = .ok (.aload_n 0, 1) := by decide +kernel
theorem d_Reader_endUnits_14 : decode b_Reader_endUnits 14 = .ok (.iconst 0, 1) := by decide +kernel
theorem d_Reader_endUnits_15 : decode b_Reader_endUnits 15 = .ok (.putfield 94, 3) := by decide +kernel
theorem d_Reader_endUnits_18 : decode b_Reader_endUnits 18 = .ok (.return_, 1) := by decide +kernel
theorem d_Letters_sixBitsOf_0 : decode b_Letters_sixBitsOf 0 = .ok (.iload_n 0, 1) := by decide +kernel
theorem d_Letters_sixBitsOf_1 : decode b_Letters_sixBitsOf 1 = .ok (.bipush 65, 2) := by decide +kernel
theorem d_Letters_sixBitsOf_3 : decode b_Letters_sixBitsOf 3 = .ok (.if_icmp .lt 14, 3) := by decide +kernel
theorem d_Letters_sixBitsOf_6 : decode b_Letters_sixBitsOf 6 = .ok (.iload_n 0, 1) := by decide +kernel
theorem d_Letters_sixBitsOf_7 : decode b_Letters_sixBitsOf 7 = .ok (.bipush 90, 2) := by decide +kernel
theorem d_Letters_sixBitsOf_9 : decode b_Letters_sixBitsOf 9 = .ok (.if_icmp .gt 8, 3) := by decide +kernel
theorem d_Letters_sixBitsOf_12 : decode b_Letters_sixBitsOf 12 = .ok (.iload_n 0, 1) := by decide +kernel
theorem d_Letters_sixBitsOf_13 : decode b_Letters_sixBitsOf 13 = .ok (.bipush 65, 2) := by decide +kernel
theorem d_Letters_sixBitsOf_15 : decode b_Letters_sixBitsOf 15 = .ok (.isub, 1) := by decide +kernel
theorem d_Letters_sixBitsOf_16 : decode b_Letters_sixBitsOf 16 = .ok (.ireturn, 1) := by decide +kernel
theorem d_Letters_sixBitsOf_17 : decode b_Letters_sixBitsOf 17 = .ok (.iload_n 0, 1) := by decide +kernel
theorem d_Letters_sixBitsOf_18 : decode b_Letters_sixBitsOf 18 = .ok (.bipush 97, 2) := by decide +kernel
theorem d_Letters_sixBitsOf_20 : decode b_Letters_sixBitsOf 20 = .ok (.if_icmp .lt 17, 3) := by decide +kernel
theorem d_Letters_sixBitsOf_23 : decode b_Letters_sixBitsOf 23 = .ok (.iload_n 0, 1) := by decide +kernel
theorem d_Letters_sixBitsOf_24 : decode b_Letters_sixBitsOf 24 = .ok (.bipush 122, 2) := by decide +kernel
theorem d_Letters_sixBitsOf_26 : decode b_Letters_sixBitsOf 26 = .ok (.if_icmp .gt 11, 3) := by decide +kernel
theorem d_Letters_sixBitsOf_29 : decode b_Letters_sixBitsOf 29 = .ok (.iload_n 0, 1) := by decide +kernel
theorem d_Letters_sixBitsOf_30 : decode b_Letters_sixBitsOf 30 = .ok (.bipush 97, 2) := by decide +kernel
theorem d_Letters_sixBitsOf_32 : decode b_Letters_sixBitsOf 32 = .ok (.isub, 1) := by decide +kernel
theorem d_Letters_sixBitsOf_33 : decode b_Letters_sixBitsOf 33 = .ok (.bipush 26, 2) := by decide +kernel
theorem d_Letters_sixBitsOf_35 : decode b_Letters_sixBitsOf 35 = .ok (.iadd, 1) := by decide +kernel
theorem d_Letters_sixBitsOf_36 : decode b_Letters_sixBitsOf 36 = .ok (.ireturn, 1) := by decide +kernel
theorem d_Letters_sixBitsOf_37 : decode b_Letters_sixBitsOf 37 = .ok (.iload_n 0, 1) := by decide +kernel
theorem d_Letters_sixBitsOf_38 : decode b_Letters_sixBitsOf 38 = .ok (.bipush 48, 2) := by decide +kernel
theorem d_Letters_sixBitsOf_40 : decode b_Letters_sixBitsOf 40 = .ok (.if_icmp .lt 17, 3) := by decide +kernel
theorem d_Letters_sixBitsOf_43 : decode b_Letters_sixBitsOf 43 = .ok (.iload_n 0, 1) := by decide +kernel
theorem d_Letters_sixBitsOf_44 : decode b_Letters_sixBitsOf 44 = .ok (.bipush 57, 2) := by decide +kernel
theorem d_Letters_sixBitsOf_46 : decode b_Letters_sixBitsOf 46 = .ok (.if_icmp .gt 11, 3) := by decide +kernel
theorem d_Letters_sixBitsOf_49 : decode b_Letters_sixBitsOf 49 = .ok (.iload_n 0, 1) := by decide +kernel
theorem d_Letters_sixBitsOf_50 : decode b_Letters_sixBitsOf 50 = .ok (.bipush 48, 2) := by decide +kernel
theorem d_Letters_sixBitsOf_52 : decode b_Letters_sixBitsOf 52 = .ok (.isub, 1) := by decide +kernel
theorem d_Letters_sixBitsOf_53 : decode b_Letters_sixBitsOf 53 = .ok (.bipush 52, 2) := by decide +kernel
theorem d_Letters_sixBitsOf_55 : decode b_Letters_sixBitsOf 55 = .ok (.iadd, 1) := by decide +kernel
theorem d_Letters_sixBitsOf_56 : decode b_Letters_sixBitsOf 56 = .ok (.ireturn, 1) := by decide +kernel
theorem d_Letters_sixBitsOf_57 : decode b_Letters_sixBitsOf 57 = .ok (.iload_n 0, 1) := by decide +kernel
theorem d_Letters_sixBitsOf_58 : decode b_Letters_sixBitsOf 58 = .ok (.bipush 43, 2) := by decide +kernel
theorem d_Letters_sixBitsOf_60 : decode b_Letters_sixBitsOf 60 = .ok (.if_icmp .ne 6, 3) := by decide +kernel
theorem d_Letters_sixBitsOf_63 : decode b_Letters_sixBitsOf 63 = .ok (.bipush 62, 2) := by decide +kernel
theorem d_Letters_sixBitsOf_65 : decode b_Letters_sixBitsOf 65 = .ok (.ireturn, 1) := by decide +kernel
theorem d_Letters_sixBitsOf_66 : decode b_Letters_sixBitsOf 66 = .ok (.iload_n 0, 1) := by decide +kernel
theorem d_Letters_sixBitsOf_67 : decode b_Letters_sixBitsOf 67 = .ok (.bipush 47, 2) := by decide +kernel
theorem d_Letters_sixBitsOf_69 : decode b_Letters_sixBitsOf 69 = .ok (.if_icmp .ne 8, 3) := by decide +kernel
theorem d_Letters_sixBitsOf_72 : decode b_Letters_sixBitsOf 72 = .ok (.bipush 63, 2) := by decide +kernel
theorem d_Letters_sixBitsOf_74 : decode b_Letters_sixBitsOf 74 = .ok (.goto 4, 3) := by decide +kernel
theorem d_Letters_sixBitsOf_77 : decode b_Letters_sixBitsOf 77 = .ok (.iconst (-1), 1) := by decide +kernel
theorem d_Letters_sixBitsOf_78 : decode b_Letters_sixBitsOf 78 = .ok (.ireturn, 1) := by decide +kernel
theorem d_Bits_add_0 : decode b_Bits_add 0 = .ok (.aload_n 0, 1) := by decide +kernel
theorem d_Bits_add_1 : decode b_Bits_add 1 = .ok (.aload_n 0, 1) := by decide +kernel
theorem d_Bits_add_2 : decode b_Bits_add 2 = .ok (.getfield 7, 3) := by decide +kernel
theorem d_Bits_add_5 : decode b_Bits_add 5 = .ok (.iload_n 2, 1) := by decide +kernel
theorem d_Bits_add_6 : decode b_Bits_add 6 = .ok (.ishl, 1) := by decide +kernel
theorem d_Bits_add_7 : decode b_Bits_add 7 = .ok (.iload_n 1, 1) := by decide +kernel
theorem d_Bits_add_8 : decode b_Bits_add 8 = .ok (.ior, 1) := by decide +kernel
theorem d_Bits_add_9 : decode b_Bits_add 9 = .ok (.putfield 7, 3) := by decide +kernel
theorem d_Bits_add_12 : decode b_Bits_add 12 = .ok (.aload_n 0, 1) := by decide +kernel
theorem d_Bits_add_13 : decode b_Bits_add 13 = .ok (.dup, 1) := by decide +kernel
theorem d_Bits_add_14 : decode b_Bits_add 14 = .ok (.getfield 13, 3) := by decide +kernel
theorem d_Bits_add_17 : decode b_Bits_add 17 = .ok (.iload_n 2, 1) := by decide +kernel
theorem d_Bits_add_18 : decode b_Bits_add 18 = .ok (.iadd, 1) := by decide +kernel
theorem d_Bits_add_19 : decode b_Bits_add 19 = .ok (.putfield 13, 3) := by decide +kernel
theorem d_Bits_add_22 : decode b_Bits_add 22 = .ok (.return_, 1) := by decide +kernel
theorem d_Bits_has_0 : decode b_Bits_has 0 = .ok (.aload_n 0, 1) := by decide +kernel
theorem d_Bits_has_1 : decode b_Bits_has 1 = .ok (.getfield 13, 3) := by decide +kernel
theorem d_Bits_has_4 : decode b_Bits_has 4 = .ok (.iload_n 1, 1) := by decide +kernel
theorem d_Bits_has_5 : decode b_Bits_has 5 = .ok (.if_icmp .lt 7, 3) := by decide +kernel
theorem d_Bits_has_8 : decode b_Bits_has 8 = .ok (.iconst 1, 1) := by decide +kernel
theorem d_Bits_has_9 : decode b_Bits_has 9 = .ok (.goto 4, 3) := by decide +kernel
theorem d_Bits_has_12 : decode b_Bits_has 12 = .ok (.iconst 0, 1) := by decide +kernel
theorem d_Bits_has_13 : decode b_Bits_has 13 = .ok (.ireturn, 1) := by decide +kernel
theorem d_Bits_take_0 : decode b_Bits_take 0 = .ok (.aload_n 0, 1) := by decide +kernel
theorem d_Bits_take_1 : decode b_Bits_take 1 = .ok (.dup, 1) := by decide +kernel
theorem d_Bits_take_2 : decode b_Bits_take 2 = .ok (.getfield 13, 3) := by decide +kernel
theorem d_Bits_take_5 : decode b_Bits_take 5 = .ok (.iload_n 1, 1) := by decide +kernel
theorem d_Bits_take_6 : decode b_Bits_take 6 = .ok (.isub, 1) := by decide +kernel
theorem d_Bits_take_7 : decode b_Bits_take 7 = .ok (.putfield 13, 3) := by decide +kernel
theorem d_Bits_take_10 : decode b_Bits_take 10 = .ok (.aload_n 0, 1) := by decide +kernel
theorem d_Bits_take_11 : decode b_Bits_take 11 = .ok (.getfield 7, 3) := by decide +kernel
theorem d_Bits_take_14 : decode b_Bits_take 14 = .ok (.aload_n 0, 1) := by decide +kernel
theorem d_Bits_take_15 : decode b_Bits_take 15 = .ok (.getfield 13, 3) := by decide +kernel
theorem d_Bits_take_18 : decode b_Bits_take 18 = .ok (.ishr, 1) := by decide +kernel
theorem d_Bits_take_19 : decode b_Bits_take 19 = .ok (.iconst 1, 1) := by decide +kernel
theorem d_Bits_take_20 : decode b_Bits_take 20 = .ok (.iload_n 1, 1) := by decide +kernel
theorem d_Bits_take_21 : decode b_Bits_take 21 = .ok (.ishl, 1) := by decide +kernel
theorem d_Bits_take_22 : decode b_Bits_take 22 = .ok (.iconst 1, 1) := by decide +kernel
theorem d_Bits_take_23 : decode b_Bits_take 23 = .ok (.isub, 1) := by decide +kernel
theorem d_Bits_take_24 : decode b_Bits_take 24 = .ok (.iand, 1) := by decide +kernel
theorem d_Bits_take_25 : decode b_Bits_take 25 = .ok (.ireturn, 1) := by decide +kernel
theorem d_Bits_clear_0 : decode b_Bits_clear 0 = .ok (.aload_n 0, 1) := by decide +kernel
theorem d_Bits_clear_1 : decode b_Bits_clear 1 = .ok (.iconst 0, 1) := by decide +kernel
theorem d_Bits_clear_2 : decode b_Bits_clear 2 = .ok (.putfield 7, 3) := by decide +kernel
theorem d_Bits_clear_5 : decode b_Bits_clear 5 = .ok (.aload_n 0, 1) := by decide +kernel
theorem d_Bits_clear_6 : decode b_Bits_clear 6 = .ok (.iconst 0, 1) := by decide +kernel
theorem d_Bits_clear_7 : decode b_Bits_clear 7 = .ok (.putfield 13, 3) := by decide +kernel
theorem d_Bits_clear_10 : decode b_Bits_clear 10 = .ok (.return_, 1) := by decide +kernel
theorem d_SingleBytes_latin9CharacterOf_0 : decode b_SingleBytes_latin9CharacterOf 0 = .ok (.iconst 0, 1) := by decide +kernel
theorem d_SingleBytes_latin9CharacterOf_1 : decode b_SingleBytes_latin9CharacterOf 1 = .ok (.istore_n 1, 1) := by decide +kernel
theorem d_SingleBytes_latin9CharacterOf_2 : decode b_SingleBytes_latin9CharacterOf 2 = .ok (.iload_n 1, 1) := by decide +kernel
theorem d_SingleBytes_latin9CharacterOf_3 : decode b_SingleBytes_latin9CharacterOf 3 = .ok (.iconst 1, 1) := by decide +kernel
theorem d_SingleBytes_latin9CharacterOf_4 : decode b_SingleBytes_latin9CharacterOf 4 = .ok (.iadd, 1) := by decide +kernel
theorem d_SingleBytes_latin9CharacterOf_5 : decode b_SingleBytes_latin9CharacterOf 5 = .ok (.getstatic 36, 3) := by decide +kernel
theorem d_SingleBytes_latin9CharacterOf_8 : decode b_SingleBytes_latin9CharacterOf 8 = .ok (.arraylength, 1) := by decide +kernel
theorem d_SingleBytes_latin9CharacterOf_9 : decode b_SingleBytes_latin9CharacterOf 9 = .ok (.if_icmp .ge 26, 3) := by decide +kernel
theorem d_SingleBytes_latin9CharacterOf_12 : decode b_SingleBytes_latin9CharacterOf 12 = .ok (.getstatic 36, 3) := by decide +kernel
theorem d_SingleBytes_latin9CharacterOf_15 : decode b_SingleBytes_latin9CharacterOf 15 = .ok (.iload_n 1, 1) := by decide +kernel
theorem d_SingleBytes_latin9CharacterOf_16 : decode b_SingleBytes_latin9CharacterOf 16 = .ok (.iaload, 1) := by decide +kernel
theorem d_SingleBytes_latin9CharacterOf_17 : decode b_SingleBytes_latin9CharacterOf 17 = .ok (.iload_n 0, 1) := by decide +kernel
theorem d_SingleBytes_latin9CharacterOf_18 : decode b_SingleBytes_latin9CharacterOf 18 = .ok (.if_icmp .ne 11, 3) := by decide +kernel
theorem d_SingleBytes_latin9CharacterOf_21 : decode b_SingleBytes_latin9CharacterOf 21 = .ok (.getstatic 36, 3) := by decide +kernel
theorem d_SingleBytes_latin9CharacterOf_24 : decode b_SingleBytes_latin9CharacterOf 24 = .ok (.iload_n 1, 1) := by decide +kernel
theorem d_SingleBytes_latin9CharacterOf_25 : decode b_SingleBytes_latin9CharacterOf 25 = .ok (.iconst 1, 1) := by decide +kernel
theorem d_SingleBytes_latin9CharacterOf_26 : decode b_SingleBytes_latin9CharacterOf 26 = .ok (.iadd, 1) := by decide +kernel
theorem d_SingleBytes_latin9CharacterOf_27 : decode b_SingleBytes_latin9CharacterOf 27 = .ok (.iaload, 1) := by decide +kernel
theorem d_SingleBytes_latin9CharacterOf_28 : decode b_SingleBytes_latin9CharacterOf 28 = .ok (.ireturn, 1) := by decide +kernel
theorem d_SingleBytes_latin9CharacterOf_29 : decode b_SingleBytes_latin9CharacterOf 29 = .ok (.iinc 1 2, 3) := by decide +kernel
theorem d_SingleBytes_latin9CharacterOf_32 : decode b_SingleBytes_latin9CharacterOf 32 = .ok (.goto (-30), 3) := by decide +kernel
theorem d_SingleBytes_latin9CharacterOf_35 : decode b_SingleBytes_latin9CharacterOf 35 = .ok (.iload_n 0, 1) := by decide +kernel
theorem d_SingleBytes_latin9CharacterOf_36 : decode b_SingleBytes_latin9CharacterOf 36 = .ok (.ireturn, 1) := by decide +kernel
theorem d_SingleBytes_inRow_0 : decode b_SingleBytes_inRow 0 = .ok (.iload_n 1, 1) := by decide +kernel
theorem d_SingleBytes_inRow_1 : decode b_SingleBytes_inRow 1 = .ok (.ifCond .lt 15, 3) := by decide +kernel
theorem d_SingleBytes_inRow_4 : decode b_SingleBytes_inRow 4 = .ok (.iload_n 1, 1) := by decide +kernel
theorem d_SingleBytes_inRow_5 : decode b_SingleBytes_inRow 5 = .ok (.aload_n 0, 1) := by decide +kernel
theorem d_SingleBytes_inRow_6 : decode b_SingleBytes_inRow 6 = .ok (.arraylength, 1) := by decide +kernel
theorem d_SingleBytes_inRow_7 : decode b_SingleBytes_inRow 7 = .ok (.if_icmp .ge 9, 3) := by decide +kernel
theorem d_SingleBytes_inRow_10 : decode b_SingleBytes_inRow 10 = .ok (.aload_n 0, 1) := by decide +kernel
theorem d_SingleBytes_inRow_11 : decode b_SingleBytes_inRow 11 = .ok (.iload_n 1, 1) := by decide +kernel
theorem d_SingleBytes_inRow_12 : decode b_SingleBytes_inRow 12 = .ok (.iaload, 1) := by decide +kernel
theorem d_SingleBytes_inRow_13 : decode b_SingleBytes_inRow 13 = .ok (.goto 5, 3) := by decide +kernel
theorem d_SingleBytes_inRow_16 : decode b_SingleBytes_inRow 16 = .ok (.ldc 26, 2) := by decide +kernel
theorem d_SingleBytes_inRow_18 : decode b_SingleBytes_inRow 18 = .ok (.ireturn, 1) := by decide +kernel
theorem d_SingleBytes_koiCharacterOf_0 : decode b_SingleBytes_koiCharacterOf 0 = .ok (.iload_n 0, 1) := by decide +kernel
theorem d_SingleBytes_koiCharacterOf_1 : decode b_SingleBytes_koiCharacterOf 1 = .ok (.sipush 224, 3) := by decide +kernel
theorem d_SingleBytes_koiCharacterOf_4 : decode b_SingleBytes_koiCharacterOf 4 = .ok (.if_icmp .lt 18, 3) := by decide +kernel
theorem d_SingleBytes_koiCharacterOf_7 : decode b_SingleBytes_koiCharacterOf 7 = .ok (.getstatic 42, 3) := by decide +kernel
theorem d_SingleBytes_koiCharacterOf_10 : decode b_SingleBytes_koiCharacterOf 10 = .ok (.iload_n 0, 1) := by decide +kernel
theorem d_SingleBytes_koiCharacterOf_11 : decode b_SingleBytes_koiCharacterOf 11 = .ok (.sipush 224, 3) := by decide +kernel
theorem d_SingleBytes_koiCharacterOf_14 : decode b_SingleBytes_koiCharacterOf 14 = .ok (.isub, 1) := by decide +kernel
theorem d_SingleBytes_koiCharacterOf_15 : decode b_SingleBytes_koiCharacterOf 15 = .ok (.invokestatic 19, 3) := by decide +kernel
theorem d_SingleBytes_koiCharacterOf_18 : decode b_SingleBytes_koiCharacterOf 18 = .ok (.bipush 32, 2) := by decide +kernel
theorem d_SingleBytes_koiCharacterOf_20 : decode b_SingleBytes_koiCharacterOf 20 = .ok (.isub, 1) := by decide +kernel
theorem d_SingleBytes_koiCharacterOf_21 : decode b_SingleBytes_koiCharacterOf 21 = .ok (.ireturn, 1) := by decide +kernel
theorem d_SingleBytes_koiCharacterOf_22 : decode b_SingleBytes_koiCharacterOf 22 = .ok (.iload_n 0, 1) := by decide +kernel
theorem d_SingleBytes_koiCharacterOf_23 : decode b_SingleBytes_koiCharacterOf 23 = .ok (.sipush 192, 3) := by decide +kernel
theorem d_SingleBytes_koiCharacterOf_26 : decode b_SingleBytes_koiCharacterOf 26 = .ok (.if_icmp .lt 15, 3) := by decide +kernel
theorem d_SingleBytes_koiCharacterOf_29 : decode b_SingleBytes_koiCharacterOf 29 = .ok (.getstatic 42, 3) := by decide +kernel
theorem d_SingleBytes_koiCharacterOf_32 : decode b_SingleBytes_koiCharacterOf 32 = .ok (.iload_n 0, 1) := by decide +kernel
theorem d_SingleBytes_koiCharacterOf_33 : decode b_SingleBytes_koiCharacterOf 33 = .ok (.sipush 192, 3) := by decide +kernel
theorem d_SingleBytes_koiCharacterOf_36 : decode b_SingleBytes_koiCharacterOf 36 = .ok (.isub, 1) := by decide +kernel
theorem d_SingleBytes_koiCharacterOf_37 : decode b_SingleBytes_koiCharacterOf 37 = .ok (.invokestatic 19, 3) := by decide +kernel
theorem d_SingleBytes_koiCharacterOf_40 : decode b_SingleBytes_koiCharacterOf 40 = .ok (.ireturn, 1) := by decide +kernel
theorem d_SingleBytes_koiCharacterOf_41 : decode b_SingleBytes_koiCharacterOf 41 = .ok (.iload_n 0, 1) := by decide +kernel
theorem d_SingleBytes_koiCharacterOf_42 : decode b_SingleBytes_koiCharacterOf 42 = .ok (.sipush 163, 3) := by decide +kernel
theorem d_SingleBytes_koiCharacterOf_45 : decode b_SingleBytes_koiCharacterOf 45 = .ok (.if_icmp .ne 7, 3) := by decide +kernel
theorem d_SingleBytes_koiCharacterOf_48 : decode b_SingleBytes_koiCharacterOf 48 = .ok (.sipush 1105, 3) := by decide +kernel
theorem d_SingleBytes_koiCharacterOf_51 : decode b_SingleBytes_koiCharacterOf 51 = .ok (.ireturn, 1) := by decide +kernel
theorem d_SingleBytes_koiCharacterOf_52 : decode b_SingleBytes_koiCharacterOf 52 = .ok (.iload_n 0, 1) := by decide +kernel
theorem d_SingleBytes_koiCharacterOf_53 : decode b_SingleBytes_koiCharacterOf 53 = .ok (.sipush 179, 3) := by decide +kernel
theorem d_SingleBytes_koiCharacterOf_56 : decode b_SingleBytes_koiCharacterOf 56 = .ok (.if_icmp .ne 9, 3) := by decide +kernel
theorem d_SingleBytes_koiCharacterOf_59 : decode b_SingleBytes_koiCharacterOf 59 = .ok (.sipush 1025, 3) := by decide +kernel
theorem d_SingleBytes_koiCharacterOf_62 : decode b_SingleBytes_koiCharacterOf 62 = .ok (.goto 5, 3) := by decide +kernel
theorem d_SingleBytes_koiCharacterOf_65 : decode b_SingleBytes_koiCharacterOf 65 = .ok (.ldc 26, 2) := by decide +kernel
theorem d_SingleBytes_koiCharacterOf_67 : decode b_SingleBytes_koiCharacterOf 67 = .ok (.ireturn, 1) := by decide +kernel
theorem d_Uncoder_unbase_0 : decode b_Uncoder_unbase 0 = .ok (.aload_n 0, 1) := by decide +kernel
theorem d_Uncoder_unbase_1 : decode b_Uncoder_unbase 1 = .ok (.getfield 12, 3) := by decide +kernel
theorem d_Uncoder_unbase_4 : decode b_Uncoder_unbase 4 = .ok (.invokevirtual 59, 3) := by decide +kernel
theorem d_Uncoder_unbase_7 : decode b_Uncoder_unbase 7 = .ok (.iload_n 2, 1) := by decide +kernel
theorem d_Uncoder_unbase_8 : decode b_Uncoder_unbase 8 = .ok (.istore 5, 2) := by decide +kernel
theorem d_Uncoder_unbase_10 : decode b_Uncoder_unbase 10 = .ok (.iload 5, 2) := by decide +kernel
theorem d_Uncoder_unbase_12 : decode b_Uncoder_unbase 12 = .ok (.iload_n 3, 1) := by decide +kernel
theorem d_Uncoder_unbase_13 : decode b_Uncoder_unbase 13 = .ok (.if_icmp .ge 75, 3) := by decide +kernel
theorem d_Uncoder_unbase_16 : decode b_Uncoder_unbase 16 = .ok (.aload_n 1, 1) := by decide +kernel
theorem d_Uncoder_unbase_17 : decode b_Uncoder_unbase 17 = .ok (.iload 5, 2) := by decide +kernel
theorem d_Uncoder_unbase_19 : decode b_Uncoder_unbase 19 = .ok (.invokevirtual 62, 3) := by decide +kernel
theorem d_Uncoder_unbase_22 : decode b_Uncoder_unbase 22 = .ok (.istore 6, 2) := by decide +kernel
theorem d_Uncoder_unbase_24 : decode b_Uncoder_unbase 24 = .ok (.iload 6, 2) := by decide +kernel
theorem d_Uncoder_unbase_26 : decode b_Uncoder_unbase 26 = .ok (.bipush 61, 2) := by decide +kernel
theorem d_Uncoder_unbase_28 : decode b_Uncoder_unbase 28 = .ok (.if_icmp .ne 4, 3) := by decide +kernel
theorem d_Uncoder_unbase_31 : decode b_Uncoder_unbase 31 = .ok (.return_, 1) := by decide +kernel
theorem d_Uncoder_unbase_32 : decode b_Uncoder_unbase 32 = .ok (.iload 6, 2) := by decide +kernel
theorem d_Uncoder_unbase_34 : decode b_Uncoder_unbase 34 = .ok (.invokestatic 66, 3) := by decide +kernel
theorem d_Uncoder_unbase_37 : decode b_Uncoder_unbase 37 = .ok (.istore 7, 2) := by decide +kernel
theorem d_Uncoder_unbase_39 : decode b_Uncoder_unbase 39 = .ok (.iload 7, 2) := by decide +kernel
theorem d_Uncoder_unbase_41 : decode b_Uncoder_unbase 41 = .ok (.iconst (-1), 1) := by decide +kernel
theorem d_Uncoder_unbase_42 : decode b_Uncoder_unbase 42 = .ok (.if_icmp .eq 14, 3) := by decide +kernel
theorem d_Uncoder_unbase_45 : decode b_Uncoder_unbase 45 = .ok (.aload_n 0, 1) := by decide +kernel
theorem d_Uncoder_unbase_46 : decode b_Uncoder_unbase 46 = .ok (.getfield 12, 3) := by decide +kernel
theorem d_Uncoder_unbase_49 : decode b_Uncoder_unbase 49 = .ok (.iload 7, 2) := by decide +kernel
theorem d_Uncoder_unbase_51 : decode b_Uncoder_unbase 51 = .ok (.bipush 6, 2) := by decide +kernel
theorem d_Uncoder_unbase_53 : decode b_Uncoder_unbase 53 = .ok (.invokevirtual 71, 3) := by decide +kernel
theorem d_Uncoder_unbase_56 : decode b_Uncoder_unbase 56 = .ok (.aload_n 0, 1) := by decide +kernel
theorem d_Uncoder_unbase_57 : decode b_Uncoder_unbase 57 = .ok (.getfield 12, 3) := by decide +kernel
theorem d_Uncoder_unbase_60 : decode b_Uncoder_unbase 60 = .ok (.bipush 8, 2) := by decide +kernel
theorem d_Uncoder_unbase_62 : decode b_Uncoder_unbase 62 = .ok (.invokevirtual 75, 3) := by decide +kernel
theorem d_Uncoder_unbase_65 : decode b_Uncoder_unbase 65 = .ok (.ifCond .eq 17, 3) := by decide +kernel
theorem d_Uncoder_unbase_68 : decode b_Uncoder_unbase 68 = .ok (.aload 4, 2) := by decide +kernel
theorem d_Uncoder_unbase_70 : decode b_Uncoder_unbase 70 = .ok (.aload_n 0, 1) := by decide +kernel
theorem d_Uncoder_unbase_71 : decode b_Uncoder_unbase 71 = .ok (.getfield 12, 3) := by decide +kernel
theorem d_Uncoder_unbase_74 : decode b_Uncoder_unbase 74 = .ok (.bipush 8, 2) := by decide +kernel
theorem d_Uncoder_unbase_76 : decode b_Uncoder_unbase 76 = .ok (.invokevirtual 79, 3) := by decide +kernel
theorem d_Uncoder_unbase_79 : decode b_Uncoder_unbase 79 = .ok (.invokevirtual 82, 3) := by decide +kernel
theorem d_Uncoder_unbase_82 : decode b_Uncoder_unbase 82 = .ok (.iinc 5 1, 3) := by decide +kernel
theorem d_Uncoder_unbase_85 : decode b_Uncoder_unbase 85 = .ok (.goto (-75), 3) := by decide +kernel
theorem d_Uncoder_unbase_88 : decode b_Uncoder_unbase 88 = .ok (.return_, 1) := by decide +kernel
theorem d_Letters_hexOf_0 : decode b_Letters_hexOf 0 = .ok (.iload_n 0, 1) := by decide +kernel
theorem d_Letters_hexOf_1 : decode b_Letters_hexOf 1 = .ok (.bipush 48, 2) := by decide +kernel
theorem d_Letters_hexOf_3 : decode b_Letters_hexOf 3 = .ok (.if_icmp .lt 14, 3) := by decide +kernel
theorem d_Letters_hexOf_6 : decode b_Letters_hexOf 6 = .ok (.iload_n 0, 1) := by decide +kernel
theorem d_Letters_hexOf_7 : decode b_Letters_hexOf 7 = .ok (.bipush 57, 2) := by decide +kernel
theorem d_Letters_hexOf_9 : decode b_Letters_hexOf 9 = .ok (.if_icmp .gt 8, 3) := by decide +kernel
theorem d_Letters_hexOf_12 : decode b_Letters_hexOf 12 = .ok (.iload_n 0, 1) := by decide +kernel
theorem d_Letters_hexOf_13 : decode b_Letters_hexOf 13 = .ok (.bipush 48, 2) := by decide +kernel
theorem d_Letters_hexOf_15 : decode b_Letters_hexOf 15 = .ok (.isub, 1) := by decide +kernel
theorem d_Letters_hexOf_16 : decode b_Letters_hexOf 16 = .ok (.ireturn, 1) := by decide +kernel
theorem d_Letters_hexOf_17 : decode b_Letters_hexOf 17 = .ok (.iload_n 0, 1) := by decide +kernel
theorem d_Letters_hexOf_18 : decode b_Letters_hexOf 18 = .ok (.bipush 65, 2) := by decide +kernel
theorem d_Letters_hexOf_20 : decode b_Letters_hexOf 20 = .ok (.if_icmp .lt 17, 3) := by decide +kernel
theorem d_Letters_hexOf_23 : decode b_Letters_hexOf 23 = .ok (.iload_n 0, 1) := by decide +kernel
theorem d_Letters_hexOf_24 : decode b_Letters_hexOf 24 = .ok (.bipush 70, 2) := by decide +kernel
theorem d_Letters_hexOf_26 : decode b_Letters_hexOf 26 = .ok (.if_icmp .gt 11, 3) := by decide +kernel
theorem d_Letters_hexOf_29 : decode b_Letters_hexOf 29 = .ok (.iload_n 0, 1) := by decide +kernel
theorem d_Letters_hexOf_30 : decode b_Letters_hexOf 30 = .ok (.bipush 65, 2) := by decide +kernel
theorem d_Letters_hexOf_32 : decode b_Letters_hexOf 32 = .ok (.isub, 1) := by decide +kernel
theorem d_Letters_hexOf_33 : decode b_Letters_hexOf 33 = .ok (.bipush 10, 2) := by decide +kernel
theorem d_Letters_hexOf_35 : decode b_Letters_hexOf 35 = .ok (.iadd, 1) := by decide +kernel
theorem d_Letters_hexOf_36 : decode b_Letters_hexOf 36 = .ok (.ireturn, 1) := by decide +kernel
theorem d_Letters_hexOf_37 : decode b_Letters_hexOf 37 = .ok (.iload_n 0, 1) := by decide +kernel
theorem d_Letters_hexOf_38 : decode b_Letters_hexOf 38 = .ok (.bipush 97, 2) := by decide +kernel
theorem d_Letters_hexOf_40 : decode b_Letters_hexOf 40 = .ok (.if_icmp .lt 19, 3) := by decide +kernel
theorem d_Letters_hexOf_43 : decode b_Letters_hexOf 43 = .ok (.iload_n 0, 1) := by decide +kernel
theorem d_Letters_hexOf_44 : decode b_Letters_hexOf 44 = .ok (.bipush 102, 2) := by decide +kernel
theorem d_Letters_hexOf_46 : decode b_Letters_hexOf 46 = .ok (.if_icmp .gt 13, 3) := by decide +kernel
theorem d_Letters_hexOf_49 : decode b_Letters_hexOf 49 = .ok (.iload_n 0, 1) := by decide +kernel
theorem d_Letters_hexOf_50 : decode b_Letters_hexOf 50 = .ok (.bipush 97, 2) := by decide +kernel
theorem d_Letters_hexOf_52 : decode b_Letters_hexOf 52 = .ok (.isub, 1) := by decide +kernel
theorem d_Letters_hexOf_53 : decode b_Letters_hexOf 53 = .ok (.bipush 10, 2) := by decide +kernel
theorem d_Letters_hexOf_55 : decode b_Letters_hexOf 55 = .ok (.iadd, 1) := by decide +kernel
theorem d_Letters_hexOf_56 : decode b_Letters_hexOf 56 = .ok (.goto 4, 3) := by decide +kernel
theorem d_Letters_hexOf_59 : decode b_Letters_hexOf 59 = .ok (.iconst (-1), 1) := by decide +kernel
theorem d_Letters_hexOf_60 : decode b_Letters_hexOf 60 = .ok (.ireturn, 1) := by decide +kernel
theorem d_MC_byteAt_0 : decode b_MC_byteAt 0 = .ok (.aload_n 0, 1) := by decide +kernel
theorem d_MC_byteAt_1 : decode b_MC_byteAt 1 = .ok (.getfield 57, 3) := by decide +kernel
theorem d_MC_byteAt_4 : decode b_MC_byteAt 4 = .ok (.iload_n 1, 1) := by decide +kernel
theorem d_MC_byteAt_5 : decode b_MC_byteAt 5 = .ok (.invokevirtual 142, 3) := by decide +kernel
theorem d_MC_byteAt_8 : decode b_MC_byteAt 8 = .ok (.ireturn, 1) := by decide +kernel
theorem d_MC_at_0 : decode b_MC_at 0 = .ok (.aload_n 0, 1) := by decide +kernel
theorem d_MC_at_1 : decode b_MC_at 1 = .ok (.getfield 18, 3) := by decide +kernel
theorem d_MC_at_4 : decode b_MC_at 4 = .ok (.iload_n 1, 1) := by decide +kernel
theorem d_MC_at_5 : decode b_MC_at 5 = .ok (.invokevirtual 142, 3) := by decide +kernel
theorem d_MC_at_8 : decode b_MC_at 8 = .ok (.ireturn, 1) := by decide +kernel
theorem d_Row_countOf_0 : decode b_Row_countOf 0 = .ok (.iconst 0, 1) := by decide +kernel
theorem d_Row_countOf_1 : decode b_Row_countOf 1 = .ok (.istore_n 2, 1) := by decide +kernel
theorem d_Row_countOf_2 : decode b_Row_countOf 2 = .ok (.iconst 0, 1) := by decide +kernel
theorem d_Row_countOf_3 : decode b_Row_countOf 3 = .ok (.istore_n 3, 1) := by decide +kernel
theorem d_Row_countOf_4 : decode b_Row_countOf 4 = .ok (.iload_n 3, 1) := by decide +kernel
theorem d_Row_countOf_5 : decode b_Row_countOf 5 = .ok (.aload_n 0, 1) := by decide +kernel
theorem d_Row_countOf_6 : decode b_Row_countOf 6 = .ok (.getfield 21, 3) := by decide +kernel
theorem d_Row_countOf_9 : decode b_Row_countOf 9 = .ok (.if_icmp .ge 21, 3) := by decide +kernel
theorem d_Row_countOf_12 : decode b_Row_countOf 12 = .ok (.aload_n 0, 1) := by decide +kernel
theorem d_Row_countOf_13 : decode b_Row_countOf 13 = .ok (.iload_n 3, 1) := by decide +kernel
theorem d_Row_countOf_14 : decode b_Row_countOf 14 = .ok (.invokevirtual 29, 3) := by decide +kernel
theorem d_Row_countOf_17 : decode b_Row_countOf 17 = .ok (.iload_n 1, 1) := by decide +kernel
theorem d_Row_countOf_18 : decode b_Row_countOf 18 = .ok (.if_icmp .ne 6, 3) := by decide +kernel
theorem d_Row_countOf_21 : decode b_Row_countOf 21 = .ok (.iinc 2 1, 3) := by decide +kernel
theorem d_Row_countOf_24 : decode b_Row_countOf 24 = .ok (.iinc 3 1, 3) := by decide +kernel
theorem d_Row_countOf_27 : decode b_Row_countOf 27 = .ok (.goto (-23), 3) := by decide +kernel
theorem d_Row_countOf_30 : decode b_Row_countOf 30 = .ok (.iload_n 2, 1) := by decide +kernel
theorem d_Row_countOf_31 : decode b_Row_countOf 31 = .ok (.ireturn, 1) := by decide +kernel
theorem d_Line_goToStart_0 : decode b_Line_goToStart 0 = .ok (.aload_n 0, 1) := by decide +kernel
theorem d_Line_goToStart_1 : decode b_Line_goToStart 1 = .ok (.iconst 0, 1) := by decide +kernel
theorem d_Line_goToStart_2 : decode b_Line_goToStart 2 = .ok (.putfield 9, 3) := by decide +kernel
theorem d_Line_goToStart_5 : decode b_Line_goToStart 5 = .ok (.return_, 1) := by decide +kernel
theorem d_Line_step_0 : decode b_Line_step 0 = .ok (.aload_n 0, 1) := by decide +kernel
theorem d_Line_step_1 : decode b_Line_step 1 = .ok (.getfield 9, 3) := by decide +kernel
theorem d_Line_step_4 : decode b_Line_step 4 = .ok (.aload_n 1, 1) := by decide +kernel
theorem d_Line_step_5 : decode b_Line_step 5 = .ok (.invokevirtual 15, 3) := by decide +kernel
theorem d_Line_step_8 : decode b_Line_step 8 = .ok (.if_icmp .lt 5, 3) := by decide +kernel
theorem d_Line_step_11 : decode b_Line_step 11 = .ok (.iconst 0, 1) := by decide +kernel
theorem d_Line_step_12 : decode b_Line_step 12 = .ok (.ireturn, 1) := by decide +kernel
theorem d_Line_step_13 : decode b_Line_step 13 = .ok (.aload_n 0, 1) := by decide +kernel
theorem d_Line_step_14 : decode b_Line_step 14 = .ok (.aload_n 0, 1) := by decide +kernel
theorem d_Line_step_15 : decode b_Line_step 15 = .ok (.getfield 9, 3) := by decide +kernel
theorem d_Line_step_18 : decode b_Line_step 18 = .ok (.putfield 21, 3) := by decide +kernel
theorem d_Line_step_21 : decode b_Line_step 21 = .ok (.aload_n 0, 1) := by decide +kernel
theorem d_Line_step_22 : decode b_Line_step 22 = .ok (.aload_n 1, 1) := by decide +kernel
theorem d_Line_step_23 : decode b_Line_step 23 = .ok (.invokevirtual 15, 3) := by decide +kernel
theorem d_Line_step_26 : decode b_Line_step 26 = .ok (.putfield 24, 3) := by decide +kernel
theorem d_Line_step_29 : decode b_Line_step 29 = .ok (.aload_n 0, 1) := by decide +kernel
theorem d_Line_step_30 : decode b_Line_step 30 = .ok (.getfield 21, 3) := by decide +kernel
theorem d_Line_step_33 : decode b_Line_step 33 = .ok (.istore_n 2, 1) := by decide +kernel
theorem d_Line_step_34 : decode b_Line_step 34 = .ok (.iload_n 2, 1) := by decide +kernel
theorem d_Line_step_35 : decode b_Line_step 35 = .ok (.aload_n 1, 1) := by decide +kernel
theorem d_Line_step_36 : decode b_Line_step 36 = .ok (.invokevirtual 15, 3) := by decide +kernel
theorem d_Line_step_39 : decode b_Line_step 39 = .ok (.if_icmp .ge 27, 3) := by decide +kernel
theorem d_Line_step_42 : decode b_Line_step 42 = .ok (.aload_n 1, 1) := by decide +kernel
theorem d_Line_step_43 : decode b_Line_step 43 = .ok (.iload_n 2, 1) := by decide +kernel
theorem d_Line_step_44 : decode b_Line_step 44 = .ok (.invokevirtual 27, 3) := by decide +kernel
theorem d_Line_step_47 : decode b_Line_step 47 = .ok (.bipush 10, 2) := by decide +kernel
theorem d_Line_step_49 : decode b_Line_step 49 = .ok (.if_icmp .ne 11, 3) := by decide +kernel
theorem d_Line_step_52 : decode b_Line_step 52 = .ok (.aload_n 0, 1) := by decide +kernel
theorem d_Line_step_53 : decode b_Line_step 53 = .ok (.iload_n 2, 1) := by decide +kernel
theorem d_Line_step_54 : decode b_Line_step 54 = .ok (.putfield 24, 3) := by decide +kernel
theorem d_Line_step_57 : decode b_Line_step 57 = .ok (.goto 9, 3) := by decide +kernel
theorem d_Line_step_60 : decode b_Line_step 60 = .ok (.iinc 2 1, 3) := by decide +kernel
theorem d_Line_step_63 : decode b_Line_step 63 = .ok (.goto (-29), 3) := by decide +kernel
theorem d_Line_step_66 : decode b_Line_step 66 = .ok (.aload_n 0, 1) := by decide +kernel
theorem d_Line_step_67 : decode b_Line_step 67 = .ok (.aload_n 0, 1) := by decide +kernel
theorem d_Line_step_68 : decode b_Line_step 68 = .ok (.getfield 24, 3) := by decide +kernel
theorem d_Line_step_71 : decode b_Line_step 71 = .ok (.aload_n 1, 1) := by decide +kernel
theorem d_Line_step_72 : decode b_Line_step 72 = .ok (.invokevirtual 15, 3) := by decide +kernel
theorem d_Line_step_75 : decode b_Line_step 75 = .ok (.if_icmp .ge 7, 3) := by decide +kernel
theorem d_Line_step_78 : decode b_Line_step 78 = .ok (.iconst 1, 1) := by decide +kernel
theorem d_Line_step_79 : decode b_Line_step 79 = .ok (.goto 4, 3) := by decide +kernel
theorem d_Line_step_82 : decode b_Line_step 82 = .ok (.iconst 0, 1) := by decide +kernel
theorem d_Line_step_83 : decode b_Line_step 83 = .ok (.putfield 31, 3) := by decide +kernel
theorem d_Line_step_86 : decode b_Line_step 86 = .ok (.aload_n 0, 1) := by decide +kernel
theorem d_Line_step_87 : decode b_Line_step 87 = .ok (.aload_n 0, 1) := by decide +kernel
theorem d_Line_step_88 : decode b_Line_step 88 = .ok (.getfield 24, 3) := by decide +kernel
theorem d_Line_step_91 : decode b_Line_step 91 = .ok (.iconst 1, 1) := by decide +kernel
theorem d_Line_step_92 : decode b_Line_step 92 = .ok (.iadd, 1) := by decide +kernel
theorem d_Line_step_93 : decode b_Line_step 93 = .ok (.putfield 9, 3) := by decide +kernel
theorem d_Line_step_96 : decode b_Line_step 96 = .ok (.aload_n 0, 1) := by decide +kernel
theorem d_Line_step_97 : decode b_Line_step 97 = .ok (.getfield 31, 3) := by decide +kernel
theorem d_Line_step_100 : decode b_Line_step 100 = .ok (.ifCond .eq 39, 3) := by decide +kernel
theorem d_Line_step_103 : decode b_Line_step 103 = .ok (.aload_n 0, 1) := by decide +kernel
theorem d_Line_step_104 : decode b_Line_step 104 = .ok (.getfield 24, 3) := by decide +kernel
theorem d_Line_step_107 : decode b_Line_step 107 = .ok (.aload_n 0, 1) := by decide +kernel
theorem d_Line_step_108 : decode b_Line_step 108 = .ok (.getfield 21, 3) := by decide +kernel
theorem d_Line_step_111 : decode b_Line_step 111 = .ok (.if_icmp .le 28, 3) := by decide +kernel
theorem d_Line_step_114 : decode b_Line_step 114 = .ok (.aload_n 1, 1) := by decide +kernel
theorem d_Line_step_115 : decode b_Line_step 115 = .ok (.aload_n 0, 1) := by decide +kernel
theorem d_Line_step_116 : decode b_Line_step 116 = .ok (.getfield 24, 3) := by decide +kernel
theorem d_Line_step_119 : decode b_Line_step 119 = .ok (.iconst 1, 1) := by decide +kernel
theorem d_Line_step_120 : decode b_Line_step 120 = .ok (.isub, 1) := by decide +kernel
theorem d_Line_step_121 : decode b_Line_step 121 = .ok (.invokevirtual 27, 3) := by decide +kernel
theorem d_Line_step_124 : decode b_Line_step 124 = .ok (.bipush 13, 2) := by decide +kernel
theorem d_Line_step_126 : decode b_Line_step 126 = .ok (.if_icmp .ne 13, 3) := by decide +kernel
theorem d_Line_step_129 : decode b_Line_step 129 = .ok (.aload_n 0, 1) := by decide +kernel
theorem d_Line_step_130 : decode b_Line_step 130 = .ok (.dup, 1) := by decide +kernel
theorem d_Line_step_131 : decode b_Line_step 131 = .ok (.getfield 24, 3) := by decide +kernel
theorem d_Line_step_134 : decode b_Line_step 134 = .ok (.iconst 1, 1) := by decide +kernel
theorem d_Line_step_135 : decode b_Line_step 135 = .ok (.isub, 1) := by decide +kernel
theorem d_Line_step_136 : decode b_Line_step 136 = .ok (.putfield 24, 3) := by decide +kernel
theorem d_Line_step_139 : decode b_Line_step 139 = .ok (.iconst 1, 1) := by decide +kernel
theorem d_Line_step_140 : decode b_Line_step 140 = .ok (.ireturn, 1) := by decide +kernel
theorem d_Uncoder_withoutBlanks_0 : decode b_Uncoder_withoutBlanks 0 = .ok (.iload_n 2, 1) := by decide +kernel
theorem d_Uncoder_withoutBlanks_1 : decode b_Uncoder_withoutBlanks 1 = .ok (.istore_n 3, 1) := by decide +kernel
theorem d_Uncoder_withoutBlanks_2 : decode b_Uncoder_withoutBlanks 2 = .ok (.iload_n 3, 1) := by decide +kernel
theorem d_Uncoder_withoutBlanks_3 : decode b_Uncoder_withoutBlanks 3 = .ok (.iload_n 1, 1) := by decide +kernel
theorem d_Uncoder_withoutBlanks_4 : decode b_Uncoder_withoutBlanks 4 = .ok (.if_icmp .le 34, 3) := by decide +kernel
theorem d_Uncoder_withoutBlanks_7 : decode b_Uncoder_withoutBlanks 7 = .ok (.aload_n 0, 1) := by decide +kernel
theorem d_Uncoder_withoutBlanks_8 : decode b_Uncoder_withoutBlanks 8 = .ok (.iload_n 3, 1) := by decide +kernel
theorem d_Uncoder_withoutBlanks_9 : decode b_Uncoder_withoutBlanks 9 = .ok (.iconst 1, 1) := by decide +kernel
theorem d_Uncoder_withoutBlanks_10 : decode b_Uncoder_withoutBlanks 10 = .ok (.isub, 1) := by decide +kernel
theorem d_Uncoder_withoutBlanks_11 : decode b_Uncoder_withoutBlanks 11 = .ok (.invokevirtual 62, 3) := by decide +kernel
theorem d_Uncoder_withoutBlanks_14 : decode b_Uncoder_withoutBlanks 14 = .ok (.istore 4, 2) := by decide +kernel
theorem d_Uncoder_withoutBlanks_16 : decode b_Uncoder_withoutBlanks 16 = .ok (.iload 4, 2) := by decide +kernel
theorem d_Uncoder_withoutBlanks_18 : decode b_Uncoder_withoutBlanks 18 = .ok (.bipush 32, 2) := by decide +kernel
theorem d_Uncoder_withoutBlanks_20 : decode b_Uncoder_withoutBlanks 20 = .ok (.if_icmp .eq 12, 3) := by decide +kernel
theorem d_Uncoder_withoutBlanks_23 : decode b_Uncoder_withoutBlanks 23 = .ok (.iload 4, 2) := by decide +kernel
theorem d_Uncoder_withoutBlanks_25 : decode b_Uncoder_withoutBlanks 25 = .ok (.bipush 9, 2) := by decide +kernel
theorem d_Uncoder_withoutBlanks_27 : decode b_Uncoder_withoutBlanks 27 = .ok (.if_icmp .eq 5, 3) := by decide +kernel
theorem d_Uncoder_withoutBlanks_30 : decode b_Uncoder_withoutBlanks 30 = .ok (.iload_n 3, 1) := by decide +kernel
theorem d_Uncoder_withoutBlanks_31 : decode b_Uncoder_withoutBlanks 31 = .ok (.ireturn, 1) := by decide +kernel
theorem d_Uncoder_withoutBlanks_32 : decode b_Uncoder_withoutBlanks 32 = .ok (.iinc 3 (-1), 3) := by decide +kernel
theorem d_Uncoder_withoutBlanks_35 : decode b_Uncoder_withoutBlanks 35 = .ok (.goto (-33), 3) := by decide +kernel
theorem d_Uncoder_withoutBlanks_38 : decode b_Uncoder_withoutBlanks 38 = .ok (.iload_n 1, 1) := by decide +kernel
theorem d_Uncoder_withoutBlanks_39 : decode b_Uncoder_withoutBlanks 39 = .ok (.ireturn, 1) := by decide +kernel
theorem d_Line_length_0 : decode b_Line_length 0 = .ok (.aload_n 0, 1) := by decide +kernel
theorem d_Line_length_1 : decode b_Line_length 1 = .ok (.getfield 24, 3) := by decide +kernel
theorem d_Line_length_4 : decode b_Line_length 4 = .ok (.aload_n 0, 1) := by decide +kernel
theorem d_Line_length_5 : decode b_Line_length 5 = .ok (.getfield 21, 3) := by decide +kernel
theorem d_Line_length_8 : decode b_Line_length 8 = .ok (.isub, 1) := by decide +kernel
theorem d_Line_length_9 : decode b_Line_length 9 = .ok (.ireturn, 1) := by decide +kernel
theorem d_Line_begins_0 : decode b_Line_begins 0 = .ok (.iconst 0, 1) := by decide +kernel
theorem d_Line_begins_1 : decode b_Line_begins 1 = .ok (.istore_n 3, 1) := by decide +kernel
theorem d_Line_begins_2 : decode b_Line_begins 2 = .ok (.iload_n 3, 1) := by decide +kernel
theorem d_Line_begins_3 : decode b_Line_begins 3 = .ok (.aload_n 2, 1) := by decide +kernel
theorem d_Line_begins_4 : decode b_Line_begins 4 = .ok (.invokevirtual 35, 3) := by decide +kernel
theorem d_Line_begins_7 : decode b_Line_begins 7 = .ok (.if_icmp .ge 29, 3) := by decide +kernel
theorem d_Line_begins_10 : decode b_Line_begins 10 = .ok (.aload_n 1, 1) := by decide +kernel
theorem d_Line_begins_11 : decode b_Line_begins 11 = .ok (.aload_n 0, 1) := by decide +kernel
theorem d_Line_begins_12 : decode b_Line_begins 12 = .ok (.getfield 21, 3) := by decide +kernel
theorem d_Line_begins_15 : decode b_Line_begins 15 = .ok (.iload_n 3, 1) := by decide +kernel
theorem d_Line_begins_16 : decode b_Line_begins 16 = .ok (.iadd, 1) := by decide +kernel
theorem d_Line_begins_17 : decode b_Line_begins 17 = .ok (.invokevirtual 27, 3) := by decide +kernel
theorem d_Line_begins_20 : decode b_Line_begins 20 = .ok (.aload_n 2, 1) := by decide +kernel
theorem d_Line_begins_21 : decode b_Line_begins 21 = .ok (.iload_n 3, 1) := by decide +kernel
theorem d_Line_begins_22 : decode b_Line_begins 22 = .ok (.invokevirtual 40, 3) := by decide +kernel
theorem d_Line_begins_25 : decode b_Line_begins 25 = .ok (.if_icmp .eq 5, 3) := by decide +kernel
theorem d_Line_begins_28 : decode b_Line_begins 28 = .ok (.iconst 0, 1) := by decide +kernel
theorem d_Line_begins_29 : decode b_Line_begins 29 = .ok (.ireturn, 1) := by decide +kernel
theorem d_Line_begins_30 : decode b_Line_begins 30 = .ok (.iinc 3 1, 3) := by decide +kernel
theorem d_Line_begins_33 : decode b_Line_begins 33 = .ok (.goto (-31), 3) := by decide +kernel
theorem d_Line_begins_36 : decode b_Line_begins 36 = .ok (.iconst 1, 1) := by decide +kernel
theorem d_Line_begins_37 : decode b_Line_begins 37 = .ok (.ireturn, 1) := by decide +kernel
theorem d_Uncoder_hexValue_0 : decode b_Uncoder_hexValue 0 = .ok (.iload_n 0, 1) := by decide +kernel
theorem d_Uncoder_hexValue_1 : decode b_Uncoder_hexValue 1 = .ok (.bipush 32, 2) := by decide +kernel
theorem d_Uncoder_hexValue_3 : decode b_Uncoder_hexValue 3 = .ok (.isub, 1) := by decide +kernel
theorem d_Uncoder_hexValue_4 : decode b_Uncoder_hexValue 4 = .ok (.bipush 63, 2) := by decide +kernel
theorem d_Uncoder_hexValue_6 : decode b_Uncoder_hexValue 6 = .ok (.iand, 1) := by decide +kernel
theorem d_Uncoder_hexValue_7 : decode b_Uncoder_hexValue 7 = .ok (.ireturn, 1) := by decide +kernel
theorem d_Uncoder_unhexLine_0 : decode b_Uncoder_unhexLine 0 = .ok (.aload_n 1, 1) := by decide +kernel
theorem d_Uncoder_unhexLine_1 : decode b_Uncoder_unhexLine 1 = .ok (.aload_n 0, 1) := by decide +kernel
theorem d_Uncoder_unhexLine_2 : decode b_Uncoder_unhexLine 2 = .ok (.getfield 21, 3) := by decide +kernel
theorem d_Uncoder_unhexLine_5 : decode b_Uncoder_unhexLine 5 = .ok (.getfield 93, 3) := by decide +kernel
theorem d_Uncoder_unhexLine_8 : decode b_Uncoder_unhexLine 8 = .ok (.invokevirtual 62, 3) := by decide +kernel
theorem d_Uncoder_unhexLine_11 : decode b_Uncoder_unhexLine 11 = .ok (.invokestatic 125, 3) := by decide +kernel
theorem d_Uncoder_unhexLine_14 : decode b_Uncoder_unhexLine 14 = .ok (.istore_n 3, 1) := by decide +kernel
theorem d_Uncoder_unhexLine_15 : decode b_Uncoder_unhexLine 15 = .ok (.aload_n 0, 1) := by decide +kernel
theorem d_Uncoder_unhexLine_16 : decode b_Uncoder_unhexLine 16 = .ok (.getfield 21, 3) := by decide +kernel
theorem d_Uncoder_unhexLine_19 : decode b_Uncoder_unhexLine 19 = .ok (.invokevirtual 105, 3) := by decide +kernel
theorem d_Uncoder_unhexLine_22 : decode b_Uncoder_unhexLine 22 = .ok (.iconst 1, 1) := by decide +kernel
theorem d_Uncoder_unhexLine_23 : decode b_Uncoder_unhexLine 23 = .ok (.isub, 1) := by decide +kernel
theorem d_Uncoder_unhexLine_24 : decode b_Uncoder_unhexLine 24 = .ok (.istore 4, 2) := by decide +kernel
theorem d_Uncoder_unhexLine_26 : decode b_Uncoder_unhexLine 26 = .ok (.iload 4, 2) := by decide +kernel
theorem d_Uncoder_unhexLine_28 : decode b_Uncoder_unhexLine 28 = .ok (.iconst 3, 1) := by decide +kernel
theorem d_Uncoder_unhexLine_29 : decode b_Uncoder_unhexLine 29 = .ok (.iadd, 1) := by decide +kernel
theorem d_Uncoder_unhexLine_30 : decode b_Uncoder_unhexLine 30 = .ok (.iconst 4, 1) := by decide +kernel
theorem d_Uncoder_unhexLine_31 : decode b_Uncoder_unhexLine 31 = .ok (.idiv, 1) := by decide +kernel
theorem d_Uncoder_unhexLine_32 : decode b_Uncoder_unhexLine 32 = .ok (.iconst 4, 1) := by decide +kernel
theorem d_Uncoder_unhexLine_33 : decode b_Uncoder_unhexLine 33 = .ok (.imul, 1) := by decide +kernel
theorem d_Uncoder_unhexLine_34 : decode b_Uncoder_unhexLine 34 = .ok (.istore 5, 2) := by decide +kernel
theorem d_Uncoder_unhexLine_36 : decode b_Uncoder_unhexLine 36 = .ok (.aload_n 0, 1) := by decide +kernel
theorem d_Uncoder_unhexLine_37 : decode b_Uncoder_unhexLine 37 = .ok (.getfield 12, 3) := by decide +kernel
theorem d_Uncoder_unhexLine_40 : decode b_Uncoder_unhexLine 40 = .ok (.invokevirtual 59, 3) := by decide +kernel
theorem d_Uncoder_unhexLine_43 : decode b_Uncoder_unhexLine 43 = .ok (.iconst 0, 1) := by decide +kernel
theorem d_Uncoder_unhexLine_44 : decode b_Uncoder_unhexLine 44 = .ok (.istore 6, 2) := by decide +kernel
theorem d_Uncoder_unhexLine_46 : decode b_Uncoder_unhexLine 46 = .ok (.iload 6, 2) := by decide +kernel
theorem d_Uncoder_unhexLine_48 : decode b_Uncoder_unhexLine 48 = .ok (.iload 5, 2) := by decide +kernel
theorem d_Uncoder_unhexLine_50 : decode b_Uncoder_unhexLine 50 = .ok (.if_icmp .ge 80, 3) := by decide +kernel
theorem d_Uncoder_unhexLine_53 : decode b_Uncoder_unhexLine 53 = .ok (.iload_n 3, 1) := by decide +kernel
theorem d_Uncoder_unhexLine_54 : decode b_Uncoder_unhexLine 54 = .ok (.ifCond .le 76, 3) := by decide +kernel
theorem d_Uncoder_unhexLine_57 : decode b_Uncoder_unhexLine 57 = .ok (.aload_n 0, 1) := by decide +kernel
theorem d_Uncoder_unhexLine_58 : decode b_Uncoder_unhexLine 58 = .ok (.getfield 12, 3) := by decide +kernel
theorem d_Uncoder_unhexLine_61 : decode b_Uncoder_unhexLine 61 = .ok (.iload 6, 2) := by decide +kernel
theorem d_Uncoder_unhexLine_63 : decode b_Uncoder_unhexLine 63 = .ok (.iload 4, 2) := by decide +kernel
theorem d_Uncoder_unhexLine_65 : decode b_Uncoder_unhexLine 65 = .ok (.if_icmp .ge 25, 3) := by decide +kernel
theorem d_Uncoder_unhexLine_68 : decode b_Uncoder_unhexLine 68 = .ok (.aload_n 1, 1) := by decide +kernel
theorem d_Uncoder_unhexLine_69 : decode b_Uncoder_unhexLine 69 = .ok (.aload_n 0, 1) := by decide +kernel
theorem d_Uncoder_unhexLine_70 : decode b_Uncoder_unhexLine 70 = .ok (.getfield 21, 3) := by decide +kernel
theorem d_Uncoder_unhexLine_73 : decode b_Uncoder_unhexLine 73 = .ok (.getfield 93, 3) := by decide +kernel
theorem d_Uncoder_unhexLine_76 : decode b_Uncoder_unhexLine 76 = .ok (.iconst 1, 1) := by decide +kernel
theorem d_Uncoder_unhexLine_77 : decode b_Uncoder_unhexLine 77 = .ok (.iadd, 1) := by decide +kernel
theorem d_Uncoder_unhexLine_78 : decode b_Uncoder_unhexLine 78 = .ok (.iload 6, 2) := by decide +kernel
theorem d_Uncoder_unhexLine_80 : decode b_Uncoder_unhexLine 80 = .ok (.iadd, 1) := by decide +kernel
theorem d_Uncoder_unhexLine_81 : decode b_Uncoder_unhexLine 81 = .ok (.invokevirtual 62, 3) := by decide +kernel
theorem d_Uncoder_unhexLine_84 : decode b_Uncoder_unhexLine 84 = .ok (.invokestatic 125, 3) := by decide +kernel
theorem d_Uncoder_unhexLine_87 : decode b_Uncoder_unhexLine 87 = .ok (.goto 4, 3) := by decide +kernel
theorem d_Uncoder_unhexLine_90 : decode b_Uncoder_unhexLine 90 = .ok (.iconst 0, 1) := by decide +kernel
theorem d_Uncoder_unhexLine_91 : decode b_Uncoder_unhexLine 91 = .ok (.bipush 6, 2) := by decide +kernel
theorem d_Uncoder_unhexLine_93 : decode b_Uncoder_unhexLine 93 = .ok (.invokevirtual 71, 3) := by decide +kernel
theorem d_Uncoder_unhexLine_96 : decode b_Uncoder_unhexLine 96 = .ok (.aload_n 0, 1) := by decide +kernel
theorem d_Uncoder_unhexLine_97 : decode b_Uncoder_unhexLine 97 = .ok (.getfield 12, 3) := by decide +kernel
theorem d_Uncoder_unhexLine_100 : decode b_Uncoder_unhexLine 100 = .ok (.bipush 8, 2) := by decide +kernel
theorem d_Uncoder_unhexLine_102 : decode b_Uncoder_unhexLine 102 = .ok (.invokevirtual 75, 3) := by decide +kernel
theorem d_Uncoder_unhexLine_105 : decode b_Uncoder_unhexLine 105 = .ok (.ifCond .eq 19, 3) := by decide +kernel
theorem d_Uncoder_unhexLine_108 : decode b_Uncoder_unhexLine 108 = .ok (.aload_n 2, 1) := by decide +kernel
theorem d_Uncoder_unhexLine_109 : decode b_Uncoder_unhexLine 109 = .ok (.aload_n 0, 1) := by decide +kernel
theorem d_Uncoder_unhexLine_110 : decode b_Uncoder_unhexLine 110 = .ok (.getfield 12, 3) := by decide +kernel
theorem d_Uncoder_unhexLine_113 : decode b_Uncoder_unhexLine 113 = .ok (.bipush 8, 2) := by decide +kernel
theorem d_Uncoder_unhexLine_115 : decode b_Uncoder_unhexLine 115 = .ok (.invokevirtual 79, 3) := by decide +kernel
theorem d_Uncoder_unhexLine_118 : decode b_Uncoder_unhexLine 118 = .ok (.invokevirtual 82, 3) := by decide +kernel
theorem d_Uncoder_unhexLine_121 : decode b_Uncoder_unhexLine 121 = .ok (.iinc 3 (-1), 3) := by decide +kernel
theorem d_Uncoder_unhexLine_124 : decode b_Uncoder_unhexLine 124 = .ok (.iinc 6 1, 3) := by decide +kernel
theorem d_Uncoder_unhexLine_127 : decode b_Uncoder_unhexLine 127 = .ok (.goto (-81), 3) := by decide +kernel
theorem d_Uncoder_unhexLine_130 : decode b_Uncoder_unhexLine 130 = .ok (.return_, 1) := by decide +kernel
theorem d_MC_swapTapes_0 : decode b_MC_swapTapes 0 = .ok (.aload_n 0, 1) := by decide +kernel
theorem d_MC_swapTapes_1 : decode b_MC_swapTapes 1 = .ok (.getfield 57, 3) := by decide +kernel
theorem d_MC_swapTapes_4 : decode b_MC_swapTapes 4 = .ok (.astore_n 1, 1) := by decide +kernel
theorem d_MC_swapTapes_5 : decode b_MC_swapTapes 5 = .ok (.aload_n 0, 1) := by decide +kernel
theorem d_MC_swapTapes_6 : decode b_MC_swapTapes 6 = .ok (.aload_n 0, 1) := by decide +kernel
theorem d_MC_swapTapes_7 : decode b_MC_swapTapes 7 = .ok (.getfield 60, 3) := by decide +kernel
theorem d_MC_swapTapes_10 : decode b_MC_swapTapes 10 = .ok (.putfield 57, 3) := by decide +kernel
theorem d_MC_swapTapes_13 : decode b_MC_swapTapes 13 = .ok (.aload_n 0, 1) := by decide +kernel
theorem d_MC_swapTapes_14 : decode b_MC_swapTapes 14 = .ok (.aload_n 1, 1) := by decide +kernel
theorem d_MC_swapTapes_15 : decode b_MC_swapTapes 15 = .ok (.putfield 60, 3) := by decide +kernel
theorem d_MC_swapTapes_18 : decode b_MC_swapTapes 18 = .ok (.return_, 1) := by decide +kernel
theorem d_MC_isCharset_0 : decode b_MC_isCharset 0 = .ok (.iload_n 0, 1) := by decide +kernel
theorem d_MC_isCharset_1 : decode b_MC_isCharset 1 = .ok (.ifCond .lt 13, 3) := by decide +kernel
theorem d_MC_isCharset_4 : decode b_MC_isCharset 4 = .ok (.iload_n 0, 1) := by decide +kernel
theorem d_MC_isCharset_5 : decode b_MC_isCharset 5 = .ok (.bipush 9, 2) := by decide +kernel
theorem d_MC_isCharset_7 : decode b_MC_isCharset 7 = .ok (.if_icmp .gt 7, 3) := by decide +kernel
theorem d_MC_isCharset_10 : decode b_MC_isCharset 10 = .ok (.iconst 1, 1) := by decide +kernel
theorem d_MC_isCharset_11 : decode b_MC_isCharset 11 = .ok (.goto 4, 3) := by decide +kernel
theorem d_MC_isCharset_14 : decode b_MC_isCharset 14 = .ok (.iconst 0, 1) := by decide +kernel
theorem d_MC_isCharset_15 : decode b_MC_isCharset 15 = .ok (.ireturn, 1) := by decide +kernel
theorem d_Writer_goesInRun_0 : decode b_Writer_goesInRun 0 = .ok (.iload_n 0, 1) := by decide +kernel
theorem d_Writer_goesInRun_1 : decode b_Writer_goesInRun 1 = .ok (.bipush 9, 2) := by decide +kernel
theorem d_Writer_goesInRun_3 : decode b_Writer_goesInRun 3 = .ok (.if_icmp .eq 15, 3) := by decide +kernel
theorem d_Writer_goesInRun_6 : decode b_Writer_goesInRun 6 = .ok (.iload_n 0, 1) := by decide +kernel
theorem d_Writer_goesInRun_7 : decode b_Writer_goesInRun 7 = .ok (.bipush 10, 2) := by decide +kernel
theorem d_Writer_goesInRun_9 : decode b_Writer_goesInRun 9 = .ok (.if_icmp .eq 9, 3) := by decide +kernel
theorem d_Writer_goesInRun_12 : decode b_Writer_goesInRun 12 = .ok (.iload_n 0, 1) := by decide +kernel
theorem d_Writer_goesInRun_13 : decode b_Writer_goesInRun 13 = .ok (.bipush 13, 2) := by decide +kernel
theorem d_Writer_goesInRun_15 : decode b_Writer_goesInRun 15 = .ok (.if_icmp .ne 5, 3) := by decide +kernel
theorem d_Writer_goesInRun_18 : decode b_Writer_goesInRun 18 = .ok (.iconst 0, 1) := by decide +kernel
theorem d_Writer_goesInRun_19 : decode b_Writer_goesInRun 19 = .ok (.ireturn, 1) := by decide +kernel
theorem d_Writer_goesInRun_20 : decode b_Writer_goesInRun 20 = .ok (.iload_n 0, 1) := by decide +kernel
theorem d_Writer_goesInRun_21 : decode b_Writer_goesInRun 21 = .ok (.bipush 32, 2) := by decide +kernel
theorem d_Writer_goesInRun_23 : decode b_Writer_goesInRun 23 = .ok (.if_icmp .lt 21, 3) := by decide +kernel
theorem d_Writer_goesInRun_26 : decode b_Writer_goesInRun 26 = .ok (.iload_n 0, 1) := by decide +kernel
theorem d_Writer_goesInRun_27 : decode b_Writer_goesInRun 27 = .ok (.bipush 126, 2) := by decide +kernel
theorem d_Writer_goesInRun_29 : decode b_Writer_goesInRun 29 = .ok (.if_icmp .gt 15, 3) := by decide +kernel
theorem d_Writer_goesInRun_32 : decode b_Writer_goesInRun 32 = .ok (.iload_n 0, 1) := by decide +kernel
theorem d_Writer_goesInRun_33 : decode b_Writer_goesInRun 33 = .ok (.bipush 92, 2) := by decide +kernel
theorem d_Writer_goesInRun_35 : decode b_Writer_goesInRun 35 = .ok (.if_icmp .eq 9, 3) := by decide +kernel
theorem d_Writer_goesInRun_38 : decode b_Writer_goesInRun 38 = .ok (.iload_n 0, 1) := by decide +kernel
theorem d_Writer_goesInRun_39 : decode b_Writer_goesInRun 39 = .ok (.bipush 126, 2) := by decide +kernel
theorem d_Writer_goesInRun_41 : decode b_Writer_goesInRun 41 = .ok (.if_icmp .ne 7, 3) := by decide +kernel
theorem d_Writer_goesInRun_44 : decode b_Writer_goesInRun 44 = .ok (.iconst 1, 1) := by decide +kernel
theorem d_Writer_goesInRun_45 : decode b_Writer_goesInRun 45 = .ok (.goto 4, 3) := by decide +kernel
theorem d_Writer_goesInRun_48 : decode b_Writer_goesInRun 48 = .ok (.iconst 0, 1) := by decide +kernel
theorem d_Writer_goesInRun_49 : decode b_Writer_goesInRun 49 = .ok (.ireturn, 1) := by decide +kernel
theorem d_Writer_unitsOf_0 : decode b_Writer_unitsOf 0 = .ok (.iload_n 0, 1) := by decide +kernel
theorem d_Writer_unitsOf_1 : decode b_Writer_unitsOf 1 = .ok (.ldc 53, 2) := by decide +kernel
theorem d_Writer_unitsOf_3 : decode b_Writer_unitsOf 3 = .ok (.if_icmp .ge 7, 3) := by decide +kernel
theorem d_Writer_unitsOf_6 : decode b_Writer_unitsOf 6 = .ok (.iconst 1, 1) := by decide +kernel
theorem d_Writer_unitsOf_7 : decode b_Writer_unitsOf 7 = .ok (.goto 4, 3) := by decide +kernel
theorem d_Writer_unitsOf_10 : decode b_Writer_unitsOf 10 = .ok (.iconst 2, 1) := by decide +kernel
theorem d_Writer_unitsOf_11 : decode b_Writer_unitsOf 11 = .ok (.ireturn, 1) := by decide +kernel
theorem d_Writer_directWidthOf_0 : decode b_Writer_directWidthOf 0 = .ok (.iload_n 0, 1) := by decide +kernel
theorem d_Writer_directWidthOf_1 : decode b_Writer_directWidthOf 1 = .ok (.bipush 43, 2) := by decide +kernel
theorem d_Writer_directWidthOf_3 : decode b_Writer_directWidthOf 3 = .ok (.if_icmp .ne 7, 3) := by decide +kernel
theorem d_Writer_directWidthOf_6 : decode b_Writer_directWidthOf 6 = .ok (.iconst 2, 1) := by decide +kernel
theorem d_Writer_directWidthOf_7 : decode b_Writer_directWidthOf 7 = .ok (.goto 4, 3) := by decide +kernel
theorem d_Writer_directWidthOf_10 : decode b_Writer_directWidthOf 10 = .ok (.iconst 1, 1) := by decide +kernel
theorem d_Writer_directWidthOf_11 : decode b_Writer_directWidthOf 11 = .ok (.ireturn, 1) := by decide +kernel
theorem d_Writer_unitOf_0 : decode b_Writer_unitOf 0 = .ok (.iload_n 0, 1) := by decide +kernel
theorem d_Writer_unitOf_1 : decode b_Writer_unitOf 1 = .ok (.invokestatic 50, 3) := by decide +kernel
theorem d_Writer_unitOf_4 : decode b_Writer_unitOf 4 = .ok (.iconst 1, 1) := by decide +kernel
theorem d_Writer_unitOf_5 : decode b_Writer_unitOf 5 = .ok (.if_icmp .ne 5, 3) := by decide +kernel
theorem d_Writer_unitOf_8 : decode b_Writer_unitOf 8 = .ok (.iload_n 0, 1) := by decide +kernel
theorem d_Writer_unitOf_9 : decode b_Writer_unitOf 9 = .ok (.ireturn, 1) := by decide +kernel
theorem d_Writer_unitOf_10 : decode b_Writer_unitOf 10 = .ok (.iload_n 1, 1) := by decide +kernel
theorem d_Writer_unitOf_11 : decode b_Writer_unitOf 11 = .ok (.ifCond .ne 16, 3) := by decide +kernel
theorem d_Writer_unitOf_14 : decode b_Writer_unitOf 14 = .ok (.ldc 54, 2) := by decide +kernel
theorem d_Writer_unitOf_16 : decode b_Writer_unitOf 16 = .ok (.iload_n 0, 1) := by decide +kernel
theorem d_Writer_unitOf_17 : decode b_Writer_unitOf 17 = .ok (.ldc 53, 2) := by decide +kernel
theorem d_Writer_unitOf_19 : decode b_Writer_unitOf 19 = .ok (.isub, 1) := by decide +kernel
theorem d_Writer_unitOf_20 : decode b_Writer_unitOf 20 = .ok (.bipush 10, 2) := by decide +kernel
theorem d_Writer_unitOf_22 : decode b_Writer_unitOf 22 = .ok (.ishr, 1) := by decide +kernel
theorem d_Writer_unitOf_23 : decode b_Writer_unitOf 23 = .ok (.iadd, 1) := by decide +kernel
theorem d_Writer_unitOf_24 : decode b_Writer_unitOf 24 = .ok (.goto 14, 3) := by decide +kernel
theorem d_Writer_unitOf_27 : decode b_Writer_unitOf 27 = .ok (.ldc 55, 2) := by decide +kernel
theorem d_Writer_unitOf_29 : decode b_Writer_unitOf 29 = .ok (.iload_n 0, 1) := by decide +kernel
theorem d_Writer_unitOf_30 : decode b_Writer_unitOf 30 = .ok (.ldc 53, 2) := by decide +kernel
theorem d_Writer_unitOf_32 : decode b_Writer_unitOf 32 = .ok (.isub, 1) := by decide +kernel
theorem d_Writer_unitOf_33 : decode b_Writer_unitOf 33 = .ok (.sipush 1023, 3) := by decide +kernel
theorem d_Writer_unitOf_36 : decode b_Writer_unitOf 36 = .ok (.iand, 1) := by decide +kernel
theorem d_Writer_unitOf_37 : decode b_Writer_unitOf 37 = .ok (.iadd, 1) := by decide +kernel
theorem d_Writer_unitOf_38 : decode b_Writer_unitOf 38 = .ok (.ireturn, 1) := by decide +kernel
theorem d_Letters_letterOf_0 : decode b_Letters_letterOf 0 = .ok (.iload_n 0, 1) := by decide +kernel
theorem d_Letters_letterOf_1 : decode b_Letters_letterOf 1 = .ok (.bipush 26, 2) := by decide +kernel
theorem d_Letters_letterOf_3 : decode b_Letters_letterOf 3 = .ok (.if_icmp .ge 8, 3) := by decide +kernel
theorem d_Letters_letterOf_6 : decode b_Letters_letterOf 6 = .ok (.bipush 65, 2) := by decide +kernel
theorem d_Letters_letterOf_8 : decode b_Letters_letterOf 8 = .ok (.iload_n 0, 1) := by decide +kernel
theorem d_Letters_letterOf_9 : decode b_Letters_letterOf 9 = .ok (.iadd, 1) := by decide +kernel
theorem d_Letters_letterOf_10 : decode b_Letters_letterOf 10 = .ok (.ireturn, 1) := by decide +kernel
theorem d_Letters_letterOf_11 : decode b_Letters_letterOf 11 = .ok (.iload_n 0, 1) := by decide +kernel
theorem d_Letters_letterOf_12 : decode b_Letters_letterOf 12 = .ok (.bipush 52, 2) := by decide +kernel
theorem d_Letters_letterOf_14 : decode b_Letters_letterOf 14 = .ok (.if_icmp .ge 11, 3) := by decide +kernel
theorem d_Letters_letterOf_17 : decode b_Letters_letterOf 17 = .ok (.bipush 97, 2) := by decide +kernel
theorem d_Letters_letterOf_19 : decode b_Letters_letterOf 19 = .ok (.iload_n 0, 1) := by decide +kernel
theorem d_Letters_letterOf_20 : decode b_Letters_letterOf 20 = .ok (.iadd, 1) := by decide +kernel
theorem d_Letters_letterOf_21 : decode b_Letters_letterOf 21 = .ok (.bipush 26, 2) := by decide +kernel
theorem d_Letters_letterOf_23 : decode b_Letters_letterOf 23 = .ok (.isub, 1) := by decide +kernel
theorem d_Letters_letterOf_24 : decode b_Letters_letterOf 24 = .ok (.ireturn, 1) := by decide +kernel
theorem d_Letters_letterOf_25 : decode b_Letters_letterOf 25 = .ok (.iload_n 0, 1) := by decide +kernel
theorem d_Letters_letterOf_26 : decode b_Letters_letterOf 26 = .ok (.bipush 62, 2) := by decide +kernel
theorem d_Letters_letterOf_28 : decode b_Letters_letterOf 28 = .ok (.if_icmp .ge 11, 3) := by decide +kernel
theorem d_Letters_letterOf_31 : decode b_Letters_letterOf 31 = .ok (.bipush 48, 2) := by decide +kernel
theorem d_Letters_letterOf_33 : decode b_Letters_letterOf 33 = .ok (.iload_n 0, 1) := by decide +kernel
theorem d_Letters_letterOf_34 : decode b_Letters_letterOf 34 = .ok (.iadd, 1) := by decide +kernel
theorem d_Letters_letterOf_35 : decode b_Letters_letterOf 35 = .ok (.bipush 52, 2) := by decide +kernel
theorem d_Letters_letterOf_37 : decode b_Letters_letterOf 37 = .ok (.isub, 1) := by decide +kernel
theorem d_Letters_letterOf_38 : decode b_Letters_letterOf 38 = .ok (.ireturn, 1) := by decide +kernel
theorem d_Letters_letterOf_39 : decode b_Letters_letterOf 39 = .ok (.iload_n 0, 1) := by decide +kernel
theorem d_Letters_letterOf_40 : decode b_Letters_letterOf 40 = .ok (.bipush 62, 2) := by decide +kernel
theorem d_Letters_letterOf_42 : decode b_Letters_letterOf 42 = .ok (.if_icmp .ne 8, 3) := by decide +kernel
theorem d_Letters_letterOf_45 : decode b_Letters_letterOf 45 = .ok (.bipush 43, 2) := by decide +kernel
theorem d_Letters_letterOf_47 : decode b_Letters_letterOf 47 = .ok (.goto 5, 3) := by decide +kernel
theorem d_Letters_letterOf_50 : decode b_Letters_letterOf 50 = .ok (.bipush 47, 2) := by decide +kernel
theorem d_Letters_letterOf_52 : decode b_Letters_letterOf 52 = .ok (.ireturn, 1) := by decide +kernel
theorem d_Bits_fillUp_0 : decode b_Bits_fillUp 0 = .ok (.aload_n 0, 1) := by decide +kernel
theorem d_Bits_fillUp_1 : decode b_Bits_fillUp 1 = .ok (.getfield 13, 3) := by decide +kernel
theorem d_Bits_fillUp_4 : decode b_Bits_fillUp 4 = .ok (.ifCond .le 22, 3) := by decide +kernel
theorem d_Bits_fillUp_7 : decode b_Bits_fillUp 7 = .ok (.aload_n 0, 1) := by decide +kernel
theorem d_Bits_fillUp_8 : decode b_Bits_fillUp 8 = .ok (.getfield 13, 3) := by decide +kernel
theorem d_Bits_fillUp_11 : decode b_Bits_fillUp 11 = .ok (.iload_n 1, 1) := by decide +kernel
theorem d_Bits_fillUp_12 : decode b_Bits_fillUp 12 = .ok (.if_icmp .ge 14, 3) := by decide +kernel
theorem d_Bits_fillUp_15 : decode b_Bits_fillUp 15 = .ok (.aload_n 0, 1) := by decide +kernel
theorem d_Bits_fillUp_16 : decode b_Bits_fillUp 16 = .ok (.iconst 0, 1) := by decide +kernel
theorem d_Bits_fillUp_17 : decode b_Bits_fillUp 17 = .ok (.iload_n 1, 1) := by decide +kernel
theorem d_Bits_fillUp_18 : decode b_Bits_fillUp 18 = .ok (.aload_n 0, 1) := by decide +kernel
theorem d_Bits_fillUp_19 : decode b_Bits_fillUp 19 = .ok (.getfield 13, 3) := by decide +kernel
theorem d_Bits_fillUp_22 : decode b_Bits_fillUp 22 = .ok (.isub, 1) := by decide +kernel
theorem d_Bits_fillUp_23 : decode b_Bits_fillUp 23 = .ok (.invokevirtual 16, 3) := by decide +kernel
theorem d_Bits_fillUp_26 : decode b_Bits_fillUp 26 = .ok (.return_, 1) := by decide +kernel
theorem d_Writer_writeDirectly_0 : decode b_Writer_writeDirectly 0 = .ok (.aload_n 1, 1) := by decide +kernel
theorem d_Writer_writeDirectly_1 : decode b_Writer_writeDirectly 1 = .ok (.iload_n 0, 1) := by decide +kernel
theorem d_Writer_writeDirectly_2 : decode b_Writer_writeDirectly 2 = .ok (.invokevirtual 22, 3) := by decide +kernel
theorem d_Writer_writeDirectly_5 : decode b_Writer_writeDirectly 5 = .ok (.iload_n 0, 1) := by decide +kernel
theorem d_Writer_writeDirectly_6 : decode b_Writer_writeDirectly 6 = .ok (.bipush 43, 2) := by decide +kernel
theorem d_Writer_writeDirectly_8 : decode b_Writer_writeDirectly 8 = .ok (.if_icmp .ne 9, 3) := by decide +kernel
theorem d_Writer_writeDirectly_11 : decode b_Writer_writeDirectly 11 = .ok (.aload_n 1, 1) := by decide +kernel
theorem d_Writer_writeDirectly_12 : decode b_Writer_writeDirectly 12 = .ok (.bipush 45, 2) := by decide +kernel
theorem d_Writer_writeDirectly_14 : decode b_Writer_writeDirectly 14 = .ok (.invokevirtual 22, 3) := by decide +kernel
theorem d_Writer_writeDirectly_17 : decode b_Writer_writeDirectly 17 = .ok (.return_, 1) := by decide +kernel
theorem d_Writer_utf8WidthOf_0 : decode b_Writer_utf8WidthOf 0 = .ok (.iload_n 0, 1) := by decide +kernel
theorem d_Writer_utf8WidthOf_1 : decode b_Writer_utf8WidthOf 1 = .ok (.sipush 128, 3) := by decide +kernel
theorem d_Writer_utf8WidthOf_4 : decode b_Writer_utf8WidthOf 4 = .ok (.if_icmp .ge 5, 3) := by decide +kernel
theorem d_Writer_utf8WidthOf_7 : decode b_Writer_utf8WidthOf 7 = .ok (.iconst 1, 1) := by decide +kernel
theorem d_Writer_utf8WidthOf_8 : decode b_Writer_utf8WidthOf 8 = .ok (.ireturn, 1) := by decide +kernel
theorem d_Writer_utf8WidthOf_9 : decode b_Writer_utf8WidthOf 9 = .ok (.iload_n 0, 1) := by decide +kernel
theorem d_Writer_utf8WidthOf_10 : decode b_Writer_utf8WidthOf 10 = .ok (.sipush 2048, 3) := by decide +kernel
theorem d_Writer_utf8WidthOf_13 : decode b_Writer_utf8WidthOf 13 = .ok (.if_icmp .ge 5, 3) := by decide +kernel
theorem d_Writer_utf8WidthOf_16 : decode b_Writer_utf8WidthOf 16 = .ok (.iconst 2, 1) := by decide +kernel
theorem d_Writer_utf8WidthOf_17 : decode b_Writer_utf8WidthOf 17 = .ok (.ireturn, 1) := by decide +kernel
theorem d_Writer_utf8WidthOf_18 : decode b_Writer_utf8WidthOf 18 = .ok (.iload_n 0, 1) := by decide +kernel
theorem d_Writer_utf8WidthOf_19 : decode b_Writer_utf8WidthOf 19 = .ok (.ldc 53, 2) := by decide +kernel
theorem d_Writer_utf8WidthOf_21 : decode b_Writer_utf8WidthOf 21 = .ok (.if_icmp .ge 7, 3) := by decide +kernel
theorem d_Writer_utf8WidthOf_24 : decode b_Writer_utf8WidthOf 24 = .ok (.iconst 3, 1) := by decide +kernel
theorem d_Writer_utf8WidthOf_25 : decode b_Writer_utf8WidthOf 25 = .ok (.goto 4, 3) := by decide +kernel
theorem d_Writer_utf8WidthOf_28 : decode b_Writer_utf8WidthOf 28 = .ok (.iconst 4, 1) := by decide +kernel
theorem d_Writer_utf8WidthOf_29 : decode b_Writer_utf8WidthOf 29 = .ok (.ireturn, 1) := by decide +kernel
theorem d_Writer_writeUtf8_0 : decode b_Writer_writeUtf8 0 = .ok (.iload_n 0, 1) := by decide +kernel
theorem d_Writer_writeUtf8_1 : decode b_Writer_writeUtf8 1 = .ok (.invokestatic 47, 3) := by decide +kernel
theorem d_Writer_writeUtf8_4 : decode b_Writer_writeUtf8 4 = .ok (.tableswitch 79 1 3 #[28, 34, 49], 28) := by decide +kernel
theorem d_Writer_writeUtf8_32 : decode b_Writer_writeUtf8 32 = .ok (.aload_n 1, 1) := by decide +kernel
theorem d_Writer_writeUtf8_33 : decode b_Writer_writeUtf8 33 = .ok (.iload_n 0, 1) := by decide +kernel
theorem d_Writer_writeUtf8_34 : decode b_Writer_writeUtf8 34 = .ok (.invokevirtual 22, 3) := by decide +kernel
theorem d_Writer_writeUtf8_37 : decode b_Writer_writeUtf8 37 = .ok (.return_, 1) := by decide +kernel
theorem d_Writer_writeUtf8_38 : decode b_Writer_writeUtf8 38 = .ok (.aload_n 1, 1) := by decide +kernel
theorem d_Writer_writeUtf8_39 : decode b_Writer_writeUtf8 39 = .ok (.sipush 192, 3) := by decide +kernel
theorem d_Writer_writeUtf8_42 : decode b_Writer_writeUtf8 42 = .ok (.iload_n 0, 1) := by decide +kernel
theorem d_Writer_writeUtf8_43 : decode b_Writer_writeUtf8 43 = .ok (.bipush 6, 2) := by decide +kernel
theorem d_Writer_writeUtf8_45 : decode b_Writer_writeUtf8 45 = .ok (.ishr, 1) := by decide +kernel
theorem d_Writer_writeUtf8_46 : decode b_Writer_writeUtf8 46 = .ok (.ior, 1) := by decide +kernel
theorem d_Writer_writeUtf8_47 : decode b_Writer_writeUtf8 47 = .ok (.invokevirtual 22, 3) := by decide +kernel
theorem d_Writer_writeUtf8_50 : decode b_Writer_writeUtf8 50 = .ok (.goto 75, 3) := by decide +kernel
theorem d_Writer_writeUtf8_53 : decode b_Writer_writeUtf8 53 = .ok (.aload_n 1, 1) := by decide +kernel
theorem d_Writer_writeUtf8_54 : decode b_Writer_writeUtf8 54 = .ok (.sipush 224, 3) := by decide +kernel
theorem d_Writer_writeUtf8_57 : decode b_Writer_writeUtf8 57 = .ok (.iload_n 0, 1) := by decide +kernel
theorem d_Writer_writeUtf8_58 : decode b_Writer_writeUtf8 58 = .ok (.bipush 12, 2) := by decide +kernel
theorem d_Writer_writeUtf8_60 : decode b_Writer_writeUtf8 60 = .ok (.ishr, 1) := by decide +kernel
theorem d_Writer_writeUtf8_61 : decode b_Writer_writeUtf8 61 = .ok (.ior, 1) := by decide +kernel
theorem d_Writer_writeUtf8_62 : decode b_Writer_writeUtf8 62 = .ok (.invokevirtual 22, 3) := by decide +kernel
theorem d_Writer_writeUtf8_65 : decode b_Writer_writeUtf8 65 = .ok (.aload_n 1, 1) := by decide +kernel
theorem d_Writer_writeUtf8_66 : decode b_Writer_writeUtf8 66 = .ok (.sipush 128, 3) := by decide +kernel
theorem d_Writer_writeUtf8_69 : decode b_Writer_writeUtf8 69 = .ok (.iload_n 0, 1) := by decide +kernel
theorem d_Writer_writeUtf8_70 : decode b_Writer_writeUtf8 70 = .ok (.bipush 6, 2) := by decide +kernel
theorem d_Writer_writeUtf8_72 : decode b_Writer_writeUtf8 72 = .ok (.ishr, 1) := by decide +kernel
theorem d_Writer_writeUtf8_73 : decode b_Writer_writeUtf8 73 = .ok (.bipush 63, 2) := by decide +kernel
theorem d_Writer_writeUtf8_75 : decode b_Writer_writeUtf8 75 = .ok (.iand, 1) := by decide +kernel
theorem d_Writer_writeUtf8_76 : decode b_Writer_writeUtf8 76 = .ok (.ior, 1) := by decide +kernel
theorem d_Writer_writeUtf8_77 : decode b_Writer_writeUtf8 77 = .ok (.invokevirtual 22, 3) := by decide +kernel
theorem d_Writer_writeUtf8_80 : decode b_Writer_writeUtf8 80 = .ok (.goto 45, 3) := by decide +kernel
theorem d_Writer_writeUtf8_83 : decode b_Writer_writeUtf8 83 = .ok (.aload_n 1, 1) := by decide +kernel
theorem d_Writer_writeUtf8_84 : decode b_Writer_writeUtf8 84 = .ok (.sipush 240, 3) := by decide +kernel
theorem d_Writer_writeUtf8_87 : decode b_Writer_writeUtf8 87 = .ok (.iload_n 0, 1) := by decide +kernel
theorem d_Writer_writeUtf8_88 : decode b_Writer_writeUtf8 88 = .ok (.bipush 18, 2) := by decide +kernel
theorem d_Writer_writeUtf8_90 : decode b_Writer_writeUtf8 90 = .ok (.ishr, 1) := by decide +kernel
theorem d_Writer_writeUtf8_91 : decode b_Writer_writeUtf8 91 = .ok (.ior, 1) := by decide +kernel
theorem d_Writer_writeUtf8_92 : decode b_Writer_writeUtf8 92 = .ok (.invokevirtual 22, 3) := by decide +kernel
theorem d_Writer_writeUtf8_95 : decode b_Writer_writeUtf8 95 = .ok (.aload_n 1, 1) := by decide +kernel
theorem d_Writer_writeUtf8_96 : decode b_Writer_writeUtf8 96 = .ok (.sipush 128, 3) := by decide +kernel
theorem d_Writer_writeUtf8_99 : decode b_Writer_writeUtf8 99 = .ok (.iload_n 0, 1) := by decide +kernel
theorem d_Writer_writeUtf8_100 : decode b_Writer_writeUtf8 100 = .ok (.bipush 12, 2) := by decide +kernel
theorem d_Writer_writeUtf8_102 : decode b_Writer_writeUtf8 102 = .ok (.ishr, 1) := by decide +kernel
theorem d_Writer_writeUtf8_103 : decode b_Writer_writeUtf8 103 = .ok (.bipush 63, 2) := by decide +kernel
theorem d_Writer_writeUtf8_105 : decode b_Writer_writeUtf8 105 = .ok (.iand, 1) := by decide +kernel
theorem d_Writer_writeUtf8_106 : decode b_Writer_writeUtf8 106 = .ok (.ior, 1) := by decide +kernel
theorem d_Writer_writeUtf8_107 : decode b_Writer_writeUtf8 107 = .ok (.invokevirtual 22, 3) := by decide +kernel
theorem d_Writer_writeUtf8_110 : decode b_Writer_writeUtf8 110 = .ok (.aload_n 1, 1) := by decide +kernel
theorem d_Writer_writeUtf8_111 : decode b_Writer_writeUtf8 111 = .ok (.sipush 128, 3) := by decide +kernel
theorem d_Writer_writeUtf8_114 : decode b_Writer_writeUtf8 114 = .ok (.iload_n 0, 1) := by decide +kernel
theorem d_Writer_writeUtf8_115 : decode b_Writer_writeUtf8 115 = .ok (.bipush 6, 2) := by decide +kernel
theorem d_Writer_writeUtf8_117 : decode b_Writer_writeUtf8 117 = .ok (.ishr, 1) := by decide +kernel
theorem d_Writer_writeUtf8_118 : decode b_Writer_writeUtf8 118 = .ok (.bipush 63, 2) := by decide +kernel
theorem d_Writer_writeUtf8_120 : decode b_Writer_writeUtf8 120 = .ok (.iand, 1) := by decide +kernel
theorem d_Writer_writeUtf8_121 : decode b_Writer_writeUtf8 121 = .ok (.ior, 1) := by decide +kernel
theorem d_Writer_writeUtf8_122 : decode b_Writer_writeUtf8 122 = .ok (.invokevirtual 22, 3) := by decide +kernel
theorem d_Writer_writeUtf8_125 : decode b_Writer_writeUtf8 125 = .ok (.aload_n 1, 1) := by decide +kernel
theorem d_Writer_writeUtf8_126 : decode b_Writer_writeUtf8 126 = .ok (.sipush 128, 3) := by decide +kernel
theorem d_Writer_writeUtf8_129 : decode b_Writer_writeUtf8 129 = .ok (.iload_n 0, 1) := by decide +kernel
theorem d_Writer_writeUtf8_130 : decode b_Writer_writeUtf8 130 = .ok (.bipush 63, 2) := by decide +kernel
theorem d_Writer_writeUtf8_132 : decode b_Writer_writeUtf8 132 = .ok (.iand, 1) := by decide +kernel
theorem d_Writer_writeUtf8_133 : decode b_Writer_writeUtf8 133 = .ok (.ior, 1) := by decide +kernel
theorem d_Writer_writeUtf8_134 : decode b_Writer_writeUtf8 134 = .ok (.invokevirtual 22, 3) := by decide +kernel
theorem d_Writer_writeUtf8_137 : decode b_Writer_writeUtf8 137 = .ok (.return_, 1) := by decide +kernel
theorem d_Writer_writeUtf16_0 : decode b_Writer_writeUtf16 0 = .ok (.iconst 0, 1) := by decide +kernel
theorem d_Writer_writeUtf16_1 : decode b_Writer_writeUtf16 1 = .ok (.istore_n 3, 1) := by decide +kernel
theorem d_Writer_writeUtf16_2 : decode b_Writer_writeUtf16 2 = .ok (.iload_n 3, 1) := by decide +kernel
theorem d_Writer_writeUtf16_3 : decode b_Writer_writeUtf16 3 = .ok (.iload_n 0, 1) := by decide +kernel
theorem d_Writer_writeUtf16_4 : decode b_Writer_writeUtf16 4 = .ok (.invokestatic 50, 3) := by decide +kernel
theorem d_Writer_writeUtf16_7 : decode b_Writer_writeUtf16 7 = .ok (.if_icmp .ge 61, 3) := by decide +kernel
theorem d_Writer_writeUtf16_10 : decode b_Writer_writeUtf16 10 = .ok (.iload_n 0, 1) := by decide +kernel
theorem d_Writer_writeUtf16_11 : decode b_Writer_writeUtf16 11 = .ok (.iload_n 3, 1) := by decide +kernel
theorem d_Writer_writeUtf16_12 : decode b_Writer_writeUtf16 12 = .ok (.invokestatic 69, 3) := by decide +kernel
theorem d_Writer_writeUtf16_15 : decode b_Writer_writeUtf16 15 = .ok (.istore 4, 2) := by decide +kernel
theorem d_Writer_writeUtf16_17 : decode b_Writer_writeUtf16 17 = .ok (.iload 4, 2) := by decide +kernel
theorem d_Writer_writeUtf16_19 : decode b_Writer_writeUtf16 19 = .ok (.bipush 8, 2) := by decide +kernel
theorem d_Writer_writeUtf16_21 : decode b_Writer_writeUtf16 21 = .ok (.ishr, 1) := by decide +kernel
theorem d_Writer_writeUtf16_22 : decode b_Writer_writeUtf16 22 = .ok (.istore 5, 2) := by decide +kernel
theorem d_Writer_writeUtf16_24 : decode b_Writer_writeUtf16 24 = .ok (.iload 4, 2) := by decide +kernel
theorem d_Writer_writeUtf16_26 : decode b_Writer_writeUtf16 26 = .ok (.sipush 255, 3) := by decide +kernel
theorem d_Writer_writeUtf16_29 : decode b_Writer_writeUtf16 29 = .ok (.iand, 1) := by decide +kernel
theorem d_Writer_writeUtf16_30 : decode b_Writer_writeUtf16 30 = .ok (.istore 6, 2) := by decide +kernel
theorem d_Writer_writeUtf16_32 : decode b_Writer_writeUtf16 32 = .ok (.aload_n 2, 1) := by decide +kernel
theorem d_Writer_writeUtf16_33 : decode b_Writer_writeUtf16 33 = .ok (.iload_n 1, 1) := by decide +kernel
theorem d_Writer_writeUtf16_34 : decode b_Writer_writeUtf16 34 = .ok (.ifCond .eq 8, 3) := by decide +kernel
theorem d_Writer_writeUtf16_37 : decode b_Writer_writeUtf16 37 = .ok (.iload 5, 2) := by decide +kernel
theorem d_Writer_writeUtf16_39 : decode b_Writer_writeUtf16 39 = .ok (.goto 5, 3) := by decide +kernel
theorem d_Writer_writeUtf16_42 : decode b_Writer_writeUtf16 42 = .ok (.iload 6, 2) := by decide +kernel
theorem d_Writer_writeUtf16_44 : decode b_Writer_writeUtf16 44 = .ok (.invokevirtual 22, 3) := by decide +kernel
theorem d_Writer_writeUtf16_47 : decode b_Writer_writeUtf16 47 = .ok (.aload_n 2, 1) := by decide +kernel
theorem d_Writer_writeUtf16_48 : decode b_Writer_writeUtf16 48 = .ok (.iload_n 1, 1) := by decide +kernel
theorem d_Writer_writeUtf16_49 : decode b_Writer_writeUtf16 49 = .ok (.ifCond .eq 8, 3) := by decide +kernel
theorem d_Writer_writeUtf16_52 : decode b_Writer_writeUtf16 52 = .ok (.iload 6, 2) := by decide +kernel
theorem d_Writer_writeUtf16_54 : decode b_Writer_writeUtf16 54 = .ok (.goto 5, 3) := by decide +kernel
theorem d_Writer_writeUtf16_57 : decode b_Writer_writeUtf16 57 = .ok (.iload 5, 2) := by decide +kernel
theorem d_Writer_writeUtf16_59 : decode b_Writer_writeUtf16 59 = .ok (.invokevirtual 22, 3) := by decide +kernel
theorem d_Writer_writeUtf16_62 : decode b_Writer_writeUtf16 62 = .ok (.iinc 3 1, 3) := by decide +kernel
theorem d_Writer_writeUtf16_65 : decode b_Writer_writeUtf16 65 = .ok (.goto (-63), 3) := by decide +kernel
theorem d_Writer_writeUtf16_68 : decode b_Writer_writeUtf16 68 = .ok (.return_, 1) := by decide +kernel
theorem d_SingleBytes_latin9ByteOf_0 : decode b_SingleBytes_latin9ByteOf 0 = .ok (.iconst 0, 1) := by decide +kernel
theorem d_SingleBytes_latin9ByteOf_1 : decode b_SingleBytes_latin9ByteOf 1 = .ok (.istore_n 1, 1) := by decide +kernel
theorem d_SingleBytes_latin9ByteOf_2 : decode b_SingleBytes_latin9ByteOf 2 = .ok (.iload_n 1, 1) := by decide +kernel
theorem d_SingleBytes_latin9ByteOf_3 : decode b_SingleBytes_latin9ByteOf 3 = .ok (.iconst 1, 1) := by decide +kernel
theorem d_SingleBytes_latin9ByteOf_4 : decode b_SingleBytes_latin9ByteOf 4 = .ok (.iadd, 1) := by decide +kernel
theorem d_SingleBytes_latin9ByteOf_5 : decode b_SingleBytes_latin9ByteOf 5 = .ok (.getstatic 36, 3) := by decide +kernel
theorem d_SingleBytes_latin9ByteOf_8 : decode b_SingleBytes_latin9ByteOf 8 = .ok (.arraylength, 1) := by decide +kernel
theorem d_SingleBytes_latin9ByteOf_9 : decode b_SingleBytes_latin9ByteOf 9 = .ok (.if_icmp .ge 26, 3) := by decide +kernel
theorem d_SingleBytes_latin9ByteOf_12 : decode b_SingleBytes_latin9ByteOf 12 = .ok (.getstatic 36, 3) := by decide +kernel
theorem d_SingleBytes_latin9ByteOf_15 : decode b_SingleBytes_latin9ByteOf 15 = .ok (.iload_n 1, 1) := by decide +kernel
theorem d_SingleBytes_latin9ByteOf_16 : decode b_SingleBytes_latin9ByteOf 16 = .ok (.iconst 1, 1) := by decide +kernel
theorem d_SingleBytes_latin9ByteOf_17 : decode b_SingleBytes_latin9ByteOf 17 = .ok (.iadd, 1) := by decide +kernel
theorem d_SingleBytes_latin9ByteOf_18 : decode b_SingleBytes_latin9ByteOf 18 = .ok (.iaload, 1) := by decide +kernel
theorem d_SingleBytes_latin9ByteOf_19 : decode b_SingleBytes_latin9ByteOf 19 = .ok (.iload_n 0, 1) := by decide +kernel
theorem d_SingleBytes_latin9ByteOf_20 : decode b_SingleBytes_latin9ByteOf 20 = .ok (.if_icmp .ne 9, 3) := by decide +kernel
theorem d_SingleBytes_latin9ByteOf_23 : decode b_SingleBytes_latin9ByteOf 23 = .ok (.getstatic 36, 3) := by decide +kernel
theorem d_SingleBytes_latin9ByteOf_26 : decode b_SingleBytes_latin9ByteOf 26 = .ok (.iload_n 1, 1) := by decide +kernel
theorem d_SingleBytes_latin9ByteOf_27 : decode b_SingleBytes_latin9ByteOf 27 = .ok (.iaload, 1) := by decide +kernel
theorem d_SingleBytes_latin9ByteOf_28 : decode b_SingleBytes_latin9ByteOf 28 = .ok (.ireturn, 1) := by decide +kernel
theorem d_SingleBytes_latin9ByteOf_29 : decode b_SingleBytes_latin9ByteOf 29 = .ok (.iinc 1 2, 3) := by decide +kernel
theorem d_SingleBytes_latin9ByteOf_32 : decode b_SingleBytes_latin9ByteOf 32 = .ok (.goto (-30), 3) := by decide +kernel
theorem d_SingleBytes_latin9ByteOf_35 : decode b_SingleBytes_latin9ByteOf 35 = .ok (.iload_n 0, 1) := by decide +kernel
theorem d_SingleBytes_latin9ByteOf_36 : decode b_SingleBytes_latin9ByteOf 36 = .ok (.sipush 256, 3) := by decide +kernel
theorem d_SingleBytes_latin9ByteOf_39 : decode b_SingleBytes_latin9ByteOf 39 = .ok (.if_icmp .ge 15, 3) := by decide +kernel
theorem d_SingleBytes_latin9ByteOf_42 : decode b_SingleBytes_latin9ByteOf 42 = .ok (.iload_n 0, 1) := by decide +kernel
theorem d_SingleBytes_latin9ByteOf_43 : decode b_SingleBytes_latin9ByteOf 43 = .ok (.invokestatic 9, 3) := by decide +kernel
theorem d_SingleBytes_latin9ByteOf_46 : decode b_SingleBytes_latin9ByteOf 46 = .ok (.iload_n 0, 1) := by decide +kernel
theorem d_SingleBytes_latin9ByteOf_47 : decode b_SingleBytes_latin9ByteOf 47 = .ok (.if_icmp .ne 7, 3) := by decide +kernel
theorem d_SingleBytes_latin9ByteOf_50 : decode b_SingleBytes_latin9ByteOf 50 = .ok (.iload_n 0, 1) := by decide +kernel
theorem d_SingleBytes_latin9ByteOf_51 : decode b_SingleBytes_latin9ByteOf 51 = .ok (.goto 5, 3) := by decide +kernel
theorem d_SingleBytes_latin9ByteOf_54 : decode b_SingleBytes_latin9ByteOf 54 = .ok (.bipush 63, 2) := by decide +kernel
theorem d_SingleBytes_latin9ByteOf_56 : decode b_SingleBytes_latin9ByteOf 56 = .ok (.ireturn, 1) := by decide +kernel
theorem d_SingleBytes_placeIn_0 : decode b_SingleBytes_placeIn 0 = .ok (.iconst 0, 1) := by decide +kernel
theorem d_SingleBytes_placeIn_1 : decode b_SingleBytes_placeIn 1 = .ok (.istore_n 2, 1) := by decide +kernel
theorem d_SingleBytes_placeIn_2 : decode b_SingleBytes_placeIn 2 = .ok (.iload_n 2, 1) := by decide +kernel
theorem d_SingleBytes_placeIn_3 : decode b_SingleBytes_placeIn 3 = .ok (.aload_n 0, 1) := by decide +kernel
theorem d_SingleBytes_placeIn_4 : decode b_SingleBytes_placeIn 4 = .ok (.arraylength, 1) := by decide +kernel
theorem d_SingleBytes_placeIn_5 : decode b_SingleBytes_placeIn 5 = .ok (.if_icmp .ge 18, 3) := by decide +kernel
theorem d_SingleBytes_placeIn_8 : decode b_SingleBytes_placeIn 8 = .ok (.aload_n 0, 1) := by decide +kernel
theorem d_SingleBytes_placeIn_9 : decode b_SingleBytes_placeIn 9 = .ok (.iload_n 2, 1) := by decide +kernel
theorem d_SingleBytes_placeIn_10 : decode b_SingleBytes_placeIn 10 = .ok (.iaload, 1) := by decide +kernel
theorem d_SingleBytes_placeIn_11 : decode b_SingleBytes_placeIn 11 = .ok (.iload_n 1, 1) := by decide +kernel
theorem d_SingleBytes_placeIn_12 : decode b_SingleBytes_placeIn 12 = .ok (.if_icmp .ne 5, 3) := by decide +kernel
theorem d_SingleBytes_placeIn_15 : decode b_SingleBytes_placeIn 15 = .ok (.iload_n 2, 1) := by decide +kernel
theorem d_SingleBytes_placeIn_16 : decode b_SingleBytes_placeIn 16 = .ok (.ireturn, 1) := by decide +kernel
theorem d_SingleBytes_placeIn_17 : decode b_SingleBytes_placeIn 17 = .ok (.iinc 2 1, 3) := by decide +kernel
theorem d_SingleBytes_placeIn_20 : decode b_SingleBytes_placeIn 20 = .ok (.goto (-18), 3) := by decide +kernel
theorem d_SingleBytes_placeIn_23 : decode b_SingleBytes_placeIn 23 = .ok (.iconst (-1), 1) := by decide +kernel
theorem d_SingleBytes_placeIn_24 : decode b_SingleBytes_placeIn 24 = .ok (.ireturn, 1) := by decide +kernel
theorem d_SingleBytes_koiByteOf_0 : decode b_SingleBytes_koiByteOf 0 = .ok (.iload_n 0, 1) := by decide +kernel
theorem d_SingleBytes_koiByteOf_1 : decode b_SingleBytes_koiByteOf 1 = .ok (.sipush 1105, 3) := by decide +kernel
theorem d_SingleBytes_koiByteOf_4 : decode b_SingleBytes_koiByteOf 4 = .ok (.if_icmp .ne 7, 3) := by decide +kernel
theorem d_SingleBytes_koiByteOf_7 : decode b_SingleBytes_koiByteOf 7 = .ok (.sipush 163, 3) := by decide +kernel
theorem d_SingleBytes_koiByteOf_10 : decode b_SingleBytes_koiByteOf 10 = .ok (.ireturn, 1) := by decide +kernel
theorem d_SingleBytes_koiByteOf_11 : decode b_SingleBytes_koiByteOf 11 = .ok (.iload_n 0, 1) := by decide +kernel
theorem d_SingleBytes_koiByteOf_12 : decode b_SingleBytes_koiByteOf 12 = .ok (.sipush 1025, 3) := by decide +kernel
theorem d_SingleBytes_koiByteOf_15 : decode b_SingleBytes_koiByteOf 15 = .ok (.if_icmp .ne 7, 3) := by decide +kernel
theorem d_SingleBytes_koiByteOf_18 : decode b_SingleBytes_koiByteOf 18 = .ok (.sipush 179, 3) := by decide +kernel
theorem d_SingleBytes_koiByteOf_21 : decode b_SingleBytes_koiByteOf 21 = .ok (.ireturn, 1) := by decide +kernel
theorem d_SingleBytes_koiByteOf_22 : decode b_SingleBytes_koiByteOf 22 = .ok (.getstatic 42, 3) := by decide +kernel
theorem d_SingleBytes_koiByteOf_25 : decode b_SingleBytes_koiByteOf 25 = .ok (.iload_n 0, 1) := by decide +kernel
theorem d_SingleBytes_koiByteOf_26 : decode b_SingleBytes_koiByteOf 26 = .ok (.invokestatic 39, 3) := by decide +kernel
theorem d_SingleBytes_koiByteOf_29 : decode b_SingleBytes_koiByteOf 29 = .ok (.istore_n 1, 1) := by decide +kernel
theorem d_SingleBytes_koiByteOf_30 : decode b_SingleBytes_koiByteOf 30 = .ok (.iload_n 1, 1) := by decide +kernel
theorem d_SingleBytes_koiByteOf_31 : decode b_SingleBytes_koiByteOf 31 = .ok (.iconst (-1), 1) := by decide +kernel
theorem d_SingleBytes_koiByteOf_32 : decode b_SingleBytes_koiByteOf 32 = .ok (.if_icmp .eq 9, 3) := by decide +kernel
theorem d_SingleBytes_koiByteOf_35 : decode b_SingleBytes_koiByteOf 35 = .ok (.sipush 192, 3) := by decide +kernel
theorem d_SingleBytes_koiByteOf_38 : decode b_SingleBytes_koiByteOf 38 = .ok (.iload_n 1, 1) := by decide +kernel
theorem d_SingleBytes_koiByteOf_39 : decode b_SingleBytes_koiByteOf 39 = .ok (.iadd, 1) := by decide +kernel
theorem d_SingleBytes_koiByteOf_40 : decode b_SingleBytes_koiByteOf 40 = .ok (.ireturn, 1) := by decide +kernel
theorem d_SingleBytes_koiByteOf_41 : decode b_SingleBytes_koiByteOf 41 = .ok (.getstatic 42, 3) := by decide +kernel
theorem d_SingleBytes_koiByteOf_44 : decode b_SingleBytes_koiByteOf 44 = .ok (.iload_n 0, 1) := by decide +kernel
theorem d_SingleBytes_koiByteOf_45 : decode b_SingleBytes_koiByteOf 45 = .ok (.bipush 32, 2) := by decide +kernel
theorem d_SingleBytes_koiByteOf_47 : decode b_SingleBytes_koiByteOf 47 = .ok (.iadd, 1) := by decide +kernel
theorem d_SingleBytes_koiByteOf_48 : decode b_SingleBytes_koiByteOf 48 = .ok (.invokestatic 39, 3) := by decide +kernel
theorem d_SingleBytes_koiByteOf_51 : decode b_SingleBytes_koiByteOf 51 = .ok (.istore_n 2, 1) := by decide +kernel
theorem d_SingleBytes_koiByteOf_52 : decode b_SingleBytes_koiByteOf 52 = .ok (.iload_n 2, 1) := by decide +kernel
theorem d_SingleBytes_koiByteOf_53 : decode b_SingleBytes_koiByteOf 53 = .ok (.iconst (-1), 1) := by decide +kernel
theorem d_SingleBytes_koiByteOf_54 : decode b_SingleBytes_koiByteOf 54 = .ok (.if_icmp .ne 8, 3) := by decide +kernel
theorem d_SingleBytes_koiByteOf_57 : decode b_SingleBytes_koiByteOf 57 = .ok (.bipush 63, 2) := by decide +kernel
theorem d_SingleBytes_koiByteOf_59 : decode b_SingleBytes_koiByteOf 59 = .ok (.goto 8, 3) := by decide +kernel
theorem d_SingleBytes_koiByteOf_62 : decode b_SingleBytes_koiByteOf 62 = .ok (.sipush 224, 3) := by decide +kernel
theorem d_SingleBytes_koiByteOf_65 : decode b_SingleBytes_koiByteOf 65 = .ok (.iload_n 2, 1) := by decide +kernel
theorem d_SingleBytes_koiByteOf_66 : decode b_SingleBytes_koiByteOf 66 = .ok (.iadd, 1) := by decide +kernel
theorem d_SingleBytes_koiByteOf_67 : decode b_SingleBytes_koiByteOf 67 = .ok (.ireturn, 1) := by decide +kernel
theorem d_Coder_endLine_0 : decode b_Coder_endLine 0 = .ok (.aload_n 1, 1) := by decide +kernel
theorem d_Coder_endLine_1 : decode b_Coder_endLine 1 = .ok (.bipush 13, 2) := by decide +kernel
theorem d_Coder_endLine_3 : decode b_Coder_endLine 3 = .ok (.invokevirtual 58, 3) := by decide +kernel
theorem d_Coder_endLine_6 : decode b_Coder_endLine 6 = .ok (.aload_n 1, 1) := by decide +kernel
theorem d_Coder_endLine_7 : decode b_Coder_endLine 7 = .ok (.bipush 10, 2) := by decide +kernel
theorem d_Coder_endLine_9 : decode b_Coder_endLine 9 = .ok (.invokevirtual 58, 3) := by decide +kernel
theorem d_Coder_endLine_12 : decode b_Coder_endLine 12 = .ok (.aload_n 0, 1) := by decide +kernel
theorem d_Coder_endLine_13 : decode b_Coder_endLine 13 = .ok (.iconst 0, 1) := by decide +kernel
theorem d_Coder_endLine_14 : decode b_Coder_endLine 14 = .ok (.putfield 18, 3) := by decide +kernel
theorem d_Coder_endLine_17 : decode b_Coder_endLine 17 = .ok (.return_, 1) := by decide +kernel
theorem d_Coder_isLineEnd_0 : decode b_Coder_isLineEnd 0 = .ok (.aload_n 0, 1) := by decide +kernel
theorem d_Coder_isLineEnd_1 : decode b_Coder_isLineEnd 1 = .ok (.iload_n 1, 1) := by decide +kernel
theorem d_Coder_isLineEnd_2 : decode b_Coder_isLineEnd 2 = .ok (.invokevirtual 38, 3) := by decide +kernel
theorem d_Coder_isLineEnd_5 : decode b_Coder_isLineEnd 5 = .ok (.bipush 13, 2) := by decide +kernel
theorem d_Coder_isLineEnd_7 : decode b_Coder_isLineEnd 7 = .ok (.if_icmp .ne 19, 3) := by decide +kernel
theorem d_Coder_isLineEnd_10 : decode b_Coder_isLineEnd 10 = .ok (.aload_n 0, 1) := by decide +kernel
theorem d_Coder_isLineEnd_11 : decode b_Coder_isLineEnd 11 = .ok (.iload_n 1, 1) := by decide +kernel
theorem d_Coder_isLineEnd_12 : decode b_Coder_isLineEnd 12 = .ok (.iconst 1, 1) := by decide +kernel
theorem d_Coder_isLineEnd_13 : decode b_Coder_isLineEnd 13 = .ok (.iadd, 1) := by decide +kernel
theorem d_Coder_isLineEnd_14 : decode b_Coder_isLineEnd 14 = .ok (.invokevirtual 38, 3) := by decide +kernel
theorem d_Coder_isLineEnd_17 : decode b_Coder_isLineEnd 17 = .ok (.bipush 10, 2) := by decide +kernel
theorem d_Coder_isLineEnd_19 : decode b_Coder_isLineEnd 19 = .ok (.if_icmp .ne 7, 3) := by decide +kernel
theorem d_Coder_isLineEnd_22 : decode b_Coder_isLineEnd 22 = .ok (.iconst 1, 1) := by decide +kernel
theorem d_Coder_isLineEnd_23 : decode b_Coder_isLineEnd 23 = .ok (.goto 4, 3) := by decide +kernel
theorem d_Coder_isLineEnd_26 : decode b_Coder_isLineEnd 26 = .ok (.iconst 0, 1) := by decide +kernel
theorem d_Coder_isLineEnd_27 : decode b_Coder_isLineEnd 27 = .ok (.ireturn, 1) := by decide +kernel
theorem d_Coder_isItself_0 : decode b_Coder_isItself 0 = .ok (.aload_n 0, 1) := by decide +kernel
theorem d_Coder_isItself_1 : decode b_Coder_isItself 1 = .ok (.iload_n 1, 1) := by decide +kernel
theorem d_Coder_isItself_2 : decode b_Coder_isItself 2 = .ok (.invokevirtual 38, 3) := by decide +kernel
theorem d_Coder_isItself_5 : decode b_Coder_isItself 5 = .ok (.istore_n 2, 1) := by decide +kernel
theorem d_Coder_isItself_6 : decode b_Coder_isItself 6 = .ok (.iload_n 2, 1) := by decide +kernel
theorem d_Coder_isItself_7 : decode b_Coder_isItself 7 = .ok (.bipush 32, 2) := by decide +kernel
theorem d_Coder_isItself_9 : decode b_Coder_isItself 9 = .ok (.if_icmp .eq 9, 3) := by decide +kernel
theorem d_Coder_isItself_12 : decode b_Coder_isItself 12 = .ok (.iload_n 2, 1) := by decide +kernel
theorem d_Coder_isItself_13 : decode b_Coder_isItself 13 = .ok (.bipush 9, 2) := by decide +kernel
theorem d_Coder_isItself_15 : decode b_Coder_isItself 15 = .ok (.if_icmp .ne 29, 3) := by decide +kernel
theorem d_Coder_isItself_18 : decode b_Coder_isItself 18 = .ok (.iload_n 1, 1) := by decide +kernel
theorem d_Coder_isItself_19 : decode b_Coder_isItself 19 = .ok (.iconst 1, 1) := by decide +kernel
theorem d_Coder_isItself_20 : decode b_Coder_isItself 20 = .ok (.iadd, 1) := by decide +kernel
theorem d_Coder_isItself_21 : decode b_Coder_isItself 21 = .ok (.aload_n 0, 1) := by decide +kernel
theorem d_Coder_isItself_22 : decode b_Coder_isItself 22 = .ok (.invokevirtual 32, 3) := by decide +kernel
theorem d_Coder_isItself_25 : decode b_Coder_isItself 25 = .ok (.if_icmp .ge 17, 3) := by decide +kernel
theorem d_Coder_isItself_28 : decode b_Coder_isItself 28 = .ok (.aload_n 0, 1) := by decide +kernel
theorem d_Coder_isItself_29 : decode b_Coder_isItself 29 = .ok (.iload_n 1, 1) := by decide +kernel
theorem d_Coder_isItself_30 : decode b_Coder_isItself 30 = .ok (.iconst 1, 1) := by decide +kernel
theorem d_Coder_isItself_31 : decode b_Coder_isItself 31 = .ok (.iadd, 1) := by decide +kernel
theorem d_Coder_isItself_32 : decode b_Coder_isItself 32 = .ok (.invokestatic 72, 3) := by decide +kernel
theorem d_Coder_isItself_35 : decode b_Coder_isItself 35 = .ok (.ifCond .ne 7, 3) := by decide +kernel
theorem d_Coder_isItself_38 : decode b_Coder_isItself 38 = .ok (.iconst 1, 1) := by decide +kernel
theorem d_Coder_isItself_39 : decode b_Coder_isItself 39 = .ok (.goto 4, 3) := by decide +kernel
theorem d_Coder_isItself_42 : decode b_Coder_isItself 42 = .ok (.iconst 0, 1) := by decide +kernel
theorem d_Coder_isItself_43 : decode b_Coder_isItself 43 = .ok (.ireturn, 1) := by decide +kernel
theorem d_Coder_isItself_44 : decode b_Coder_isItself 44 = .ok (.iload_n 2, 1) := by decide +kernel
theorem d_Coder_isItself_45 : decode b_Coder_isItself 45 = .ok (.bipush 32, 2) := by decide +kernel
theorem d_Coder_isItself_47 : decode b_Coder_isItself 47 = .ok (.if_icmp .le 19, 3) := by decide +kernel
theorem d_Coder_isItself_50 : decode b_Coder_isItself 50 = .ok (.iload_n 2, 1) := by decide +kernel
theorem d_Coder_isItself_51 : decode b_Coder_isItself 51 = .ok (.bipush 126, 2) := by decide +kernel
theorem d_Coder_isItself_53 : decode b_Coder_isItself 53 = .ok (.if_icmp .gt 13, 3) := by decide +kernel
theorem d_Coder_isItself_56 : decode b_Coder_isItself 56 = .ok (.iload_n 2, 1) := by decide +kernel
theorem d_Coder_isItself_57 : decode b_Coder_isItself 57 = .ok (.bipush 61, 2) := by decide +kernel
theorem d_Coder_isItself_59 : decode b_Coder_isItself 59 = .ok (.if_icmp .eq 7, 3) := by decide +kernel
theorem d_Coder_isItself_62 : decode b_Coder_isItself 62 = .ok (.iconst 1, 1) := by decide +kernel
theorem d_Coder_isItself_63 : decode b_Coder_isItself 63 = .ok (.goto 4, 3) := by decide +kernel
theorem d_Coder_isItself_66 : decode b_Coder_isItself 66 = .ok (.iconst 0, 1) := by decide +kernel
theorem d_Coder_isItself_67 : decode b_Coder_isItself 67 = .ok (.ireturn, 1) := by decide +kernel
theorem d_Letters_digitOf_0 : decode b_Letters_digitOf 0 = .ok (.ldc 11, 2) := by decide +kernel
theorem d_Letters_digitOf_2 : decode b_Letters_digitOf 2 = .ok (.iload_n 0, 1) := by decide +kernel
theorem d_Letters_digitOf_3 : decode b_Letters_digitOf 3 = .ok (.bipush 15, 2) := by decide +kernel
theorem d_Letters_digitOf_5 : decode b_Letters_digitOf 5 = .ok (.iand, 1) := by decide +kernel
theorem d_Letters_digitOf_6 : decode b_Letters_digitOf 6 = .ok (.invokevirtual 13, 3) := by decide +kernel
theorem d_Letters_digitOf_9 : decode b_Letters_digitOf 9 = .ok (.ireturn, 1) := by decide +kernel
theorem d_Names_goesOnAs_0 : decode b_Names_goesOnAs 0 = .ok (.iload_n 3, 1) := by decide +kernel
theorem d_Names_goesOnAs_1 : decode b_Names_goesOnAs 1 = .ok (.istore 5, 2) := by decide +kernel
theorem d_Names_goesOnAs_3 : decode b_Names_goesOnAs 3 = .ok (.iload 5, 2) := by decide +kernel
theorem d_Names_goesOnAs_5 : decode b_Names_goesOnAs 5 = .ok (.iload 4, 2) := by decide +kernel
theorem d_Names_goesOnAs_7 : decode b_Names_goesOnAs 7 = .ok (.if_icmp .ge 42, 3) := by decide +kernel
theorem d_Names_goesOnAs_10 : decode b_Names_goesOnAs 10 = .ok (.iload 5, 2) := by decide +kernel
theorem d_Names_goesOnAs_12 : decode b_Names_goesOnAs 12 = .ok (.aload_n 2, 1) := by decide +kernel
theorem d_Names_goesOnAs_13 : decode b_Names_goesOnAs 13 = .ok (.invokevirtual 41, 3) := by decide +kernel
theorem d_Names_goesOnAs_16 : decode b_Names_goesOnAs 16 = .ok (.if_icmp .ge 33, 3) := by decide +kernel
theorem d_Names_goesOnAs_19 : decode b_Names_goesOnAs 19 = .ok (.aload_n 0, 1) := by decide +kernel
theorem d_Names_goesOnAs_20 : decode b_Names_goesOnAs 20 = .ok (.iload_n 1, 1) := by decide +kernel
theorem d_Names_goesOnAs_21 : decode b_Names_goesOnAs 21 = .ok (.iload 5, 2) := by decide +kernel
theorem d_Names_goesOnAs_23 : decode b_Names_goesOnAs 23 = .ok (.iadd, 1) := by decide +kernel
theorem d_Names_goesOnAs_24 : decode b_Names_goesOnAs 24 = .ok (.iload_n 3, 1) := by decide +kernel
theorem d_Names_goesOnAs_25 : decode b_Names_goesOnAs 25 = .ok (.isub, 1) := by decide +kernel
theorem d_Names_goesOnAs_26 : decode b_Names_goesOnAs 26 = .ok (.invokevirtual 55, 3) := by decide +kernel
theorem d_Names_goesOnAs_29 : decode b_Names_goesOnAs 29 = .ok (.invokestatic 61, 3) := by decide +kernel
theorem d_Names_goesOnAs_32 : decode b_Names_goesOnAs 32 = .ok (.aload_n 2, 1) := by decide +kernel
theorem d_Names_goesOnAs_33 : decode b_Names_goesOnAs 33 = .ok (.iload 5, 2) := by decide +kernel
theorem d_Names_goesOnAs_35 : decode b_Names_goesOnAs 35 = .ok (.invokevirtual 47, 3) := by decide +kernel
theorem d_Names_goesOnAs_38 : decode b_Names_goesOnAs 38 = .ok (.if_icmp .eq 5, 3) := by decide +kernel
theorem d_Names_goesOnAs_41 : decode b_Names_goesOnAs 41 = .ok (.iconst 0, 1) := by decide +kernel
theorem d_Names_goesOnAs_42 : decode b_Names_goesOnAs 42 = .ok (.ireturn, 1) := by decide +kernel
theorem d_Names_goesOnAs_43 : decode b_Names_goesOnAs 43 = .ok (.iinc 5 1, 3) := by decide +kernel
theorem d_Names_goesOnAs_46 : decode b_Names_goesOnAs 46 = .ok (.goto (-43), 3) := by decide +kernel
theorem d_Names_goesOnAs_49 : decode b_Names_goesOnAs 49 = .ok (.iconst 1, 1) := by decide +kernel
theorem d_Names_goesOnAs_50 : decode b_Names_goesOnAs 50 = .ok (.ireturn, 1) := by decide +kernel
theorem d_Reader_readUtf8_0 : decode b_Reader_readUtf8 0 = .ok (.iconst 0, 1) := by decide +kernel
theorem d_Reader_readUtf8_1 : decode b_Reader_readUtf8 1 = .ok (.istore 4, 2) := by decide +kernel
theorem d_Reader_readUtf8_3 : decode b_Reader_readUtf8 3 = .ok (.iconst 0, 1) := by decide +kernel
theorem d_Reader_readUtf8_4 : decode b_Reader_readUtf8 4 = .ok (.istore 5, 2) := by decide +kernel
theorem d_Reader_readUtf8_6 : decode b_Reader_readUtf8 6 = .ok (.iconst 0, 1) := by decide +kernel
theorem d_Reader_readUtf8_7 : decode b_Reader_readUtf8 7 = .ok (.istore 6, 2) := by decide +kernel
theorem d_Reader_readUtf8_9 : decode b_Reader_readUtf8 9 = .ok (.iconst 0, 1) := by decide +kernel
theorem d_Reader_readUtf8_10 : decode b_Reader_readUtf8 10 = .ok (.istore 7, 2) := by decide +kernel
theorem d_Reader_readUtf8_12 : decode b_Reader_readUtf8 12 = .ok (.iload_n 1, 1) := by decide +kernel
theorem d_Reader_readUtf8_13 : decode b_Reader_readUtf8 13 = .ok (.istore 8, 2) := by decide +kernel
theorem d_Reader_readUtf8_15 : decode b_Reader_readUtf8 15 = .ok (.iload 8, 2) := by decide +kernel
theorem d_Reader_readUtf8_17 : decode b_Reader_readUtf8 17 = .ok (.iload_n 2, 1) := by decide +kernel
theorem d_Reader_readUtf8_18 : decode b_Reader_readUtf8 18 = .ok (.if_icmp .ge 142, 3) := by decide +kernel
theorem d_Reader_readUtf8_21 : decode b_Reader_readUtf8 21 = .ok (.aload_n 0, 1) := by decide +kernel
theorem d_Reader_readUtf8_22 : decode b_Reader_readUtf8 22 = .ok (.iload 8, 2) := by decide +kernel
theorem d_Reader_readUtf8_24 : decode b_Reader_readUtf8 24 = .ok (.invokevirtual 36, 3) := by decide +kernel
theorem d_Reader_readUtf8_27 : decode b_Reader_readUtf8 27 = .ok (.istore 9, 2) := by decide +kernel
theorem d_Reader_readUtf8_29 : decode b_Reader_readUtf8 29 = .ok (.iload 4, 2) := by decide +kernel
theorem d_Reader_readUtf8_31 : decode b_Reader_readUtf8 31 = .ok (.ifCond .le 57, 3) := by decide +kernel
theorem d_Reader_readUtf8_34 : decode b_Reader_readUtf8 34 = .ok (.iload 9, 2) := by decide +kernel
theorem d_Reader_readUtf8_36 : decode b_Reader_readUtf8 36 = .ok (.iload 6, 2) := by decide +kernel
theorem d_Reader_readUtf8_38 : decode b_Reader_readUtf8 38 = .ok (.if_icmp .lt 50, 3) := by decide +kernel
theorem d_Reader_readUtf8_41 : decode b_Reader_readUtf8 41 = .ok (.iload 9, 2) := by decide +kernel
theorem d_Reader_readUtf8_43 : decode b_Reader_readUtf8 43 = .ok (.iload 7, 2) := by decide +kernel
theorem d_Reader_readUtf8_45 : decode b_Reader_readUtf8 45 = .ok (.if_icmp .gt 43, 3) := by decide +kernel
theorem d_Reader_readUtf8_48 : decode b_Reader_readUtf8 48 = .ok (.iload 5, 2) := by decide +kernel
theorem d_Reader_readUtf8_50 : decode b_Reader_readUtf8 50 = .ok (.bipush 6, 2) := by decide +kernel
theorem d_Reader_readUtf8_52 : decode b_Reader_readUtf8 52 = .ok (.ishl, 1) := by decide +kernel
theorem d_Reader_readUtf8_53 : decode b_Reader_readUtf8 53 = .ok (.iload 9, 2) := by decide +kernel
theorem d_Reader_readUtf8_55 : decode b_Reader_readUtf8 55 = .ok (.bipush 63, 2) := by decide +kernel
theorem d_Reader_readUtf8_57 : decode b_Reader_readUtf8 57 = .ok (.iand, 1) := by decide +kernel
theorem d_Reader_readUtf8_58 : decode b_Reader_readUtf8 58 = .ok (.ior, 1) := by decide +kernel
theorem d_Reader_readUtf8_59 : decode b_Reader_readUtf8 59 = .ok (.istore 5, 2) := by decide +kernel
theorem d_Reader_readUtf8_61 : decode b_Reader_readUtf8 61 = .ok (.sipush 128, 3) := by decide +kernel
theorem d_Reader_readUtf8_64 : decode b_Reader_readUtf8 64 = .ok (.istore 6, 2) := by decide +kernel
theorem d_Reader_readUtf8_66 : decode b_Reader_readUtf8 66 = .ok (.sipush 191, 3) := by decide +kernel
theorem d_Reader_readUtf8_69 : decode b_Reader_readUtf8 69 = .ok (.istore 7, 2) := by decide +kernel
theorem d_Reader_readUtf8_71 : decode b_Reader_readUtf8 71 = .ok (.iinc 4 (-1), 3) := by decide +kernel
theorem d_Reader_readUtf8_74 : decode b_Reader_readUtf8 74 = .ok (.iload 4, 2) := by decide +kernel
theorem d_Reader_readUtf8_76 : decode b_Reader_readUtf8 76 = .ok (.ifCond .ne 78, 3) := by decide +kernel
theorem d_Reader_readUtf8_79 : decode b_Reader_readUtf8 79 = .ok (.aload_n 3, 1) := by decide +kernel
theorem d_Reader_readUtf8_80 : decode b_Reader_readUtf8 80 = .ok (.iload 5, 2) := by decide +kernel
theorem d_Reader_readUtf8_82 : decode b_Reader_readUtf8 82 = .ok (.invokevirtual 48, 3) := by decide +kernel
theorem d_Reader_readUtf8_85 : decode b_Reader_readUtf8 85 = .ok (.goto 69, 3) := by decide +kernel
theorem d_Reader_readUtf8_88 : decode b_Reader_readUtf8 88 = .ok (.iload 4, 2) := by decide +kernel
theorem d_Reader_readUtf8_90 : decode b_Reader_readUtf8 90 = .ok (.ifCond .le 9, 3) := by decide +kernel
theorem d_Reader_readUtf8_93 : decode b_Reader_readUtf8 93 = .ok (.aload_n 3, 1) := by decide +kernel
theorem d_Reader_readUtf8_94 : decode b_Reader_readUtf8 94 = .ok (.ldc 52, 2) := by decide +kernel
theorem d_Reader_readUtf8_96 : decode b_Reader_readUtf8 96 = .ok (.invokevirtual 48, 3) := by decide +kernel
theorem d_Reader_readUtf8_99 : decode b_Reader_readUtf8 99 = .ok (.iload 9, 2) := by decide +kernel
theorem d_Reader_readUtf8_101 : decode b_Reader_readUtf8 101 = .ok (.invokestatic 53, 3) := by decide +kernel
theorem d_Reader_readUtf8_104 : decode b_Reader_readUtf8 104 = .ok (.istore 4, 2) := by decide +kernel
theorem d_Reader_readUtf8_106 : decode b_Reader_readUtf8 106 = .ok (.iload 9, 2) := by decide +kernel
theorem d_Reader_readUtf8_108 : decode b_Reader_readUtf8 108 = .ok (.bipush 63, 2) := by decide +kernel
theorem d_Reader_readUtf8_110 : decode b_Reader_readUtf8 110 = .ok (.iload 4, 2) := by decide +kernel
theorem d_Reader_readUtf8_112 : decode b_Reader_readUtf8 112 = .ok (.ishr, 1) := by decide +kernel
theorem d_Reader_readUtf8_113 : decode b_Reader_readUtf8 113 = .ok (.iand, 1) := by decide +kernel
theorem d_Reader_readUtf8_114 : decode b_Reader_readUtf8 114 = .ok (.istore 5, 2) := by decide +kernel
theorem d_Reader_readUtf8_116 : decode b_Reader_readUtf8 116 = .ok (.iload 9, 2) := by decide +kernel
theorem d_Reader_readUtf8_118 : decode b_Reader_readUtf8 118 = .ok (.invokestatic 56, 3) := by decide +kernel
theorem d_Reader_readUtf8_121 : decode b_Reader_readUtf8 121 = .ok (.istore 6, 2) := by decide +kernel
theorem d_Reader_readUtf8_123 : decode b_Reader_readUtf8 123 = .ok (.iload 9, 2) := by decide +kernel
theorem d_Reader_readUtf8_125 : decode b_Reader_readUtf8 125 = .ok (.invokestatic 59, 3) := by decide +kernel
theorem d_Reader_readUtf8_128 : decode b_Reader_readUtf8 128 = .ok (.istore 7, 2) := by decide +kernel
theorem d_Reader_readUtf8_130 : decode b_Reader_readUtf8 130 = .ok (.iload 4, 2) := by decide +kernel
theorem d_Reader_readUtf8_132 : decode b_Reader_readUtf8 132 = .ok (.ifCond .ne 22, 3) := by decide +kernel
theorem d_Reader_readUtf8_135 : decode b_Reader_readUtf8 135 = .ok (.aload_n 3, 1) := by decide +kernel
theorem d_Reader_readUtf8_136 : decode b_Reader_readUtf8 136 = .ok (.iload 9, 2) := by decide +kernel
theorem d_Reader_readUtf8_138 : decode b_Reader_readUtf8 138 = .ok (.sipush 128, 3) := by decide +kernel
theorem d_Reader_readUtf8_141 : decode b_Reader_readUtf8 141 = .ok (.if_icmp .ge 8, 3) := by decide +kernel
theorem d_Reader_readUtf8_144 : decode b_Reader_readUtf8 144 = .ok (.iload 9, 2) := by decide +kernel
theorem d_Reader_readUtf8_146 : decode b_Reader_readUtf8 146 = .ok (.goto 5, 3) := by decide +kernel
theorem d_Reader_readUtf8_149 : decode b_Reader_readUtf8 149 = .ok (.ldc 52, 2) := by decide +kernel
theorem d_Reader_readUtf8_151 : decode b_Reader_readUtf8 151 = .ok (.invokevirtual 48, 3) := by decide +kernel
theorem d_Reader_readUtf8_154 : decode b_Reader_readUtf8 154 = .ok (.iinc 8 1, 3) := by decide +kernel
theorem d_Reader_readUtf8_157 : decode b_Reader_readUtf8 157 = .ok (.goto (-142), 3) := by decide +kernel
theorem d_Reader_readUtf8_160 : decode b_Reader_readUtf8 160 = .ok (.iload 4, 2) := by decide +kernel
theorem d_Reader_readUtf8_162 : decode b_Reader_readUtf8 162 = .ok (.ifCond .le 9, 3) := by decide +kernel
theorem d_Reader_readUtf8_165 : decode b_Reader_readUtf8 165 = .ok (.aload_n 3, 1) := by decide +kernel
theorem d_Reader_readUtf8_166 : decode b_Reader_readUtf8 166 = .ok (.ldc 52, 2) := by decide +kernel
theorem d_Reader_readUtf8_168 : decode b_Reader_readUtf8 168 = .ok (.invokevirtual 48, 3) := by decide +kernel
theorem d_Reader_readUtf8_171 : decode b_Reader_readUtf8 171 = .ok (.return_, 1) := by decide +kernel
theorem d_Reader_takeUnit_0 : decode b_Reader_takeUnit 0 = .ok (.iload_n 1, 1) := by decide +kernel
theorem d_Reader_takeUnit_1 : decode b_Reader_takeUnit 1 = .ok (.ldc 92, 2) := by decide +kernel
theorem d_Reader_takeUnit_3 : decode b_Reader_takeUnit 3 = .ok (.if_icmp .lt 13, 3) := by decide +kernel
theorem d_Reader_takeUnit_6 : decode b_Reader_takeUnit 6 = .ok (.iload_n 1, 1) := by decide +kernel
theorem d_Reader_takeUnit_7 : decode b_Reader_takeUnit 7 = .ok (.ldc 93, 2) := by decide +kernel
theorem d_Reader_takeUnit_9 : decode b_Reader_takeUnit 9 = .ok (.if_icmp .gt 7, 3) := by decide +kernel
theorem d_Reader_takeUnit_12 : decode b_Reader_takeUnit 12 = .ok (.iconst 1, 1) := by decide +kernel
theorem d_Reader_takeUnit_13 : decode b_Reader_takeUnit 13 = .ok (.goto 4, 3) := by decide +kernel
theorem d_Reader_takeUnit_16 : decode b_Reader_takeUnit 16 = .ok (.iconst 0, 1) := by decide +kernel
theorem d_Reader_takeUnit_17 : decode b_Reader_takeUnit 17 = .ok (.istore_n 3, 1) := by decide +kernel
theorem d_Reader_takeUnit_18 : decode b_Reader_takeUnit 18 = .ok (.aload_n 0, 1) := by decide +kernel
theorem d_Reader_takeUnit_19 : decode b_Reader_takeUnit 19 = .ok (.getfield 94, 3) := by decide +kernel
theorem d_Reader_takeUnit_22 : decode b_Reader_takeUnit 22 = .ok (.ifCond .eq 36, 3) := by decide +kernel
theorem d_Reader_takeUnit_25 : decode b_Reader_takeUnit 25 = .ok (.iload_n 3, 1) := by decide +kernel
theorem d_Reader_takeUnit_26 : decode b_Reader_takeUnit 26 = .ok (.ifCond .eq 32, 3) := by decide +kernel
theorem d_Reader_takeUnit_29 : decode b_Reader_takeUnit 29 = .ok (.aload_n 2, 1) := by decide +kernel
theorem d_Reader_takeUnit_30 : decode b_Reader_takeUnit 30 = .ok (.ldc 98, 2) := by decide +kernel
theorem d_Reader_takeUnit_32 : decode b_Reader_takeUnit 32 = .ok (.aload_n 0, 1) := by decide +kernel
theorem d_Reader_takeUnit_33 : decode b_Reader_takeUnit 33 = .ok (.getfield 94, 3) := by decide +kernel
theorem d_Reader_takeUnit_36 : decode b_Reader_takeUnit 36 = .ok (.ldc 99, 2) := by decide +kernel
theorem d_Reader_takeUnit_38 : decode b_Reader_takeUnit 38 = .ok (.isub, 1) := by decide +kernel
theorem d_Reader_takeUnit_39 : decode b_Reader_takeUnit 39 = .ok (.sipush 1024, 3) := by decide +kernel
theorem d_Reader_takeUnit_42 : decode b_Reader_takeUnit 42 = .ok (.imul, 1) := by decide +kernel
theorem d_Reader_takeUnit_43 : decode b_Reader_takeUnit 43 = .ok (.iadd, 1) := by decide +kernel
theorem d_Reader_takeUnit_44 : decode b_Reader_takeUnit 44 = .ok (.iload_n 1, 1) := by decide +kernel
theorem d_Reader_takeUnit_45 : decode b_Reader_takeUnit 45 = .ok (.iadd, 1) := by decide +kernel
theorem d_Reader_takeUnit_46 : decode b_Reader_takeUnit 46 = .ok (.ldc 92, 2) := by decide +kernel
theorem d_Reader_takeUnit_48 : decode b_Reader_takeUnit 48 = .ok (.isub, 1) := by decide +kernel
theorem d_Reader_takeUnit_49 : decode b_Reader_takeUnit 49 = .ok (.invokevirtual 48, 3) := by decide +kernel
theorem d_Reader_takeUnit_52 : decode b_Reader_takeUnit 52 = .ok (.aload_n 0, 1) := by decide +kernel
theorem d_Reader_takeUnit_53 : decode b_Reader_takeUnit 53 = .ok (.iconst 0, 1) := by decide +kernel
theorem d_Reader_takeUnit_54 : decode b_Reader_takeUnit 54 = .ok (.putfield 94, 3) := by decide +kernel
theorem d_Reader_takeUnit_57 : decode b_Reader_takeUnit 57 = .ok (.return_, 1) := by decide +kernel
theorem d_Reader_takeUnit_58 : decode b_Reader_takeUnit 58 = .ok (.aload_n 0, 1) := by decide +kernel
theorem d_Reader_takeUnit_59 : decode b_Reader_takeUnit 59 = .ok (.aload_n 2, 1) := by decide +kernel
theorem d_Reader_takeUnit_60 : decode b_Reader_takeUnit 60 = .ok (.invokevirtual 66, 3) := by decide +kernel
theorem d_Reader_takeUnit_63 : decode b_Reader_takeUnit 63 = .ok (.iload_n 1, 1) := by decide +kernel
theorem d_Reader_takeUnit_64 : decode b_Reader_takeUnit 64 = .ok (.ldc 99, 2) := by decide +kernel
theorem d_Reader_takeUnit_66 : decode b_Reader_takeUnit 66 = .ok (.if_icmp .lt 17, 3) := by decide +kernel
theorem d_Reader_takeUnit_69 : decode b_Reader_takeUnit 69 = .ok (.iload_n 1, 1) := by decide +kernel
theorem d_Reader_takeUnit_70 : decode b_Reader_takeUnit 70 = .ok (.ldc 100, 2) := by decide +kernel
theorem d_Reader_takeUnit_72 : decode b_Reader_takeUnit 72 = .ok (.if_icmp .gt 11, 3) := by decide +kernel
theorem d_Reader_takeUnit_75 : decode b_Reader_takeUnit 75 = .ok (.aload_n 0, 1) := by decide +kernel
theorem d_Reader_takeUnit_76 : decode b_Reader_takeUnit 76 = .ok (.iload_n 1, 1) := by decide +kernel
theorem d_Reader_takeUnit_77 : decode b_Reader_takeUnit 77 = .ok (.putfield 94, 3) := by decide +kernel
theorem d_Reader_takeUnit_80 : decode b_Reader_takeUnit 80 = .ok (.goto 17, 3) := by decide +kernel
theorem d_Reader_takeUnit_83 : decode b_Reader_takeUnit 83 = .ok (.aload_n 2, 1) := by decide +kernel
theorem d_Reader_takeUnit_84 : decode b_Reader_takeUnit 84 = .ok (.iload_n 3, 1) := by decide +kernel
theorem d_Reader_takeUnit_85 : decode b_Reader_takeUnit 85 = .ok (.ifCond .eq 8, 3) := by decide +kernel
theorem d_Reader_takeUnit_88 : decode b_Reader_takeUnit 88 = .ok (.ldc 52, 2) := by decide +kernel
theorem d_Reader_takeUnit_90 : decode b_Reader_takeUnit 90 = .ok (.goto 4, 3) := by decide +kernel
theorem d_Reader_takeUnit_93 : decode b_Reader_takeUnit 93 = .ok (.iload_n 1, 1) := by decide +kernel
theorem d_Reader_takeUnit_94 : decode b_Reader_takeUnit 94 = .ok (.invokevirtual 48, 3) := by decide +kernel
theorem d_Reader_takeUnit_97 : decode b_Reader_takeUnit 97 = .ok (.return_, 1) := by decide +kernel
theorem d_Reader_takeSixBits_0 : decode b_Reader_takeSixBits 0 = .ok (.aload_n 0, 1) := by decide +kernel
theorem d_Reader_takeSixBits_1 : decode b_Reader_takeSixBits 1 = .ok (.getfield 12, 3) := by decide +kernel
theorem d_Reader_takeSixBits_4 : decode b_Reader_takeSixBits 4 = .ok (.iload_n 1, 1) := by decide +kernel
theorem d_Reader_takeSixBits_5 : decode b_Reader_takeSixBits 5 = .ok (.bipush 6, 2) := by decide +kernel
theorem d_Reader_takeSixBits_7 : decode b_Reader_takeSixBits 7 = .ok (.invokevirtual 81, 3) := by decide +kernel
theorem d_Reader_takeSixBits_10 : decode b_Reader_takeSixBits 10 = .ok (.aload_n 0, 1) := by decide +kernel
theorem d_Reader_takeSixBits_11 : decode b_Reader_takeSixBits 11 = .ok (.getfield 12, 3) := by decide +kernel
theorem d_Reader_takeSixBits_14 : decode b_Reader_takeSixBits 14 = .ok (.bipush 16, 2) := by decide +kernel
theorem d_Reader_takeSixBits_16 : decode b_Reader_takeSixBits 16 = .ok (.invokevirtual 85, 3) := by decide +kernel
theorem d_Reader_takeSixBits_19 : decode b_Reader_takeSixBits 19 = .ok (.ifCond .eq 17, 3) := by decide +kernel
theorem d_Reader_takeSixBits_22 : decode b_Reader_takeSixBits 22 = .ok (.aload_n 0, 1) := by decide +kernel
theorem d_Reader_takeSixBits_23 : decode b_Reader_takeSixBits 23 = .ok (.aload_n 0, 1) := by decide +kernel
theorem d_Reader_takeSixBits_24 : decode b_Reader_takeSixBits 24 = .ok (.getfield 12, 3) := by decide +kernel
theorem d_Reader_takeSixBits_27 : decode b_Reader_takeSixBits 27 = .ok (.bipush 16, 2) := by decide +kernel
theorem d_Reader_takeSixBits_29 : decode b_Reader_takeSixBits 29 = .ok (.invokevirtual 89, 3) := by decide +kernel
theorem d_Reader_takeSixBits_32 : decode b_Reader_takeSixBits 32 = .ok (.aload_n 2, 1) := by decide +kernel
theorem d_Reader_takeSixBits_33 : decode b_Reader_takeSixBits 33 = .ok (.invokevirtual 62, 3) := by decide +kernel
theorem d_Reader_takeSixBits_36 : decode b_Reader_takeSixBits 36 = .ok (.return_, 1) := by decide +kernel
theorem d_SingleBytes_characterOf_0 : decode b_SingleBytes_characterOf 0 = .ok (.iload_n 1, 1) := by decide +kernel
theorem d_SingleBytes_characterOf_1 : decode b_SingleBytes_characterOf 1 = .ok (.sipush 128, 3) := by decide +kernel
theorem d_SingleBytes_characterOf_4 : decode b_SingleBytes_characterOf 4 = .ok (.if_icmp .ge 5, 3) := by decide +kernel
theorem d_SingleBytes_characterOf_7 : decode b_SingleBytes_characterOf 7 = .ok (.iload_n 1, 1) := by decide +kernel
theorem d_SingleBytes_characterOf_8 : decode b_SingleBytes_characterOf 8 = .ok (.ireturn, 1) := by decide +kernel
theorem d_SingleBytes_characterOf_9 : decode b_SingleBytes_characterOf 9 = .ok (.iload_n 0, 1) := by decide +kernel
theorem d_SingleBytes_characterOf_10 : decode b_SingleBytes_characterOf 10 = .ok (.tableswitch 81 1 8 #[46, 48, 53, 81, 81, 81, 81, 76], 46) := by decide +kernel
theorem d_SingleBytes_characterOf_56 : decode b_SingleBytes_characterOf 56 = .ok (.iload_n 1, 1) := by decide +kernel
theorem d_SingleBytes_characterOf_57 : decode b_SingleBytes_characterOf 57 = .ok (.ireturn, 1) := by decide +kernel
theorem d_SingleBytes_characterOf_58 : decode b_SingleBytes_characterOf 58 = .ok (.iload_n 1, 1) := by decide +kernel
theorem d_SingleBytes_characterOf_59 : decode b_SingleBytes_characterOf 59 = .ok (.invokestatic 9, 3) := by decide +kernel
theorem d_SingleBytes_characterOf_62 : decode b_SingleBytes_characterOf 62 = .ok (.ireturn, 1) := by decide +kernel
theorem d_SingleBytes_characterOf_63 : decode b_SingleBytes_characterOf 63 = .ok (.iload_n 1, 1) := by decide +kernel
theorem d_SingleBytes_characterOf_64 : decode b_SingleBytes_characterOf 64 = .ok (.sipush 160, 3) := by decide +kernel
theorem d_SingleBytes_characterOf_67 : decode b_SingleBytes_characterOf 67 = .ok (.if_icmp .ge 17, 3) := by decide +kernel
theorem d_SingleBytes_characterOf_70 : decode b_SingleBytes_characterOf 70 = .ok (.getstatic 15, 3) := by decide +kernel
theorem d_SingleBytes_characterOf_73 : decode b_SingleBytes_characterOf 73 = .ok (.iload_n 1, 1) := by decide +kernel
theorem d_SingleBytes_characterOf_74 : decode b_SingleBytes_characterOf 74 = .ok (.sipush 128, 3) := by decide +kernel
theorem d_SingleBytes_characterOf_77 : decode b_SingleBytes_characterOf 77 = .ok (.isub, 1) := by decide +kernel
theorem d_SingleBytes_characterOf_78 : decode b_SingleBytes_characterOf 78 = .ok (.invokestatic 19, 3) := by decide +kernel
theorem d_SingleBytes_characterOf_81 : decode b_SingleBytes_characterOf 81 = .ok (.goto 4, 3) := by decide +kernel
theorem d_SingleBytes_characterOf_84 : decode b_SingleBytes_characterOf 84 = .ok (.iload_n 1, 1) := by decide +kernel
theorem d_SingleBytes_characterOf_85 : decode b_SingleBytes_characterOf 85 = .ok (.ireturn, 1) := by decide +kernel
theorem d_SingleBytes_characterOf_86 : decode b_SingleBytes_characterOf 86 = .ok (.iload_n 1, 1) := by decide +kernel
theorem d_SingleBytes_characterOf_87 : decode b_SingleBytes_characterOf 87 = .ok (.invokestatic 23, 3) := by decide +kernel
theorem d_SingleBytes_characterOf_90 : decode b_SingleBytes_characterOf 90 = .ok (.ireturn, 1) := by decide +kernel
theorem d_SingleBytes_characterOf_91 : decode b_SingleBytes_characterOf 91 = .ok (.ldc 26, 2) := by decide +kernel
theorem d_SingleBytes_characterOf_93 : decode b_SingleBytes_characterOf 93 = .ok (.ireturn, 1) := by decide +kernel
theorem d_Uncoder_unquote_0 : decode b_Uncoder_unquote 0 = .ok (.iload_n 1, 1) := by decide +kernel
theorem d_Uncoder_unquote_1 : decode b_Uncoder_unquote 1 = .ok (.istore 5, 2) := by decide +kernel
theorem d_Uncoder_unquote_3 : decode b_Uncoder_unquote 3 = .ok (.iload 5, 2) := by decide +kernel
theorem d_Uncoder_unquote_5 : decode b_Uncoder_unquote 5 = .ok (.iload_n 2, 1) := by decide +kernel
theorem d_Uncoder_unquote_6 : decode b_Uncoder_unquote 6 = .ok (.if_icmp .ge 120, 3) := by decide +kernel
theorem d_Uncoder_unquote_9 : decode b_Uncoder_unquote 9 = .ok (.aload_n 0, 1) := by decide +kernel
theorem d_Uncoder_unquote_10 : decode b_Uncoder_unquote 10 = .ok (.iload 5, 2) := by decide +kernel
theorem d_Uncoder_unquote_12 : decode b_Uncoder_unquote 12 = .ok (.invokevirtual 62, 3) := by decide +kernel
theorem d_Uncoder_unquote_15 : decode b_Uncoder_unquote 15 = .ok (.istore 6, 2) := by decide +kernel
theorem d_Uncoder_unquote_17 : decode b_Uncoder_unquote 17 = .ok (.iload 6, 2) := by decide +kernel
theorem d_Uncoder_unquote_19 : decode b_Uncoder_unquote 19 = .ok (.bipush 61, 2) := by decide +kernel
theorem d_Uncoder_unquote_21 : decode b_Uncoder_unquote 21 = .ok (.if_icmp .ne 25, 3) := by decide +kernel
theorem d_Uncoder_unquote_24 : decode b_Uncoder_unquote 24 = .ok (.iload 5, 2) := by decide +kernel
theorem d_Uncoder_unquote_26 : decode b_Uncoder_unquote 26 = .ok (.iconst 2, 1) := by decide +kernel
theorem d_Uncoder_unquote_27 : decode b_Uncoder_unquote 27 = .ok (.iadd, 1) := by decide +kernel
theorem d_Uncoder_unquote_28 : decode b_Uncoder_unquote 28 = .ok (.iload_n 2, 1) := by decide +kernel
theorem d_Uncoder_unquote_29 : decode b_Uncoder_unquote 29 = .ok (.if_icmp .ge 17, 3) := by decide +kernel
theorem d_Uncoder_unquote_32 : decode b_Uncoder_unquote 32 = .ok (.aload_n 0, 1) := by decide +kernel
theorem d_Uncoder_unquote_33 : decode b_Uncoder_unquote 33 = .ok (.iload 5, 2) := by decide +kernel
theorem d_Uncoder_unquote_35 : decode b_Uncoder_unquote 35 = .ok (.iconst 1, 1) := by decide +kernel
theorem d_Uncoder_unquote_36 : decode b_Uncoder_unquote 36 = .ok (.iadd, 1) := by decide +kernel
theorem d_Uncoder_unquote_37 : decode b_Uncoder_unquote 37 = .ok (.invokevirtual 62, 3) := by decide +kernel
theorem d_Uncoder_unquote_40 : decode b_Uncoder_unquote 40 = .ok (.invokestatic 102, 3) := by decide +kernel
theorem d_Uncoder_unquote_43 : decode b_Uncoder_unquote 43 = .ok (.goto 4, 3) := by decide +kernel
theorem d_Uncoder_unquote_46 : decode b_Uncoder_unquote 46 = .ok (.iconst (-1), 1) := by decide +kernel
theorem d_Uncoder_unquote_47 : decode b_Uncoder_unquote 47 = .ok (.istore 7, 2) := by decide +kernel
theorem d_Uncoder_unquote_49 : decode b_Uncoder_unquote 49 = .ok (.iload 7, 2) := by decide +kernel
theorem d_Uncoder_unquote_51 : decode b_Uncoder_unquote 51 = .ok (.iconst (-1), 1) := by decide +kernel
theorem d_Uncoder_unquote_52 : decode b_Uncoder_unquote 52 = .ok (.if_icmp .eq 17, 3) := by decide +kernel
theorem d_Uncoder_unquote_55 : decode b_Uncoder_unquote 55 = .ok (.aload_n 0, 1) := by decide +kernel
theorem d_Uncoder_unquote_56 : decode b_Uncoder_unquote 56 = .ok (.iload 5, 2) := by decide +kernel
theorem d_Uncoder_unquote_58 : decode b_Uncoder_unquote 58 = .ok (.iconst 2, 1) := by decide +kernel
theorem d_Uncoder_unquote_59 : decode b_Uncoder_unquote 59 = .ok (.iadd, 1) := by decide +kernel
theorem d_Uncoder_unquote_60 : decode b_Uncoder_unquote 60 = .ok (.invokevirtual 62, 3) := by decide +kernel
theorem d_Uncoder_unquote_63 : decode b_Uncoder_unquote 63 = .ok (.invokestatic 102, 3) := by decide +kernel
theorem d_Uncoder_unquote_66 : decode b_Uncoder_unquote 66 = .ok (.goto 4, 3) := by decide +kernel
theorem d_Uncoder_unquote_69 : decode b_Uncoder_unquote 69 = .ok (.iconst (-1), 1) := by decide +kernel
theorem d_Uncoder_unquote_70 : decode b_Uncoder_unquote 70 = .ok (.istore 8, 2) := by decide +kernel
theorem d_Uncoder_unquote_72 : decode b_Uncoder_unquote 72 = .ok (.iload 8, 2) := by decide +kernel
theorem d_Uncoder_unquote_74 : decode b_Uncoder_unquote 74 = .ok (.iconst (-1), 1) := by decide +kernel
theorem d_Uncoder_unquote_75 : decode b_Uncoder_unquote 75 = .ok (.if_icmp .eq 22, 3) := by decide +kernel
theorem d_Uncoder_unquote_78 : decode b_Uncoder_unquote 78 = .ok (.aload 4, 2) := by decide +kernel
theorem d_Uncoder_unquote_80 : decode b_Uncoder_unquote 80 = .ok (.iload 7, 2) := by decide +kernel
theorem d_Uncoder_unquote_82 : decode b_Uncoder_unquote 82 = .ok (.bipush 16, 2) := by decide +kernel
theorem d_Uncoder_unquote_84 : decode b_Uncoder_unquote 84 = .ok (.imul, 1) := by decide +kernel
theorem d_Uncoder_unquote_85 : decode b_Uncoder_unquote 85 = .ok (.iload 8, 2) := by decide +kernel
theorem d_Uncoder_unquote_87 : decode b_Uncoder_unquote 87 = .ok (.iadd, 1) := by decide +kernel
theorem d_Uncoder_unquote_88 : decode b_Uncoder_unquote 88 = .ok (.invokevirtual 82, 3) := by decide +kernel
theorem d_Uncoder_unquote_91 : decode b_Uncoder_unquote 91 = .ok (.iinc 5 2, 3) := by decide +kernel
theorem d_Uncoder_unquote_94 : decode b_Uncoder_unquote 94 = .ok (.goto 26, 3) := by decide +kernel
theorem d_Uncoder_unquote_97 : decode b_Uncoder_unquote 97 = .ok (.aload 4, 2) := by decide +kernel
theorem d_Uncoder_unquote_99 : decode b_Uncoder_unquote 99 = .ok (.iload_n 3, 1) := by decide +kernel
theorem d_Uncoder_unquote_100 : decode b_Uncoder_unquote 100 = .ok (.ifCond .eq 15, 3) := by decide +kernel
theorem d_Uncoder_unquote_103 : decode b_Uncoder_unquote 103 = .ok (.iload 6, 2) := by decide +kernel
theorem d_Uncoder_unquote_105 : decode b_Uncoder_unquote 105 = .ok (.bipush 95, 2) := by decide +kernel
theorem d_Uncoder_unquote_107 : decode b_Uncoder_unquote 107 = .ok (.if_icmp .ne 8, 3) := by decide +kernel
theorem d_Uncoder_unquote_110 : decode b_Uncoder_unquote 110 = .ok (.bipush 32, 2) := by decide +kernel
theorem d_Uncoder_unquote_112 : decode b_Uncoder_unquote 112 = .ok (.goto 5, 3) := by decide +kernel
theorem d_Uncoder_unquote_115 : decode b_Uncoder_unquote 115 = .ok (.iload 6, 2) := by decide +kernel
theorem d_Uncoder_unquote_117 : decode b_Uncoder_unquote 117 = .ok (.invokevirtual 82, 3) := by decide +kernel
theorem d_Uncoder_unquote_120 : decode b_Uncoder_unquote 120 = .ok (.iinc 5 1, 3) := by decide +kernel
theorem d_Uncoder_unquote_123 : decode b_Uncoder_unquote 123 = .ok (.goto (-120), 3) := by decide +kernel
theorem d_Uncoder_unquote_126 : decode b_Uncoder_unquote 126 = .ok (.return_, 1) := by decide +kernel
theorem d_MC_count_0 : decode b_MC_count 0 = .ok (.iload_n 1, 1) := by decide +kernel
theorem d_MC_count_1 : decode b_MC_count 1 = .ok (.tableswitch 53 0 2 #[27, 35, 43], 27) := by decide +kernel
theorem d_MC_count_28 : decode b_MC_count 28 = .ok (.aload_n 0, 1) := by decide +kernel
theorem d_MC_count_29 : decode b_MC_count 29 = .ok (.getfield 57, 3) := by decide +kernel
theorem d_MC_count_32 : decode b_MC_count 32 = .ok (.invokevirtual 74, 3) := by decide +kernel
theorem d_MC_count_35 : decode b_MC_count 35 = .ok (.ireturn, 1) := by decide +kernel
theorem d_MC_count_36 : decode b_MC_count 36 = .ok (.aload_n 0, 1) := by decide +kernel
theorem d_MC_count_37 : decode b_MC_count 37 = .ok (.getfield 18, 3) := by decide +kernel
theorem d_MC_count_40 : decode b_MC_count 40 = .ok (.invokevirtual 74, 3) := by decide +kernel
theorem d_MC_count_43 : decode b_MC_count 43 = .ok (.ireturn, 1) := by decide +kernel
theorem d_MC_count_44 : decode b_MC_count 44 = .ok (.aload_n 0, 1) := by decide +kernel
theorem d_MC_count_45 : decode b_MC_count 45 = .ok (.getfield 18, 3) := by decide +kernel
theorem d_MC_count_48 : decode b_MC_count 48 = .ok (.ldc 146, 2) := by decide +kernel
theorem d_MC_count_50 : decode b_MC_count 50 = .ok (.invokevirtual 147, 3) := by decide +kernel
theorem d_MC_count_53 : decode b_MC_count 53 = .ok (.ireturn, 1) := by decide +kernel
theorem d_MC_count_54 : decode b_MC_count 54 = .ok (.iconst (-1), 1) := by decide +kernel
theorem d_MC_count_55 : decode b_MC_count 55 = .ok (.ireturn, 1) := by decide +kernel
theorem d_Uncoder_unquoteLines_0 : decode b_Uncoder_unquoteLines 0 = .ok (.aload_n 0, 1) := by decide +kernel
theorem d_Uncoder_unquoteLines_1 : decode b_Uncoder_unquoteLines 1 = .ok (.getfield 21, 3) := by decide +kernel
theorem d_Uncoder_unquoteLines_4 : decode b_Uncoder_unquoteLines 4 = .ok (.invokevirtual 86, 3) := by decide +kernel
theorem d_Uncoder_unquoteLines_7 : decode b_Uncoder_unquoteLines 7 = .ok (.iconst 0, 1) := by decide +kernel
theorem d_Uncoder_unquoteLines_8 : decode b_Uncoder_unquoteLines 8 = .ok (.istore_n 3, 1) := by decide +kernel
theorem d_Uncoder_unquoteLines_9 : decode b_Uncoder_unquoteLines 9 = .ok (.iload_n 3, 1) := by decide +kernel
theorem d_Uncoder_unquoteLines_10 : decode b_Uncoder_unquoteLines 10 = .ok (.aload_n 1, 1) := by decide +kernel
theorem d_Uncoder_unquoteLines_11 : decode b_Uncoder_unquoteLines 11 = .ok (.invokevirtual 25, 3) := by decide +kernel
theorem d_Uncoder_unquoteLines_14 : decode b_Uncoder_unquoteLines 14 = .ok (.if_icmp .ge 126, 3) := by decide +kernel
theorem d_Uncoder_unquoteLines_17 : decode b_Uncoder_unquoteLines 17 = .ok (.aload_n 0, 1) := by decide +kernel
theorem d_Uncoder_unquoteLines_18 : decode b_Uncoder_unquoteLines 18 = .ok (.getfield 21, 3) := by decide +kernel
theorem d_Uncoder_unquoteLines_21 : decode b_Uncoder_unquoteLines 21 = .ok (.aload_n 1, 1) := by decide +kernel
theorem d_Uncoder_unquoteLines_22 : decode b_Uncoder_unquoteLines 22 = .ok (.invokevirtual 89, 3) := by decide +kernel
theorem d_Uncoder_unquoteLines_25 : decode b_Uncoder_unquoteLines 25 = .ok (.ifCond .eq 115, 3) := by decide +kernel
theorem d_Uncoder_unquoteLines_28 : decode b_Uncoder_unquoteLines 28 = .ok (.aload_n 1, 1) := by decide +kernel
theorem d_Uncoder_unquoteLines_29 : decode b_Uncoder_unquoteLines 29 = .ok (.aload_n 0, 1) := by decide +kernel
theorem d_Uncoder_unquoteLines_30 : decode b_Uncoder_unquoteLines 30 = .ok (.getfield 21, 3) := by decide +kernel
theorem d_Uncoder_unquoteLines_33 : decode b_Uncoder_unquoteLines 33 = .ok (.getfield 93, 3) := by decide +kernel
theorem d_Uncoder_unquoteLines_36 : decode b_Uncoder_unquoteLines 36 = .ok (.aload_n 0, 1) := by decide +kernel
theorem d_Uncoder_unquoteLines_37 : decode b_Uncoder_unquoteLines 37 = .ok (.getfield 21, 3) := by decide +kernel
theorem d_Uncoder_unquoteLines_40 : decode b_Uncoder_unquoteLines 40 = .ok (.getfield 94, 3) := by decide +kernel
theorem d_Uncoder_unquoteLines_43 : decode b_Uncoder_unquoteLines 43 = .ok (.invokestatic 95, 3) := by decide +kernel
theorem d_Uncoder_unquoteLines_46 : decode b_Uncoder_unquoteLines 46 = .ok (.istore 4, 2) := by decide +kernel
theorem d_Uncoder_unquoteLines_48 : decode b_Uncoder_unquoteLines 48 = .ok (.iload 4, 2) := by decide +kernel
theorem d_Uncoder_unquoteLines_50 : decode b_Uncoder_unquoteLines 50 = .ok (.aload_n 0, 1) := by decide +kernel
theorem d_Uncoder_unquoteLines_51 : decode b_Uncoder_unquoteLines 51 = .ok (.getfield 21, 3) := by decide +kernel
theorem d_Uncoder_unquoteLines_54 : decode b_Uncoder_unquoteLines 54 = .ok (.getfield 93, 3) := by decide +kernel
theorem d_Uncoder_unquoteLines_57 : decode b_Uncoder_unquoteLines 57 = .ok (.if_icmp .le 20, 3) := by decide +kernel
theorem d_Uncoder_unquoteLines_60 : decode b_Uncoder_unquoteLines 60 = .ok (.aload_n 1, 1) := by decide +kernel
theorem d_Uncoder_unquoteLines_61 : decode b_Uncoder_unquoteLines 61 = .ok (.iload 4, 2) := by decide +kernel
theorem d_Uncoder_unquoteLines_63 : decode b_Uncoder_unquoteLines 63 = .ok (.iconst 1, 1) := by decide +kernel
theorem d_Uncoder_unquoteLines_64 : decode b_Uncoder_unquoteLines 64 = .ok (.isub, 1) := by decide +kernel
theorem d_Uncoder_unquoteLines_65 : decode b_Uncoder_unquoteLines 65 = .ok (.invokevirtual 62, 3) := by decide +kernel
theorem d_Uncoder_unquoteLines_68 : decode b_Uncoder_unquoteLines 68 = .ok (.bipush 61, 2) := by decide +kernel
theorem d_Uncoder_unquoteLines_70 : decode b_Uncoder_unquoteLines 70 = .ok (.if_icmp .ne 7, 3) := by decide +kernel
theorem d_Uncoder_unquoteLines_73 : decode b_Uncoder_unquoteLines 73 = .ok (.iconst 1, 1) := by decide +kernel
theorem d_Uncoder_unquoteLines_74 : decode b_Uncoder_unquoteLines 74 = .ok (.goto 4, 3) := by decide +kernel
theorem d_Uncoder_unquoteLines_77 : decode b_Uncoder_unquoteLines 77 = .ok (.iconst 0, 1) := by decide +kernel
theorem d_Uncoder_unquoteLines_78 : decode b_Uncoder_unquoteLines 78 = .ok (.istore 5, 2) := by decide +kernel
theorem d_Uncoder_unquoteLines_80 : decode b_Uncoder_unquoteLines 80 = .ok (.aload_n 1, 1) := by decide +kernel
theorem d_Uncoder_unquoteLines_81 : decode b_Uncoder_unquoteLines 81 = .ok (.aload_n 0, 1) := by decide +kernel
theorem d_Uncoder_unquoteLines_82 : decode b_Uncoder_unquoteLines 82 = .ok (.getfield 21, 3) := by decide +kernel
theorem d_Uncoder_unquoteLines_85 : decode b_Uncoder_unquoteLines 85 = .ok (.getfield 93, 3) := by decide +kernel
theorem d_Uncoder_unquoteLines_88 : decode b_Uncoder_unquoteLines 88 = .ok (.iload 5, 2) := by decide +kernel
theorem d_Uncoder_unquoteLines_90 : decode b_Uncoder_unquoteLines 90 = .ok (.ifCond .eq 10, 3) := by decide +kernel
theorem d_Uncoder_unquoteLines_93 : decode b_Uncoder_unquoteLines 93 = .ok (.iload 4, 2) := by decide +kernel
theorem d_Uncoder_unquoteLines_95 : decode b_Uncoder_unquoteLines 95 = .ok (.iconst 1, 1) := by decide +kernel
theorem d_Uncoder_unquoteLines_96 : decode b_Uncoder_unquoteLines 96 = .ok (.isub, 1) := by decide +kernel
theorem d_Uncoder_unquoteLines_97 : decode b_Uncoder_unquoteLines 97 = .ok (.goto 5, 3) := by decide +kernel
theorem d_Uncoder_unquoteLines_100 : decode b_Uncoder_unquoteLines 100 = .ok (.iload 4, 2) := by decide +kernel
theorem d_Uncoder_unquoteLines_102 : decode b_Uncoder_unquoteLines 102 = .ok (.iconst 0, 1) := by decide +kernel
theorem d_Uncoder_unquoteLines_103 : decode b_Uncoder_unquoteLines 103 = .ok (.aload_n 2, 1) := by decide +kernel
theorem d_Uncoder_unquoteLines_104 : decode b_Uncoder_unquoteLines 104 = .ok (.invokestatic 55, 3) := by decide +kernel
theorem d_Uncoder_unquoteLines_107 : decode b_Uncoder_unquoteLines 107 = .ok (.aload_n 0, 1) := by decide +kernel
theorem d_Uncoder_unquoteLines_108 : decode b_Uncoder_unquoteLines 108 = .ok (.getfield 21, 3) := by decide +kernel
theorem d_Uncoder_unquoteLines_111 : decode b_Uncoder_unquoteLines 111 = .ok (.getfield 99, 3) := by decide +kernel
theorem d_Uncoder_unquoteLines_114 : decode b_Uncoder_unquoteLines 114 = .ok (.ifCond .eq 20, 3) := by decide +kernel
theorem d_Uncoder_unquoteLines_117 : decode b_Uncoder_unquoteLines 117 = .ok (.iload 5, 2) := by decide +kernel
theorem d_Uncoder_unquoteLines_119 : decode b_Uncoder_unquoteLines 119 = .ok (.ifCond .ne 15, 3) := by decide +kernel
theorem d_Uncoder_unquoteLines_122 : decode b_Uncoder_unquoteLines 122 = .ok (.aload_n 2, 1) := by decide +kernel
theorem d_Uncoder_unquoteLines_123 : decode b_Uncoder_unquoteLines 123 = .ok (.bipush 13, 2) := by decide +kernel
theorem d_Uncoder_unquoteLines_125 : decode b_Uncoder_unquoteLines 125 = .ok (.invokevirtual 82, 3) := by decide +kernel
theorem d_Uncoder_unquoteLines_128 : decode b_Uncoder_unquoteLines 128 = .ok (.aload_n 2, 1) := by decide +kernel
theorem d_Uncoder_unquoteLines_129 : decode b_Uncoder_unquoteLines 129 = .ok (.bipush 10, 2) := by decide +kernel
theorem d_Uncoder_unquoteLines_131 : decode b_Uncoder_unquoteLines 131 = .ok (.invokevirtual 82, 3) := by decide +kernel
theorem d_Uncoder_unquoteLines_134 : decode b_Uncoder_unquoteLines 134 = .ok (.iinc 3 1, 3) := by decide +kernel
theorem d_Uncoder_unquoteLines_137 : decode b_Uncoder_unquoteLines 137 = .ok (.goto (-128), 3) := by decide +kernel
theorem d_Uncoder_unquoteLines_140 : decode b_Uncoder_unquoteLines 140 = .ok (.return_, 1) := by decide +kernel
theorem d_Uncoder_endsHex_0 : decode b_Uncoder_endsHex 0 = .ok (.aload_n 0, 1) := by decide +kernel
theorem d_Uncoder_endsHex_1 : decode b_Uncoder_endsHex 1 = .ok (.getfield 21, 3) := by decide +kernel
theorem d_Uncoder_endsHex_4 : decode b_Uncoder_endsHex 4 = .ok (.invokevirtual 105, 3) := by decide +kernel
theorem d_Uncoder_endsHex_7 : decode b_Uncoder_endsHex 7 = .ok (.ifCond .eq 31, 3) := by decide +kernel
theorem d_Uncoder_endsHex_10 : decode b_Uncoder_endsHex 10 = .ok (.aload_n 0, 1) := by decide +kernel
theorem d_Uncoder_endsHex_11 : decode b_Uncoder_endsHex 11 = .ok (.getfield 21, 3) := by decide +kernel
theorem d_Uncoder_endsHex_14 : decode b_Uncoder_endsHex 14 = .ok (.invokevirtual 105, 3) := by decide +kernel
theorem d_Uncoder_endsHex_17 : decode b_Uncoder_endsHex 17 = .ok (.ldc 123, 2) := by decide +kernel
theorem d_Uncoder_endsHex_19 : decode b_Uncoder_endsHex 19 = .ok (.invokevirtual 110, 3) := by decide +kernel
theorem d_Uncoder_endsHex_22 : decode b_Uncoder_endsHex 22 = .ok (.if_icmp .ne 18, 3) := by decide +kernel
theorem d_Uncoder_endsHex_25 : decode b_Uncoder_endsHex 25 = .ok (.aload_n 0, 1) := by decide +kernel
theorem d_Uncoder_endsHex_26 : decode b_Uncoder_endsHex 26 = .ok (.getfield 21, 3) := by decide +kernel
theorem d_Uncoder_endsHex_29 : decode b_Uncoder_endsHex 29 = .ok (.aload_n 1, 1) := by decide +kernel
theorem d_Uncoder_endsHex_30 : decode b_Uncoder_endsHex 30 = .ok (.ldc 123, 2) := by decide +kernel
theorem d_Uncoder_endsHex_32 : decode b_Uncoder_endsHex 32 = .ok (.invokevirtual 113, 3) := by decide +kernel
theorem d_Uncoder_endsHex_35 : decode b_Uncoder_endsHex 35 = .ok (.ifCond .eq 5, 3) := by decide +kernel
theorem d_Uncoder_endsHex_38 : decode b_Uncoder_endsHex 38 = .ok (.iconst 1, 1) := by decide +kernel
theorem d_Uncoder_endsHex_39 : decode b_Uncoder_endsHex 39 = .ok (.ireturn, 1) := by decide +kernel
theorem d_Uncoder_endsHex_40 : decode b_Uncoder_endsHex 40 = .ok (.aload_n 1, 1) := by decide +kernel
theorem d_Uncoder_endsHex_41 : decode b_Uncoder_endsHex 41 = .ok (.aload_n 0, 1) := by decide +kernel
theorem d_Uncoder_endsHex_42 : decode b_Uncoder_endsHex 42 = .ok (.getfield 21, 3) := by decide +kernel
theorem d_Uncoder_endsHex_45 : decode b_Uncoder_endsHex 45 = .ok (.getfield 93, 3) := by decide +kernel
theorem d_Uncoder_endsHex_48 : decode b_Uncoder_endsHex 48 = .ok (.invokevirtual 62, 3) := by decide +kernel
theorem d_Uncoder_endsHex_51 : decode b_Uncoder_endsHex 51 = .ok (.invokestatic 125, 3) := by decide +kernel
theorem d_Uncoder_endsHex_54 : decode b_Uncoder_endsHex 54 = .ok (.ifCond .ne 7, 3) := by decide +kernel
theorem d_Uncoder_endsHex_57 : decode b_Uncoder_endsHex 57 = .ok (.iconst 1, 1) := by decide +kernel
theorem d_Uncoder_endsHex_58 : decode b_Uncoder_endsHex 58 = .ok (.goto 4, 3) := by decide +kernel
theorem d_Uncoder_endsHex_61 : decode b_Uncoder_endsHex 61 = .ok (.iconst 0, 1) := by decide +kernel
theorem d_Uncoder_endsHex_62 : decode b_Uncoder_endsHex 62 = .ok (.ireturn, 1) := by decide +kernel
theorem d_Writer_endOfRun_0 : decode b_Writer_endOfRun 0 = .ok (.iload_n 1, 1) := by decide +kernel
theorem d_Writer_endOfRun_1 : decode b_Writer_endOfRun 1 = .ok (.istore_n 2, 1) := by decide +kernel
theorem d_Writer_endOfRun_2 : decode b_Writer_endOfRun 2 = .ok (.iload_n 2, 1) := by decide +kernel
theorem d_Writer_endOfRun_3 : decode b_Writer_endOfRun 3 = .ok (.aload_n 0, 1) := by decide +kernel
theorem d_Writer_endOfRun_4 : decode b_Writer_endOfRun 4 = .ok (.invokevirtual 28, 3) := by decide +kernel
theorem d_Writer_endOfRun_7 : decode b_Writer_endOfRun 7 = .ok (.if_icmp .ge 22, 3) := by decide +kernel
theorem d_Writer_endOfRun_10 : decode b_Writer_endOfRun 10 = .ok (.aload_n 0, 1) := by decide +kernel
theorem d_Writer_endOfRun_11 : decode b_Writer_endOfRun 11 = .ok (.iload_n 2, 1) := by decide +kernel
theorem d_Writer_endOfRun_12 : decode b_Writer_endOfRun 12 = .ok (.invokevirtual 32, 3) := by decide +kernel
theorem d_Writer_endOfRun_15 : decode b_Writer_endOfRun 15 = .ok (.invokestatic 90, 3) := by decide +kernel
theorem d_Writer_endOfRun_18 : decode b_Writer_endOfRun 18 = .ok (.ifCond .ne 5, 3) := by decide +kernel
theorem d_Writer_endOfRun_21 : decode b_Writer_endOfRun 21 = .ok (.iload_n 2, 1) := by decide +kernel
theorem d_Writer_endOfRun_22 : decode b_Writer_endOfRun 22 = .ok (.ireturn, 1) := by decide +kernel
theorem d_Writer_endOfRun_23 : decode b_Writer_endOfRun 23 = .ok (.iinc 2 1, 3) := by decide +kernel
theorem d_Writer_endOfRun_26 : decode b_Writer_endOfRun 26 = .ok (.goto (-24), 3) := by decide +kernel
theorem d_Writer_endOfRun_29 : decode b_Writer_endOfRun 29 = .ok (.aload_n 0, 1) := by decide +kernel
theorem d_Writer_endOfRun_30 : decode b_Writer_endOfRun 30 = .ok (.invokevirtual 28, 3) := by decide +kernel
theorem d_Writer_endOfRun_33 : decode b_Writer_endOfRun 33 = .ok (.ireturn, 1) := by decide +kernel
theorem d_Writer_widthOfRun_0 : decode b_Writer_widthOfRun 0 = .ok (.iconst 0, 1) := by decide +kernel
theorem d_Writer_widthOfRun_1 : decode b_Writer_widthOfRun 1 = .ok (.istore_n 3, 1) := by decide +kernel
theorem d_Writer_widthOfRun_2 : decode b_Writer_widthOfRun 2 = .ok (.iload_n 1, 1) := by decide +kernel
theorem d_Writer_widthOfRun_3 : decode b_Writer_widthOfRun 3 = .ok (.istore 4, 2) := by decide +kernel
theorem d_Writer_widthOfRun_5 : decode b_Writer_widthOfRun 5 = .ok (.iload 4, 2) := by decide +kernel
theorem d_Writer_widthOfRun_7 : decode b_Writer_widthOfRun 7 = .ok (.iload_n 2, 1) := by decide +kernel
theorem d_Writer_widthOfRun_8 : decode b_Writer_widthOfRun 8 = .ok (.if_icmp .ge 21, 3) := by decide +kernel
theorem d_Writer_widthOfRun_11 : decode b_Writer_widthOfRun 11 = .ok (.iload_n 3, 1) := by decide +kernel
theorem d_Writer_widthOfRun_12 : decode b_Writer_widthOfRun 12 = .ok (.aload_n 0, 1) := by decide +kernel
theorem d_Writer_widthOfRun_13 : decode b_Writer_widthOfRun 13 = .ok (.iload 4, 2) := by decide +kernel
theorem d_Writer_widthOfRun_15 : decode b_Writer_widthOfRun 15 = .ok (.invokevirtual 32, 3) := by decide +kernel
theorem d_Writer_widthOfRun_18 : decode b_Writer_widthOfRun 18 = .ok (.invokestatic 50, 3) := by decide +kernel
theorem d_Writer_widthOfRun_21 : decode b_Writer_widthOfRun 21 = .ok (.iadd, 1) := by decide +kernel
theorem d_Writer_widthOfRun_22 : decode b_Writer_widthOfRun 22 = .ok (.istore_n 3, 1) := by decide +kernel
theorem d_Writer_widthOfRun_23 : decode b_Writer_widthOfRun 23 = .ok (.iinc 4 1, 3) := by decide +kernel
theorem d_Writer_widthOfRun_26 : decode b_Writer_widthOfRun 26 = .ok (.goto (-21), 3) := by decide +kernel
theorem d_Writer_widthOfRun_29 : decode b_Writer_widthOfRun 29 = .ok (.iload_n 3, 1) := by decide +kernel
theorem d_Writer_widthOfRun_30 : decode b_Writer_widthOfRun 30 = .ok (.bipush 16, 2) := by decide +kernel
theorem d_Writer_widthOfRun_32 : decode b_Writer_widthOfRun 32 = .ok (.imul, 1) := by decide +kernel
theorem d_Writer_widthOfRun_33 : decode b_Writer_widthOfRun 33 = .ok (.iconst 5, 1) := by decide +kernel
theorem d_Writer_widthOfRun_34 : decode b_Writer_widthOfRun 34 = .ok (.iadd, 1) := by decide +kernel
theorem d_Writer_widthOfRun_35 : decode b_Writer_widthOfRun 35 = .ok (.bipush 6, 2) := by decide +kernel
theorem d_Writer_widthOfRun_37 : decode b_Writer_widthOfRun 37 = .ok (.idiv, 1) := by decide +kernel
theorem d_Writer_widthOfRun_38 : decode b_Writer_widthOfRun 38 = .ok (.iconst 2, 1) := by decide +kernel
theorem d_Writer_widthOfRun_39 : decode b_Writer_widthOfRun 39 = .ok (.iadd, 1) := by decide +kernel
theorem d_Writer_widthOfRun_40 : decode b_Writer_widthOfRun 40 = .ok (.ireturn, 1) := by decide +kernel
theorem d_Writer_putLetters_0 : decode b_Writer_putLetters 0 = .ok (.iconst 0, 1) := by decide +kernel
theorem d_Writer_putLetters_1 : decode b_Writer_putLetters 1 = .ok (.istore_n 2, 1) := by decide +kernel
theorem d_Writer_putLetters_2 : decode b_Writer_putLetters 2 = .ok (.iload_n 2, 1) := by decide +kernel
theorem d_Writer_putLetters_3 : decode b_Writer_putLetters 3 = .ok (.iconst 3, 1) := by decide +kernel
theorem d_Writer_putLetters_4 : decode b_Writer_putLetters 4 = .ok (.if_icmp .ge 37, 3) := by decide +kernel
theorem d_Writer_putLetters_7 : decode b_Writer_putLetters 7 = .ok (.aload_n 0, 1) := by decide +kernel
theorem d_Writer_putLetters_8 : decode b_Writer_putLetters 8 = .ok (.getfield 12, 3) := by decide +kernel
theorem d_Writer_putLetters_11 : decode b_Writer_putLetters 11 = .ok (.bipush 6, 2) := by decide +kernel
theorem d_Writer_putLetters_13 : decode b_Writer_putLetters 13 = .ok (.invokevirtual 108, 3) := by decide +kernel
theorem d_Writer_putLetters_16 : decode b_Writer_putLetters 16 = .ok (.ifCond .eq 25, 3) := by decide +kernel
theorem d_Writer_putLetters_19 : decode b_Writer_putLetters 19 = .ok (.aload_n 1, 1) := by decide +kernel
theorem d_Writer_putLetters_20 : decode b_Writer_putLetters 20 = .ok (.aload_n 0, 1) := by decide +kernel
theorem d_Writer_putLetters_21 : decode b_Writer_putLetters 21 = .ok (.getfield 12, 3) := by decide +kernel
theorem d_Writer_putLetters_24 : decode b_Writer_putLetters 24 = .ok (.bipush 6, 2) := by decide +kernel
theorem d_Writer_putLetters_26 : decode b_Writer_putLetters 26 = .ok (.invokevirtual 111, 3) := by decide +kernel
theorem d_Writer_putLetters_29 : decode b_Writer_putLetters 29 = .ok (.invokestatic 114, 3) := by decide +kernel
theorem d_Writer_putLetters_32 : decode b_Writer_putLetters 32 = .ok (.invokevirtual 22, 3) := by decide +kernel
theorem d_Writer_putLetters_35 : decode b_Writer_putLetters 35 = .ok (.iinc 2 1, 3) := by decide +kernel
theorem d_Writer_putLetters_38 : decode b_Writer_putLetters 38 = .ok (.goto (-36), 3) := by decide +kernel
theorem d_Writer_putLetters_41 : decode b_Writer_putLetters 41 = .ok (.return_, 1) := by decide +kernel
theorem d_Writer_widthOf_0 : decode b_Writer_widthOf 0 = .ok (.iload_n 1, 1) := by decide +kernel
theorem d_Writer_widthOf_1 : decode b_Writer_widthOf 1 = .ok (.tableswitch 43 4 7 #[31, 36, 36, 36], 31) := by decide +kernel
theorem d_Writer_widthOf_32 : decode b_Writer_widthOf 32 = .ok (.iload_n 0, 1) := by decide +kernel
theorem d_Writer_widthOf_33 : decode b_Writer_widthOf 33 = .ok (.invokestatic 47, 3) := by decide +kernel
theorem d_Writer_widthOf_36 : decode b_Writer_widthOf 36 = .ok (.ireturn, 1) := by decide +kernel
theorem d_Writer_widthOf_37 : decode b_Writer_widthOf 37 = .ok (.iload_n 0, 1) := by decide +kernel
theorem d_Writer_widthOf_38 : decode b_Writer_widthOf 38 = .ok (.invokestatic 50, 3) := by decide +kernel
theorem d_Writer_widthOf_41 : decode b_Writer_widthOf 41 = .ok (.iconst 2, 1) := by decide +kernel
theorem d_Writer_widthOf_42 : decode b_Writer_widthOf 42 = .ok (.imul, 1) := by decide +kernel
theorem d_Writer_widthOf_43 : decode b_Writer_widthOf 43 = .ok (.ireturn, 1) := by decide +kernel
theorem d_Writer_widthOf_44 : decode b_Writer_widthOf 44 = .ok (.iconst 1, 1) := by decide +kernel
theorem d_Writer_widthOf_45 : decode b_Writer_widthOf 45 = .ok (.ireturn, 1) := by decide +kernel
theorem d_SingleBytes_windowsByteOf_0 : decode b_SingleBytes_windowsByteOf 0 = .ok (.iload_n 0, 1) := by decide +kernel
theorem d_SingleBytes_windowsByteOf_1 : decode b_SingleBytes_windowsByteOf 1 = .ok (.sipush 160, 3) := by decide +kernel
theorem d_SingleBytes_windowsByteOf_4 : decode b_SingleBytes_windowsByteOf 4 = .ok (.if_icmp .lt 12, 3) := by decide +kernel
theorem d_SingleBytes_windowsByteOf_7 : decode b_SingleBytes_windowsByteOf 7 = .ok (.iload_n 0, 1) := by decide +kernel
theorem d_SingleBytes_windowsByteOf_8 : decode b_SingleBytes_windowsByteOf 8 = .ok (.sipush 256, 3) := by decide +kernel
theorem d_SingleBytes_windowsByteOf_11 : decode b_SingleBytes_windowsByteOf 11 = .ok (.if_icmp .ge 5, 3) := by decide +kernel
theorem d_SingleBytes_windowsByteOf_14 : decode b_SingleBytes_windowsByteOf 14 = .ok (.iload_n 0, 1) := by decide +kernel
theorem d_SingleBytes_windowsByteOf_15 : decode b_SingleBytes_windowsByteOf 15 = .ok (.ireturn, 1) := by decide +kernel
theorem d_SingleBytes_windowsByteOf_16 : decode b_SingleBytes_windowsByteOf 16 = .ok (.iload_n 0, 1) := by decide +kernel
theorem d_SingleBytes_windowsByteOf_17 : decode b_SingleBytes_windowsByteOf 17 = .ok (.ldc 26, 2) := by decide +kernel
theorem d_SingleBytes_windowsByteOf_19 : decode b_SingleBytes_windowsByteOf 19 = .ok (.if_icmp .ne 7, 3) := by decide +kernel
theorem d_SingleBytes_windowsByteOf_22 : decode b_SingleBytes_windowsByteOf 22 = .ok (.iconst (-1), 1) := by decide +kernel
theorem d_SingleBytes_windowsByteOf_23 : decode b_SingleBytes_windowsByteOf 23 = .ok (.goto 10, 3) := by decide +kernel
theorem d_SingleBytes_windowsByteOf_26 : decode b_SingleBytes_windowsByteOf 26 = .ok (.getstatic 15, 3) := by decide +kernel
theorem d_SingleBytes_windowsByteOf_29 : decode b_SingleBytes_windowsByteOf 29 = .ok (.iload_n 0, 1) := by decide +kernel
theorem d_SingleBytes_windowsByteOf_30 : decode b_SingleBytes_windowsByteOf 30 = .ok (.invokestatic 39, 3) := by decide +kernel
theorem d_SingleBytes_windowsByteOf_33 : decode b_SingleBytes_windowsByteOf 33 = .ok (.istore_n 1, 1) := by decide +kernel
theorem d_SingleBytes_windowsByteOf_34 : decode b_SingleBytes_windowsByteOf 34 = .ok (.iload_n 1, 1) := by decide +kernel
theorem d_SingleBytes_windowsByteOf_35 : decode b_SingleBytes_windowsByteOf 35 = .ok (.iconst (-1), 1) := by decide +kernel
theorem d_SingleBytes_windowsByteOf_36 : decode b_SingleBytes_windowsByteOf 36 = .ok (.if_icmp .ne 8, 3) := by decide +kernel
theorem d_SingleBytes_windowsByteOf_39 : decode b_SingleBytes_windowsByteOf 39 = .ok (.bipush 63, 2) := by decide +kernel
theorem d_SingleBytes_windowsByteOf_41 : decode b_SingleBytes_windowsByteOf 41 = .ok (.goto 8, 3) := by decide +kernel
theorem d_SingleBytes_windowsByteOf_44 : decode b_SingleBytes_windowsByteOf 44 = .ok (.sipush 128, 3) := by decide +kernel
theorem d_SingleBytes_windowsByteOf_47 : decode b_SingleBytes_windowsByteOf 47 = .ok (.iload_n 1, 1) := by decide +kernel
theorem d_SingleBytes_windowsByteOf_48 : decode b_SingleBytes_windowsByteOf 48 = .ok (.iadd, 1) := by decide +kernel
theorem d_SingleBytes_windowsByteOf_49 : decode b_SingleBytes_windowsByteOf 49 = .ok (.ireturn, 1) := by decide +kernel
theorem d_Coder_putLetter_0 : decode b_Coder_putLetter 0 = .ok (.aload_n 0, 1) := by decide +kernel
theorem d_Coder_putLetter_1 : decode b_Coder_putLetter 1 = .ok (.getfield 18, 3) := by decide +kernel
theorem d_Coder_putLetter_4 : decode b_Coder_putLetter 4 = .ok (.bipush 76, 2) := by decide +kernel
theorem d_Coder_putLetter_6 : decode b_Coder_putLetter 6 = .ok (.if_icmp .ne 8, 3) := by decide +kernel
theorem d_Coder_putLetter_9 : decode b_Coder_putLetter 9 = .ok (.aload_n 0, 1) := by decide +kernel
theorem d_Coder_putLetter_10 : decode b_Coder_putLetter 10 = .ok (.aload_n 1, 1) := by decide +kernel
theorem d_Coder_putLetter_11 : decode b_Coder_putLetter 11 = .ok (.invokevirtual 61, 3) := by decide +kernel
theorem d_Coder_putLetter_14 : decode b_Coder_putLetter 14 = .ok (.aload_n 1, 1) := by decide +kernel
theorem d_Coder_putLetter_15 : decode b_Coder_putLetter 15 = .ok (.aload_n 0, 1) := by decide +kernel
theorem d_Coder_putLetter_16 : decode b_Coder_putLetter 16 = .ok (.getfield 12, 3) := by decide +kernel
theorem d_Coder_putLetter_19 : decode b_Coder_putLetter 19 = .ok (.bipush 6, 2) := by decide +kernel
theorem d_Coder_putLetter_21 : decode b_Coder_putLetter 21 = .ok (.invokevirtual 64, 3) := by decide +kernel
theorem d_Coder_putLetter_24 : decode b_Coder_putLetter 24 = .ok (.invokestatic 67, 3) := by decide +kernel
theorem d_Coder_putLetter_27 : decode b_Coder_putLetter 27 = .ok (.invokevirtual 58, 3) := by decide +kernel
theorem d_Coder_putLetter_30 : decode b_Coder_putLetter 30 = .ok (.aload_n 0, 1) := by decide +kernel
theorem d_Coder_putLetter_31 : decode b_Coder_putLetter 31 = .ok (.dup, 1) := by decide +kernel
theorem d_Coder_putLetter_32 : decode b_Coder_putLetter 32 = .ok (.getfield 18, 3) := by decide +kernel
theorem d_Coder_putLetter_35 : decode b_Coder_putLetter 35 = .ok (.iconst 1, 1) := by decide +kernel
theorem d_Coder_putLetter_36 : decode b_Coder_putLetter 36 = .ok (.iadd, 1) := by decide +kernel
theorem d_Coder_putLetter_37 : decode b_Coder_putLetter 37 = .ok (.putfield 18, 3) := by decide +kernel
theorem d_Coder_putLetter_40 : decode b_Coder_putLetter 40 = .ok (.return_, 1) := by decide +kernel
theorem d_Coder_quoteByte_0 : decode b_Coder_quoteByte 0 = .ok (.iload_n 2, 1) := by decide +kernel
theorem d_Coder_quoteByte_1 : decode b_Coder_quoteByte 1 = .ok (.ifCond .eq 7, 3) := by decide +kernel
theorem d_Coder_quoteByte_4 : decode b_Coder_quoteByte 4 = .ok (.iconst 1, 1) := by decide +kernel
theorem d_Coder_quoteByte_5 : decode b_Coder_quoteByte 5 = .ok (.goto 4, 3) := by decide +kernel
theorem d_Coder_quoteByte_8 : decode b_Coder_quoteByte 8 = .ok (.iconst 3, 1) := by decide +kernel
theorem d_Coder_quoteByte_9 : decode b_Coder_quoteByte 9 = .ok (.istore 4, 2) := by decide +kernel
theorem d_Coder_quoteByte_11 : decode b_Coder_quoteByte 11 = .ok (.aload_n 0, 1) := by decide +kernel
theorem d_Coder_quoteByte_12 : decode b_Coder_quoteByte 12 = .ok (.getfield 18, 3) := by decide +kernel
theorem d_Coder_quoteByte_15 : decode b_Coder_quoteByte 15 = .ok (.iload 4, 2) := by decide +kernel
theorem d_Coder_quoteByte_17 : decode b_Coder_quoteByte 17 = .ok (.iadd, 1) := by decide +kernel
theorem d_Coder_quoteByte_18 : decode b_Coder_quoteByte 18 = .ok (.iconst 1, 1) := by decide +kernel
theorem d_Coder_quoteByte_19 : decode b_Coder_quoteByte 19 = .ok (.iadd, 1) := by decide +kernel
theorem d_Coder_quoteByte_20 : decode b_Coder_quoteByte 20 = .ok (.bipush 76, 2) := by decide +kernel
theorem d_Coder_quoteByte_22 : decode b_Coder_quoteByte 22 = .ok (.if_icmp .le 14, 3) := by decide +kernel
theorem d_Coder_quoteByte_25 : decode b_Coder_quoteByte 25 = .ok (.aload_n 3, 1) := by decide +kernel
theorem d_Coder_quoteByte_26 : decode b_Coder_quoteByte 26 = .ok (.bipush 61, 2) := by decide +kernel
theorem d_Coder_quoteByte_28 : decode b_Coder_quoteByte 28 = .ok (.invokevirtual 58, 3) := by decide +kernel
theorem d_Coder_quoteByte_31 : decode b_Coder_quoteByte 31 = .ok (.aload_n 0, 1) := by decide +kernel
theorem d_Coder_quoteByte_32 : decode b_Coder_quoteByte 32 = .ok (.aload_n 3, 1) := by decide +kernel
theorem d_Coder_quoteByte_33 : decode b_Coder_quoteByte 33 = .ok (.invokevirtual 61, 3) := by decide +kernel
theorem d_Coder_quoteByte_36 : decode b_Coder_quoteByte 36 = .ok (.iload_n 2, 1) := by decide +kernel
theorem d_Coder_quoteByte_37 : decode b_Coder_quoteByte 37 = .ok (.ifCond .eq 11, 3) := by decide +kernel
theorem d_Coder_quoteByte_40 : decode b_Coder_quoteByte 40 = .ok (.aload_n 3, 1) := by decide +kernel
theorem d_Coder_quoteByte_41 : decode b_Coder_quoteByte 41 = .ok (.iload_n 1, 1) := by decide +kernel
theorem d_Coder_quoteByte_42 : decode b_Coder_quoteByte 42 = .ok (.invokevirtual 58, 3) := by decide +kernel
theorem d_Coder_quoteByte_45 : decode b_Coder_quoteByte 45 = .ok (.goto 27, 3) := by decide +kernel
theorem d_Coder_quoteByte_48 : decode b_Coder_quoteByte 48 = .ok (.aload_n 3, 1) := by decide +kernel
theorem d_Coder_quoteByte_49 : decode b_Coder_quoteByte 49 = .ok (.bipush 61, 2) := by decide +kernel
theorem d_Coder_quoteByte_51 : decode b_Coder_quoteByte 51 = .ok (.invokevirtual 58, 3) := by decide +kernel
theorem d_Coder_quoteByte_54 : decode b_Coder_quoteByte 54 = .ok (.aload_n 3, 1) := by decide +kernel
theorem d_Coder_quoteByte_55 : decode b_Coder_quoteByte 55 = .ok (.iload_n 1, 1) := by decide +kernel
theorem d_Coder_quoteByte_56 : decode b_Coder_quoteByte 56 = .ok (.iconst 4, 1) := by decide +kernel
theorem d_Coder_quoteByte_57 : decode b_Coder_quoteByte 57 = .ok (.ishr, 1) := by decide +kernel
theorem d_Coder_quoteByte_58 : decode b_Coder_quoteByte 58 = .ok (.invokestatic 83, 3) := by decide +kernel
theorem d_Coder_quoteByte_61 : decode b_Coder_quoteByte 61 = .ok (.invokevirtual 58, 3) := by decide +kernel
theorem d_Coder_quoteByte_64 : decode b_Coder_quoteByte 64 = .ok (.aload_n 3, 1) := by decide +kernel
theorem d_Coder_quoteByte_65 : decode b_Coder_quoteByte 65 = .ok (.iload_n 1, 1) := by decide +kernel
theorem d_Coder_quoteByte_66 : decode b_Coder_quoteByte 66 = .ok (.invokestatic 83, 3) := by decide +kernel
theorem d_Coder_quoteByte_69 : decode b_Coder_quoteByte 69 = .ok (.invokevirtual 58, 3) := by decide +kernel
theorem d_Coder_quoteByte_72 : decode b_Coder_quoteByte 72 = .ok (.aload_n 0, 1) := by decide +kernel
theorem d_Coder_quoteByte_73 : decode b_Coder_quoteByte 73 = .ok (.dup, 1) := by decide +kernel
theorem d_Coder_quoteByte_74 : decode b_Coder_quoteByte 74 = .ok (.getfield 18, 3) := by decide +kernel
theorem d_Coder_quoteByte_77 : decode b_Coder_quoteByte 77 = .ok (.iload 4, 2) := by decide +kernel
theorem d_Coder_quoteByte_79 : decode b_Coder_quoteByte 79 = .ok (.iadd, 1) := by decide +kernel
theorem d_Coder_quoteByte_80 : decode b_Coder_quoteByte 80 = .ok (.putfield 18, 3) := by decide +kernel
theorem d_Coder_quoteByte_83 : decode b_Coder_quoteByte 83 = .ok (.return_, 1) := by decide +kernel
theorem d_Names_isOneOf_0 : decode b_Names_isOneOf 0 = .ok (.iconst 0, 1) := by decide +kernel
theorem d_Names_isOneOf_1 : decode b_Names_isOneOf 1 = .ok (.istore 4, 2) := by decide +kernel
theorem d_Names_isOneOf_3 : decode b_Names_isOneOf 3 = .ok (.iconst 0, 1) := by decide +kernel
theorem d_Names_isOneOf_4 : decode b_Names_isOneOf 4 = .ok (.istore 5, 2) := by decide +kernel
theorem d_Names_isOneOf_6 : decode b_Names_isOneOf 6 = .ok (.iload 5, 2) := by decide +kernel
theorem d_Names_isOneOf_8 : decode b_Names_isOneOf 8 = .ok (.aload_n 3, 1) := by decide +kernel
theorem d_Names_isOneOf_9 : decode b_Names_isOneOf 9 = .ok (.invokevirtual 41, 3) := by decide +kernel
theorem d_Names_isOneOf_12 : decode b_Names_isOneOf 12 = .ok (.if_icmp .ge 52, 3) := by decide +kernel
theorem d_Names_isOneOf_15 : decode b_Names_isOneOf 15 = .ok (.aload_n 3, 1) := by decide +kernel
theorem d_Names_isOneOf_16 : decode b_Names_isOneOf 16 = .ok (.iload 5, 2) := by decide +kernel
theorem d_Names_isOneOf_18 : decode b_Names_isOneOf 18 = .ok (.invokevirtual 47, 3) := by decide +kernel
theorem d_Names_isOneOf_21 : decode b_Names_isOneOf 21 = .ok (.bipush 32, 2) := by decide +kernel
theorem d_Names_isOneOf_23 : decode b_Names_isOneOf 23 = .ok (.if_icmp .ne 35, 3) := by decide +kernel
theorem d_Names_isOneOf_26 : decode b_Names_isOneOf 26 = .ok (.iload_n 2, 1) := by decide +kernel
theorem d_Names_isOneOf_27 : decode b_Names_isOneOf 27 = .ok (.iload_n 1, 1) := by decide +kernel
theorem d_Names_isOneOf_28 : decode b_Names_isOneOf 28 = .ok (.isub, 1) := by decide +kernel
theorem d_Names_isOneOf_29 : decode b_Names_isOneOf 29 = .ok (.iload 5, 2) := by decide +kernel
theorem d_Names_isOneOf_31 : decode b_Names_isOneOf 31 = .ok (.iload 4, 2) := by decide +kernel
theorem d_Names_isOneOf_33 : decode b_Names_isOneOf 33 = .ok (.isub, 1) := by decide +kernel
theorem d_Names_isOneOf_34 : decode b_Names_isOneOf 34 = .ok (.if_icmp .ne 18, 3) := by decide +kernel
theorem d_Names_isOneOf_37 : decode b_Names_isOneOf 37 = .ok (.aload_n 0, 1) := by decide +kernel
theorem d_Names_isOneOf_38 : decode b_Names_isOneOf 38 = .ok (.iload_n 1, 1) := by decide +kernel
theorem d_Names_isOneOf_39 : decode b_Names_isOneOf 39 = .ok (.aload_n 3, 1) := by decide +kernel
theorem d_Names_isOneOf_40 : decode b_Names_isOneOf 40 = .ok (.iload 4, 2) := by decide +kernel
theorem d_Names_isOneOf_42 : decode b_Names_isOneOf 42 = .ok (.iload 5, 2) := by decide +kernel
theorem d_Names_isOneOf_44 : decode b_Names_isOneOf 44 = .ok (.invokestatic 51, 3) := by decide +kernel
theorem d_Names_isOneOf_47 : decode b_Names_isOneOf 47 = .ok (.ifCond .eq 5, 3) := by decide +kernel
theorem d_Names_isOneOf_50 : decode b_Names_isOneOf 50 = .ok (.iconst 1, 1) := by decide +kernel
theorem d_Names_isOneOf_51 : decode b_Names_isOneOf 51 = .ok (.ireturn, 1) := by decide +kernel
theorem d_Names_isOneOf_52 : decode b_Names_isOneOf 52 = .ok (.iload 5, 2) := by decide +kernel
theorem d_Names_isOneOf_54 : decode b_Names_isOneOf 54 = .ok (.iconst 1, 1) := by decide +kernel
theorem d_Names_isOneOf_55 : decode b_Names_isOneOf 55 = .ok (.iadd, 1) := by decide +kernel
theorem d_Names_isOneOf_56 : decode b_Names_isOneOf 56 = .ok (.istore 4, 2) := by decide +kernel
theorem d_Names_isOneOf_58 : decode b_Names_isOneOf 58 = .ok (.iinc 5 1, 3) := by decide +kernel
theorem d_Names_isOneOf_61 : decode b_Names_isOneOf 61 = .ok (.goto (-55), 3) := by decide +kernel
theorem d_Names_isOneOf_64 : decode b_Names_isOneOf 64 = .ok (.iconst 0, 1) := by decide +kernel
theorem d_Names_isOneOf_65 : decode b_Names_isOneOf 65 = .ok (.ireturn, 1) := by decide +kernel
theorem d_Reader_readUtf16_0 : decode b_Reader_readUtf16 0 = .ok (.iload_n 2, 1) := by decide +kernel
theorem d_Reader_readUtf16_1 : decode b_Reader_readUtf16 1 = .ok (.istore 6, 2) := by decide +kernel
theorem d_Reader_readUtf16_3 : decode b_Reader_readUtf16 3 = .ok (.iload 6, 2) := by decide +kernel
theorem d_Reader_readUtf16_5 : decode b_Reader_readUtf16 5 = .ok (.iconst 1, 1) := by decide +kernel
theorem d_Reader_readUtf16_6 : decode b_Reader_readUtf16 6 = .ok (.iadd, 1) := by decide +kernel
theorem d_Reader_readUtf16_7 : decode b_Reader_readUtf16 7 = .ok (.iload_n 3, 1) := by decide +kernel
theorem d_Reader_readUtf16_8 : decode b_Reader_readUtf16 8 = .ok (.if_icmp .ge 59, 3) := by decide +kernel
theorem d_Reader_readUtf16_11 : decode b_Reader_readUtf16 11 = .ok (.aload_n 1, 1) := by decide +kernel
theorem d_Reader_readUtf16_12 : decode b_Reader_readUtf16 12 = .ok (.iload 6, 2) := by decide +kernel
theorem d_Reader_readUtf16_14 : decode b_Reader_readUtf16 14 = .ok (.invokevirtual 36, 3) := by decide +kernel
theorem d_Reader_readUtf16_17 : decode b_Reader_readUtf16 17 = .ok (.istore 7, 2) := by decide +kernel
theorem d_Reader_readUtf16_19 : decode b_Reader_readUtf16 19 = .ok (.aload_n 1, 1) := by decide +kernel
theorem d_Reader_readUtf16_20 : decode b_Reader_readUtf16 20 = .ok (.iload 6, 2) := by decide +kernel
theorem d_Reader_readUtf16_22 : decode b_Reader_readUtf16 22 = .ok (.iconst 1, 1) := by decide +kernel
theorem d_Reader_readUtf16_23 : decode b_Reader_readUtf16 23 = .ok (.iadd, 1) := by decide +kernel
theorem d_Reader_readUtf16_24 : decode b_Reader_readUtf16 24 = .ok (.invokevirtual 36, 3) := by decide +kernel
theorem d_Reader_readUtf16_27 : decode b_Reader_readUtf16 27 = .ok (.istore 8, 2) := by decide +kernel
theorem d_Reader_readUtf16_29 : decode b_Reader_readUtf16 29 = .ok (.aload_n 0, 1) := by decide +kernel
theorem d_Reader_readUtf16_30 : decode b_Reader_readUtf16 30 = .ok (.iload 4, 2) := by decide +kernel
theorem d_Reader_readUtf16_32 : decode b_Reader_readUtf16 32 = .ok (.ifCond .eq 15, 3) := by decide +kernel
theorem d_Reader_readUtf16_35 : decode b_Reader_readUtf16 35 = .ok (.iload 7, 2) := by decide +kernel
theorem d_Reader_readUtf16_37 : decode b_Reader_readUtf16 37 = .ok (.sipush 256, 3) := by decide +kernel
theorem d_Reader_readUtf16_40 : decode b_Reader_readUtf16 40 = .ok (.imul, 1) := by decide +kernel
theorem d_Reader_readUtf16_41 : decode b_Reader_readUtf16 41 = .ok (.iload 8, 2) := by decide +kernel
theorem d_Reader_readUtf16_43 : decode b_Reader_readUtf16 43 = .ok (.iadd, 1) := by decide +kernel
theorem d_Reader_readUtf16_44 : decode b_Reader_readUtf16 44 = .ok (.goto 12, 3) := by decide +kernel
theorem d_Reader_readUtf16_47 : decode b_Reader_readUtf16 47 = .ok (.iload 8, 2) := by decide +kernel
theorem d_Reader_readUtf16_49 : decode b_Reader_readUtf16 49 = .ok (.sipush 256, 3) := by decide +kernel
theorem d_Reader_readUtf16_52 : decode b_Reader_readUtf16 52 = .ok (.imul, 1) := by decide +kernel
theorem d_Reader_readUtf16_53 : decode b_Reader_readUtf16 53 = .ok (.iload 7, 2) := by decide +kernel
theorem d_Reader_readUtf16_55 : decode b_Reader_readUtf16 55 = .ok (.iadd, 1) := by decide +kernel
theorem d_Reader_readUtf16_56 : decode b_Reader_readUtf16 56 = .ok (.aload 5, 2) := by decide +kernel
theorem d_Reader_readUtf16_58 : decode b_Reader_readUtf16 58 = .ok (.invokevirtual 62, 3) := by decide +kernel
theorem d_Reader_readUtf16_61 : decode b_Reader_readUtf16 61 = .ok (.iinc 6 2, 3) := by decide +kernel
theorem d_Reader_readUtf16_64 : decode b_Reader_readUtf16 64 = .ok (.goto (-61), 3) := by decide +kernel
theorem d_Reader_readUtf16_67 : decode b_Reader_readUtf16 67 = .ok (.aload_n 0, 1) := by decide +kernel
theorem d_Reader_readUtf16_68 : decode b_Reader_readUtf16 68 = .ok (.aload 5, 2) := by decide +kernel
theorem d_Reader_readUtf16_70 : decode b_Reader_readUtf16 70 = .ok (.invokevirtual 66, 3) := by decide +kernel
theorem d_Reader_readUtf16_73 : decode b_Reader_readUtf16 73 = .ok (.iload_n 3, 1) := by decide +kernel
theorem d_Reader_readUtf16_74 : decode b_Reader_readUtf16 74 = .ok (.iload_n 2, 1) := by decide +kernel
theorem d_Reader_readUtf16_75 : decode b_Reader_readUtf16 75 = .ok (.isub, 1) := by decide +kernel
theorem d_Reader_readUtf16_76 : decode b_Reader_readUtf16 76 = .ok (.iconst 2, 1) := by decide +kernel
theorem d_Reader_readUtf16_77 : decode b_Reader_readUtf16 77 = .ok (.irem, 1) := by decide +kernel
theorem d_Reader_readUtf16_78 : decode b_Reader_readUtf16 78 = .ok (.ifCond .eq 10, 3) := by decide +kernel
theorem d_Reader_readUtf16_81 : decode b_Reader_readUtf16 81 = .ok (.aload 5, 2) := by decide +kernel
theorem d_Reader_readUtf16_83 : decode b_Reader_readUtf16 83 = .ok (.ldc 52, 2) := by decide +kernel
theorem d_Reader_readUtf16_85 : decode b_Reader_readUtf16 85 = .ok (.invokevirtual 48, 3) := by decide +kernel
theorem d_Reader_readUtf16_88 : decode b_Reader_readUtf16 88 = .ok (.return_, 1) := by decide +kernel
theorem d_Reader_readUtf7_0 : decode b_Reader_readUtf7 0 = .ok (.iconst 0, 1) := by decide +kernel
theorem d_Reader_readUtf7_1 : decode b_Reader_readUtf7 1 = .ok (.istore 5, 2) := by decide +kernel
theorem d_Reader_readUtf7_3 : decode b_Reader_readUtf7 3 = .ok (.iconst 1, 1) := by decide +kernel
theorem d_Reader_readUtf7_4 : decode b_Reader_readUtf7 4 = .ok (.istore 6, 2) := by decide +kernel
theorem d_Reader_readUtf7_6 : decode b_Reader_readUtf7 6 = .ok (.iload_n 2, 1) := by decide +kernel
theorem d_Reader_readUtf7_7 : decode b_Reader_readUtf7 7 = .ok (.istore 7, 2) := by decide +kernel
theorem d_Reader_readUtf7_9 : decode b_Reader_readUtf7 9 = .ok (.iload 7, 2) := by decide +kernel
theorem d_Reader_readUtf7_11 : decode b_Reader_readUtf7 11 = .ok (.iload_n 3, 1) := by decide +kernel
theorem d_Reader_readUtf7_12 : decode b_Reader_readUtf7 12 = .ok (.if_icmp .ge 147, 3) := by decide +kernel
theorem d_Reader_readUtf7_15 : decode b_Reader_readUtf7 15 = .ok (.aload_n 1, 1) := by decide +kernel
theorem d_Reader_readUtf7_16 : decode b_Reader_readUtf7 16 = .ok (.iload 7, 2) := by decide +kernel
theorem d_Reader_readUtf7_18 : decode b_Reader_readUtf7 18 = .ok (.invokevirtual 36, 3) := by decide +kernel
theorem d_Reader_readUtf7_21 : decode b_Reader_readUtf7 21 = .ok (.istore 8, 2) := by decide +kernel
theorem d_Reader_readUtf7_23 : decode b_Reader_readUtf7 23 = .ok (.iload 5, 2) := by decide +kernel
theorem d_Reader_readUtf7_25 : decode b_Reader_readUtf7 25 = .ok (.ifCond .eq 11, 3) := by decide +kernel
theorem d_Reader_readUtf7_28 : decode b_Reader_readUtf7 28 = .ok (.iload 8, 2) := by decide +kernel
theorem d_Reader_readUtf7_30 : decode b_Reader_readUtf7 30 = .ok (.invokestatic 70, 3) := by decide +kernel
theorem d_Reader_readUtf7_33 : decode b_Reader_readUtf7 33 = .ok (.goto 4, 3) := by decide +kernel
theorem d_Reader_readUtf7_36 : decode b_Reader_readUtf7 36 = .ok (.iconst (-1), 1) := by decide +kernel
theorem d_Reader_readUtf7_37 : decode b_Reader_readUtf7 37 = .ok (.istore 9, 2) := by decide +kernel
theorem d_Reader_readUtf7_39 : decode b_Reader_readUtf7 39 = .ok (.iload 9, 2) := by decide +kernel
theorem d_Reader_readUtf7_41 : decode b_Reader_readUtf7 41 = .ok (.iconst (-1), 1) := by decide +kernel
theorem d_Reader_readUtf7_42 : decode b_Reader_readUtf7 42 = .ok (.if_icmp .eq 17, 3) := by decide +kernel
theorem d_Reader_readUtf7_45 : decode b_Reader_readUtf7 45 = .ok (.aload_n 0, 1) := by decide +kernel
theorem d_Reader_readUtf7_46 : decode b_Reader_readUtf7 46 = .ok (.iload 9, 2) := by decide +kernel
theorem d_Reader_readUtf7_48 : decode b_Reader_readUtf7 48 = .ok (.aload 4, 2) := by decide +kernel
theorem d_Reader_readUtf7_50 : decode b_Reader_readUtf7 50 = .ok (.invokevirtual 75, 3) := by decide +kernel
theorem d_Reader_readUtf7_53 : decode b_Reader_readUtf7 53 = .ok (.iconst 0, 1) := by decide +kernel
theorem d_Reader_readUtf7_54 : decode b_Reader_readUtf7 54 = .ok (.istore 6, 2) := by decide +kernel
theorem d_Reader_readUtf7_56 : decode b_Reader_readUtf7 56 = .ok (.goto 97, 3) := by decide +kernel
theorem d_Reader_readUtf7_59 : decode b_Reader_readUtf7 59 = .ok (.iload 5, 2) := by decide +kernel
theorem d_Reader_readUtf7_61 : decode b_Reader_readUtf7 61 = .ok (.istore 10, 2) := by decide +kernel
theorem d_Reader_readUtf7_63 : decode b_Reader_readUtf7 63 = .ok (.aload_n 0, 1) := by decide +kernel
theorem d_Reader_readUtf7_64 : decode b_Reader_readUtf7 64 = .ok (.aload 4, 2) := by decide +kernel
theorem d_Reader_readUtf7_66 : decode b_Reader_readUtf7 66 = .ok (.invokevirtual 66, 3) := by decide +kernel
theorem d_Reader_readUtf7_69 : decode b_Reader_readUtf7 69 = .ok (.iload 10, 2) := by decide +kernel
theorem d_Reader_readUtf7_71 : decode b_Reader_readUtf7 71 = .ok (.ifCond .ne 14, 3) := by decide +kernel
theorem d_Reader_readUtf7_74 : decode b_Reader_readUtf7 74 = .ok (.iload 8, 2) := by decide +kernel
theorem d_Reader_readUtf7_76 : decode b_Reader_readUtf7 76 = .ok (.bipush 43, 2) := by decide +kernel
theorem d_Reader_readUtf7_78 : decode b_Reader_readUtf7 78 = .ok (.if_icmp .ne 7, 3) := by decide +kernel
theorem d_Reader_readUtf7_81 : decode b_Reader_readUtf7 81 = .ok (.iconst 1, 1) := by decide +kernel
theorem d_Reader_readUtf7_82 : decode b_Reader_readUtf7 82 = .ok (.goto 4, 3) := by decide +kernel
theorem d_Reader_readUtf7_85 : decode b_Reader_readUtf7 85 = .ok (.iconst 0, 1) := by decide +kernel
theorem d_Reader_readUtf7_86 : decode b_Reader_readUtf7 86 = .ok (.istore 5, 2) := by decide +kernel
theorem d_Reader_readUtf7_88 : decode b_Reader_readUtf7 88 = .ok (.iload 5, 2) := by decide +kernel
theorem d_Reader_readUtf7_90 : decode b_Reader_readUtf7 90 = .ok (.ifCond .eq 16, 3) := by decide +kernel
theorem d_Reader_readUtf7_93 : decode b_Reader_readUtf7 93 = .ok (.aload_n 0, 1) := by decide +kernel
theorem d_Reader_readUtf7_94 : decode b_Reader_readUtf7 94 = .ok (.getfield 12, 3) := by decide +kernel
theorem d_Reader_readUtf7_97 : decode b_Reader_readUtf7 97 = .ok (.invokevirtual 78, 3) := by decide +kernel
theorem d_Reader_readUtf7_100 : decode b_Reader_readUtf7 100 = .ok (.iconst 1, 1) := by decide +kernel
theorem d_Reader_readUtf7_101 : decode b_Reader_readUtf7 101 = .ok (.istore 6, 2) := by decide +kernel
theorem d_Reader_readUtf7_103 : decode b_Reader_readUtf7 103 = .ok (.goto 50, 3) := by decide +kernel
theorem d_Reader_readUtf7_106 : decode b_Reader_readUtf7 106 = .ok (.iload 10, 2) := by decide +kernel
theorem d_Reader_readUtf7_108 : decode b_Reader_readUtf7 108 = .ok (.ifCond .eq 10, 3) := by decide +kernel
theorem d_Reader_readUtf7_111 : decode b_Reader_readUtf7 111 = .ok (.iload 8, 2) := by decide +kernel
theorem d_Reader_readUtf7_113 : decode b_Reader_readUtf7 113 = .ok (.bipush 45, 2) := by decide +kernel
theorem d_Reader_readUtf7_115 : decode b_Reader_readUtf7 115 = .ok (.if_icmp .eq 26, 3) := by decide +kernel
theorem d_Reader_readUtf7_118 : decode b_Reader_readUtf7 118 = .ok (.aload 4, 2) := by decide +kernel
theorem d_Reader_readUtf7_120 : decode b_Reader_readUtf7 120 = .ok (.iload 8, 2) := by decide +kernel
theorem d_Reader_readUtf7_122 : decode b_Reader_readUtf7 122 = .ok (.sipush 128, 3) := by decide +kernel
theorem d_Reader_readUtf7_125 : decode b_Reader_readUtf7 125 = .ok (.if_icmp .ge 8, 3) := by decide +kernel
theorem d_Reader_readUtf7_128 : decode b_Reader_readUtf7 128 = .ok (.iload 8, 2) := by decide +kernel
theorem d_Reader_readUtf7_130 : decode b_Reader_readUtf7 130 = .ok (.goto 5, 3) := by decide +kernel
theorem d_Reader_readUtf7_133 : decode b_Reader_readUtf7 133 = .ok (.ldc 52, 2) := by decide +kernel
theorem d_Reader_readUtf7_135 : decode b_Reader_readUtf7 135 = .ok (.invokevirtual 48, 3) := by decide +kernel
theorem d_Reader_readUtf7_138 : decode b_Reader_readUtf7 138 = .ok (.goto 15, 3) := by decide +kernel
theorem d_Reader_readUtf7_141 : decode b_Reader_readUtf7 141 = .ok (.iload 6, 2) := by decide +kernel
theorem d_Reader_readUtf7_143 : decode b_Reader_readUtf7 143 = .ok (.ifCond .eq 10, 3) := by decide +kernel
theorem d_Reader_readUtf7_146 : decode b_Reader_readUtf7 146 = .ok (.aload 4, 2) := by decide +kernel
theorem d_Reader_readUtf7_148 : decode b_Reader_readUtf7 148 = .ok (.bipush 43, 2) := by decide +kernel
theorem d_Reader_readUtf7_150 : decode b_Reader_readUtf7 150 = .ok (.invokevirtual 48, 3) := by decide +kernel
theorem d_Reader_readUtf7_153 : decode b_Reader_readUtf7 153 = .ok (.iinc 7 1, 3) := by decide +kernel
theorem d_Reader_readUtf7_156 : decode b_Reader_readUtf7 156 = .ok (.goto (-147), 3) := by decide +kernel
theorem d_Reader_readUtf7_159 : decode b_Reader_readUtf7 159 = .ok (.aload_n 0, 1) := by decide +kernel
theorem d_Reader_readUtf7_160 : decode b_Reader_readUtf7 160 = .ok (.aload 4, 2) := by decide +kernel
theorem d_Reader_readUtf7_162 : decode b_Reader_readUtf7 162 = .ok (.invokevirtual 66, 3) := by decide +kernel
theorem d_Reader_readUtf7_165 : decode b_Reader_readUtf7 165 = .ok (.return_, 1) := by decide +kernel
theorem d_Reader_readSingleBytes_0 : decode b_Reader_readSingleBytes 0 = .ok (.iload_n 1, 1) := by decide +kernel
theorem d_Reader_readSingleBytes_1 : decode b_Reader_readSingleBytes 1 = .ok (.istore 5, 2) := by decide +kernel
theorem d_Reader_readSingleBytes_3 : decode b_Reader_readSingleBytes 3 = .ok (.iload 5, 2) := by decide +kernel
theorem d_Reader_readSingleBytes_5 : decode b_Reader_readSingleBytes 5 = .ok (.iload_n 2, 1) := by decide +kernel
theorem d_Reader_readSingleBytes_6 : decode b_Reader_readSingleBytes 6 = .ok (.if_icmp .ge 24, 3) := by decide +kernel
theorem d_Reader_readSingleBytes_9 : decode b_Reader_readSingleBytes 9 = .ok (.aload 4, 2) := by decide +kernel
theorem d_Reader_readSingleBytes_11 : decode b_Reader_readSingleBytes 11 = .ok (.iload_n 3, 1) := by decide +kernel
theorem d_Reader_readSingleBytes_12 : decode b_Reader_readSingleBytes 12 = .ok (.aload_n 0, 1) := by decide +kernel
theorem d_Reader_readSingleBytes_13 : decode b_Reader_readSingleBytes 13 = .ok (.iload 5, 2) := by decide +kernel
theorem d_Reader_readSingleBytes_15 : decode b_Reader_readSingleBytes 15 = .ok (.invokevirtual 36, 3) := by decide +kernel
theorem d_Reader_readSingleBytes_18 : decode b_Reader_readSingleBytes 18 = .ok (.invokestatic 42, 3) := by decide +kernel
theorem d_Reader_readSingleBytes_21 : decode b_Reader_readSingleBytes 21 = .ok (.invokevirtual 48, 3) := by decide +kernel
theorem d_Reader_readSingleBytes_24 : decode b_Reader_readSingleBytes 24 = .ok (.iinc 5 1, 3) := by decide +kernel
theorem d_Reader_readSingleBytes_27 : decode b_Reader_readSingleBytes 27 = .ok (.goto (-24), 3) := by decide +kernel
theorem d_Reader_readSingleBytes_30 : decode b_Reader_readSingleBytes 30 = .ok (.return_, 1) := by decide +kernel
theorem d_Uncoder_uncodeWord_0 : decode b_Uncoder_uncodeWord 0 = .ok (.aload_n 2, 1) := by decide +kernel
theorem d_Uncoder_uncodeWord_1 : decode b_Uncoder_uncodeWord 1 = .ok (.getfield 42, 3) := by decide +kernel
theorem d_Uncoder_uncodeWord_4 : decode b_Uncoder_uncodeWord 4 = .ok (.ifCond .eq 20, 3) := by decide +kernel
theorem d_Uncoder_uncodeWord_7 : decode b_Uncoder_uncodeWord 7 = .ok (.aload_n 0, 1) := by decide +kernel
theorem d_Uncoder_uncodeWord_8 : decode b_Uncoder_uncodeWord 8 = .ok (.aload_n 1, 1) := by decide +kernel
theorem d_Uncoder_uncodeWord_9 : decode b_Uncoder_uncodeWord 9 = .ok (.aload_n 2, 1) := by decide +kernel
theorem d_Uncoder_uncodeWord_10 : decode b_Uncoder_uncodeWord 10 = .ok (.getfield 48, 3) := by decide +kernel
theorem d_Uncoder_uncodeWord_13 : decode b_Uncoder_uncodeWord 13 = .ok (.aload_n 2, 1) := by decide +kernel
theorem d_Uncoder_uncodeWord_14 : decode b_Uncoder_uncodeWord 14 = .ok (.getfield 52, 3) := by decide +kernel
theorem d_Uncoder_uncodeWord_17 : decode b_Uncoder_uncodeWord 17 = .ok (.aload_n 3, 1) := by decide +kernel
theorem d_Uncoder_uncodeWord_18 : decode b_Uncoder_uncodeWord 18 = .ok (.invokevirtual 31, 3) := by decide +kernel
theorem d_Uncoder_uncodeWord_21 : decode b_Uncoder_uncodeWord 21 = .ok (.goto 17, 3) := by decide +kernel
theorem d_Uncoder_uncodeWord_24 : decode b_Uncoder_uncodeWord 24 = .ok (.aload_n 1, 1) := by decide +kernel
theorem d_Uncoder_uncodeWord_25 : decode b_Uncoder_uncodeWord 25 = .ok (.aload_n 2, 1) := by decide +kernel
theorem d_Uncoder_uncodeWord_26 : decode b_Uncoder_uncodeWord 26 = .ok (.getfield 48, 3) := by decide +kernel
theorem d_Uncoder_uncodeWord_29 : decode b_Uncoder_uncodeWord 29 = .ok (.aload_n 2, 1) := by decide +kernel
theorem d_Uncoder_uncodeWord_30 : decode b_Uncoder_uncodeWord 30 = .ok (.getfield 52, 3) := by decide +kernel
theorem d_Uncoder_uncodeWord_33 : decode b_Uncoder_uncodeWord 33 = .ok (.iconst 1, 1) := by decide +kernel
theorem d_Uncoder_uncodeWord_34 : decode b_Uncoder_uncodeWord 34 = .ok (.aload_n 3, 1) := by decide +kernel
theorem d_Uncoder_uncodeWord_35 : decode b_Uncoder_uncodeWord 35 = .ok (.invokestatic 55, 3) := by decide +kernel
theorem d_Uncoder_uncodeWord_38 : decode b_Uncoder_uncodeWord 38 = .ok (.return_, 1) := by decide +kernel
theorem d_Uncoder_unhexLines_0 : decode b_Uncoder_unhexLines 0 = .ok (.iconst 0, 1) := by decide +kernel
theorem d_Uncoder_unhexLines_1 : decode b_Uncoder_unhexLines 1 = .ok (.istore_n 3, 1) := by decide +kernel
theorem d_Uncoder_unhexLines_2 : decode b_Uncoder_unhexLines 2 = .ok (.aload_n 0, 1) := by decide +kernel
theorem d_Uncoder_unhexLines_3 : decode b_Uncoder_unhexLines 3 = .ok (.getfield 21, 3) := by decide +kernel
theorem d_Uncoder_unhexLines_6 : decode b_Uncoder_unhexLines 6 = .ok (.invokevirtual 86, 3) := by decide +kernel
theorem d_Uncoder_unhexLines_9 : decode b_Uncoder_unhexLines 9 = .ok (.iconst 0, 1) := by decide +kernel
theorem d_Uncoder_unhexLines_10 : decode b_Uncoder_unhexLines 10 = .ok (.istore 4, 2) := by decide +kernel
theorem d_Uncoder_unhexLines_12 : decode b_Uncoder_unhexLines 12 = .ok (.iload 4, 2) := by decide +kernel
theorem d_Uncoder_unhexLines_14 : decode b_Uncoder_unhexLines 14 = .ok (.aload_n 1, 1) := by decide +kernel
theorem d_Uncoder_unhexLines_15 : decode b_Uncoder_unhexLines 15 = .ok (.invokevirtual 25, 3) := by decide +kernel
theorem d_Uncoder_unhexLines_18 : decode b_Uncoder_unhexLines 18 = .ok (.if_icmp .ge 76, 3) := by decide +kernel
theorem d_Uncoder_unhexLines_21 : decode b_Uncoder_unhexLines 21 = .ok (.aload_n 0, 1) := by decide +kernel
theorem d_Uncoder_unhexLines_22 : decode b_Uncoder_unhexLines 22 = .ok (.getfield 21, 3) := by decide +kernel
theorem d_Uncoder_unhexLines_25 : decode b_Uncoder_unhexLines 25 = .ok (.aload_n 1, 1) := by decide +kernel
theorem d_Uncoder_unhexLines_26 : decode b_Uncoder_unhexLines 26 = .ok (.invokevirtual 89, 3) := by decide +kernel
theorem d_Uncoder_unhexLines_29 : decode b_Uncoder_unhexLines 29 = .ok (.ifCond .eq 65, 3) := by decide +kernel
theorem d_Uncoder_unhexLines_32 : decode b_Uncoder_unhexLines 32 = .ok (.iload_n 3, 1) := by decide +kernel
theorem d_Uncoder_unhexLines_33 : decode b_Uncoder_unhexLines 33 = .ok (.ifCond .ne 40, 3) := by decide +kernel
theorem d_Uncoder_unhexLines_36 : decode b_Uncoder_unhexLines 36 = .ok (.aload_n 0, 1) := by decide +kernel
theorem d_Uncoder_unhexLines_37 : decode b_Uncoder_unhexLines 37 = .ok (.getfield 21, 3) := by decide +kernel
theorem d_Uncoder_unhexLines_40 : decode b_Uncoder_unhexLines 40 = .ok (.invokevirtual 105, 3) := by decide +kernel
theorem d_Uncoder_unhexLines_43 : decode b_Uncoder_unhexLines 43 = .ok (.ldc 108, 2) := by decide +kernel
theorem d_Uncoder_unhexLines_45 : decode b_Uncoder_unhexLines 45 = .ok (.invokevirtual 110, 3) := by decide +kernel
theorem d_Uncoder_unhexLines_48 : decode b_Uncoder_unhexLines 48 = .ok (.if_icmp .le 20, 3) := by decide +kernel
theorem d_Uncoder_unhexLines_51 : decode b_Uncoder_unhexLines 51 = .ok (.aload_n 0, 1) := by decide +kernel
theorem d_Uncoder_unhexLines_52 : decode b_Uncoder_unhexLines 52 = .ok (.getfield 21, 3) := by decide +kernel
theorem d_Uncoder_unhexLines_55 : decode b_Uncoder_unhexLines 55 = .ok (.aload_n 1, 1) := by decide +kernel
theorem d_Uncoder_unhexLines_56 : decode b_Uncoder_unhexLines 56 = .ok (.ldc 108, 2) := by decide +kernel
theorem d_Uncoder_unhexLines_58 : decode b_Uncoder_unhexLines 58 = .ok (.invokevirtual 113, 3) := by decide +kernel
theorem d_Uncoder_unhexLines_61 : decode b_Uncoder_unhexLines 61 = .ok (.ifCond .eq 7, 3) := by decide +kernel
theorem d_Uncoder_unhexLines_64 : decode b_Uncoder_unhexLines 64 = .ok (.iconst 1, 1) := by decide +kernel
theorem d_Uncoder_unhexLines_65 : decode b_Uncoder_unhexLines 65 = .ok (.goto 4, 3) := by decide +kernel
theorem d_Uncoder_unhexLines_68 : decode b_Uncoder_unhexLines 68 = .ok (.iconst 0, 1) := by decide +kernel
theorem d_Uncoder_unhexLines_69 : decode b_Uncoder_unhexLines 69 = .ok (.istore_n 3, 1) := by decide +kernel
theorem d_Uncoder_unhexLines_70 : decode b_Uncoder_unhexLines 70 = .ok (.goto 18, 3) := by decide +kernel
theorem d_Uncoder_unhexLines_73 : decode b_Uncoder_unhexLines 73 = .ok (.aload_n 0, 1) := by decide +kernel
theorem d_Uncoder_unhexLines_74 : decode b_Uncoder_unhexLines 74 = .ok (.aload_n 1, 1) := by decide +kernel
theorem d_Uncoder_unhexLines_75 : decode b_Uncoder_unhexLines 75 = .ok (.invokevirtual 117, 3) := by decide +kernel
theorem d_Uncoder_unhexLines_78 : decode b_Uncoder_unhexLines 78 = .ok (.ifCond .eq 4, 3) := by decide +kernel
theorem d_Uncoder_unhexLines_81 : decode b_Uncoder_unhexLines 81 = .ok (.return_, 1) := by decide +kernel
theorem d_Uncoder_unhexLines_82 : decode b_Uncoder_unhexLines 82 = .ok (.aload_n 0, 1) := by decide +kernel
theorem d_Uncoder_unhexLines_83 : decode b_Uncoder_unhexLines 83 = .ok (.aload_n 1, 1) := by decide +kernel
theorem d_Uncoder_unhexLines_84 : decode b_Uncoder_unhexLines 84 = .ok (.aload_n 2, 1) := by decide +kernel
theorem d_Uncoder_unhexLines_85 : decode b_Uncoder_unhexLines 85 = .ok (.invokevirtual 120, 3) := by decide +kernel
theorem d_Uncoder_unhexLines_88 : decode b_Uncoder_unhexLines 88 = .ok (.iinc 4 1, 3) := by decide +kernel
theorem d_Uncoder_unhexLines_91 : decode b_Uncoder_unhexLines 91 = .ok (.goto (-79), 3) := by decide +kernel
theorem d_Uncoder_unhexLines_94 : decode b_Uncoder_unhexLines 94 = .ok (.return_, 1) := by decide +kernel
theorem d_Writer_writeRun_0 : decode b_Writer_writeRun 0 = .ok (.aload 4, 2) := by decide +kernel
theorem d_Writer_writeRun_2 : decode b_Writer_writeRun 2 = .ok (.bipush 43, 2) := by decide +kernel
theorem d_Writer_writeRun_4 : decode b_Writer_writeRun 4 = .ok (.invokevirtual 22, 3) := by decide +kernel
theorem d_Writer_writeRun_7 : decode b_Writer_writeRun 7 = .ok (.aload_n 0, 1) := by decide +kernel
theorem d_Writer_writeRun_8 : decode b_Writer_writeRun 8 = .ok (.getfield 12, 3) := by decide +kernel
theorem d_Writer_writeRun_11 : decode b_Writer_writeRun 11 = .ok (.invokevirtual 94, 3) := by decide +kernel
theorem d_Writer_writeRun_14 : decode b_Writer_writeRun 14 = .ok (.iload_n 2, 1) := by decide +kernel
theorem d_Writer_writeRun_15 : decode b_Writer_writeRun 15 = .ok (.istore 5, 2) := by decide +kernel
theorem d_Writer_writeRun_17 : decode b_Writer_writeRun 17 = .ok (.iload 5, 2) := by decide +kernel
theorem d_Writer_writeRun_19 : decode b_Writer_writeRun 19 = .ok (.iload_n 3, 1) := by decide +kernel
theorem d_Writer_writeRun_20 : decode b_Writer_writeRun 20 = .ok (.if_icmp .ge 58, 3) := by decide +kernel
theorem d_Writer_writeRun_23 : decode b_Writer_writeRun 23 = .ok (.aload_n 1, 1) := by decide +kernel
theorem d_Writer_writeRun_24 : decode b_Writer_writeRun 24 = .ok (.iload 5, 2) := by decide +kernel
theorem d_Writer_writeRun_26 : decode b_Writer_writeRun 26 = .ok (.invokevirtual 32, 3) := by decide +kernel
theorem d_Writer_writeRun_29 : decode b_Writer_writeRun 29 = .ok (.istore 6, 2) := by decide +kernel
theorem d_Writer_writeRun_31 : decode b_Writer_writeRun 31 = .ok (.iconst 0, 1) := by decide +kernel
theorem d_Writer_writeRun_32 : decode b_Writer_writeRun 32 = .ok (.istore 7, 2) := by decide +kernel
theorem d_Writer_writeRun_34 : decode b_Writer_writeRun 34 = .ok (.iload 7, 2) := by decide +kernel
theorem d_Writer_writeRun_36 : decode b_Writer_writeRun 36 = .ok (.iload 6, 2) := by decide +kernel
theorem d_Writer_writeRun_38 : decode b_Writer_writeRun 38 = .ok (.invokestatic 50, 3) := by decide +kernel
theorem d_Writer_writeRun_41 : decode b_Writer_writeRun 41 = .ok (.if_icmp .ge 31, 3) := by decide +kernel
theorem d_Writer_writeRun_44 : decode b_Writer_writeRun 44 = .ok (.aload_n 0, 1) := by decide +kernel
theorem d_Writer_writeRun_45 : decode b_Writer_writeRun 45 = .ok (.getfield 12, 3) := by decide +kernel
theorem d_Writer_writeRun_48 : decode b_Writer_writeRun 48 = .ok (.iload 6, 2) := by decide +kernel
theorem d_Writer_writeRun_50 : decode b_Writer_writeRun 50 = .ok (.iload 7, 2) := by decide +kernel
theorem d_Writer_writeRun_52 : decode b_Writer_writeRun 52 = .ok (.invokestatic 69, 3) := by decide +kernel
theorem d_Writer_writeRun_55 : decode b_Writer_writeRun 55 = .ok (.bipush 16, 2) := by decide +kernel
theorem d_Writer_writeRun_57 : decode b_Writer_writeRun 57 = .ok (.invokevirtual 97, 3) := by decide +kernel
theorem d_Writer_writeRun_60 : decode b_Writer_writeRun 60 = .ok (.aload_n 0, 1) := by decide +kernel
theorem d_Writer_writeRun_61 : decode b_Writer_writeRun 61 = .ok (.aload 4, 2) := by decide +kernel
theorem d_Writer_writeRun_63 : decode b_Writer_writeRun 63 = .ok (.invokevirtual 101, 3) := by decide +kernel
theorem d_Writer_writeRun_66 : decode b_Writer_writeRun 66 = .ok (.iinc 7 1, 3) := by decide +kernel
theorem d_Writer_writeRun_69 : decode b_Writer_writeRun 69 = .ok (.goto (-35), 3) := by decide +kernel
theorem d_Writer_writeRun_72 : decode b_Writer_writeRun 72 = .ok (.iinc 5 1, 3) := by decide +kernel
theorem d_Writer_writeRun_75 : decode b_Writer_writeRun 75 = .ok (.goto (-58), 3) := by decide +kernel
theorem d_Writer_writeRun_78 : decode b_Writer_writeRun 78 = .ok (.aload_n 0, 1) := by decide +kernel
theorem d_Writer_writeRun_79 : decode b_Writer_writeRun 79 = .ok (.getfield 12, 3) := by decide +kernel
theorem d_Writer_writeRun_82 : decode b_Writer_writeRun 82 = .ok (.bipush 6, 2) := by decide +kernel
theorem d_Writer_writeRun_84 : decode b_Writer_writeRun 84 = .ok (.invokevirtual 105, 3) := by decide +kernel
theorem d_Writer_writeRun_87 : decode b_Writer_writeRun 87 = .ok (.aload_n 0, 1) := by decide +kernel
theorem d_Writer_writeRun_88 : decode b_Writer_writeRun 88 = .ok (.aload 4, 2) := by decide +kernel
theorem d_Writer_writeRun_90 : decode b_Writer_writeRun 90 = .ok (.invokevirtual 101, 3) := by decide +kernel
theorem d_Writer_writeRun_93 : decode b_Writer_writeRun 93 = .ok (.aload 4, 2) := by decide +kernel
theorem d_Writer_writeRun_95 : decode b_Writer_writeRun 95 = .ok (.bipush 45, 2) := by decide +kernel
theorem d_Writer_writeRun_97 : decode b_Writer_writeRun 97 = .ok (.invokevirtual 22, 3) := by decide +kernel
theorem d_Writer_writeRun_100 : decode b_Writer_writeRun 100 = .ok (.return_, 1) := by decide +kernel
theorem d_SingleBytes_byteOf_0 : decode b_SingleBytes_byteOf 0 = .ok (.iload_n 1, 1) := by decide +kernel
theorem d_SingleBytes_byteOf_1 : decode b_SingleBytes_byteOf 1 = .ok (.sipush 128, 3) := by decide +kernel
theorem d_SingleBytes_byteOf_4 : decode b_SingleBytes_byteOf 4 = .ok (.if_icmp .ge 5, 3) := by decide +kernel
theorem d_SingleBytes_byteOf_7 : decode b_SingleBytes_byteOf 7 = .ok (.iload_n 1, 1) := by decide +kernel
theorem d_SingleBytes_byteOf_8 : decode b_SingleBytes_byteOf 8 = .ok (.ireturn, 1) := by decide +kernel
theorem d_SingleBytes_byteOf_9 : decode b_SingleBytes_byteOf 9 = .ok (.iload_n 0, 1) := by decide +kernel
theorem d_SingleBytes_byteOf_10 : decode b_SingleBytes_byteOf 10 = .ok (.tableswitch 75 1 8 #[46, 60, 65, 75, 75, 75, 75, 70], 46) := by decide +kernel
theorem d_SingleBytes_byteOf_56 : decode b_SingleBytes_byteOf 56 = .ok (.iload_n 1, 1) := by decide +kernel
theorem d_SingleBytes_byteOf_57 : decode b_SingleBytes_byteOf 57 = .ok (.sipush 256, 3) := by decide +kernel
theorem d_SingleBytes_byteOf_60 : decode b_SingleBytes_byteOf 60 = .ok (.if_icmp .ge 7, 3) := by decide +kernel
theorem d_SingleBytes_byteOf_63 : decode b_SingleBytes_byteOf 63 = .ok (.iload_n 1, 1) := by decide +kernel
theorem d_SingleBytes_byteOf_64 : decode b_SingleBytes_byteOf 64 = .ok (.goto 5, 3) := by decide +kernel
theorem d_SingleBytes_byteOf_67 : decode b_SingleBytes_byteOf 67 = .ok (.bipush 63, 2) := by decide +kernel
theorem d_SingleBytes_byteOf_69 : decode b_SingleBytes_byteOf 69 = .ok (.ireturn, 1) := by decide +kernel
theorem d_SingleBytes_byteOf_70 : decode b_SingleBytes_byteOf 70 = .ok (.iload_n 1, 1) := by decide +kernel
theorem d_SingleBytes_byteOf_71 : decode b_SingleBytes_byteOf 71 = .ok (.invokestatic 27, 3) := by decide +kernel
theorem d_SingleBytes_byteOf_74 : decode b_SingleBytes_byteOf 74 = .ok (.ireturn, 1) := by decide +kernel
theorem d_SingleBytes_byteOf_75 : decode b_SingleBytes_byteOf 75 = .ok (.iload_n 1, 1) := by decide +kernel
theorem d_SingleBytes_byteOf_76 : decode b_SingleBytes_byteOf 76 = .ok (.invokestatic 30, 3) := by decide +kernel
theorem d_SingleBytes_byteOf_79 : decode b_SingleBytes_byteOf 79 = .ok (.ireturn, 1) := by decide +kernel
theorem d_SingleBytes_byteOf_80 : decode b_SingleBytes_byteOf 80 = .ok (.iload_n 1, 1) := by decide +kernel
theorem d_SingleBytes_byteOf_81 : decode b_SingleBytes_byteOf 81 = .ok (.invokestatic 33, 3) := by decide +kernel
theorem d_SingleBytes_byteOf_84 : decode b_SingleBytes_byteOf 84 = .ok (.ireturn, 1) := by decide +kernel
theorem d_SingleBytes_byteOf_85 : decode b_SingleBytes_byteOf 85 = .ok (.bipush 63, 2) := by decide +kernel
theorem d_SingleBytes_byteOf_87 : decode b_SingleBytes_byteOf 87 = .ok (.ireturn, 1) := by decide +kernel
theorem d_Coder_base_0 : decode b_Coder_base 0 = .ok (.aload_n 0, 1) := by decide +kernel
theorem d_Coder_base_1 : decode b_Coder_base 1 = .ok (.getfield 12, 3) := by decide +kernel
theorem d_Coder_base_4 : decode b_Coder_base 4 = .ok (.invokevirtual 29, 3) := by decide +kernel
theorem d_Coder_base_7 : decode b_Coder_base 7 = .ok (.iconst 0, 1) := by decide +kernel
theorem d_Coder_base_8 : decode b_Coder_base 8 = .ok (.istore_n 3, 1) := by decide +kernel
theorem d_Coder_base_9 : decode b_Coder_base 9 = .ok (.iload_n 3, 1) := by decide +kernel
theorem d_Coder_base_10 : decode b_Coder_base 10 = .ok (.aload_n 1, 1) := by decide +kernel
theorem d_Coder_base_11 : decode b_Coder_base 11 = .ok (.invokevirtual 32, 3) := by decide +kernel
theorem d_Coder_base_14 : decode b_Coder_base 14 = .ok (.if_icmp .ge 45, 3) := by decide +kernel
theorem d_Coder_base_17 : decode b_Coder_base 17 = .ok (.aload_n 0, 1) := by decide +kernel
theorem d_Coder_base_18 : decode b_Coder_base 18 = .ok (.getfield 12, 3) := by decide +kernel
theorem d_Coder_base_21 : decode b_Coder_base 21 = .ok (.aload_n 1, 1) := by decide +kernel
theorem d_Coder_base_22 : decode b_Coder_base 22 = .ok (.iload_n 3, 1) := by decide +kernel
theorem d_Coder_base_23 : decode b_Coder_base 23 = .ok (.invokevirtual 38, 3) := by decide +kernel
theorem d_Coder_base_26 : decode b_Coder_base 26 = .ok (.bipush 8, 2) := by decide +kernel
theorem d_Coder_base_28 : decode b_Coder_base 28 = .ok (.invokevirtual 42, 3) := by decide +kernel
theorem d_Coder_base_31 : decode b_Coder_base 31 = .ok (.aload_n 0, 1) := by decide +kernel
theorem d_Coder_base_32 : decode b_Coder_base 32 = .ok (.aload_n 2, 1) := by decide +kernel
theorem d_Coder_base_33 : decode b_Coder_base 33 = .ok (.invokevirtual 46, 3) := by decide +kernel
theorem d_Coder_base_36 : decode b_Coder_base 36 = .ok (.aload_n 0, 1) := by decide +kernel
theorem d_Coder_base_37 : decode b_Coder_base 37 = .ok (.getfield 12, 3) := by decide +kernel
theorem d_Coder_base_40 : decode b_Coder_base 40 = .ok (.bipush 6, 2) := by decide +kernel
theorem d_Coder_base_42 : decode b_Coder_base 42 = .ok (.invokevirtual 50, 3) := by decide +kernel
theorem d_Coder_base_45 : decode b_Coder_base 45 = .ok (.ifCond .eq 8, 3) := by decide +kernel
theorem d_Coder_base_48 : decode b_Coder_base 48 = .ok (.aload_n 0, 1) := by decide +kernel
theorem d_Coder_base_49 : decode b_Coder_base 49 = .ok (.aload_n 2, 1) := by decide +kernel
theorem d_Coder_base_50 : decode b_Coder_base 50 = .ok (.invokevirtual 46, 3) := by decide +kernel
theorem d_Coder_base_53 : decode b_Coder_base 53 = .ok (.iinc 3 1, 3) := by decide +kernel
theorem d_Coder_base_56 : decode b_Coder_base 56 = .ok (.goto (-47), 3) := by decide +kernel
theorem d_Coder_base_59 : decode b_Coder_base 59 = .ok (.aload_n 0, 1) := by decide +kernel
theorem d_Coder_base_60 : decode b_Coder_base 60 = .ok (.getfield 12, 3) := by decide +kernel
theorem d_Coder_base_63 : decode b_Coder_base 63 = .ok (.bipush 6, 2) := by decide +kernel
theorem d_Coder_base_65 : decode b_Coder_base 65 = .ok (.invokevirtual 54, 3) := by decide +kernel
theorem d_Coder_base_68 : decode b_Coder_base 68 = .ok (.aload_n 0, 1) := by decide +kernel
theorem d_Coder_base_69 : decode b_Coder_base 69 = .ok (.getfield 12, 3) := by decide +kernel
theorem d_Coder_base_72 : decode b_Coder_base 72 = .ok (.bipush 6, 2) := by decide +kernel
theorem d_Coder_base_74 : decode b_Coder_base 74 = .ok (.invokevirtual 50, 3) := by decide +kernel
theorem d_Coder_base_77 : decode b_Coder_base 77 = .ok (.ifCond .eq 8, 3) := by decide +kernel
theorem d_Coder_base_80 : decode b_Coder_base 80 = .ok (.aload_n 0, 1) := by decide +kernel
theorem d_Coder_base_81 : decode b_Coder_base 81 = .ok (.aload_n 2, 1) := by decide +kernel
theorem d_Coder_base_82 : decode b_Coder_base 82 = .ok (.invokevirtual 46, 3) := by decide +kernel
theorem d_Coder_base_85 : decode b_Coder_base 85 = .ok (.iconst 4, 1) := by decide +kernel
theorem d_Coder_base_86 : decode b_Coder_base 86 = .ok (.aload_n 0, 1) := by decide +kernel
theorem d_Coder_base_87 : decode b_Coder_base 87 = .ok (.getfield 18, 3) := by decide +kernel
theorem d_Coder_base_90 : decode b_Coder_base 90 = .ok (.iconst 4, 1) := by decide +kernel
theorem d_Coder_base_91 : decode b_Coder_base 91 = .ok (.irem, 1) := by decide +kernel
theorem d_Coder_base_92 : decode b_Coder_base 92 = .ok (.isub, 1) := by decide +kernel
theorem d_Coder_base_93 : decode b_Coder_base 93 = .ok (.iconst 4, 1) := by decide +kernel
theorem d_Coder_base_94 : decode b_Coder_base 94 = .ok (.irem, 1) := by decide +kernel
theorem d_Coder_base_95 : decode b_Coder_base 95 = .ok (.istore_n 3, 1) := by decide +kernel
theorem d_Coder_base_96 : decode b_Coder_base 96 = .ok (.iconst 0, 1) := by decide +kernel
theorem d_Coder_base_97 : decode b_Coder_base 97 = .ok (.istore 4, 2) := by decide +kernel
theorem d_Coder_base_99 : decode b_Coder_base 99 = .ok (.iload 4, 2) := by decide +kernel
theorem d_Coder_base_101 : decode b_Coder_base 101 = .ok (.iload_n 3, 1) := by decide +kernel
theorem d_Coder_base_102 : decode b_Coder_base 102 = .ok (.if_icmp .ge 15, 3) := by decide +kernel
theorem d_Coder_base_105 : decode b_Coder_base 105 = .ok (.aload_n 2, 1) := by decide +kernel
theorem d_Coder_base_106 : decode b_Coder_base 106 = .ok (.bipush 61, 2) := by decide +kernel
theorem d_Coder_base_108 : decode b_Coder_base 108 = .ok (.invokevirtual 58, 3) := by decide +kernel
theorem d_Coder_base_111 : decode b_Coder_base 111 = .ok (.iinc 4 1, 3) := by decide +kernel
theorem d_Coder_base_114 : decode b_Coder_base 114 = .ok (.goto (-15), 3) := by decide +kernel
theorem d_Coder_base_117 : decode b_Coder_base 117 = .ok (.return_, 1) := by decide +kernel
theorem d_Coder_quote_0 : decode b_Coder_quote 0 = .ok (.iconst 0, 1) := by decide +kernel
theorem d_Coder_quote_1 : decode b_Coder_quote 1 = .ok (.istore_n 3, 1) := by decide +kernel
theorem d_Coder_quote_2 : decode b_Coder_quote 2 = .ok (.iload_n 3, 1) := by decide +kernel
theorem d_Coder_quote_3 : decode b_Coder_quote 3 = .ok (.aload_n 1, 1) := by decide +kernel
theorem d_Coder_quote_4 : decode b_Coder_quote 4 = .ok (.invokevirtual 32, 3) := by decide +kernel
theorem d_Coder_quote_7 : decode b_Coder_quote 7 = .ok (.if_icmp .ge 43, 3) := by decide +kernel
theorem d_Coder_quote_10 : decode b_Coder_quote 10 = .ok (.aload_n 1, 1) := by decide +kernel
theorem d_Coder_quote_11 : decode b_Coder_quote 11 = .ok (.iload_n 3, 1) := by decide +kernel
theorem d_Coder_quote_12 : decode b_Coder_quote 12 = .ok (.invokestatic 72, 3) := by decide +kernel
theorem d_Coder_quote_15 : decode b_Coder_quote 15 = .ok (.ifCond .eq 14, 3) := by decide +kernel
theorem d_Coder_quote_18 : decode b_Coder_quote 18 = .ok (.aload_n 0, 1) := by decide +kernel
theorem d_Coder_quote_19 : decode b_Coder_quote 19 = .ok (.aload_n 2, 1) := by decide +kernel
theorem d_Coder_quote_20 : decode b_Coder_quote 20 = .ok (.invokevirtual 61, 3) := by decide +kernel
theorem d_Coder_quote_23 : decode b_Coder_quote 23 = .ok (.iinc 3 1, 3) := by decide +kernel
theorem d_Coder_quote_26 : decode b_Coder_quote 26 = .ok (.goto 18, 3) := by decide +kernel
theorem d_Coder_quote_29 : decode b_Coder_quote 29 = .ok (.aload_n 0, 1) := by decide +kernel
theorem d_Coder_quote_30 : decode b_Coder_quote 30 = .ok (.aload_n 1, 1) := by decide +kernel
theorem d_Coder_quote_31 : decode b_Coder_quote 31 = .ok (.iload_n 3, 1) := by decide +kernel
theorem d_Coder_quote_32 : decode b_Coder_quote 32 = .ok (.invokevirtual 38, 3) := by decide +kernel
theorem d_Coder_quote_35 : decode b_Coder_quote 35 = .ok (.aload_n 1, 1) := by decide +kernel
theorem d_Coder_quote_36 : decode b_Coder_quote 36 = .ok (.iload_n 3, 1) := by decide +kernel
theorem d_Coder_quote_37 : decode b_Coder_quote 37 = .ok (.invokestatic 76, 3) := by decide +kernel
theorem d_Coder_quote_40 : decode b_Coder_quote 40 = .ok (.aload_n 2, 1) := by decide +kernel
theorem d_Coder_quote_41 : decode b_Coder_quote 41 = .ok (.invokevirtual 79, 3) := by decide +kernel
theorem d_Coder_quote_44 : decode b_Coder_quote 44 = .ok (.iinc 3 1, 3) := by decide +kernel
theorem d_Coder_quote_47 : decode b_Coder_quote 47 = .ok (.goto (-45), 3) := by decide +kernel
theorem d_Coder_quote_50 : decode b_Coder_quote 50 = .ok (.return_, 1) := by decide +kernel
theorem d_Names_charsetOf_0 : decode b_Names_charsetOf 0 = .ok (.iconst 0, 1) := by decide +kernel
theorem d_Names_charsetOf_1 : decode b_Names_charsetOf 1 = .ok (.istore_n 3, 1) := by decide +kernel
theorem d_Names_charsetOf_2 : decode b_Names_charsetOf 2 = .ok (.iload_n 3, 1) := by decide +kernel
theorem d_Names_charsetOf_3 : decode b_Names_charsetOf 3 = .ok (.bipush 9, 2) := by decide +kernel
theorem d_Names_charsetOf_5 : decode b_Names_charsetOf 5 = .ok (.if_icmp .gt 24, 3) := by decide +kernel
theorem d_Names_charsetOf_8 : decode b_Names_charsetOf 8 = .ok (.aload_n 0, 1) := by decide +kernel
theorem d_Names_charsetOf_9 : decode b_Names_charsetOf 9 = .ok (.iload_n 1, 1) := by decide +kernel
theorem d_Names_charsetOf_10 : decode b_Names_charsetOf 10 = .ok (.iload_n 2, 1) := by decide +kernel
theorem d_Names_charsetOf_11 : decode b_Names_charsetOf 11 = .ok (.iload_n 3, 1) := by decide +kernel
theorem d_Names_charsetOf_12 : decode b_Names_charsetOf 12 = .ok (.invokestatic 9, 3) := by decide +kernel
theorem d_Names_charsetOf_15 : decode b_Names_charsetOf 15 = .ok (.invokestatic 15, 3) := by decide +kernel
theorem d_Names_charsetOf_18 : decode b_Names_charsetOf 18 = .ok (.ifCond .eq 5, 3) := by decide +kernel
theorem d_Names_charsetOf_21 : decode b_Names_charsetOf 21 = .ok (.iload_n 3, 1) := by decide +kernel
theorem d_Names_charsetOf_22 : decode b_Names_charsetOf 22 = .ok (.ireturn, 1) := by decide +kernel
theorem d_Names_charsetOf_23 : decode b_Names_charsetOf 23 = .ok (.iinc 3 1, 3) := by decide +kernel
theorem d_Names_charsetOf_26 : decode b_Names_charsetOf 26 = .ok (.goto (-24), 3) := by decide +kernel
theorem d_Names_charsetOf_29 : decode b_Names_charsetOf 29 = .ok (.iconst (-1), 1) := by decide +kernel
theorem d_Names_charsetOf_30 : decode b_Names_charsetOf 30 = .ok (.ireturn, 1) := by decide +kernel
theorem d_Word_standsAt_0 : decode b_Word_standsAt 0 = .ok (.aload_n 1, 1) := by decide +kernel
theorem d_Word_standsAt_1 : decode b_Word_standsAt 1 = .ok (.iload_n 2, 1) := by decide +kernel
theorem d_Word_standsAt_2 : decode b_Word_standsAt 2 = .ok (.invokevirtual 9, 3) := by decide +kernel
theorem d_Word_standsAt_5 : decode b_Word_standsAt 5 = .ok (.bipush 61, 2) := by decide +kernel
theorem d_Word_standsAt_7 : decode b_Word_standsAt 7 = .ok (.if_icmp .ne 15, 3) := by decide +kernel
theorem d_Word_standsAt_10 : decode b_Word_standsAt 10 = .ok (.aload_n 1, 1) := by decide +kernel
theorem d_Word_standsAt_11 : decode b_Word_standsAt 11 = .ok (.iload_n 2, 1) := by decide +kernel
theorem d_Word_standsAt_12 : decode b_Word_standsAt 12 = .ok (.iconst 1, 1) := by decide +kernel
theorem d_Word_standsAt_13 : decode b_Word_standsAt 13 = .ok (.iadd, 1) := by decide +kernel
theorem d_Word_standsAt_14 : decode b_Word_standsAt 14 = .ok (.invokevirtual 9, 3) := by decide +kernel
theorem d_Word_standsAt_17 : decode b_Word_standsAt 17 = .ok (.bipush 63, 2) := by decide +kernel
theorem d_Word_standsAt_19 : decode b_Word_standsAt 19 = .ok (.if_icmp .eq 5, 3) := by decide +kernel
theorem d_Word_standsAt_22 : decode b_Word_standsAt 22 = .ok (.iconst 0, 1) := by decide +kernel
theorem d_Word_standsAt_23 : decode b_Word_standsAt 23 = .ok (.ireturn, 1) := by decide +kernel
theorem d_Word_standsAt_24 : decode b_Word_standsAt 24 = .ok (.aload_n 1, 1) := by decide +kernel
theorem d_Word_standsAt_25 : decode b_Word_standsAt 25 = .ok (.iload_n 2, 1) := by decide +kernel
theorem d_Word_standsAt_26 : decode b_Word_standsAt 26 = .ok (.iconst 2, 1) := by decide +kernel
theorem d_Word_standsAt_27 : decode b_Word_standsAt 27 = .ok (.iadd, 1) := by decide +kernel
theorem d_Word_standsAt_28 : decode b_Word_standsAt 28 = .ok (.invokestatic 15, 3) := by decide +kernel
theorem d_Word_standsAt_31 : decode b_Word_standsAt 31 = .ok (.istore_n 3, 1) := by decide +kernel
theorem d_Word_standsAt_32 : decode b_Word_standsAt 32 = .ok (.aload_n 0, 1) := by decide +kernel
theorem d_Word_standsAt_33 : decode b_Word_standsAt 33 = .ok (.aload_n 1, 1) := by decide +kernel
theorem d_Word_standsAt_34 : decode b_Word_standsAt 34 = .ok (.iload_n 3, 1) := by decide +kernel
theorem d_Word_standsAt_35 : decode b_Word_standsAt 35 = .ok (.iconst 1, 1) := by decide +kernel
theorem d_Word_standsAt_36 : decode b_Word_standsAt 36 = .ok (.iadd, 1) := by decide +kernel
theorem d_Word_standsAt_37 : decode b_Word_standsAt 37 = .ok (.invokevirtual 9, 3) := by decide +kernel
theorem d_Word_standsAt_40 : decode b_Word_standsAt 40 = .ok (.invokevirtual 21, 3) := by decide +kernel
theorem d_Word_standsAt_43 : decode b_Word_standsAt 43 = .ok (.ifCond .eq 15, 3) := by decide +kernel
theorem d_Word_standsAt_46 : decode b_Word_standsAt 46 = .ok (.aload_n 1, 1) := by decide +kernel
theorem d_Word_standsAt_47 : decode b_Word_standsAt 47 = .ok (.iload_n 3, 1) := by decide +kernel
theorem d_Word_standsAt_48 : decode b_Word_standsAt 48 = .ok (.iconst 2, 1) := by decide +kernel
theorem d_Word_standsAt_49 : decode b_Word_standsAt 49 = .ok (.iadd, 1) := by decide +kernel
theorem d_Word_standsAt_50 : decode b_Word_standsAt 50 = .ok (.invokevirtual 9, 3) := by decide +kernel
theorem d_Word_standsAt_53 : decode b_Word_standsAt 53 = .ok (.bipush 63, 2) := by decide +kernel
theorem d_Word_standsAt_55 : decode b_Word_standsAt 55 = .ok (.if_icmp .eq 5, 3) := by decide +kernel
theorem d_Word_standsAt_58 : decode b_Word_standsAt 58 = .ok (.iconst 0, 1) := by decide +kernel
theorem d_Word_standsAt_59 : decode b_Word_standsAt 59 = .ok (.ireturn, 1) := by decide +kernel
theorem d_Word_standsAt_60 : decode b_Word_standsAt 60 = .ok (.aload_n 0, 1) := by decide +kernel
theorem d_Word_standsAt_61 : decode b_Word_standsAt 61 = .ok (.iload_n 3, 1) := by decide +kernel
theorem d_Word_standsAt_62 : decode b_Word_standsAt 62 = .ok (.iconst 3, 1) := by decide +kernel
theorem d_Word_standsAt_63 : decode b_Word_standsAt 63 = .ok (.iadd, 1) := by decide +kernel
theorem d_Word_standsAt_64 : decode b_Word_standsAt 64 = .ok (.putfield 25, 3) := by decide +kernel
theorem d_Word_standsAt_67 : decode b_Word_standsAt 67 = .ok (.aload_n 0, 1) := by decide +kernel
theorem d_Word_standsAt_68 : decode b_Word_standsAt 68 = .ok (.aload_n 1, 1) := by decide +kernel
theorem d_Word_standsAt_69 : decode b_Word_standsAt 69 = .ok (.aload_n 0, 1) := by decide +kernel
theorem d_Word_standsAt_70 : decode b_Word_standsAt 70 = .ok (.getfield 25, 3) := by decide +kernel
theorem d_Word_standsAt_73 : decode b_Word_standsAt 73 = .ok (.invokestatic 29, 3) := by decide +kernel
theorem d_Word_standsAt_76 : decode b_Word_standsAt 76 = .ok (.putfield 32, 3) := by decide +kernel
theorem d_Word_standsAt_79 : decode b_Word_standsAt 79 = .ok (.aload_n 0, 1) := by decide +kernel
theorem d_Word_standsAt_80 : decode b_Word_standsAt 80 = .ok (.aload_n 0, 1) := by decide +kernel
theorem d_Word_standsAt_81 : decode b_Word_standsAt 81 = .ok (.getfield 32, 3) := by decide +kernel
theorem d_Word_standsAt_84 : decode b_Word_standsAt 84 = .ok (.iconst 2, 1) := by decide +kernel
theorem d_Word_standsAt_85 : decode b_Word_standsAt 85 = .ok (.iadd, 1) := by decide +kernel
theorem d_Word_standsAt_86 : decode b_Word_standsAt 86 = .ok (.putfield 35, 3) := by decide +kernel
theorem d_Word_standsAt_89 : decode b_Word_standsAt 89 = .ok (.aload_n 1, 1) := by decide +kernel
theorem d_Word_standsAt_90 : decode b_Word_standsAt 90 = .ok (.aload_n 0, 1) := by decide +kernel
theorem d_Word_standsAt_91 : decode b_Word_standsAt 91 = .ok (.getfield 32, 3) := by decide +kernel
theorem d_Word_standsAt_94 : decode b_Word_standsAt 94 = .ok (.invokevirtual 9, 3) := by decide +kernel
theorem d_Word_standsAt_97 : decode b_Word_standsAt 97 = .ok (.bipush 63, 2) := by decide +kernel
theorem d_Word_standsAt_99 : decode b_Word_standsAt 99 = .ok (.if_icmp .ne 18, 3) := by decide +kernel
theorem d_Word_standsAt_102 : decode b_Word_standsAt 102 = .ok (.aload_n 1, 1) := by decide +kernel
theorem d_Word_standsAt_103 : decode b_Word_standsAt 103 = .ok (.aload_n 0, 1) := by decide +kernel
theorem d_Word_standsAt_104 : decode b_Word_standsAt 104 = .ok (.getfield 32, 3) := by decide +kernel
theorem d_Word_standsAt_107 : decode b_Word_standsAt 107 = .ok (.iconst 1, 1) := by decide +kernel
theorem d_Word_standsAt_108 : decode b_Word_standsAt 108 = .ok (.iadd, 1) := by decide +kernel
theorem d_Word_standsAt_109 : decode b_Word_standsAt 109 = .ok (.invokevirtual 9, 3) := by decide +kernel
theorem d_Word_standsAt_112 : decode b_Word_standsAt 112 = .ok (.bipush 61, 2) := by decide +kernel
theorem d_Word_standsAt_114 : decode b_Word_standsAt 114 = .ok (.if_icmp .eq 5, 3) := by decide +kernel
theorem d_Word_standsAt_117 : decode b_Word_standsAt 117 = .ok (.iconst 0, 1) := by decide +kernel
theorem d_Word_standsAt_118 : decode b_Word_standsAt 118 = .ok (.ireturn, 1) := by decide +kernel
theorem d_Word_standsAt_119 : decode b_Word_standsAt 119 = .ok (.aload_n 0, 1) := by decide +kernel
theorem d_Word_standsAt_120 : decode b_Word_standsAt 120 = .ok (.aload_n 1, 1) := by decide +kernel
theorem d_Word_standsAt_121 : decode b_Word_standsAt 121 = .ok (.iload_n 2, 1) := by decide +kernel
theorem d_Word_standsAt_122 : decode b_Word_standsAt 122 = .ok (.iconst 2, 1) := by decide +kernel
theorem d_Word_standsAt_123 : decode b_Word_standsAt 123 = .ok (.iadd, 1) := by decide +kernel
theorem d_Word_standsAt_124 : decode b_Word_standsAt 124 = .ok (.aload_n 1, 1) := by decide +kernel
theorem d_Word_standsAt_125 : decode b_Word_standsAt 125 = .ok (.iload_n 2, 1) := by decide +kernel
theorem d_Word_standsAt_126 : decode b_Word_standsAt 126 = .ok (.iconst 2, 1) := by decide +kernel
theorem d_Word_standsAt_127 : decode b_Word_standsAt 127 = .ok (.iadd, 1) := by decide +kernel
theorem d_Word_standsAt_128 : decode b_Word_standsAt 128 = .ok (.iload_n 3, 1) := by decide +kernel
theorem d_Word_standsAt_129 : decode b_Word_standsAt 129 = .ok (.invokestatic 38, 3) := by decide +kernel
theorem d_Word_standsAt_132 : decode b_Word_standsAt 132 = .ok (.invokestatic 42, 3) := by decide +kernel
theorem d_Word_standsAt_135 : decode b_Word_standsAt 135 = .ok (.putfield 47, 3) := by decide +kernel
theorem d_Word_standsAt_138 : decode b_Word_standsAt 138 = .ok (.aload_n 0, 1) := by decide +kernel
theorem d_Word_standsAt_139 : decode b_Word_standsAt 139 = .ok (.getfield 47, 3) := by decide +kernel
theorem d_Word_standsAt_142 : decode b_Word_standsAt 142 = .ok (.iconst (-1), 1) := by decide +kernel
theorem d_Word_standsAt_143 : decode b_Word_standsAt 143 = .ok (.if_icmp .eq 7, 3) := by decide +kernel
theorem d_Word_standsAt_146 : decode b_Word_standsAt 146 = .ok (.iconst 1, 1) := by decide +kernel
theorem d_Word_standsAt_147 : decode b_Word_standsAt 147 = .ok (.goto 4, 3) := by decide +kernel
theorem d_Word_standsAt_150 : decode b_Word_standsAt 150 = .ok (.iconst 0, 1) := by decide +kernel
theorem d_Word_standsAt_151 : decode b_Word_standsAt 151 = .ok (.ireturn, 1) := by decide +kernel
theorem d_Reader_readUtf16Marked_0 : decode b_Reader_readUtf16Marked 0 = .ok (.iload_n 3, 1) := by decide +kernel
theorem d_Reader_readUtf16Marked_1 : decode b_Reader_readUtf16Marked 1 = .ok (.iload_n 2, 1) := by decide +kernel
theorem d_Reader_readUtf16Marked_2 : decode b_Reader_readUtf16Marked 2 = .ok (.isub, 1) := by decide +kernel
theorem d_Reader_readUtf16Marked_3 : decode b_Reader_readUtf16Marked 3 = .ok (.iconst 2, 1) := by decide +kernel
theorem d_Reader_readUtf16Marked_4 : decode b_Reader_readUtf16Marked 4 = .ok (.if_icmp .lt 11, 3) := by decide +kernel
theorem d_Reader_readUtf16Marked_7 : decode b_Reader_readUtf16Marked 7 = .ok (.aload_n 1, 1) := by decide +kernel
theorem d_Reader_readUtf16Marked_8 : decode b_Reader_readUtf16Marked 8 = .ok (.iload_n 2, 1) := by decide +kernel
theorem d_Reader_readUtf16Marked_9 : decode b_Reader_readUtf16Marked 9 = .ok (.invokevirtual 36, 3) := by decide +kernel
theorem d_Reader_readUtf16Marked_12 : decode b_Reader_readUtf16Marked 12 = .ok (.goto 4, 3) := by decide +kernel
theorem d_Reader_readUtf16Marked_15 : decode b_Reader_readUtf16Marked 15 = .ok (.iconst (-1), 1) := by decide +kernel
theorem d_Reader_readUtf16Marked_16 : decode b_Reader_readUtf16Marked 16 = .ok (.istore 5, 2) := by decide +kernel
theorem d_Reader_readUtf16Marked_18 : decode b_Reader_readUtf16Marked 18 = .ok (.iload_n 3, 1) := by decide +kernel
theorem d_Reader_readUtf16Marked_19 : decode b_Reader_readUtf16Marked 19 = .ok (.iload_n 2, 1) := by decide +kernel
theorem d_Reader_readUtf16Marked_20 : decode b_Reader_readUtf16Marked 20 = .ok (.isub, 1) := by decide +kernel
theorem d_Reader_readUtf16Marked_21 : decode b_Reader_readUtf16Marked 21 = .ok (.iconst 2, 1) := by decide +kernel
theorem d_Reader_readUtf16Marked_22 : decode b_Reader_readUtf16Marked 22 = .ok (.if_icmp .lt 13, 3) := by decide +kernel
theorem d_Reader_readUtf16Marked_25 : decode b_Reader_readUtf16Marked 25 = .ok (.aload_n 1, 1) := by decide +kernel
theorem d_Reader_readUtf16Marked_26 : decode b_Reader_readUtf16Marked 26 = .ok (.iload_n 2, 1) := by decide +kernel
theorem d_Reader_readUtf16Marked_27 : decode b_Reader_readUtf16Marked 27 = .ok (.iconst 1, 1) := by decide +kernel
theorem d_Reader_readUtf16Marked_28 : decode b_Reader_readUtf16Marked 28 = .ok (.iadd, 1) := by decide +kernel
theorem d_Reader_readUtf16Marked_29 : decode b_Reader_readUtf16Marked 29 = .ok (.invokevirtual 36, 3) := by decide +kernel
theorem d_Reader_readUtf16Marked_32 : decode b_Reader_readUtf16Marked 32 = .ok (.goto 4, 3) := by decide +kernel
theorem d_Reader_readUtf16Marked_35 : decode b_Reader_readUtf16Marked 35 = .ok (.iconst (-1), 1) := by decide +kernel
theorem d_Reader_readUtf16Marked_36 : decode b_Reader_readUtf16Marked 36 = .ok (.istore 6, 2) := by decide +kernel
theorem d_Reader_readUtf16Marked_38 : decode b_Reader_readUtf16Marked 38 = .ok (.iload 5, 2) := by decide +kernel
theorem d_Reader_readUtf16Marked_40 : decode b_Reader_readUtf16Marked 40 = .ok (.sipush 254, 3) := by decide +kernel
theorem d_Reader_readUtf16Marked_43 : decode b_Reader_readUtf16Marked 43 = .ok (.if_icmp .ne 26, 3) := by decide +kernel
theorem d_Reader_readUtf16Marked_46 : decode b_Reader_readUtf16Marked 46 = .ok (.iload 6, 2) := by decide +kernel
theorem d_Reader_readUtf16Marked_48 : decode b_Reader_readUtf16Marked 48 = .ok (.sipush 255, 3) := by decide +kernel
theorem d_Reader_readUtf16Marked_51 : decode b_Reader_readUtf16Marked 51 = .ok (.if_icmp .ne 18, 3) := by decide +kernel
theorem d_Reader_readUtf16Marked_54 : decode b_Reader_readUtf16Marked 54 = .ok (.aload_n 0, 1) := by decide +kernel
theorem d_Reader_readUtf16Marked_55 : decode b_Reader_readUtf16Marked 55 = .ok (.aload_n 1, 1) := by decide +kernel
theorem d_Reader_readUtf16Marked_56 : decode b_Reader_readUtf16Marked 56 = .ok (.iload_n 2, 1) := by decide +kernel
theorem d_Reader_readUtf16Marked_57 : decode b_Reader_readUtf16Marked 57 = .ok (.iconst 2, 1) := by decide +kernel
theorem d_Reader_readUtf16Marked_58 : decode b_Reader_readUtf16Marked 58 = .ok (.iadd, 1) := by decide +kernel
theorem d_Reader_readUtf16Marked_59 : decode b_Reader_readUtf16Marked 59 = .ok (.iload_n 3, 1) := by decide +kernel
theorem d_Reader_readUtf16Marked_60 : decode b_Reader_readUtf16Marked 60 = .ok (.iconst 1, 1) := by decide +kernel
theorem d_Reader_readUtf16Marked_61 : decode b_Reader_readUtf16Marked 61 = .ok (.aload 4, 2) := by decide +kernel
theorem d_Reader_readUtf16Marked_63 : decode b_Reader_readUtf16Marked 63 = .ok (.invokevirtual 25, 3) := by decide +kernel
theorem d_Reader_readUtf16Marked_66 : decode b_Reader_readUtf16Marked 66 = .ok (.goto 44, 3) := by decide +kernel
theorem d_Reader_readUtf16Marked_69 : decode b_Reader_readUtf16Marked 69 = .ok (.iload 5, 2) := by decide +kernel
theorem d_Reader_readUtf16Marked_71 : decode b_Reader_readUtf16Marked 71 = .ok (.sipush 255, 3) := by decide +kernel
theorem d_Reader_readUtf16Marked_74 : decode b_Reader_readUtf16Marked 74 = .ok (.if_icmp .ne 26, 3) := by decide +kernel
theorem d_Reader_readUtf16Marked_77 : decode b_Reader_readUtf16Marked 77 = .ok (.iload 6, 2) := by decide +kernel
theorem d_Reader_readUtf16Marked_79 : decode b_Reader_readUtf16Marked 79 = .ok (.sipush 254, 3) := by decide +kernel
theorem d_Reader_readUtf16Marked_82 : decode b_Reader_readUtf16Marked 82 = .ok (.if_icmp .ne 18, 3) := by decide +kernel
theorem d_Reader_readUtf16Marked_85 : decode b_Reader_readUtf16Marked 85 = .ok (.aload_n 0, 1) := by decide +kernel
theorem d_Reader_readUtf16Marked_86 : decode b_Reader_readUtf16Marked 86 = .ok (.aload_n 1, 1) := by decide +kernel
theorem d_Reader_readUtf16Marked_87 : decode b_Reader_readUtf16Marked 87 = .ok (.iload_n 2, 1) := by decide +kernel
theorem d_Reader_readUtf16Marked_88 : decode b_Reader_readUtf16Marked 88 = .ok (.iconst 2, 1) := by decide +kernel
theorem d_Reader_readUtf16Marked_89 : decode b_Reader_readUtf16Marked 89 = .ok (.iadd, 1) := by decide +kernel
theorem d_Reader_readUtf16Marked_90 : decode b_Reader_readUtf16Marked 90 = .ok (.iload_n 3, 1) := by decide +kernel
theorem d_Reader_readUtf16Marked_91 : decode b_Reader_readUtf16Marked 91 = .ok (.iconst 0, 1) := by decide +kernel
theorem d_Reader_readUtf16Marked_92 : decode b_Reader_readUtf16Marked 92 = .ok (.aload 4, 2) := by decide +kernel
theorem d_Reader_readUtf16Marked_94 : decode b_Reader_readUtf16Marked 94 = .ok (.invokevirtual 25, 3) := by decide +kernel
theorem d_Reader_readUtf16Marked_97 : decode b_Reader_readUtf16Marked 97 = .ok (.goto 13, 3) := by decide +kernel
theorem d_Reader_readUtf16Marked_100 : decode b_Reader_readUtf16Marked 100 = .ok (.aload_n 0, 1) := by decide +kernel
theorem d_Reader_readUtf16Marked_101 : decode b_Reader_readUtf16Marked 101 = .ok (.aload_n 1, 1) := by decide +kernel
theorem d_Reader_readUtf16Marked_102 : decode b_Reader_readUtf16Marked 102 = .ok (.iload_n 2, 1) := by decide +kernel
theorem d_Reader_readUtf16Marked_103 : decode b_Reader_readUtf16Marked 103 = .ok (.iload_n 3, 1) := by decide +kernel
theorem d_Reader_readUtf16Marked_104 : decode b_Reader_readUtf16Marked 104 = .ok (.iconst 1, 1) := by decide +kernel
theorem d_Reader_readUtf16Marked_105 : decode b_Reader_readUtf16Marked 105 = .ok (.aload 4, 2) := by decide +kernel
theorem d_Reader_readUtf16Marked_107 : decode b_Reader_readUtf16Marked 107 = .ok (.invokevirtual 25, 3) := by decide +kernel
theorem d_Reader_readUtf16Marked_110 : decode b_Reader_readUtf16Marked 110 = .ok (.return_, 1) := by decide +kernel
theorem d_Uncoder_uncodeInto_0 : decode b_Uncoder_uncodeInto 0 = .ok (.iload_n 2, 1) := by decide +kernel
theorem d_Uncoder_uncodeInto_1 : decode b_Uncoder_uncodeInto 1 = .ok (.iconst 1, 1) := by decide +kernel
theorem d_Uncoder_uncodeInto_2 : decode b_Uncoder_uncodeInto 2 = .ok (.if_icmp .ne 17, 3) := by decide +kernel
theorem d_Uncoder_uncodeInto_5 : decode b_Uncoder_uncodeInto 5 = .ok (.aload_n 0, 1) := by decide +kernel
theorem d_Uncoder_uncodeInto_6 : decode b_Uncoder_uncodeInto 6 = .ok (.aload_n 1, 1) := by decide +kernel
theorem d_Uncoder_uncodeInto_7 : decode b_Uncoder_uncodeInto 7 = .ok (.iconst 0, 1) := by decide +kernel
theorem d_Uncoder_uncodeInto_8 : decode b_Uncoder_uncodeInto 8 = .ok (.aload_n 1, 1) := by decide +kernel
theorem d_Uncoder_uncodeInto_9 : decode b_Uncoder_uncodeInto 9 = .ok (.invokevirtual 25, 3) := by decide +kernel
theorem d_Uncoder_uncodeInto_12 : decode b_Uncoder_uncodeInto 12 = .ok (.aload_n 3, 1) := by decide +kernel
theorem d_Uncoder_uncodeInto_13 : decode b_Uncoder_uncodeInto 13 = .ok (.invokevirtual 31, 3) := by decide +kernel
theorem d_Uncoder_uncodeInto_16 : decode b_Uncoder_uncodeInto 16 = .ok (.goto 23, 3) := by decide +kernel
theorem d_Uncoder_uncodeInto_19 : decode b_Uncoder_uncodeInto 19 = .ok (.iload_n 2, 1) := by decide +kernel
theorem d_Uncoder_uncodeInto_20 : decode b_Uncoder_uncodeInto 20 = .ok (.iconst 2, 1) := by decide +kernel
theorem d_Uncoder_uncodeInto_21 : decode b_Uncoder_uncodeInto 21 = .ok (.if_icmp .ne 12, 3) := by decide +kernel
theorem d_Uncoder_uncodeInto_24 : decode b_Uncoder_uncodeInto 24 = .ok (.aload_n 0, 1) := by decide +kernel
theorem d_Uncoder_uncodeInto_25 : decode b_Uncoder_uncodeInto 25 = .ok (.aload_n 1, 1) := by decide +kernel
theorem d_Uncoder_uncodeInto_26 : decode b_Uncoder_uncodeInto 26 = .ok (.aload_n 3, 1) := by decide +kernel
theorem d_Uncoder_uncodeInto_27 : decode b_Uncoder_uncodeInto 27 = .ok (.invokevirtual 35, 3) := by decide +kernel
theorem d_Uncoder_uncodeInto_30 : decode b_Uncoder_uncodeInto 30 = .ok (.goto 9, 3) := by decide +kernel
theorem d_Uncoder_uncodeInto_33 : decode b_Uncoder_uncodeInto 33 = .ok (.aload_n 0, 1) := by decide +kernel
theorem d_Uncoder_uncodeInto_34 : decode b_Uncoder_uncodeInto 34 = .ok (.aload_n 1, 1) := by decide +kernel
theorem d_Uncoder_uncodeInto_35 : decode b_Uncoder_uncodeInto 35 = .ok (.aload_n 3, 1) := by decide +kernel
theorem d_Uncoder_uncodeInto_36 : decode b_Uncoder_uncodeInto 36 = .ok (.invokevirtual 39, 3) := by decide +kernel
theorem d_Uncoder_uncodeInto_39 : decode b_Uncoder_uncodeInto 39 = .ok (.return_, 1) := by decide +kernel
theorem d_Writer_writeUtf7_0 : decode b_Writer_writeUtf7 0 = .ok (.iconst 0, 1) := by decide +kernel
theorem d_Writer_writeUtf7_1 : decode b_Writer_writeUtf7 1 = .ok (.istore_n 3, 1) := by decide +kernel
theorem d_Writer_writeUtf7_2 : decode b_Writer_writeUtf7 2 = .ok (.iconst 0, 1) := by decide +kernel
theorem d_Writer_writeUtf7_3 : decode b_Writer_writeUtf7 3 = .ok (.istore 4, 2) := by decide +kernel
theorem d_Writer_writeUtf7_5 : decode b_Writer_writeUtf7 5 = .ok (.iload 4, 2) := by decide +kernel
theorem d_Writer_writeUtf7_7 : decode b_Writer_writeUtf7 7 = .ok (.aload_n 1, 1) := by decide +kernel
theorem d_Writer_writeUtf7_8 : decode b_Writer_writeUtf7 8 = .ok (.invokevirtual 28, 3) := by decide +kernel
theorem d_Writer_writeUtf7_11 : decode b_Writer_writeUtf7 11 = .ok (.if_icmp .ge 97, 3) := by decide +kernel
theorem d_Writer_writeUtf7_14 : decode b_Writer_writeUtf7 14 = .ok (.iload 4, 2) := by decide +kernel
theorem d_Writer_writeUtf7_16 : decode b_Writer_writeUtf7 16 = .ok (.iload_n 3, 1) := by decide +kernel
theorem d_Writer_writeUtf7_17 : decode b_Writer_writeUtf7 17 = .ok (.if_icmp .ge 6, 3) := by decide +kernel
theorem d_Writer_writeUtf7_20 : decode b_Writer_writeUtf7 20 = .ok (.goto 82, 3) := by decide +kernel
theorem d_Writer_writeUtf7_23 : decode b_Writer_writeUtf7 23 = .ok (.aload_n 1, 1) := by decide +kernel
theorem d_Writer_writeUtf7_24 : decode b_Writer_writeUtf7 24 = .ok (.iload 4, 2) := by decide +kernel
theorem d_Writer_writeUtf7_26 : decode b_Writer_writeUtf7 26 = .ok (.invokevirtual 32, 3) := by decide +kernel
theorem d_Writer_writeUtf7_29 : decode b_Writer_writeUtf7 29 = .ok (.istore 5, 2) := by decide +kernel
theorem d_Writer_writeUtf7_31 : decode b_Writer_writeUtf7 31 = .ok (.aload_n 1, 1) := by decide +kernel
theorem d_Writer_writeUtf7_32 : decode b_Writer_writeUtf7 32 = .ok (.iload 4, 2) := by decide +kernel
theorem d_Writer_writeUtf7_34 : decode b_Writer_writeUtf7 34 = .ok (.invokestatic 72, 3) := by decide +kernel
theorem d_Writer_writeUtf7_37 : decode b_Writer_writeUtf7 37 = .ok (.istore_n 3, 1) := by decide +kernel
theorem d_Writer_writeUtf7_38 : decode b_Writer_writeUtf7 38 = .ok (.iload_n 3, 1) := by decide +kernel
theorem d_Writer_writeUtf7_39 : decode b_Writer_writeUtf7 39 = .ok (.iload 4, 2) := by decide +kernel
theorem d_Writer_writeUtf7_41 : decode b_Writer_writeUtf7 41 = .ok (.if_icmp .le 7, 3) := by decide +kernel
theorem d_Writer_writeUtf7_44 : decode b_Writer_writeUtf7 44 = .ok (.iconst 1, 1) := by decide +kernel
theorem d_Writer_writeUtf7_45 : decode b_Writer_writeUtf7 45 = .ok (.goto 4, 3) := by decide +kernel
theorem d_Writer_writeUtf7_48 : decode b_Writer_writeUtf7 48 = .ok (.iconst 0, 1) := by decide +kernel
theorem d_Writer_writeUtf7_49 : decode b_Writer_writeUtf7 49 = .ok (.istore 6, 2) := by decide +kernel
theorem d_Writer_writeUtf7_51 : decode b_Writer_writeUtf7 51 = .ok (.aload_n 2, 1) := by decide +kernel
theorem d_Writer_writeUtf7_52 : decode b_Writer_writeUtf7 52 = .ok (.invokevirtual 36, 3) := by decide +kernel
theorem d_Writer_writeUtf7_55 : decode b_Writer_writeUtf7 55 = .ok (.iload 6, 2) := by decide +kernel
theorem d_Writer_writeUtf7_57 : decode b_Writer_writeUtf7 57 = .ok (.ifCond .eq 13, 3) := by decide +kernel
theorem d_Writer_writeUtf7_60 : decode b_Writer_writeUtf7 60 = .ok (.aload_n 1, 1) := by decide +kernel
theorem d_Writer_writeUtf7_61 : decode b_Writer_writeUtf7 61 = .ok (.iload 4, 2) := by decide +kernel
theorem d_Writer_writeUtf7_63 : decode b_Writer_writeUtf7 63 = .ok (.iload_n 3, 1) := by decide +kernel
theorem d_Writer_writeUtf7_64 : decode b_Writer_writeUtf7 64 = .ok (.invokestatic 76, 3) := by decide +kernel
theorem d_Writer_writeUtf7_67 : decode b_Writer_writeUtf7 67 = .ok (.goto 8, 3) := by decide +kernel
theorem d_Writer_writeUtf7_70 : decode b_Writer_writeUtf7 70 = .ok (.iload 5, 2) := by decide +kernel
theorem d_Writer_writeUtf7_72 : decode b_Writer_writeUtf7 72 = .ok (.invokestatic 80, 3) := by decide +kernel
theorem d_Writer_writeUtf7_75 : decode b_Writer_writeUtf7 75 = .ok (.if_icmp .ge 4, 3) := by decide +kernel
theorem d_Writer_writeUtf7_78 : decode b_Writer_writeUtf7 78 = .ok (.return_, 1) := by decide +kernel
theorem d_Writer_writeUtf7_79 : decode b_Writer_writeUtf7 79 = .ok (.iload 6, 2) := by decide +kernel
theorem d_Writer_writeUtf7_81 : decode b_Writer_writeUtf7 81 = .ok (.ifCond .eq 15, 3) := by decide +kernel
theorem d_Writer_writeUtf7_84 : decode b_Writer_writeUtf7 84 = .ok (.aload_n 0, 1) := by decide +kernel
theorem d_Writer_writeUtf7_85 : decode b_Writer_writeUtf7 85 = .ok (.aload_n 1, 1) := by decide +kernel
theorem d_Writer_writeUtf7_86 : decode b_Writer_writeUtf7 86 = .ok (.iload 4, 2) := by decide +kernel
theorem d_Writer_writeUtf7_88 : decode b_Writer_writeUtf7 88 = .ok (.iload_n 3, 1) := by decide +kernel
theorem d_Writer_writeUtf7_89 : decode b_Writer_writeUtf7 89 = .ok (.aload_n 2, 1) := by decide +kernel
theorem d_Writer_writeUtf7_90 : decode b_Writer_writeUtf7 90 = .ok (.invokevirtual 83, 3) := by decide +kernel
theorem d_Writer_writeUtf7_93 : decode b_Writer_writeUtf7 93 = .ok (.goto 9, 3) := by decide +kernel
theorem d_Writer_writeUtf7_96 : decode b_Writer_writeUtf7 96 = .ok (.iload 5, 2) := by decide +kernel
theorem d_Writer_writeUtf7_98 : decode b_Writer_writeUtf7 98 = .ok (.aload_n 2, 1) := by decide +kernel
theorem d_Writer_writeUtf7_99 : decode b_Writer_writeUtf7 99 = .ok (.invokestatic 87, 3) := by decide +kernel
theorem d_Writer_writeUtf7_102 : decode b_Writer_writeUtf7 102 = .ok (.iinc 4 1, 3) := by decide +kernel
theorem d_Writer_writeUtf7_105 : decode b_Writer_writeUtf7 105 = .ok (.goto (-100), 3) := by decide +kernel
theorem d_Writer_writeUtf7_108 : decode b_Writer_writeUtf7 108 = .ok (.return_, 1) := by decide +kernel
theorem d_Writer_writeCharacter_0 : decode b_Writer_writeCharacter 0 = .ok (.iload_n 1, 1) := by decide +kernel
theorem d_Writer_writeCharacter_1 : decode b_Writer_writeCharacter 1 = .ok (.tableswitch 57 4 7 #[31, 39, 39, 48], 31) := by decide +kernel
theorem d_Writer_writeCharacter_32 : decode b_Writer_writeCharacter 32 = .ok (.iload_n 0, 1) := by decide +kernel
theorem d_Writer_writeCharacter_33 : decode b_Writer_writeCharacter 33 = .ok (.aload_n 2, 1) := by decide +kernel
theorem d_Writer_writeCharacter_34 : decode b_Writer_writeCharacter 34 = .ok (.invokestatic 56, 3) := by decide +kernel
theorem d_Writer_writeCharacter_37 : decode b_Writer_writeCharacter 37 = .ok (.goto 30, 3) := by decide +kernel
theorem d_Writer_writeCharacter_40 : decode b_Writer_writeCharacter 40 = .ok (.iload_n 0, 1) := by decide +kernel
theorem d_Writer_writeCharacter_41 : decode b_Writer_writeCharacter 41 = .ok (.iconst 1, 1) := by decide +kernel
theorem d_Writer_writeCharacter_42 : decode b_Writer_writeCharacter 42 = .ok (.aload_n 2, 1) := by decide +kernel
theorem d_Writer_writeCharacter_43 : decode b_Writer_writeCharacter 43 = .ok (.invokestatic 60, 3) := by decide +kernel
theorem d_Writer_writeCharacter_46 : decode b_Writer_writeCharacter 46 = .ok (.goto 21, 3) := by decide +kernel
theorem d_Writer_writeCharacter_49 : decode b_Writer_writeCharacter 49 = .ok (.iload_n 0, 1) := by decide +kernel
theorem d_Writer_writeCharacter_50 : decode b_Writer_writeCharacter 50 = .ok (.iconst 0, 1) := by decide +kernel
theorem d_Writer_writeCharacter_51 : decode b_Writer_writeCharacter 51 = .ok (.aload_n 2, 1) := by decide +kernel
theorem d_Writer_writeCharacter_52 : decode b_Writer_writeCharacter 52 = .ok (.invokestatic 60, 3) := by decide +kernel
theorem d_Writer_writeCharacter_55 : decode b_Writer_writeCharacter 55 = .ok (.goto 12, 3) := by decide +kernel
theorem d_Writer_writeCharacter_58 : decode b_Writer_writeCharacter 58 = .ok (.aload_n 2, 1) := by decide +kernel
theorem d_Writer_writeCharacter_59 : decode b_Writer_writeCharacter 59 = .ok (.iload_n 1, 1) := by decide +kernel
theorem d_Writer_writeCharacter_60 : decode b_Writer_writeCharacter 60 = .ok (.iload_n 0, 1) := by decide +kernel
theorem d_Writer_writeCharacter_61 : decode b_Writer_writeCharacter 61 = .ok (.invokestatic 64, 3) := by decide +kernel
theorem d_Writer_writeCharacter_64 : decode b_Writer_writeCharacter 64 = .ok (.invokevirtual 22, 3) := by decide +kernel
theorem d_Writer_writeCharacter_67 : decode b_Writer_writeCharacter 67 = .ok (.return_, 1) := by decide +kernel
theorem d_Coder_codeInto_0 : decode b_Coder_codeInto 0 = .ok (.aload_n 0, 1) := by decide +kernel
theorem d_Coder_codeInto_1 : decode b_Coder_codeInto 1 = .ok (.iconst 0, 1) := by decide +kernel
theorem d_Coder_codeInto_2 : decode b_Coder_codeInto 2 = .ok (.putfield 18, 3) := by decide +kernel
theorem d_Coder_codeInto_5 : decode b_Coder_codeInto 5 = .ok (.iload_n 2, 1) := by decide +kernel
theorem d_Coder_codeInto_6 : decode b_Coder_codeInto 6 = .ok (.iconst 1, 1) := by decide +kernel
theorem d_Coder_codeInto_7 : decode b_Coder_codeInto 7 = .ok (.if_icmp .ne 12, 3) := by decide +kernel
theorem d_Coder_codeInto_10 : decode b_Coder_codeInto 10 = .ok (.aload_n 0, 1) := by decide +kernel
theorem d_Coder_codeInto_11 : decode b_Coder_codeInto 11 = .ok (.aload_n 1, 1) := by decide +kernel
theorem d_Coder_codeInto_12 : decode b_Coder_codeInto 12 = .ok (.aload_n 3, 1) := by decide +kernel
theorem d_Coder_codeInto_13 : decode b_Coder_codeInto 13 = .ok (.invokevirtual 22, 3) := by decide +kernel
theorem d_Coder_codeInto_16 : decode b_Coder_codeInto 16 = .ok (.goto 9, 3) := by decide +kernel
theorem d_Coder_codeInto_19 : decode b_Coder_codeInto 19 = .ok (.aload_n 0, 1) := by decide +kernel
theorem d_Coder_codeInto_20 : decode b_Coder_codeInto 20 = .ok (.aload_n 1, 1) := by decide +kernel
theorem d_Coder_codeInto_21 : decode b_Coder_codeInto 21 = .ok (.aload_n 3, 1) := by decide +kernel
theorem d_Coder_codeInto_22 : decode b_Coder_codeInto 22 = .ok (.invokevirtual 26, 3) := by decide +kernel
theorem d_Coder_codeInto_25 : decode b_Coder_codeInto 25 = .ok (.return_, 1) := by decide +kernel
theorem d_MC_charset_0 : decode b_MC_charset 0 = .ok (.aload_n 0, 1) := by decide +kernel
theorem d_MC_charset_1 : decode b_MC_charset 1 = .ok (.getfield 57, 3) := by decide +kernel
theorem d_MC_charset_4 : decode b_MC_charset 4 = .ok (.iconst 0, 1) := by decide +kernel
theorem d_MC_charset_5 : decode b_MC_charset 5 = .ok (.aload_n 0, 1) := by decide +kernel
theorem d_MC_charset_6 : decode b_MC_charset 6 = .ok (.getfield 57, 3) := by decide +kernel
theorem d_MC_charset_9 : decode b_MC_charset 9 = .ok (.invokevirtual 74, 3) := by decide +kernel
theorem d_MC_charset_12 : decode b_MC_charset 12 = .ok (.invokestatic 77, 3) := by decide +kernel
theorem d_MC_charset_15 : decode b_MC_charset 15 = .ok (.istore_n 1, 1) := by decide +kernel
theorem d_MC_charset_16 : decode b_MC_charset 16 = .ok (.aload_n 0, 1) := by decide +kernel
theorem d_MC_charset_17 : decode b_MC_charset 17 = .ok (.getfield 57, 3) := by decide +kernel
theorem d_MC_charset_20 : decode b_MC_charset 20 = .ok (.invokevirtual 83, 3) := by decide +kernel
theorem d_MC_charset_23 : decode b_MC_charset 23 = .ok (.iload_n 1, 1) := by decide +kernel
theorem d_MC_charset_24 : decode b_MC_charset 24 = .ok (.ireturn, 1) := by decide +kernel
theorem d_Reader_readInto_0 : decode b_Reader_readInto 0 = .ok (.iload 4, 2) := by decide +kernel
theorem d_Reader_readInto_2 : decode b_Reader_readInto 2 = .ok (.tableswitch 99 4 9 #[38, 49, 61, 74, 99, 87], 38) := by decide +kernel
theorem d_Reader_readInto_40 : decode b_Reader_readInto 40 = .ok (.aload_n 1, 1) := by decide +kernel
theorem d_Reader_readInto_41 : decode b_Reader_readInto 41 = .ok (.iload_n 2, 1) := by decide +kernel
theorem d_Reader_readInto_42 : decode b_Reader_readInto 42 = .ok (.iload_n 3, 1) := by decide +kernel
theorem d_Reader_readInto_43 : decode b_Reader_readInto 43 = .ok (.aload 5, 2) := by decide +kernel
theorem d_Reader_readInto_45 : decode b_Reader_readInto 45 = .ok (.invokestatic 18, 3) := by decide +kernel
theorem d_Reader_readInto_48 : decode b_Reader_readInto 48 = .ok (.goto 63, 3) := by decide +kernel
theorem d_Reader_readInto_51 : decode b_Reader_readInto 51 = .ok (.aload_n 0, 1) := by decide +kernel
theorem d_Reader_readInto_52 : decode b_Reader_readInto 52 = .ok (.aload_n 1, 1) := by decide +kernel
theorem d_Reader_readInto_53 : decode b_Reader_readInto 53 = .ok (.iload_n 2, 1) := by decide +kernel
theorem d_Reader_readInto_54 : decode b_Reader_readInto 54 = .ok (.iload_n 3, 1) := by decide +kernel
theorem d_Reader_readInto_55 : decode b_Reader_readInto 55 = .ok (.aload 5, 2) := by decide +kernel
theorem d_Reader_readInto_57 : decode b_Reader_readInto 57 = .ok (.invokevirtual 22, 3) := by decide +kernel
theorem d_Reader_readInto_60 : decode b_Reader_readInto 60 = .ok (.goto 51, 3) := by decide +kernel
theorem d_Reader_readInto_63 : decode b_Reader_readInto 63 = .ok (.aload_n 0, 1) := by decide +kernel
theorem d_Reader_readInto_64 : decode b_Reader_readInto 64 = .ok (.aload_n 1, 1) := by decide +kernel
theorem d_Reader_readInto_65 : decode b_Reader_readInto 65 = .ok (.iload_n 2, 1) := by decide +kernel
theorem d_Reader_readInto_66 : decode b_Reader_readInto 66 = .ok (.iload_n 3, 1) := by decide +kernel
theorem d_Reader_readInto_67 : decode b_Reader_readInto 67 = .ok (.iconst 1, 1) := by decide +kernel
theorem d_Reader_readInto_68 : decode b_Reader_readInto 68 = .ok (.aload 5, 2) := by decide +kernel
theorem d_Reader_readInto_70 : decode b_Reader_readInto 70 = .ok (.invokevirtual 25, 3) := by decide +kernel
theorem d_Reader_readInto_73 : decode b_Reader_readInto 73 = .ok (.goto 38, 3) := by decide +kernel
theorem d_Reader_readInto_76 : decode b_Reader_readInto 76 = .ok (.aload_n 0, 1) := by decide +kernel
theorem d_Reader_readInto_77 : decode b_Reader_readInto 77 = .ok (.aload_n 1, 1) := by decide +kernel
theorem d_Reader_readInto_78 : decode b_Reader_readInto 78 = .ok (.iload_n 2, 1) := by decide +kernel
theorem d_Reader_readInto_79 : decode b_Reader_readInto 79 = .ok (.iload_n 3, 1) := by decide +kernel
theorem d_Reader_readInto_80 : decode b_Reader_readInto 80 = .ok (.iconst 0, 1) := by decide +kernel
theorem d_Reader_readInto_81 : decode b_Reader_readInto 81 = .ok (.aload 5, 2) := by decide +kernel
theorem d_Reader_readInto_83 : decode b_Reader_readInto 83 = .ok (.invokevirtual 25, 3) := by decide +kernel
theorem d_Reader_readInto_86 : decode b_Reader_readInto 86 = .ok (.goto 25, 3) := by decide +kernel
theorem d_Reader_readInto_89 : decode b_Reader_readInto 89 = .ok (.aload_n 0, 1) := by decide +kernel
theorem d_Reader_readInto_90 : decode b_Reader_readInto 90 = .ok (.aload_n 1, 1) := by decide +kernel
theorem d_Reader_readInto_91 : decode b_Reader_readInto 91 = .ok (.iload_n 2, 1) := by decide +kernel
theorem d_Reader_readInto_92 : decode b_Reader_readInto 92 = .ok (.iload_n 3, 1) := by decide +kernel
theorem d_Reader_readInto_93 : decode b_Reader_readInto 93 = .ok (.aload 5, 2) := by decide +kernel
theorem d_Reader_readInto_95 : decode b_Reader_readInto 95 = .ok (.invokevirtual 29, 3) := by decide +kernel
theorem d_Reader_readInto_98 : decode b_Reader_readInto 98 = .ok (.goto 13, 3) := by decide +kernel
theorem d_Reader_readInto_101 : decode b_Reader_readInto 101 = .ok (.aload_n 1, 1) := by decide +kernel
theorem d_Reader_readInto_102 : decode b_Reader_readInto 102 = .ok (.iload_n 2, 1) := by decide +kernel
theorem d_Reader_readInto_103 : decode b_Reader_readInto 103 = .ok (.iload_n 3, 1) := by decide +kernel
theorem d_Reader_readInto_104 : decode b_Reader_readInto 104 = .ok (.iload 4, 2) := by decide +kernel
theorem d_Reader_readInto_106 : decode b_Reader_readInto 106 = .ok (.aload 5, 2) := by decide +kernel
theorem d_Reader_readInto_108 : decode b_Reader_readInto 108 = .ok (.invokestatic 32, 3) := by decide +kernel
theorem d_Reader_readInto_111 : decode b_Reader_readInto 111 = .ok (.return_, 1) := by decide +kernel
theorem d_MC_readWord_0 : decode b_MC_readWord 0 = .ok (.aload_n 0, 1) := by decide +kernel
theorem d_MC_readWord_1 : decode b_MC_readWord 1 = .ok (.getfield 60, 3) := by decide +kernel
theorem d_MC_readWord_4 : decode b_MC_readWord 4 = .ok (.invokevirtual 83, 3) := by decide +kernel
theorem d_MC_readWord_7 : decode b_MC_readWord 7 = .ok (.aload_n 0, 1) := by decide +kernel
theorem d_MC_readWord_8 : decode b_MC_readWord 8 = .ok (.getfield 25, 3) := by decide +kernel
theorem d_MC_readWord_11 : decode b_MC_readWord 11 = .ok (.aload_n 0, 1) := by decide +kernel
theorem d_MC_readWord_12 : decode b_MC_readWord 12 = .ok (.getfield 57, 3) := by decide +kernel
theorem d_MC_readWord_15 : decode b_MC_readWord 15 = .ok (.aload_n 0, 1) := by decide +kernel
theorem d_MC_readWord_16 : decode b_MC_readWord 16 = .ok (.getfield 53, 3) := by decide +kernel
theorem d_MC_readWord_19 : decode b_MC_readWord 19 = .ok (.aload_n 0, 1) := by decide +kernel
theorem d_MC_readWord_20 : decode b_MC_readWord 20 = .ok (.getfield 60, 3) := by decide +kernel
theorem d_MC_readWord_23 : decode b_MC_readWord 23 = .ok (.invokevirtual 150, 3) := by decide +kernel
theorem d_MC_readWord_26 : decode b_MC_readWord 26 = .ok (.aload_n 0, 1) := by decide +kernel
theorem d_MC_readWord_27 : decode b_MC_readWord 27 = .ok (.getfield 39, 3) := by decide +kernel
theorem d_MC_readWord_30 : decode b_MC_readWord 30 = .ok (.aload_n 0, 1) := by decide +kernel
theorem d_MC_readWord_31 : decode b_MC_readWord 31 = .ok (.getfield 60, 3) := by decide +kernel
theorem d_MC_readWord_34 : decode b_MC_readWord 34 = .ok (.iconst 0, 1) := by decide +kernel
theorem d_MC_readWord_35 : decode b_MC_readWord 35 = .ok (.aload_n 0, 1) := by decide +kernel
theorem d_MC_readWord_36 : decode b_MC_readWord 36 = .ok (.getfield 60, 3) := by decide +kernel
theorem d_MC_readWord_39 : decode b_MC_readWord 39 = .ok (.invokevirtual 74, 3) := by decide +kernel
theorem d_MC_readWord_42 : decode b_MC_readWord 42 = .ok (.aload_n 0, 1) := by decide +kernel
theorem d_MC_readWord_43 : decode b_MC_readWord 43 = .ok (.getfield 53, 3) := by decide +kernel
theorem d_MC_readWord_46 : decode b_MC_readWord 46 = .ok (.getfield 154, 3) := by decide +kernel
theorem d_MC_readWord_49 : decode b_MC_readWord 49 = .ok (.aload_n 0, 1) := by decide +kernel
theorem d_MC_readWord_50 : decode b_MC_readWord 50 = .ok (.getfield 18, 3) := by decide +kernel
theorem d_MC_readWord_53 : decode b_MC_readWord 53 = .ok (.invokevirtual 106, 3) := by decide +kernel
theorem d_MC_readWord_56 : decode b_MC_readWord 56 = .ok (.return_, 1) := by decide +kernel
theorem d_Writer_writeInto_0 : decode b_Writer_writeInto 0 = .ok (.iload_n 2, 1) := by decide +kernel
theorem d_Writer_writeInto_1 : decode b_Writer_writeInto 1 = .ok (.bipush 9, 2) := by decide +kernel
theorem d_Writer_writeInto_3 : decode b_Writer_writeInto 3 = .ok (.if_icmp .ne 10, 3) := by decide +kernel
theorem d_Writer_writeInto_6 : decode b_Writer_writeInto 6 = .ok (.aload_n 0, 1) := by decide +kernel
theorem d_Writer_writeInto_7 : decode b_Writer_writeInto 7 = .ok (.aload_n 1, 1) := by decide +kernel
theorem d_Writer_writeInto_8 : decode b_Writer_writeInto 8 = .ok (.aload_n 3, 1) := by decide +kernel
theorem d_Writer_writeInto_9 : decode b_Writer_writeInto 9 = .ok (.invokevirtual 18, 3) := by decide +kernel
theorem d_Writer_writeInto_12 : decode b_Writer_writeInto 12 = .ok (.return_, 1) := by decide +kernel
theorem d_Writer_writeInto_13 : decode b_Writer_writeInto 13 = .ok (.iload_n 2, 1) := by decide +kernel
theorem d_Writer_writeInto_14 : decode b_Writer_writeInto 14 = .ok (.iconst 5, 1) := by decide +kernel
theorem d_Writer_writeInto_15 : decode b_Writer_writeInto 15 = .ok (.if_icmp .ne 17, 3) := by decide +kernel
theorem d_Writer_writeInto_18 : decode b_Writer_writeInto 18 = .ok (.aload_n 3, 1) := by decide +kernel
theorem d_Writer_writeInto_19 : decode b_Writer_writeInto 19 = .ok (.sipush 254, 3) := by decide +kernel
theorem d_Writer_writeInto_22 : decode b_Writer_writeInto 22 = .ok (.invokevirtual 22, 3) := by decide +kernel
theorem d_Writer_writeInto_25 : decode b_Writer_writeInto 25 = .ok (.aload_n 3, 1) := by decide +kernel
theorem d_Writer_writeInto_26 : decode b_Writer_writeInto 26 = .ok (.sipush 255, 3) := by decide +kernel
theorem d_Writer_writeInto_29 : decode b_Writer_writeInto 29 = .ok (.invokevirtual 22, 3) := by decide +kernel
theorem d_Writer_writeInto_32 : decode b_Writer_writeInto 32 = .ok (.iconst 0, 1) := by decide +kernel
theorem d_Writer_writeInto_33 : decode b_Writer_writeInto 33 = .ok (.istore 4, 2) := by decide +kernel
theorem d_Writer_writeInto_35 : decode b_Writer_writeInto 35 = .ok (.iload 4, 2) := by decide +kernel
theorem d_Writer_writeInto_37 : decode b_Writer_writeInto 37 = .ok (.aload_n 1, 1) := by decide +kernel
theorem d_Writer_writeInto_38 : decode b_Writer_writeInto 38 = .ok (.invokevirtual 28, 3) := by decide +kernel
theorem d_Writer_writeInto_41 : decode b_Writer_writeInto 41 = .ok (.if_icmp .ge 38, 3) := by decide +kernel
theorem d_Writer_writeInto_44 : decode b_Writer_writeInto 44 = .ok (.aload_n 1, 1) := by decide +kernel
theorem d_Writer_writeInto_45 : decode b_Writer_writeInto 45 = .ok (.iload 4, 2) := by decide +kernel
theorem d_Writer_writeInto_47 : decode b_Writer_writeInto 47 = .ok (.invokevirtual 32, 3) := by decide +kernel
theorem d_Writer_writeInto_50 : decode b_Writer_writeInto 50 = .ok (.istore 5, 2) := by decide +kernel
theorem d_Writer_writeInto_52 : decode b_Writer_writeInto 52 = .ok (.aload_n 3, 1) := by decide +kernel
theorem d_Writer_writeInto_53 : decode b_Writer_writeInto 53 = .ok (.invokevirtual 36, 3) := by decide +kernel
theorem d_Writer_writeInto_56 : decode b_Writer_writeInto 56 = .ok (.iload 5, 2) := by decide +kernel
theorem d_Writer_writeInto_58 : decode b_Writer_writeInto 58 = .ok (.iload_n 2, 1) := by decide +kernel
theorem d_Writer_writeInto_59 : decode b_Writer_writeInto 59 = .ok (.invokestatic 39, 3) := by decide +kernel
theorem d_Writer_writeInto_62 : decode b_Writer_writeInto 62 = .ok (.if_icmp .ge 4, 3) := by decide +kernel
theorem d_Writer_writeInto_65 : decode b_Writer_writeInto 65 = .ok (.return_, 1) := by decide +kernel
theorem d_Writer_writeInto_66 : decode b_Writer_writeInto 66 = .ok (.iload 5, 2) := by decide +kernel
theorem d_Writer_writeInto_68 : decode b_Writer_writeInto 68 = .ok (.iload_n 2, 1) := by decide +kernel
theorem d_Writer_writeInto_69 : decode b_Writer_writeInto 69 = .ok (.aload_n 3, 1) := by decide +kernel
theorem d_Writer_writeInto_70 : decode b_Writer_writeInto 70 = .ok (.invokestatic 43, 3) := by decide +kernel
theorem d_Writer_writeInto_73 : decode b_Writer_writeInto 73 = .ok (.iinc 4 1, 3) := by decide +kernel
theorem d_Writer_writeInto_76 : decode b_Writer_writeInto 76 = .ok (.goto (-41), 3) := by decide +kernel
theorem d_Writer_writeInto_79 : decode b_Writer_writeInto 79 = .ok (.return_, 1) := by decide +kernel
theorem d_MC_words_0 : decode b_MC_words 0 = .ok (.aload_n 0, 1) := by decide +kernel
theorem d_MC_words_1 : decode b_MC_words 1 = .ok (.getfield 18, 3) := by decide +kernel
theorem d_MC_words_4 : decode b_MC_words 4 = .ok (.invokevirtual 83, 3) := by decide +kernel
theorem d_MC_words_7 : decode b_MC_words 7 = .ok (.aload_n 0, 1) := by decide +kernel
theorem d_MC_words_8 : decode b_MC_words 8 = .ok (.getfield 57, 3) := by decide +kernel
theorem d_MC_words_11 : decode b_MC_words 11 = .ok (.invokevirtual 74, 3) := by decide +kernel
theorem d_MC_words_14 : decode b_MC_words 14 = .ok (.istore_n 1, 1) := by decide +kernel
theorem d_MC_words_15 : decode b_MC_words 15 = .ok (.iconst 0, 1) := by decide +kernel
theorem d_MC_words_16 : decode b_MC_words 16 = .ok (.istore_n 2, 1) := by decide +kernel
theorem d_MC_words_17 : decode b_MC_words 17 = .ok (.iconst 0, 1) := by decide +kernel
theorem d_MC_words_18 : decode b_MC_words 18 = .ok (.istore_n 3, 1) := by decide +kernel
theorem d_MC_words_19 : decode b_MC_words 19 = .ok (.iconst 0, 1) := by decide +kernel
theorem d_MC_words_20 : decode b_MC_words 20 = .ok (.istore 4, 2) := by decide +kernel
theorem d_MC_words_22 : decode b_MC_words 22 = .ok (.iload 4, 2) := by decide +kernel
theorem d_MC_words_24 : decode b_MC_words 24 = .ok (.iload_n 1, 1) := by decide +kernel
theorem d_MC_words_25 : decode b_MC_words 25 = .ok (.if_icmp .ge 81, 3) := by decide +kernel
theorem d_MC_words_28 : decode b_MC_words 28 = .ok (.iload 4, 2) := by decide +kernel
theorem d_MC_words_30 : decode b_MC_words 30 = .ok (.iload_n 2, 1) := by decide +kernel
theorem d_MC_words_31 : decode b_MC_words 31 = .ok (.if_icmp .lt 69, 3) := by decide +kernel
theorem d_MC_words_34 : decode b_MC_words 34 = .ok (.aload_n 0, 1) := by decide +kernel
theorem d_MC_words_35 : decode b_MC_words 35 = .ok (.getfield 53, 3) := by decide +kernel
theorem d_MC_words_38 : decode b_MC_words 38 = .ok (.aload_n 0, 1) := by decide +kernel
theorem d_MC_words_39 : decode b_MC_words 39 = .ok (.getfield 57, 3) := by decide +kernel
theorem d_MC_words_42 : decode b_MC_words 42 = .ok (.iload 4, 2) := by decide +kernel
theorem d_MC_words_44 : decode b_MC_words 44 = .ok (.invokevirtual 110, 3) := by decide +kernel
theorem d_MC_words_47 : decode b_MC_words 47 = .ok (.ifCond .ne 6, 3) := by decide +kernel
theorem d_MC_words_50 : decode b_MC_words 50 = .ok (.goto 50, 3) := by decide +kernel
theorem d_MC_words_53 : decode b_MC_words 53 = .ok (.iload_n 3, 1) := by decide +kernel
theorem d_MC_words_54 : decode b_MC_words 54 = .ok (.ifCond .eq 13, 3) := by decide +kernel
theorem d_MC_words_57 : decode b_MC_words 57 = .ok (.aload_n 0, 1) := by decide +kernel
theorem d_MC_words_58 : decode b_MC_words 58 = .ok (.iload_n 2, 1) := by decide +kernel
theorem d_MC_words_59 : decode b_MC_words 59 = .ok (.iload 4, 2) := by decide +kernel
theorem d_MC_words_61 : decode b_MC_words 61 = .ok (.invokevirtual 114, 3) := by decide +kernel
theorem d_MC_words_64 : decode b_MC_words 64 = .ok (.ifCond .ne 22, 3) := by decide +kernel
theorem d_MC_words_67 : decode b_MC_words 67 = .ok (.aload_n 0, 1) := by decide +kernel
theorem d_MC_words_68 : decode b_MC_words 68 = .ok (.getfield 39, 3) := by decide +kernel
theorem d_MC_words_71 : decode b_MC_words 71 = .ok (.aload_n 0, 1) := by decide +kernel
theorem d_MC_words_72 : decode b_MC_words 72 = .ok (.getfield 57, 3) := by decide +kernel
theorem d_MC_words_75 : decode b_MC_words 75 = .ok (.iload_n 2, 1) := by decide +kernel
theorem d_MC_words_76 : decode b_MC_words 76 = .ok (.iload 4, 2) := by decide +kernel
theorem d_MC_words_78 : decode b_MC_words 78 = .ok (.iconst 4, 1) := by decide +kernel
theorem d_MC_words_79 : decode b_MC_words 79 = .ok (.aload_n 0, 1) := by decide +kernel
theorem d_MC_words_80 : decode b_MC_words 80 = .ok (.getfield 18, 3) := by decide +kernel
theorem d_MC_words_83 : decode b_MC_words 83 = .ok (.invokevirtual 106, 3) := by decide +kernel
theorem d_MC_words_86 : decode b_MC_words 86 = .ok (.aload_n 0, 1) := by decide +kernel
theorem d_MC_words_87 : decode b_MC_words 87 = .ok (.invokevirtual 118, 3) := by decide +kernel
theorem d_MC_words_90 : decode b_MC_words 90 = .ok (.aload_n 0, 1) := by decide +kernel
theorem d_MC_words_91 : decode b_MC_words 91 = .ok (.getfield 53, 3) := by decide +kernel
theorem d_MC_words_94 : decode b_MC_words 94 = .ok (.getfield 121, 3) := by decide +kernel
theorem d_MC_words_97 : decode b_MC_words 97 = .ok (.istore_n 2, 1) := by decide +kernel
theorem d_MC_words_98 : decode b_MC_words 98 = .ok (.iconst 1, 1) := by decide +kernel
theorem d_MC_words_99 : decode b_MC_words 99 = .ok (.istore_n 3, 1) := by decide +kernel
theorem d_MC_words_100 : decode b_MC_words 100 = .ok (.iinc 4 1, 3) := by decide +kernel
theorem d_MC_words_103 : decode b_MC_words 103 = .ok (.goto (-81), 3) := by decide +kernel
theorem d_MC_words_106 : decode b_MC_words 106 = .ok (.aload_n 0, 1) := by decide +kernel
theorem d_MC_words_107 : decode b_MC_words 107 = .ok (.getfield 39, 3) := by decide +kernel
theorem d_MC_words_110 : decode b_MC_words 110 = .ok (.aload_n 0, 1) := by decide +kernel
theorem d_MC_words_111 : decode b_MC_words 111 = .ok (.getfield 57, 3) := by decide +kernel
theorem d_MC_words_114 : decode b_MC_words 114 = .ok (.iload_n 2, 1) := by decide +kernel
theorem d_MC_words_115 : decode b_MC_words 115 = .ok (.iload_n 1, 1) := by decide +kernel
theorem d_MC_words_116 : decode b_MC_words 116 = .ok (.iconst 4, 1) := by decide +kernel
theorem d_MC_words_117 : decode b_MC_words 117 = .ok (.aload_n 0, 1) := by decide +kernel
theorem d_MC_words_118 : decode b_MC_words 118 = .ok (.getfield 18, 3) := by decide +kernel
theorem d_MC_words_121 : decode b_MC_words 121 = .ok (.invokevirtual 106, 3) := by decide +kernel
theorem d_MC_words_124 : decode b_MC_words 124 = .ok (.aload_n 0, 1) := by decide +kernel
theorem d_MC_words_125 : decode b_MC_words 125 = .ok (.getfield 57, 3) := by decide +kernel
theorem d_MC_words_128 : decode b_MC_words 128 = .ok (.invokevirtual 83, 3) := by decide +kernel
theorem d_MC_words_131 : decode b_MC_words 131 = .ok (.aload_n 0, 1) := by decide +kernel
theorem d_MC_words_132 : decode b_MC_words 132 = .ok (.getfield 18, 3) := by decide +kernel
theorem d_MC_words_135 : decode b_MC_words 135 = .ok (.invokevirtual 74, 3) := by decide +kernel
theorem d_MC_words_138 : decode b_MC_words 138 = .ok (.ireturn, 1) := by decide +kernel
theorem d_MC_init_0 : decode b_MC_init 0 = .ok (.aload_n 0, 1) := by decide +kernel
theorem d_MC_init_1 : decode b_MC_init 1 = .ok (.invokespecial 1, 3) := by decide +kernel
theorem d_MC_init_4 : decode b_MC_init 4 = .ok (.aload_n 0, 1) := by decide +kernel
theorem d_MC_init_5 : decode b_MC_init 5 = .ok (.iconst 5, 1) := by decide +kernel
theorem d_MC_init_6 : decode b_MC_init 6 = .ok (.newarray .int, 2) := by decide +kernel
theorem d_MC_init_8 : decode b_MC_init 8 = .ok (.putfield 9, 3) := by decide +kernel
theorem d_MC_init_11 : decode b_MC_init 11 = .ok (.aload_n 0, 1) := by decide +kernel
theorem d_MC_init_12 : decode b_MC_init 12 = .ok (.new 13, 3) := by decide +kernel
theorem d_MC_init_15 : decode b_MC_init 15 = .ok (.dup, 1) := by decide +kernel
theorem d_MC_init_16 : decode b_MC_init 16 = .ok (.sipush 3000, 3) := by decide +kernel
theorem d_MC_init_19 : decode b_MC_init 19 = .ok (.invokespecial 15, 3) := by decide +kernel
theorem d_MC_init_22 : decode b_MC_init 22 = .ok (.putfield 18, 3) := by decide +kernel
theorem d_MC_init_25 : decode b_MC_init 25 = .ok (.aload_n 0, 1) := by decide +kernel
theorem d_MC_init_26 : decode b_MC_init 26 = .ok (.new 22, 3) := by decide +kernel
theorem d_MC_init_29 : decode b_MC_init 29 = .ok (.dup, 1) := by decide +kernel
theorem d_MC_init_30 : decode b_MC_init 30 = .ok (.invokespecial 24, 3) := by decide +kernel
theorem d_MC_init_33 : decode b_MC_init 33 = .ok (.putfield 25, 3) := by decide +kernel
theorem d_MC_init_36 : decode b_MC_init 36 = .ok (.aload_n 0, 1) := by decide +kernel
theorem d_MC_init_37 : decode b_MC_init 37 = .ok (.new 29, 3) := by decide +kernel
theorem d_MC_init_40 : decode b_MC_init 40 = .ok (.dup, 1) := by decide +kernel
theorem d_MC_init_41 : decode b_MC_init 41 = .ok (.invokespecial 31, 3) := by decide +kernel
theorem d_MC_init_44 : decode b_MC_init 44 = .ok (.putfield 32, 3) := by decide +kernel
theorem d_MC_init_47 : decode b_MC_init 47 = .ok (.aload_n 0, 1) := by decide +kernel
theorem d_MC_init_48 : decode b_MC_init 48 = .ok (.new 36, 3) := by decide +kernel
theorem d_MC_init_51 : decode b_MC_init 51 = .ok (.dup, 1) := by decide +kernel
theorem d_MC_init_52 : decode b_MC_init 52 = .ok (.invokespecial 38, 3) := by decide +kernel
theorem d_MC_init_55 : decode b_MC_init 55 = .ok (.putfield 39, 3) := by decide +kernel
theorem d_MC_init_58 : decode b_MC_init 58 = .ok (.aload_n 0, 1) := by decide +kernel
theorem d_MC_init_59 : decode b_MC_init 59 = .ok (.new 43, 3) := by decide +kernel
theorem d_MC_init_62 : decode b_MC_init 62 = .ok (.dup, 1) := by decide +kernel
theorem d_MC_init_63 : decode b_MC_init 63 = .ok (.invokespecial 45, 3) := by decide +kernel
theorem d_MC_init_66 : decode b_MC_init 66 = .ok (.putfield 46, 3) := by decide +kernel
theorem d_MC_init_69 : decode b_MC_init 69 = .ok (.aload_n 0, 1) := by decide +kernel
theorem d_MC_init_70 : decode b_MC_init 70 = .ok (.new 50, 3) := by decide +kernel
theorem d_MC_init_73 : decode b_MC_init 73 = .ok (.dup, 1) := by decide +kernel
theorem d_MC_init_74 : decode b_MC_init 74 = .ok (.invokespecial 52, 3) := by decide +kernel
theorem d_MC_init_77 : decode b_MC_init 77 = .ok (.putfield 53, 3) := by decide +kernel
theorem d_MC_init_80 : decode b_MC_init 80 = .ok (.aload_n 0, 1) := by decide +kernel
theorem d_MC_init_81 : decode b_MC_init 81 = .ok (.new 13, 3) := by decide +kernel
theorem d_MC_init_84 : decode b_MC_init 84 = .ok (.dup, 1) := by decide +kernel
theorem d_MC_init_85 : decode b_MC_init 85 = .ok (.sipush 1500, 3) := by decide +kernel
theorem d_MC_init_88 : decode b_MC_init 88 = .ok (.invokespecial 15, 3) := by decide +kernel
theorem d_MC_init_91 : decode b_MC_init 91 = .ok (.putfield 57, 3) := by decide +kernel
theorem d_MC_init_94 : decode b_MC_init 94 = .ok (.aload_n 0, 1) := by decide +kernel
theorem d_MC_init_95 : decode b_MC_init 95 = .ok (.new 13, 3) := by decide +kernel
theorem d_MC_init_98 : decode b_MC_init 98 = .ok (.dup, 1) := by decide +kernel
theorem d_MC_init_99 : decode b_MC_init 99 = .ok (.sipush 1500, 3) := by decide +kernel
theorem d_MC_init_102 : decode b_MC_init 102 = .ok (.invokespecial 15, 3) := by decide +kernel
theorem d_MC_init_105 : decode b_MC_init 105 = .ok (.putfield 60, 3) := by decide +kernel
theorem d_MC_init_108 : decode b_MC_init 108 = .ok (.return_, 1) := by decide +kernel
theorem d_Row_init_0 : decode b_Row_init 0 = .ok (.aload_n 0, 1) := by decide +kernel
theorem d_Row_init_1 : decode b_Row_init 1 = .ok (.invokespecial 3, 3) := by decide +kernel
theorem d_Row_init_4 : decode b_Row_init 4 = .ok (.aload_n 0, 1) := by decide +kernel
theorem d_Row_init_5 : decode b_Row_init 5 = .ok (.iconst 0, 1) := by decide +kernel
theorem d_Row_init_6 : decode b_Row_init 6 = .ok (.iload_n 1, 1) := by decide +kernel
theorem d_Row_init_7 : decode b_Row_init 7 = .ok (.invokestatic 9, 3) := by decide +kernel
theorem d_Row_init_10 : decode b_Row_init 10 = .ok (.newarray .int, 2) := by decide +kernel
theorem d_Row_init_12 : decode b_Row_init 12 = .ok (.putfield 15, 3) := by decide +kernel
theorem d_Row_init_15 : decode b_Row_init 15 = .ok (.return_, 1) := by decide +kernel
theorem d_Uncoder_init_0 : decode b_Uncoder_init 0 = .ok (.aload_n 0, 1) := by decide +kernel
theorem d_Uncoder_init_1 : decode b_Uncoder_init 1 = .ok (.invokespecial 3, 3) := by decide +kernel
theorem d_Uncoder_init_4 : decode b_Uncoder_init 4 = .ok (.aload_n 0, 1) := by decide +kernel
theorem d_Uncoder_init_5 : decode b_Uncoder_init 5 = .ok (.new 9, 3) := by decide +kernel
theorem d_Uncoder_init_8 : decode b_Uncoder_init 8 = .ok (.dup, 1) := by decide +kernel
theorem d_Uncoder_init_9 : decode b_Uncoder_init 9 = .ok (.invokespecial 11, 3) := by decide +kernel
theorem d_Uncoder_init_12 : decode b_Uncoder_init 12 = .ok (.putfield 12, 3) := by decide +kernel
theorem d_Uncoder_init_15 : decode b_Uncoder_init 15 = .ok (.aload_n 0, 1) := by decide +kernel
theorem d_Uncoder_init_16 : decode b_Uncoder_init 16 = .ok (.new 18, 3) := by decide +kernel
theorem d_Uncoder_init_19 : decode b_Uncoder_init 19 = .ok (.dup, 1) := by decide +kernel
theorem d_Uncoder_init_20 : decode b_Uncoder_init 20 = .ok (.invokespecial 20, 3) := by decide +kernel
theorem d_Uncoder_init_23 : decode b_Uncoder_init 23 = .ok (.putfield 21, 3) := by decide +kernel
theorem d_Uncoder_init_26 : decode b_Uncoder_init 26 = .ok (.return_, 1) := by decide +kernel
theorem d_Bits_init_0 : decode b_Bits_init 0 = .ok (.aload_n 0, 1) := by decide +kernel
theorem d_Bits_init_1 : decode b_Bits_init 1 = .ok (.invokespecial 1, 3) := by decide +kernel
theorem d_Bits_init_4 : decode b_Bits_init 4 = .ok (.return_, 1) := by decide +kernel
theorem d_Line_init_0 : decode b_Line_init 0 = .ok (.aload_n 0, 1) := by decide +kernel
theorem d_Line_init_1 : decode b_Line_init 1 = .ok (.invokespecial 3, 3) := by decide +kernel
theorem d_Line_init_4 : decode b_Line_init 4 = .ok (.return_, 1) := by decide +kernel
theorem d_Coder_init_0 : decode b_Coder_init 0 = .ok (.aload_n 0, 1) := by decide +kernel
theorem d_Coder_init_1 : decode b_Coder_init 1 = .ok (.invokespecial 3, 3) := by decide +kernel
theorem d_Coder_init_4 : decode b_Coder_init 4 = .ok (.aload_n 0, 1) := by decide +kernel
theorem d_Coder_init_5 : decode b_Coder_init 5 = .ok (.new 9, 3) := by decide +kernel
theorem d_Coder_init_8 : decode b_Coder_init 8 = .ok (.dup, 1) := by decide +kernel
theorem d_Coder_init_9 : decode b_Coder_init 9 = .ok (.invokespecial 11, 3) := by decide +kernel
theorem d_Coder_init_12 : decode b_Coder_init 12 = .ok (.putfield 12, 3) := by decide +kernel
theorem d_Coder_init_15 : decode b_Coder_init 15 = .ok (.return_, 1) := by decide +kernel
theorem d_Reader_init_0 : decode b_Reader_init 0 = .ok (.aload_n 0, 1) := by decide +kernel
theorem d_Reader_init_1 : decode b_Reader_init 1 = .ok (.invokespecial 3, 3) := by decide +kernel
theorem d_Reader_init_4 : decode b_Reader_init 4 = .ok (.aload_n 0, 1) := by decide +kernel
theorem d_Reader_init_5 : decode b_Reader_init 5 = .ok (.new 9, 3) := by decide +kernel
theorem d_Reader_init_8 : decode b_Reader_init 8 = .ok (.dup, 1) := by decide +kernel
theorem d_Reader_init_9 : decode b_Reader_init 9 = .ok (.invokespecial 11, 3) := by decide +kernel
theorem d_Reader_init_12 : decode b_Reader_init 12 = .ok (.putfield 12, 3) := by decide +kernel
theorem d_Reader_init_15 : decode b_Reader_init 15 = .ok (.return_, 1) := by decide +kernel
theorem d_Writer_init_0 : decode b_Writer_init 0 = .ok (.aload_n 0, 1) := by decide +kernel
theorem d_Writer_init_1 : decode b_Writer_init 1 = .ok (.invokespecial 3, 3) := by decide +kernel
theorem d_Writer_init_4 : decode b_Writer_init 4 = .ok (.aload_n 0, 1) := by decide +kernel
theorem d_Writer_init_5 : decode b_Writer_init 5 = .ok (.new 9, 3) := by decide +kernel
theorem d_Writer_init_8 : decode b_Writer_init 8 = .ok (.dup, 1) := by decide +kernel
theorem d_Writer_init_9 : decode b_Writer_init 9 = .ok (.invokespecial 11, 3) := by decide +kernel
theorem d_Writer_init_12 : decode b_Writer_init 12 = .ok (.putfield 12, 3) := by decide +kernel
theorem d_Writer_init_15 : decode b_Writer_init 15 = .ok (.return_, 1) := by decide +kernel
theorem d_Word_init_0 : decode b_Word_init 0 = .ok (.aload_n 0, 1) := by decide +kernel
theorem d_Word_init_1 : decode b_Word_init 1 = .ok (.invokespecial 3, 3) := by decide +kernel
theorem d_Word_init_4 : decode b_Word_init 4 = .ok (.return_, 1) := by decide +kernel
theorem d_MC_uncode_0 : decode b_MC_uncode 0 = .ok (.iload_n 1, 1) := by decide +kernel
theorem d_MC_uncode_1 : decode b_MC_uncode 1 = .ok (.ifCond .lt 8, 3) := by decide +kernel
theorem d_MC_uncode_4 : decode b_MC_uncode 4 = .ok (.iload_n 1, 1) := by decide +kernel
theorem d_MC_uncode_5 : decode b_MC_uncode 5 = .ok (.iconst 3, 1) := by decide +kernel
theorem d_MC_uncode_6 : decode b_MC_uncode 6 = .ok (.if_icmp .le 13, 3) := by decide +kernel
theorem d_MC_uncode_9 : decode b_MC_uncode 9 = .ok (.new 86, 3) := by decide +kernel
theorem d_MC_uncode_12 : decode b_MC_uncode 12 = .ok (.dup, 1) := by decide +kernel
theorem d_MC_uncode_13 : decode b_MC_uncode 13 = .ok (.ldc 88, 2) := by decide +kernel
theorem d_MC_uncode_15 : decode b_MC_uncode 15 = .ok (.invokespecial 90, 3) := by decide +kernel
theorem d_MC_uncode_18 : decode b_MC_uncode 18 = .ok (.athrow, 1) := by decide +kernel
theorem d_MC_uncode_19 : decode b_MC_uncode 19 = .ok (.iload_n 1, 1) := by decide +kernel
theorem d_MC_uncode_20 : decode b_MC_uncode 20 = .ok (.ifCond .eq 30, 3) := by decide +kernel
theorem d_MC_uncode_23 : decode b_MC_uncode 23 = .ok (.aload_n 0, 1) := by decide +kernel
theorem d_MC_uncode_24 : decode b_MC_uncode 24 = .ok (.getfield 60, 3) := by decide +kernel
theorem d_MC_uncode_27 : decode b_MC_uncode 27 = .ok (.invokevirtual 83, 3) := by decide +kernel
theorem d_MC_uncode_30 : decode b_MC_uncode 30 = .ok (.aload_n 0, 1) := by decide +kernel
theorem d_MC_uncode_31 : decode b_MC_uncode 31 = .ok (.getfield 25, 3) := by decide +kernel
theorem d_MC_uncode_34 : decode b_MC_uncode 34 = .ok (.aload_n 0, 1) := by decide +kernel
theorem d_MC_uncode_35 : decode b_MC_uncode 35 = .ok (.getfield 57, 3) := by decide +kernel
theorem d_MC_uncode_38 : decode b_MC_uncode 38 = .ok (.iload_n 1, 1) := by decide +kernel
theorem d_MC_uncode_39 : decode b_MC_uncode 39 = .ok (.aload_n 0, 1) := by decide +kernel
theorem d_MC_uncode_40 : decode b_MC_uncode 40 = .ok (.getfield 60, 3) := by decide +kernel
theorem d_MC_uncode_43 : decode b_MC_uncode 43 = .ok (.invokevirtual 93, 3) := by decide +kernel
theorem d_MC_uncode_46 : decode b_MC_uncode 46 = .ok (.aload_n 0, 1) := by decide +kernel
theorem d_MC_uncode_47 : decode b_MC_uncode 47 = .ok (.invokevirtual 97, 3) := by decide +kernel
theorem d_MC_uncode_50 : decode b_MC_uncode 50 = .ok (.aload_n 0, 1) := by decide +kernel
theorem d_MC_uncode_51 : decode b_MC_uncode 51 = .ok (.getfield 57, 3) := by decide +kernel
theorem d_MC_uncode_54 : decode b_MC_uncode 54 = .ok (.invokevirtual 74, 3) := by decide +kernel
theorem d_MC_uncode_57 : decode b_MC_uncode 57 = .ok (.ireturn, 1) := by decide +kernel
theorem d_MC_read_0 : decode b_MC_read 0 = .ok (.iload_n 1, 1) := by decide +kernel
theorem d_MC_read_1 : decode b_MC_read 1 = .ok (.invokestatic 100, 3) := by decide +kernel
theorem d_MC_read_4 : decode b_MC_read 4 = .ok (.ifCond .ne 13, 3) := by decide +kernel
theorem d_MC_read_7 : decode b_MC_read 7 = .ok (.new 86, 3) := by decide +kernel
theorem d_MC_read_10 : decode b_MC_read 10 = .ok (.dup, 1) := by decide +kernel
theorem d_MC_read_11 : decode b_MC_read 11 = .ok (.ldc 104, 2) := by decide +kernel
theorem d_MC_read_13 : decode b_MC_read 13 = .ok (.invokespecial 90, 3) := by decide +kernel
theorem d_MC_read_16 : decode b_MC_read 16 = .ok (.athrow, 1) := by decide +kernel
theorem d_MC_read_17 : decode b_MC_read 17 = .ok (.aload_n 0, 1) := by decide +kernel
theorem d_MC_read_18 : decode b_MC_read 18 = .ok (.getfield 18, 3) := by decide +kernel
theorem d_MC_read_21 : decode b_MC_read 21 = .ok (.invokevirtual 83, 3) := by decide +kernel
theorem d_MC_read_24 : decode b_MC_read 24 = .ok (.aload_n 0, 1) := by decide +kernel
theorem d_MC_read_25 : decode b_MC_read 25 = .ok (.getfield 39, 3) := by decide +kernel
theorem d_MC_read_28 : decode b_MC_read 28 = .ok (.aload_n 0, 1) := by decide +kernel
theorem d_MC_read_29 : decode b_MC_read 29 = .ok (.getfield 57, 3) := by decide +kernel
theorem d_MC_read_32 : decode b_MC_read 32 = .ok (.iconst 0, 1) := by decide +kernel
theorem d_MC_read_33 : decode b_MC_read 33 = .ok (.aload_n 0, 1) := by decide +kernel
theorem d_MC_read_34 : decode b_MC_read 34 = .ok (.getfield 57, 3) := by decide +kernel
theorem d_MC_read_37 : decode b_MC_read 37 = .ok (.invokevirtual 74, 3) := by decide +kernel
theorem d_MC_read_40 : decode b_MC_read 40 = .ok (.iload_n 1, 1) := by decide +kernel
theorem d_MC_read_41 : decode b_MC_read 41 = .ok (.aload_n 0, 1) := by decide +kernel
theorem d_MC_read_42 : decode b_MC_read 42 = .ok (.getfield 18, 3) := by decide +kernel
theorem d_MC_read_45 : decode b_MC_read 45 = .ok (.invokevirtual 106, 3) := by decide +kernel
theorem d_MC_read_48 : decode b_MC_read 48 = .ok (.aload_n 0, 1) := by decide +kernel
theorem d_MC_read_49 : decode b_MC_read 49 = .ok (.getfield 57, 3) := by decide +kernel
theorem d_MC_read_52 : decode b_MC_read 52 = .ok (.invokevirtual 83, 3) := by decide +kernel
theorem d_MC_read_55 : decode b_MC_read 55 = .ok (.aload_n 0, 1) := by decide +kernel
theorem d_MC_read_56 : decode b_MC_read 56 = .ok (.getfield 18, 3) := by decide +kernel
theorem d_MC_read_59 : decode b_MC_read 59 = .ok (.invokevirtual 74, 3) := by decide +kernel
theorem d_MC_read_62 : decode b_MC_read 62 = .ok (.ireturn, 1) := by decide +kernel
theorem d_MC_write_0 : decode b_MC_write 0 = .ok (.iload_n 1, 1) := by decide +kernel
theorem d_MC_write_1 : decode b_MC_write 1 = .ok (.invokestatic 100, 3) := by decide +kernel
theorem d_MC_write_4 : decode b_MC_write 4 = .ok (.ifCond .ne 13, 3) := by decide +kernel
theorem d_MC_write_7 : decode b_MC_write 7 = .ok (.new 86, 3) := by decide +kernel
theorem d_MC_write_10 : decode b_MC_write 10 = .ok (.dup, 1) := by decide +kernel
theorem d_MC_write_11 : decode b_MC_write 11 = .ok (.ldc 104, 2) := by decide +kernel
theorem d_MC_write_13 : decode b_MC_write 13 = .ok (.invokespecial 90, 3) := by decide +kernel
theorem d_MC_write_16 : decode b_MC_write 16 = .ok (.athrow, 1) := by decide +kernel
theorem d_MC_write_17 : decode b_MC_write 17 = .ok (.aload_n 0, 1) := by decide +kernel
theorem d_MC_write_18 : decode b_MC_write 18 = .ok (.getfield 57, 3) := by decide +kernel
theorem d_MC_write_21 : decode b_MC_write 21 = .ok (.invokevirtual 83, 3) := by decide +kernel
theorem d_MC_write_24 : decode b_MC_write 24 = .ok (.aload_n 0, 1) := by decide +kernel
theorem d_MC_write_25 : decode b_MC_write 25 = .ok (.getfield 46, 3) := by decide +kernel
theorem d_MC_write_28 : decode b_MC_write 28 = .ok (.aload_n 0, 1) := by decide +kernel
theorem d_MC_write_29 : decode b_MC_write 29 = .ok (.getfield 18, 3) := by decide +kernel
theorem d_MC_write_32 : decode b_MC_write 32 = .ok (.iload_n 1, 1) := by decide +kernel
theorem d_MC_write_33 : decode b_MC_write 33 = .ok (.aload_n 0, 1) := by decide +kernel
theorem d_MC_write_34 : decode b_MC_write 34 = .ok (.getfield 57, 3) := by decide +kernel
theorem d_MC_write_37 : decode b_MC_write 37 = .ok (.invokevirtual 125, 3) := by decide +kernel
theorem d_MC_write_40 : decode b_MC_write 40 = .ok (.aload_n 0, 1) := by decide +kernel
theorem d_MC_write_41 : decode b_MC_write 41 = .ok (.getfield 57, 3) := by decide +kernel
theorem d_MC_write_44 : decode b_MC_write 44 = .ok (.invokevirtual 74, 3) := by decide +kernel
theorem d_MC_write_47 : decode b_MC_write 47 = .ok (.ireturn, 1) := by decide +kernel
theorem d_MC_code_0 : decode b_MC_code 0 = .ok (.iload_n 1, 1) := by decide +kernel
theorem d_MC_code_1 : decode b_MC_code 1 = .ok (.iconst 1, 1) := by decide +kernel
theorem d_MC_code_2 : decode b_MC_code 2 = .ok (.if_icmp .eq 18, 3) := by decide +kernel
theorem d_MC_code_5 : decode b_MC_code 5 = .ok (.iload_n 1, 1) := by decide +kernel
theorem d_MC_code_6 : decode b_MC_code 6 = .ok (.iconst 2, 1) := by decide +kernel
theorem d_MC_code_7 : decode b_MC_code 7 = .ok (.if_icmp .eq 13, 3) := by decide +kernel
theorem d_MC_code_10 : decode b_MC_code 10 = .ok (.new 86, 3) := by decide +kernel
theorem d_MC_code_13 : decode b_MC_code 13 = .ok (.dup, 1) := by decide +kernel
theorem d_MC_code_14 : decode b_MC_code 14 = .ok (.ldc 128, 2) := by decide +kernel
theorem d_MC_code_16 : decode b_MC_code 16 = .ok (.invokespecial 90, 3) := by decide +kernel
theorem d_MC_code_19 : decode b_MC_code 19 = .ok (.athrow, 1) := by decide +kernel
theorem d_MC_code_20 : decode b_MC_code 20 = .ok (.aload_n 0, 1) := by decide +kernel
theorem d_MC_code_21 : decode b_MC_code 21 = .ok (.getfield 60, 3) := by decide +kernel
theorem d_MC_code_24 : decode b_MC_code 24 = .ok (.invokevirtual 83, 3) := by decide +kernel
theorem d_MC_code_27 : decode b_MC_code 27 = .ok (.aload_n 0, 1) := by decide +kernel
theorem d_MC_code_28 : decode b_MC_code 28 = .ok (.getfield 32, 3) := by decide +kernel
theorem d_MC_code_31 : decode b_MC_code 31 = .ok (.aload_n 0, 1) := by decide +kernel
theorem d_MC_code_32 : decode b_MC_code 32 = .ok (.getfield 57, 3) := by decide +kernel
theorem d_MC_code_35 : decode b_MC_code 35 = .ok (.iload_n 1, 1) := by decide +kernel
theorem d_MC_code_36 : decode b_MC_code 36 = .ok (.aload_n 0, 1) := by decide +kernel
theorem d_MC_code_37 : decode b_MC_code 37 = .ok (.getfield 60, 3) := by decide +kernel
theorem d_MC_code_40 : decode b_MC_code 40 = .ok (.invokevirtual 130, 3) := by decide +kernel
theorem d_MC_code_43 : decode b_MC_code 43 = .ok (.aload_n 0, 1) := by decide +kernel
theorem d_MC_code_44 : decode b_MC_code 44 = .ok (.getfield 60, 3) := by decide +kernel
theorem d_MC_code_47 : decode b_MC_code 47 = .ok (.getfield 133, 3) := by decide +kernel
theorem d_MC_code_50 : decode b_MC_code 50 = .ok (.ifCond .eq 13, 3) := by decide +kernel
theorem d_MC_code_53 : decode b_MC_code 53 = .ok (.new 137, 3) := by decide +kernel
theorem d_MC_code_56 : decode b_MC_code 56 = .ok (.dup, 1) := by decide +kernel
theorem d_MC_code_57 : decode b_MC_code 57 = .ok (.ldc 139, 2) := by decide +kernel
theorem d_MC_code_59 : decode b_MC_code 59 = .ok (.invokespecial 141, 3) := by decide +kernel
theorem d_MC_code_62 : decode b_MC_code 62 = .ok (.athrow, 1) := by decide +kernel
theorem d_MC_code_63 : decode b_MC_code 63 = .ok (.aload_n 0, 1) := by decide +kernel
theorem d_MC_code_64 : decode b_MC_code 64 = .ok (.invokevirtual 97, 3) := by decide +kernel
theorem d_MC_code_67 : decode b_MC_code 67 = .ok (.aload_n 0, 1) := by decide +kernel
theorem d_MC_code_68 : decode b_MC_code 68 = .ok (.getfield 57, 3) := by decide +kernel
theorem d_MC_code_71 : decode b_MC_code 71 = .ok (.invokevirtual 74, 3) := by decide +kernel
theorem d_MC_code_74 : decode b_MC_code 74 = .ok (.ireturn, 1) := by decide +kernel
