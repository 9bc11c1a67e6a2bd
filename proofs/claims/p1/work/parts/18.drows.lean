theorem d_MM_lay_0 : decode b_MM_lay 0 = .ok (.iconst 0, 1) := by decide +kernel
theorem d_MM_lay_1 : decode b_MM_lay 1 = .ok (.istore_n 3, 1) := by decide +kernel
theorem d_MM_lay_2 : decode b_MM_lay 2 = .ok (.iload_n 3, 1) := by decide +kernel
theorem d_MM_lay_3 : decode b_MM_lay 3 = .ok (.iconst 4, 1) := by decide +kernel
theorem d_MM_lay_4 : decode b_MM_lay 4 = .ok (.if_icmp .ge 27, 3) := by decide +kernel
theorem d_MM_lay_7 : decode b_MM_lay 7 = .ok (.aload_n 0, 1) := by decide +kernel
theorem d_MM_lay_8 : decode b_MM_lay 8 = .ok (.getfield 91, 3) := by decide +kernel
theorem d_MM_lay_11 : decode b_MM_lay 11 = .ok (.iload_n 1, 1) := by decide +kernel
theorem d_MM_lay_12 : decode b_MM_lay 12 = .ok (.iload_n 3, 1) := by decide +kernel
theorem d_MM_lay_13 : decode b_MM_lay 13 = .ok (.iadd, 1) := by decide +kernel
theorem d_MM_lay_14 : decode b_MM_lay 14 = .ok (.iload_n 2, 1) := by decide +kernel
theorem d_MM_lay_15 : decode b_MM_lay 15 = .ok (.bipush 24, 2) := by decide +kernel
theorem d_MM_lay_17 : decode b_MM_lay 17 = .ok (.bipush 8, 2) := by decide +kernel
theorem d_MM_lay_19 : decode b_MM_lay 19 = .ok (.iload_n 3, 1) := by decide +kernel
theorem d_MM_lay_20 : decode b_MM_lay 20 = .ok (.imul, 1) := by decide +kernel
theorem d_MM_lay_21 : decode b_MM_lay 21 = .ok (.isub, 1) := by decide +kernel
theorem d_MM_lay_22 : decode b_MM_lay 22 = .ok (.ishr, 1) := by decide +kernel
theorem d_MM_lay_23 : decode b_MM_lay 23 = .ok (.i2b, 1) := by decide +kernel
theorem d_MM_lay_24 : decode b_MM_lay 24 = .ok (.bastore, 1) := by decide +kernel
theorem d_MM_lay_25 : decode b_MM_lay 25 = .ok (.iinc 3 1, 3) := by decide +kernel
theorem d_MM_lay_28 : decode b_MM_lay 28 = .ok (.goto (-26), 3) := by decide +kernel
theorem d_MM_lay_31 : decode b_MM_lay 31 = .ok (.return_, 1) := by decide +kernel
theorem d_MM_feed_0 : decode b_MM_feed 0 = .ok (.aload_n 0, 1) := by decide +kernel
theorem d_MM_feed_1 : decode b_MM_feed 1 = .ok (.iconst 0, 1) := by decide +kernel
theorem d_MM_feed_2 : decode b_MM_feed 2 = .ok (.putfield 107, 3) := by decide +kernel
theorem d_MM_feed_5 : decode b_MM_feed 5 = .ok (.aload_n 0, 1) := by decide +kernel
theorem d_MM_feed_6 : decode b_MM_feed 6 = .ok (.iconst 0, 1) := by decide +kernel
theorem d_MM_feed_7 : decode b_MM_feed 7 = .ok (.iload_n 1, 1) := by decide +kernel
theorem d_MM_feed_8 : decode b_MM_feed 8 = .ok (.invokevirtual 111, 3) := by decide +kernel
theorem d_MM_feed_11 : decode b_MM_feed 11 = .ok (.aload_n 0, 1) := by decide +kernel
theorem d_MM_feed_12 : decode b_MM_feed 12 = .ok (.iconst 4, 1) := by decide +kernel
theorem d_MM_feed_13 : decode b_MM_feed 13 = .ok (.iload_n 2, 1) := by decide +kernel
theorem d_MM_feed_14 : decode b_MM_feed 14 = .ok (.invokevirtual 111, 3) := by decide +kernel
theorem d_MM_feed_17 : decode b_MM_feed 17 = .ok (.aload_n 0, 1) := by decide +kernel
theorem d_MM_feed_18 : decode b_MM_feed 18 = .ok (.bipush 8, 2) := by decide +kernel
theorem d_MM_feed_20 : decode b_MM_feed 20 = .ok (.iload_n 3, 1) := by decide +kernel
theorem d_MM_feed_21 : decode b_MM_feed 21 = .ok (.invokevirtual 111, 3) := by decide +kernel
theorem d_MM_feed_24 : decode b_MM_feed 24 = .ok (.aload_n 0, 1) := by decide +kernel
theorem d_MM_feed_25 : decode b_MM_feed 25 = .ok (.bipush 12, 2) := by decide +kernel
theorem d_MM_feed_27 : decode b_MM_feed 27 = .ok (.iload 4, 2) := by decide +kernel
theorem d_MM_feed_29 : decode b_MM_feed 29 = .ok (.invokevirtual 111, 3) := by decide +kernel
theorem d_MM_feed_32 : decode b_MM_feed 32 = .ok (.aload_n 0, 1) := by decide +kernel
theorem d_MM_feed_33 : decode b_MM_feed 33 = .ok (.bipush 16, 2) := by decide +kernel
theorem d_MM_feed_35 : decode b_MM_feed 35 = .ok (.iload 5, 2) := by decide +kernel
theorem d_MM_feed_37 : decode b_MM_feed 37 = .ok (.invokevirtual 111, 3) := by decide +kernel
theorem d_MM_feed_40 : decode b_MM_feed 40 = .ok (.return_, 1) := by decide +kernel
theorem d_MM_end_0 : decode b_MM_end 0 = .ok (.aload_n 0, 1) := by decide +kernel
theorem d_MM_end_1 : decode b_MM_end 1 = .ok (.iconst 0, 1) := by decide +kernel
theorem d_MM_end_2 : decode b_MM_end 2 = .ok (.putfield 107, 3) := by decide +kernel
theorem d_MM_end_5 : decode b_MM_end 5 = .ok (.iload_n 1, 1) := by decide +kernel
theorem d_MM_end_6 : decode b_MM_end 6 = .ok (.ifCond .lt 21, 3) := by decide +kernel
theorem d_MM_end_9 : decode b_MM_end 9 = .ok (.iload_n 1, 1) := by decide +kernel
theorem d_MM_end_10 : decode b_MM_end 10 = .ok (.bipush 20, 2) := by decide +kernel
theorem d_MM_end_12 : decode b_MM_end 12 = .ok (.if_icmp .gt 15, 3) := by decide +kernel
theorem d_MM_end_15 : decode b_MM_end 15 = .ok (.aload_n 0, 1) := by decide +kernel
theorem d_MM_end_16 : decode b_MM_end 16 = .ok (.getfield 115, 3) := by decide +kernel
theorem d_MM_end_19 : decode b_MM_end 19 = .ok (.iload_n 1, 1) := by decide +kernel
theorem d_MM_end_20 : decode b_MM_end 20 = .ok (.iadd, 1) := by decide +kernel
theorem d_MM_end_21 : decode b_MM_end 21 = .ok (.sipush 1500, 3) := by decide +kernel
theorem d_MM_end_24 : decode b_MM_end 24 = .ok (.if_icmp .le 5, 3) := by decide +kernel
theorem d_MM_end_27 : decode b_MM_end 27 = .ok (.iconst (-1), 1) := by decide +kernel
theorem d_MM_end_28 : decode b_MM_end 28 = .ok (.ireturn, 1) := by decide +kernel
theorem d_MM_end_29 : decode b_MM_end 29 = .ok (.iconst 0, 1) := by decide +kernel
theorem d_MM_end_30 : decode b_MM_end 30 = .ok (.istore_n 2, 1) := by decide +kernel
theorem d_MM_end_31 : decode b_MM_end 31 = .ok (.iload_n 2, 1) := by decide +kernel
theorem d_MM_end_32 : decode b_MM_end 32 = .ok (.iload_n 1, 1) := by decide +kernel
theorem d_MM_end_33 : decode b_MM_end 33 = .ok (.if_icmp .ge 34, 3) := by decide +kernel
theorem d_MM_end_36 : decode b_MM_end 36 = .ok (.aload_n 0, 1) := by decide +kernel
theorem d_MM_end_37 : decode b_MM_end 37 = .ok (.getfield 95, 3) := by decide +kernel
theorem d_MM_end_40 : decode b_MM_end 40 = .ok (.aload_n 0, 1) := by decide +kernel
theorem d_MM_end_41 : decode b_MM_end 41 = .ok (.getfield 115, 3) := by decide +kernel
theorem d_MM_end_44 : decode b_MM_end 44 = .ok (.aload_n 0, 1) := by decide +kernel
theorem d_MM_end_45 : decode b_MM_end 45 = .ok (.getfield 91, 3) := by decide +kernel
theorem d_MM_end_48 : decode b_MM_end 48 = .ok (.iload_n 2, 1) := by decide +kernel
theorem d_MM_end_49 : decode b_MM_end 49 = .ok (.baload, 1) := by decide +kernel
theorem d_MM_end_50 : decode b_MM_end 50 = .ok (.bastore, 1) := by decide +kernel
theorem d_MM_end_51 : decode b_MM_end 51 = .ok (.aload_n 0, 1) := by decide +kernel
theorem d_MM_end_52 : decode b_MM_end 52 = .ok (.dup, 1) := by decide +kernel
theorem d_MM_end_53 : decode b_MM_end 53 = .ok (.getfield 115, 3) := by decide +kernel
theorem d_MM_end_56 : decode b_MM_end 56 = .ok (.iconst 1, 1) := by decide +kernel
theorem d_MM_end_57 : decode b_MM_end 57 = .ok (.iadd, 1) := by decide +kernel
theorem d_MM_end_58 : decode b_MM_end 58 = .ok (.putfield 115, 3) := by decide +kernel
theorem d_MM_end_61 : decode b_MM_end 61 = .ok (.iinc 2 1, 3) := by decide +kernel
theorem d_MM_end_64 : decode b_MM_end 64 = .ok (.goto (-33), 3) := by decide +kernel
theorem d_MM_end_67 : decode b_MM_end 67 = .ok (.iconst 0, 1) := by decide +kernel
theorem d_MM_end_68 : decode b_MM_end 68 = .ok (.istore_n 2, 1) := by decide +kernel
theorem d_MM_end_69 : decode b_MM_end 69 = .ok (.iload_n 2, 1) := by decide +kernel
theorem d_MM_end_70 : decode b_MM_end 70 = .ok (.bipush 20, 2) := by decide +kernel
theorem d_MM_end_72 : decode b_MM_end 72 = .ok (.if_icmp .ge 16, 3) := by decide +kernel
theorem d_MM_end_75 : decode b_MM_end 75 = .ok (.aload_n 0, 1) := by decide +kernel
theorem d_MM_end_76 : decode b_MM_end 76 = .ok (.getfield 91, 3) := by decide +kernel
theorem d_MM_end_79 : decode b_MM_end 79 = .ok (.iload_n 2, 1) := by decide +kernel
theorem d_MM_end_80 : decode b_MM_end 80 = .ok (.iconst 0, 1) := by decide +kernel
theorem d_MM_end_81 : decode b_MM_end 81 = .ok (.bastore, 1) := by decide +kernel
theorem d_MM_end_82 : decode b_MM_end 82 = .ok (.iinc 2 1, 3) := by decide +kernel
theorem d_MM_end_85 : decode b_MM_end 85 = .ok (.goto (-16), 3) := by decide +kernel
theorem d_MM_end_88 : decode b_MM_end 88 = .ok (.aload_n 0, 1) := by decide +kernel
theorem d_MM_end_89 : decode b_MM_end 89 = .ok (.getfield 115, 3) := by decide +kernel
theorem d_MM_end_92 : decode b_MM_end 92 = .ok (.ireturn, 1) := by decide +kernel
theorem d_MM_charsetOf_0 : decode b_MM_charsetOf 0 = .ok (.iload_n 2, 1) := by decide +kernel
theorem d_MM_charsetOf_1 : decode b_MM_charsetOf 1 = .ok (.iload_n 1, 1) := by decide +kernel
theorem d_MM_charsetOf_2 : decode b_MM_charsetOf 2 = .ok (.isub, 1) := by decide +kernel
theorem d_MM_charsetOf_3 : decode b_MM_charsetOf 3 = .ok (.bipush 16, 2) := by decide +kernel
theorem d_MM_charsetOf_5 : decode b_MM_charsetOf 5 = .ok (.if_icmp .gt 8, 3) := by decide +kernel
theorem d_MM_charsetOf_8 : decode b_MM_charsetOf 8 = .ok (.iload_n 2, 1) := by decide +kernel
theorem d_MM_charsetOf_9 : decode b_MM_charsetOf 9 = .ok (.iload_n 1, 1) := by decide +kernel
theorem d_MM_charsetOf_10 : decode b_MM_charsetOf 10 = .ok (.if_icmp .ne 5, 3) := by decide +kernel
theorem d_MM_charsetOf_13 : decode b_MM_charsetOf 13 = .ok (.iconst (-1), 1) := by decide +kernel
theorem d_MM_charsetOf_14 : decode b_MM_charsetOf 14 = .ok (.ireturn, 1) := by decide +kernel
theorem d_MM_charset_0 : decode b_MM_charset 0 = .ok (.aload_n 0, 1) := by decide +kernel
theorem d_MM_charset_1 : decode b_MM_charset 1 = .ok (.iconst 0, 1) := by decide +kernel
theorem d_MM_charset_2 : decode b_MM_charset 2 = .ok (.putfield 107, 3) := by decide +kernel
theorem d_MM_charset_5 : decode b_MM_charset 5 = .ok (.aload_n 0, 1) := by decide +kernel
theorem d_MM_charset_6 : decode b_MM_charset 6 = .ok (.iconst 0, 1) := by decide +kernel
theorem d_MM_charset_7 : decode b_MM_charset 7 = .ok (.aload_n 0, 1) := by decide +kernel
theorem d_MM_charset_8 : decode b_MM_charset 8 = .ok (.getfield 115, 3) := by decide +kernel
theorem d_MM_charset_11 : decode b_MM_charset 11 = .ok (.invokevirtual 124, 3) := by decide +kernel
theorem d_MM_charset_14 : decode b_MM_charset 14 = .ok (.istore_n 1, 1) := by decide +kernel
theorem d_MM_charset_15 : decode b_MM_charset 15 = .ok (.aload_n 0, 1) := by decide +kernel
theorem d_MM_charset_16 : decode b_MM_charset 16 = .ok (.iconst 0, 1) := by decide +kernel
theorem d_MM_charset_17 : decode b_MM_charset 17 = .ok (.putfield 115, 3) := by decide +kernel
theorem d_MM_charset_20 : decode b_MM_charset 20 = .ok (.iload_n 1, 1) := by decide +kernel
theorem d_MM_charset_21 : decode b_MM_charset 21 = .ok (.ireturn, 1) := by decide +kernel
theorem d_MM_uncode_0 : decode b_MM_uncode 0 = .ok (.aload_n 0, 1) := by decide +kernel
theorem d_MM_uncode_1 : decode b_MM_uncode 1 = .ok (.iload_n 1, 1) := by decide +kernel
theorem d_MM_uncode_2 : decode b_MM_uncode 2 = .ok (.ifCond .lt 8, 3) := by decide +kernel
theorem d_MM_uncode_5 : decode b_MM_uncode 5 = .ok (.iload_n 1, 1) := by decide +kernel
theorem d_MM_uncode_6 : decode b_MM_uncode 6 = .ok (.iconst 3, 1) := by decide +kernel
theorem d_MM_uncode_7 : decode b_MM_uncode 7 = .ok (.if_icmp .le 7, 3) := by decide +kernel
theorem d_MM_uncode_10 : decode b_MM_uncode 10 = .ok (.iconst 1, 1) := by decide +kernel
theorem d_MM_uncode_11 : decode b_MM_uncode 11 = .ok (.goto 4, 3) := by decide +kernel
theorem d_MM_uncode_14 : decode b_MM_uncode 14 = .ok (.iconst 0, 1) := by decide +kernel
theorem d_MM_uncode_15 : decode b_MM_uncode 15 = .ok (.putfield 107, 3) := by decide +kernel
theorem d_MM_uncode_18 : decode b_MM_uncode 18 = .ok (.aload_n 0, 1) := by decide +kernel
theorem d_MM_uncode_19 : decode b_MM_uncode 19 = .ok (.getfield 107, 3) := by decide +kernel
theorem d_MM_uncode_22 : decode b_MM_uncode 22 = .ok (.ifCond .le 5, 3) := by decide +kernel
theorem d_MM_uncode_25 : decode b_MM_uncode 25 = .ok (.iconst 0, 1) := by decide +kernel
theorem d_MM_uncode_26 : decode b_MM_uncode 26 = .ok (.ireturn, 1) := by decide +kernel
theorem d_MM_uncode_27 : decode b_MM_uncode 27 = .ok (.aload_n 0, 1) := by decide +kernel
theorem d_MM_uncode_28 : decode b_MM_uncode 28 = .ok (.iconst 0, 1) := by decide +kernel
theorem d_MM_uncode_29 : decode b_MM_uncode 29 = .ok (.putfield 118, 3) := by decide +kernel
theorem d_MM_uncode_32 : decode b_MM_uncode 32 = .ok (.iload_n 1, 1) := by decide +kernel
theorem d_MM_uncode_33 : decode b_MM_uncode 33 = .ok (.iconst 1, 1) := by decide +kernel
theorem d_MM_uncode_34 : decode b_MM_uncode 34 = .ok (.if_icmp .ne 15, 3) := by decide +kernel
theorem d_MM_uncode_37 : decode b_MM_uncode 37 = .ok (.aload_n 0, 1) := by decide +kernel
theorem d_MM_uncode_38 : decode b_MM_uncode 38 = .ok (.iconst 0, 1) := by decide +kernel
theorem d_MM_uncode_39 : decode b_MM_uncode 39 = .ok (.aload_n 0, 1) := by decide +kernel
theorem d_MM_uncode_40 : decode b_MM_uncode 40 = .ok (.getfield 115, 3) := by decide +kernel
theorem d_MM_uncode_43 : decode b_MM_uncode 43 = .ok (.invokevirtual 168, 3) := by decide +kernel
theorem d_MM_uncode_46 : decode b_MM_uncode 46 = .ok (.goto 24, 3) := by decide +kernel
theorem d_MM_uncode_49 : decode b_MM_uncode 49 = .ok (.iload_n 1, 1) := by decide +kernel
theorem d_MM_uncode_50 : decode b_MM_uncode 50 = .ok (.iconst 2, 1) := by decide +kernel
theorem d_MM_uncode_51 : decode b_MM_uncode 51 = .ok (.if_icmp .ne 10, 3) := by decide +kernel
theorem d_MM_uncode_54 : decode b_MM_uncode 54 = .ok (.aload_n 0, 1) := by decide +kernel
theorem d_MM_uncode_55 : decode b_MM_uncode 55 = .ok (.invokevirtual 171, 3) := by decide +kernel
theorem d_MM_uncode_58 : decode b_MM_uncode 58 = .ok (.goto 12, 3) := by decide +kernel
theorem d_MM_uncode_61 : decode b_MM_uncode 61 = .ok (.iload_n 1, 1) := by decide +kernel
theorem d_MM_uncode_62 : decode b_MM_uncode 62 = .ok (.iconst 3, 1) := by decide +kernel
theorem d_MM_uncode_63 : decode b_MM_uncode 63 = .ok (.if_icmp .ne 7, 3) := by decide +kernel
theorem d_MM_uncode_66 : decode b_MM_uncode 66 = .ok (.aload_n 0, 1) := by decide +kernel
theorem d_MM_uncode_67 : decode b_MM_uncode 67 = .ok (.invokevirtual 174, 3) := by decide +kernel
theorem d_MM_uncode_70 : decode b_MM_uncode 70 = .ok (.iload_n 1, 1) := by decide +kernel
theorem d_MM_uncode_71 : decode b_MM_uncode 71 = .ok (.ifCond .le 7, 3) := by decide +kernel
theorem d_MM_uncode_74 : decode b_MM_uncode 74 = .ok (.aload_n 0, 1) := by decide +kernel
theorem d_MM_uncode_75 : decode b_MM_uncode 75 = .ok (.invokevirtual 177, 3) := by decide +kernel
theorem d_MM_uncode_78 : decode b_MM_uncode 78 = .ok (.aload_n 0, 1) := by decide +kernel
theorem d_MM_uncode_79 : decode b_MM_uncode 79 = .ok (.getfield 115, 3) := by decide +kernel
theorem d_MM_uncode_82 : decode b_MM_uncode 82 = .ok (.ireturn, 1) := by decide +kernel
theorem d_MM_unbase_0 : decode b_MM_unbase 0 = .ok (.aload_n 0, 1) := by decide +kernel
theorem d_MM_unbase_1 : decode b_MM_unbase 1 = .ok (.iconst 0, 1) := by decide +kernel
theorem d_MM_unbase_2 : decode b_MM_unbase 2 = .ok (.putfield 128, 3) := by decide +kernel
theorem d_MM_unbase_5 : decode b_MM_unbase 5 = .ok (.aload_n 0, 1) := by decide +kernel
theorem d_MM_unbase_6 : decode b_MM_unbase 6 = .ok (.iconst 0, 1) := by decide +kernel
theorem d_MM_unbase_7 : decode b_MM_unbase 7 = .ok (.putfield 131, 3) := by decide +kernel
theorem d_MM_unbase_10 : decode b_MM_unbase 10 = .ok (.iload_n 1, 1) := by decide +kernel
theorem d_MM_unbase_11 : decode b_MM_unbase 11 = .ok (.istore_n 3, 1) := by decide +kernel
theorem d_MM_unbase_12 : decode b_MM_unbase 12 = .ok (.iload_n 3, 1) := by decide +kernel
theorem d_MM_unbase_13 : decode b_MM_unbase 13 = .ok (.iload_n 2, 1) := by decide +kernel
theorem d_MM_unbase_14 : decode b_MM_unbase 14 = .ok (.if_icmp .ge 98, 3) := by decide +kernel
theorem d_MM_unbase_112 : decode b_MM_unbase 112 = .ok (.return_, 1) := by decide +kernel
theorem d_MM_outToTape_0 : decode b_MM_outToTape 0 = .ok (.aload_n 0, 1) := by decide +kernel
theorem d_MM_outToTape_1 : decode b_MM_outToTape 1 = .ok (.aload_n 0, 1) := by decide +kernel
theorem d_MM_outToTape_2 : decode b_MM_outToTape 2 = .ok (.getfield 118, 3) := by decide +kernel
theorem d_MM_outToTape_5 : decode b_MM_outToTape 5 = .ok (.sipush 1500, 3) := by decide +kernel
theorem d_MM_outToTape_8 : decode b_MM_outToTape 8 = .ok (.if_icmp .ge 10, 3) := by decide +kernel
theorem d_MM_outToTape_11 : decode b_MM_outToTape 11 = .ok (.aload_n 0, 1) := by decide +kernel
theorem d_MM_outToTape_12 : decode b_MM_outToTape 12 = .ok (.getfield 118, 3) := by decide +kernel
theorem d_MM_outToTape_15 : decode b_MM_outToTape 15 = .ok (.goto 6, 3) := by decide +kernel
theorem d_MM_outToTape_21 : decode b_MM_outToTape 21 = .ok (.putfield 115, 3) := by decide +kernel
theorem d_MM_outToTape_24 : decode b_MM_outToTape 24 = .ok (.iconst 0, 1) := by decide +kernel
theorem d_MM_outToTape_25 : decode b_MM_outToTape 25 = .ok (.istore_n 1, 1) := by decide +kernel
theorem d_MM_outToTape_26 : decode b_MM_outToTape 26 = .ok (.iload_n 1, 1) := by decide +kernel
theorem d_MM_outToTape_27 : decode b_MM_outToTape 27 = .ok (.aload_n 0, 1) := by decide +kernel
theorem d_MM_outToTape_28 : decode b_MM_outToTape 28 = .ok (.getfield 115, 3) := by decide +kernel
theorem d_MM_outToTape_31 : decode b_MM_outToTape 31 = .ok (.if_icmp .ge 21, 3) := by decide +kernel
theorem d_MM_outToTape_34 : decode b_MM_outToTape 34 = .ok (.aload_n 0, 1) := by decide +kernel
theorem d_MM_outToTape_35 : decode b_MM_outToTape 35 = .ok (.getfield 95, 3) := by decide +kernel
theorem d_MM_outToTape_38 : decode b_MM_outToTape 38 = .ok (.iload_n 1, 1) := by decide +kernel
theorem d_MM_outToTape_39 : decode b_MM_outToTape 39 = .ok (.aload_n 0, 1) := by decide +kernel
theorem d_MM_outToTape_40 : decode b_MM_outToTape 40 = .ok (.getfield 101, 3) := by decide +kernel
theorem d_MM_outToTape_43 : decode b_MM_outToTape 43 = .ok (.iload_n 1, 1) := by decide +kernel
theorem d_MM_outToTape_44 : decode b_MM_outToTape 44 = .ok (.baload, 1) := by decide +kernel
theorem d_MM_outToTape_45 : decode b_MM_outToTape 45 = .ok (.bastore, 1) := by decide +kernel
theorem d_MM_outToTape_46 : decode b_MM_outToTape 46 = .ok (.iinc 1 1, 3) := by decide +kernel
theorem d_MM_outToTape_49 : decode b_MM_outToTape 49 = .ok (.goto (-23), 3) := by decide +kernel
theorem d_MM_outToTape_52 : decode b_MM_outToTape 52 = .ok (.return_, 1) := by decide +kernel
theorem d_MM_unquote_0 : decode b_MM_unquote 0 = .ok (.iconst 0, 1) := by decide +kernel
theorem d_MM_unquote_1 : decode b_MM_unquote 1 = .ok (.istore_n 1, 1) := by decide +kernel
theorem d_MM_unquote_2 : decode b_MM_unquote 2 = .ok (.iload_n 1, 1) := by decide +kernel
theorem d_MM_unquote_3 : decode b_MM_unquote 3 = .ok (.aload_n 0, 1) := by decide +kernel
theorem d_MM_unquote_4 : decode b_MM_unquote 4 = .ok (.getfield 115, 3) := by decide +kernel
theorem d_MM_unquote_7 : decode b_MM_unquote 7 = .ok (.if_icmp .ge 198, 3) := by decide +kernel
theorem d_MM_unquote_205 : decode b_MM_unquote 205 = .ok (.return_, 1) := by decide +kernel
theorem d_MM_unhexAll_0 : decode b_MM_unhexAll 0 = .ok (.iconst 0, 1) := by decide +kernel
theorem d_MM_unhexAll_1 : decode b_MM_unhexAll 1 = .ok (.istore_n 1, 1) := by decide +kernel
theorem d_MM_unhexAll_2 : decode b_MM_unhexAll 2 = .ok (.iconst 0, 1) := by decide +kernel
theorem d_MM_unhexAll_3 : decode b_MM_unhexAll 3 = .ok (.istore_n 2, 1) := by decide +kernel
theorem d_MM_unhexAll_4 : decode b_MM_unhexAll 4 = .ok (.iconst 1, 1) := by decide +kernel
theorem d_MM_unhexAll_5 : decode b_MM_unhexAll 5 = .ok (.istore_n 3, 1) := by decide +kernel
theorem d_MM_unhexAll_6 : decode b_MM_unhexAll 6 = .ok (.iload_n 3, 1) := by decide +kernel
theorem d_MM_unhexAll_7 : decode b_MM_unhexAll 7 = .ok (.ifCond .eq 58, 3) := by decide +kernel
theorem d_MM_unhexAll_10 : decode b_MM_unhexAll 10 = .ok (.iload_n 1, 1) := by decide +kernel
theorem d_MM_unhexAll_11 : decode b_MM_unhexAll 11 = .ok (.aload_n 0, 1) := by decide +kernel
theorem d_MM_unhexAll_12 : decode b_MM_unhexAll 12 = .ok (.getfield 115, 3) := by decide +kernel
theorem d_MM_unhexAll_15 : decode b_MM_unhexAll 15 = .ok (.if_icmp .ge 50, 3) := by decide +kernel
theorem d_MM_unhexAll_65 : decode b_MM_unhexAll 65 = .ok (.return_, 1) := by decide +kernel
theorem d_MM_isCharset_0 : decode b_MM_isCharset 0 = .ok (.iload_n 0, 1) := by decide +kernel
theorem d_MM_isCharset_1 : decode b_MM_isCharset 1 = .ok (.ifCond .lt 13, 3) := by decide +kernel
theorem d_MM_isCharset_4 : decode b_MM_isCharset 4 = .ok (.iload_n 0, 1) := by decide +kernel
theorem d_MM_isCharset_5 : decode b_MM_isCharset 5 = .ok (.bipush 9, 2) := by decide +kernel
theorem d_MM_isCharset_7 : decode b_MM_isCharset 7 = .ok (.if_icmp .gt 7, 3) := by decide +kernel
theorem d_MM_isCharset_10 : decode b_MM_isCharset 10 = .ok (.iconst 1, 1) := by decide +kernel
theorem d_MM_isCharset_11 : decode b_MM_isCharset 11 = .ok (.goto 4, 3) := by decide +kernel
theorem d_MM_isCharset_14 : decode b_MM_isCharset 14 = .ok (.iconst 0, 1) := by decide +kernel
theorem d_MM_isCharset_15 : decode b_MM_isCharset 15 = .ok (.ireturn, 1) := by decide +kernel
theorem d_MM_tapeToSrc_0 : decode b_MM_tapeToSrc 0 = .ok (.aload_n 0, 1) := by decide +kernel
theorem d_MM_tapeToSrc_1 : decode b_MM_tapeToSrc 1 = .ok (.iload_n 2, 1) := by decide +kernel
theorem d_MM_tapeToSrc_2 : decode b_MM_tapeToSrc 2 = .ok (.iload_n 1, 1) := by decide +kernel
theorem d_MM_tapeToSrc_3 : decode b_MM_tapeToSrc 3 = .ok (.isub, 1) := by decide +kernel
theorem d_MM_tapeToSrc_4 : decode b_MM_tapeToSrc 4 = .ok (.putfield 180, 3) := by decide +kernel
theorem d_MM_tapeToSrc_7 : decode b_MM_tapeToSrc 7 = .ok (.iconst 0, 1) := by decide +kernel
theorem d_MM_tapeToSrc_8 : decode b_MM_tapeToSrc 8 = .ok (.istore_n 3, 1) := by decide +kernel
theorem d_MM_tapeToSrc_9 : decode b_MM_tapeToSrc 9 = .ok (.iload_n 3, 1) := by decide +kernel
theorem d_MM_tapeToSrc_10 : decode b_MM_tapeToSrc 10 = .ok (.aload_n 0, 1) := by decide +kernel
theorem d_MM_tapeToSrc_11 : decode b_MM_tapeToSrc 11 = .ok (.getfield 180, 3) := by decide +kernel
theorem d_MM_tapeToSrc_14 : decode b_MM_tapeToSrc 14 = .ok (.if_icmp .ge 23, 3) := by decide +kernel
theorem d_MM_tapeToSrc_37 : decode b_MM_tapeToSrc 37 = .ok (.return_, 1) := by decide +kernel
theorem d_MM_readAll_0 : decode b_MM_readAll 0 = .ok (.aload_n 0, 1) := by decide +kernel
theorem d_MM_readAll_1 : decode b_MM_readAll 1 = .ok (.iconst 0, 1) := by decide +kernel
theorem d_MM_readAll_2 : decode b_MM_readAll 2 = .ok (.putfield 186, 3) := by decide +kernel
theorem d_MM_readAll_5 : decode b_MM_readAll 5 = .ok (.iload_n 1, 1) := by decide +kernel
theorem d_MM_readAll_6 : decode b_MM_readAll 6 = .ok (.iconst 5, 1) := by decide +kernel
theorem d_MM_readAll_7 : decode b_MM_readAll 7 = .ok (.if_icmp .ne 10, 3) := by decide +kernel
theorem d_MM_readAll_10 : decode b_MM_readAll 10 = .ok (.aload_n 0, 1) := by decide +kernel
theorem d_MM_readAll_11 : decode b_MM_readAll 11 = .ok (.invokevirtual 224, 3) := by decide +kernel
theorem d_MM_readAll_14 : decode b_MM_readAll 14 = .ok (.goto 30, 3) := by decide +kernel
theorem d_MM_readAll_17 : decode b_MM_readAll 17 = .ok (.iload_n 1, 1) := by decide +kernel
theorem d_MM_readAll_18 : decode b_MM_readAll 18 = .ok (.bipush 6, 2) := by decide +kernel
theorem d_MM_readAll_20 : decode b_MM_readAll 20 = .ok (.if_icmp .eq 9, 3) := by decide +kernel
theorem d_MM_readAll_23 : decode b_MM_readAll 23 = .ok (.iload_n 1, 1) := by decide +kernel
theorem d_MM_readAll_24 : decode b_MM_readAll 24 = .ok (.bipush 7, 2) := by decide +kernel
theorem d_MM_readAll_26 : decode b_MM_readAll 26 = .ok (.if_icmp .ne 18, 3) := by decide +kernel
theorem d_MM_readAll_29 : decode b_MM_readAll 29 = .ok (.aload_n 0, 1) := by decide +kernel
theorem d_MM_readAll_30 : decode b_MM_readAll 30 = .ok (.iload_n 1, 1) := by decide +kernel
theorem d_MM_readAll_31 : decode b_MM_readAll 31 = .ok (.bipush 7, 2) := by decide +kernel
theorem d_MM_readAll_33 : decode b_MM_readAll 33 = .ok (.if_icmp .ne 7, 3) := by decide +kernel
theorem d_MM_readAll_36 : decode b_MM_readAll 36 = .ok (.iconst 1, 1) := by decide +kernel
theorem d_MM_readAll_37 : decode b_MM_readAll 37 = .ok (.goto 4, 3) := by decide +kernel
theorem d_MM_readAll_40 : decode b_MM_readAll 40 = .ok (.iconst 0, 1) := by decide +kernel
theorem d_MM_readAll_41 : decode b_MM_readAll 41 = .ok (.invokevirtual 219, 3) := by decide +kernel
theorem d_MM_readAll_44 : decode b_MM_readAll 44 = .ok (.aload_n 0, 1) := by decide +kernel
theorem d_MM_readAll_45 : decode b_MM_readAll 45 = .ok (.getfield 186, 3) := by decide +kernel
theorem d_MM_readAll_48 : decode b_MM_readAll 48 = .ok (.aload_n 0, 1) := by decide +kernel
theorem d_MM_readAll_49 : decode b_MM_readAll 49 = .ok (.getfield 180, 3) := by decide +kernel
theorem d_MM_readAll_52 : decode b_MM_readAll 52 = .ok (.if_icmp .ge 58, 3) := by decide +kernel
theorem d_MM_readAll_110 : decode b_MM_readAll 110 = .ok (.return_, 1) := by decide +kernel
theorem d_MM_read_0 : decode b_MM_read 0 = .ok (.aload_n 0, 1) := by decide +kernel
theorem d_MM_read_1 : decode b_MM_read 1 = .ok (.iload_n 1, 1) := by decide +kernel
theorem d_MM_read_2 : decode b_MM_read 2 = .ok (.invokestatic 236, 3) := by decide +kernel
theorem d_MM_read_5 : decode b_MM_read 5 = .ok (.ifCond .eq 7, 3) := by decide +kernel
theorem d_MM_read_8 : decode b_MM_read 8 = .ok (.iconst 0, 1) := by decide +kernel
theorem d_MM_read_9 : decode b_MM_read 9 = .ok (.goto 4, 3) := by decide +kernel
theorem d_MM_read_12 : decode b_MM_read 12 = .ok (.iconst 1, 1) := by decide +kernel
theorem d_MM_read_13 : decode b_MM_read 13 = .ok (.putfield 107, 3) := by decide +kernel
theorem d_MM_read_16 : decode b_MM_read 16 = .ok (.aload_n 0, 1) := by decide +kernel
theorem d_MM_read_17 : decode b_MM_read 17 = .ok (.getfield 107, 3) := by decide +kernel
theorem d_MM_read_20 : decode b_MM_read 20 = .ok (.ifCond .le 5, 3) := by decide +kernel
theorem d_MM_read_23 : decode b_MM_read 23 = .ok (.iconst 0, 1) := by decide +kernel
theorem d_MM_read_24 : decode b_MM_read 24 = .ok (.ireturn, 1) := by decide +kernel
theorem d_MM_read_25 : decode b_MM_read 25 = .ok (.aload_n 0, 1) := by decide +kernel
theorem d_MM_read_26 : decode b_MM_read 26 = .ok (.iconst 0, 1) := by decide +kernel
theorem d_MM_read_27 : decode b_MM_read 27 = .ok (.putfield 121, 3) := by decide +kernel
theorem d_MM_read_30 : decode b_MM_read 30 = .ok (.aload_n 0, 1) := by decide +kernel
theorem d_MM_read_31 : decode b_MM_read 31 = .ok (.iconst 0, 1) := by decide +kernel
theorem d_MM_read_32 : decode b_MM_read 32 = .ok (.aload_n 0, 1) := by decide +kernel
theorem d_MM_read_33 : decode b_MM_read 33 = .ok (.getfield 115, 3) := by decide +kernel
theorem d_MM_read_36 : decode b_MM_read 36 = .ok (.invokevirtual 239, 3) := by decide +kernel
theorem d_MM_read_39 : decode b_MM_read 39 = .ok (.aload_n 0, 1) := by decide +kernel
theorem d_MM_read_40 : decode b_MM_read 40 = .ok (.iload_n 1, 1) := by decide +kernel
theorem d_MM_read_41 : decode b_MM_read 41 = .ok (.invokevirtual 242, 3) := by decide +kernel
theorem d_MM_read_44 : decode b_MM_read 44 = .ok (.aload_n 0, 1) := by decide +kernel
theorem d_MM_read_45 : decode b_MM_read 45 = .ok (.iconst 0, 1) := by decide +kernel
theorem d_MM_read_46 : decode b_MM_read 46 = .ok (.putfield 115, 3) := by decide +kernel
theorem d_MM_read_49 : decode b_MM_read 49 = .ok (.aload_n 0, 1) := by decide +kernel
theorem d_MM_read_50 : decode b_MM_read 50 = .ok (.getfield 121, 3) := by decide +kernel
theorem d_MM_read_53 : decode b_MM_read 53 = .ok (.ireturn, 1) := by decide +kernel
theorem d_MM_byteOf_0 : decode b_MM_byteOf 0 = .ok (.iload_n 1, 1) := by decide +kernel
theorem d_MM_byteOf_1 : decode b_MM_byteOf 1 = .ok (.aload_n 0, 1) := by decide +kernel
theorem d_MM_byteOf_2 : decode b_MM_byteOf 2 = .ok (.getfield 180, 3) := by decide +kernel
theorem d_MM_byteOf_5 : decode b_MM_byteOf 5 = .ok (.if_icmp .ge 16, 3) := by decide +kernel
theorem d_MM_byteOf_21 : decode b_MM_byteOf 21 = .ok (.iconst (-1), 1) := by decide +kernel
theorem d_MM_byteOf_22 : decode b_MM_byteOf 22 = .ok (.ireturn, 1) := by decide +kernel
theorem d_MM_endUnits_0 : decode b_MM_endUnits 0 = .ok (.aload_n 0, 1) := by decide +kernel
theorem d_MM_endUnits_1 : decode b_MM_endUnits 1 = .ok (.getfield 202, 3) := by decide +kernel
theorem d_MM_endUnits_4 : decode b_MM_endUnits 4 = .ok (.ifCond .le 9, 3) := by decide +kernel
theorem d_MM_endUnits_13 : decode b_MM_endUnits 13 = .ok (.aload_n 0, 1) := by decide +kernel
theorem d_MM_endUnits_14 : decode b_MM_endUnits 14 = .ok (.iconst 0, 1) := by decide +kernel
theorem d_MM_endUnits_15 : decode b_MM_endUnits 15 = .ok (.putfield 202, 3) := by decide +kernel
theorem d_MM_endUnits_18 : decode b_MM_endUnits 18 = .ok (.return_, 1) := by decide +kernel
theorem d_MM_readUnits_0 : decode b_MM_readUnits 0 = .ok (.aload_n 0, 1) := by decide +kernel
theorem d_MM_readUnits_1 : decode b_MM_readUnits 1 = .ok (.iconst 0, 1) := by decide +kernel
theorem d_MM_readUnits_2 : decode b_MM_readUnits 2 = .ok (.putfield 202, 3) := by decide +kernel
theorem d_MM_readUnits_5 : decode b_MM_readUnits 5 = .ok (.aload_n 0, 1) := by decide +kernel
theorem d_MM_readUnits_6 : decode b_MM_readUnits 6 = .ok (.getfield 186, 3) := by decide +kernel
theorem d_MM_readUnits_9 : decode b_MM_readUnits 9 = .ok (.iconst 1, 1) := by decide +kernel
theorem d_MM_readUnits_10 : decode b_MM_readUnits 10 = .ok (.iadd, 1) := by decide +kernel
theorem d_MM_readUnits_11 : decode b_MM_readUnits 11 = .ok (.aload_n 0, 1) := by decide +kernel
theorem d_MM_readUnits_12 : decode b_MM_readUnits 12 = .ok (.getfield 180, 3) := by decide +kernel
theorem d_MM_readUnits_15 : decode b_MM_readUnits 15 = .ok (.if_icmp .ge 59, 3) := by decide +kernel
theorem d_MM_readUnits_74 : decode b_MM_readUnits 74 = .ok (.aload_n 0, 1) := by decide +kernel
theorem d_MM_readUnits_75 : decode b_MM_readUnits 75 = .ok (.invokevirtual 210, 3) := by decide +kernel
theorem d_MM_readUnits_78 : decode b_MM_readUnits 78 = .ok (.aload_n 0, 1) := by decide +kernel
theorem d_MM_readUnits_79 : decode b_MM_readUnits 79 = .ok (.getfield 186, 3) := by decide +kernel
theorem d_MM_readUnits_82 : decode b_MM_readUnits 82 = .ok (.aload_n 0, 1) := by decide +kernel
theorem d_MM_readUnits_83 : decode b_MM_readUnits 83 = .ok (.getfield 180, 3) := by decide +kernel
theorem d_MM_readUnits_86 : decode b_MM_readUnits 86 = .ok (.if_icmp .ge 19, 3) := by decide +kernel
theorem d_MM_readUnits_105 : decode b_MM_readUnits 105 = .ok (.return_, 1) := by decide +kernel
theorem d_MM_readMarked_0 : decode b_MM_readMarked 0 = .ok (.aload_n 0, 1) := by decide +kernel
theorem d_MM_readMarked_1 : decode b_MM_readMarked 1 = .ok (.iconst 0, 1) := by decide +kernel
theorem d_MM_readMarked_2 : decode b_MM_readMarked 2 = .ok (.invokevirtual 189, 3) := by decide +kernel
theorem d_MM_readMarked_5 : decode b_MM_readMarked 5 = .ok (.sipush 255, 3) := by decide +kernel
theorem d_MM_readMarked_8 : decode b_MM_readMarked 8 = .ok (.if_icmp .ne 18, 3) := by decide +kernel
theorem d_MM_readMarked_26 : decode b_MM_readMarked 26 = .ok (.iconst 0, 1) := by decide +kernel
theorem d_MM_readMarked_27 : decode b_MM_readMarked 27 = .ok (.istore_n 1, 1) := by decide +kernel
theorem d_MM_readMarked_28 : decode b_MM_readMarked 28 = .ok (.aload_n 0, 1) := by decide +kernel
theorem d_MM_readMarked_29 : decode b_MM_readMarked 29 = .ok (.iconst 0, 1) := by decide +kernel
theorem d_MM_readMarked_30 : decode b_MM_readMarked 30 = .ok (.invokevirtual 189, 3) := by decide +kernel
theorem d_MM_readMarked_33 : decode b_MM_readMarked 33 = .ok (.sipush 254, 3) := by decide +kernel
theorem d_MM_readMarked_36 : decode b_MM_readMarked 36 = .ok (.if_icmp .ne 18, 3) := by decide +kernel
theorem d_MM_readMarked_54 : decode b_MM_readMarked 54 = .ok (.iconst 0, 1) := by decide +kernel
theorem d_MM_readMarked_55 : decode b_MM_readMarked 55 = .ok (.istore_n 2, 1) := by decide +kernel
theorem d_MM_readMarked_56 : decode b_MM_readMarked 56 = .ok (.aload_n 0, 1) := by decide +kernel
theorem d_MM_readMarked_57 : decode b_MM_readMarked 57 = .ok (.iload_n 1, 1) := by decide +kernel
theorem d_MM_readMarked_58 : decode b_MM_readMarked 58 = .ok (.ifCond .ne 7, 3) := by decide +kernel
theorem d_MM_readMarked_61 : decode b_MM_readMarked 61 = .ok (.iload_n 2, 1) := by decide +kernel
theorem d_MM_readMarked_62 : decode b_MM_readMarked 62 = .ok (.ifCond .eq 7, 3) := by decide +kernel
theorem d_MM_readMarked_69 : decode b_MM_readMarked 69 = .ok (.iconst 0, 1) := by decide +kernel
theorem d_MM_readMarked_70 : decode b_MM_readMarked 70 = .ok (.putfield 186, 3) := by decide +kernel
theorem d_MM_readMarked_73 : decode b_MM_readMarked 73 = .ok (.aload_n 0, 1) := by decide +kernel
theorem d_MM_readMarked_74 : decode b_MM_readMarked 74 = .ok (.iload_n 1, 1) := by decide +kernel
theorem d_MM_readMarked_75 : decode b_MM_readMarked 75 = .ok (.invokevirtual 219, 3) := by decide +kernel
theorem d_MM_readMarked_78 : decode b_MM_readMarked 78 = .ok (.return_, 1) := by decide +kernel
theorem d_MM_write_0 : decode b_MM_write 0 = .ok (.aload_n 0, 1) := by decide +kernel
theorem d_MM_write_1 : decode b_MM_write 1 = .ok (.iload_n 1, 1) := by decide +kernel
theorem d_MM_write_2 : decode b_MM_write 2 = .ok (.invokestatic 236, 3) := by decide +kernel
theorem d_MM_write_5 : decode b_MM_write 5 = .ok (.ifCond .eq 7, 3) := by decide +kernel
theorem d_MM_write_8 : decode b_MM_write 8 = .ok (.iconst 0, 1) := by decide +kernel
theorem d_MM_write_9 : decode b_MM_write 9 = .ok (.goto 4, 3) := by decide +kernel
theorem d_MM_write_12 : decode b_MM_write 12 = .ok (.iconst 1, 1) := by decide +kernel
theorem d_MM_write_13 : decode b_MM_write 13 = .ok (.putfield 107, 3) := by decide +kernel
theorem d_MM_write_16 : decode b_MM_write 16 = .ok (.aload_n 0, 1) := by decide +kernel
theorem d_MM_write_17 : decode b_MM_write 17 = .ok (.getfield 107, 3) := by decide +kernel
theorem d_MM_write_20 : decode b_MM_write 20 = .ok (.ifCond .le 5, 3) := by decide +kernel
theorem d_MM_write_23 : decode b_MM_write 23 = .ok (.iconst 0, 1) := by decide +kernel
theorem d_MM_write_24 : decode b_MM_write 24 = .ok (.ireturn, 1) := by decide +kernel
theorem d_MM_write_25 : decode b_MM_write 25 = .ok (.aload_n 0, 1) := by decide +kernel
theorem d_MM_write_26 : decode b_MM_write 26 = .ok (.iconst 0, 1) := by decide +kernel
theorem d_MM_write_27 : decode b_MM_write 27 = .ok (.putfield 118, 3) := by decide +kernel
theorem d_MM_write_30 : decode b_MM_write 30 = .ok (.iload_n 1, 1) := by decide +kernel
theorem d_MM_write_31 : decode b_MM_write 31 = .ok (.iconst 5, 1) := by decide +kernel
theorem d_MM_write_32 : decode b_MM_write 32 = .ok (.if_icmp .ne 17, 3) := by decide +kernel
theorem d_MM_write_35 : decode b_MM_write 35 = .ok (.aload_n 0, 1) := by decide +kernel
theorem d_MM_write_36 : decode b_MM_write 36 = .ok (.sipush 254, 3) := by decide +kernel
theorem d_MM_write_39 : decode b_MM_write 39 = .ok (.invokevirtual 139, 3) := by decide +kernel
theorem d_MM_write_42 : decode b_MM_write 42 = .ok (.aload_n 0, 1) := by decide +kernel
theorem d_MM_write_43 : decode b_MM_write 43 = .ok (.sipush 255, 3) := by decide +kernel
theorem d_MM_write_46 : decode b_MM_write 46 = .ok (.invokevirtual 139, 3) := by decide +kernel
theorem d_MM_write_49 : decode b_MM_write 49 = .ok (.iconst 0, 1) := by decide +kernel
theorem d_MM_write_50 : decode b_MM_write 50 = .ok (.istore_n 2, 1) := by decide +kernel
theorem d_MM_write_51 : decode b_MM_write 51 = .ok (.iload_n 2, 1) := by decide +kernel
theorem d_MM_write_52 : decode b_MM_write 52 = .ok (.aload_n 0, 1) := by decide +kernel
theorem d_MM_write_53 : decode b_MM_write 53 = .ok (.getfield 121, 3) := by decide +kernel
theorem d_MM_write_56 : decode b_MM_write 56 = .ok (.if_icmp .ge 38, 3) := by decide +kernel
theorem d_MM_write_94 : decode b_MM_write 94 = .ok (.aload_n 0, 1) := by decide +kernel
theorem d_MM_write_95 : decode b_MM_write 95 = .ok (.invokevirtual 177, 3) := by decide +kernel
theorem d_MM_write_98 : decode b_MM_write 98 = .ok (.aload_n 0, 1) := by decide +kernel
theorem d_MM_write_99 : decode b_MM_write 99 = .ok (.getfield 115, 3) := by decide +kernel
theorem d_MM_write_102 : decode b_MM_write 102 = .ok (.ireturn, 1) := by decide +kernel
theorem d_MM_put_0 : decode b_MM_put 0 = .ok (.aload_n 0, 1) := by decide +kernel
theorem d_MM_put_1 : decode b_MM_put 1 = .ok (.getfield 101, 3) := by decide +kernel
theorem d_MM_put_4 : decode b_MM_put 4 = .ok (.aload_n 0, 1) := by decide +kernel
theorem d_MM_put_5 : decode b_MM_put 5 = .ok (.getfield 118, 3) := by decide +kernel
theorem d_MM_put_8 : decode b_MM_put 8 = .ok (.iload_n 1, 1) := by decide +kernel
theorem d_MM_put_9 : decode b_MM_put 9 = .ok (.i2b, 1) := by decide +kernel
theorem d_MM_put_10 : decode b_MM_put 10 = .ok (.bastore, 1) := by decide +kernel
theorem d_MM_put_11 : decode b_MM_put 11 = .ok (.aload_n 0, 1) := by decide +kernel
theorem d_MM_put_12 : decode b_MM_put 12 = .ok (.dup, 1) := by decide +kernel
theorem d_MM_put_13 : decode b_MM_put 13 = .ok (.getfield 118, 3) := by decide +kernel
theorem d_MM_put_16 : decode b_MM_put 16 = .ok (.iconst 1, 1) := by decide +kernel
theorem d_MM_put_17 : decode b_MM_put 17 = .ok (.iadd, 1) := by decide +kernel
theorem d_MM_put_18 : decode b_MM_put 18 = .ok (.putfield 118, 3) := by decide +kernel
theorem d_MM_put_21 : decode b_MM_put 21 = .ok (.return_, 1) := by decide +kernel
theorem d_MM_readPlain_0 : decode b_MM_readPlain 0 = .ok (.aload_n 0, 1) := by decide +kernel
theorem d_MM_readPlain_1 : decode b_MM_readPlain 1 = .ok (.iload_n 1, 1) := by decide +kernel
theorem d_MM_readPlain_2 : decode b_MM_readPlain 2 = .ok (.iload_n 2, 1) := by decide +kernel
theorem d_MM_readPlain_3 : decode b_MM_readPlain 3 = .ok (.invokevirtual 239, 3) := by decide +kernel
theorem d_MM_readPlain_6 : decode b_MM_readPlain 6 = .ok (.aload_n 0, 1) := by decide +kernel
theorem d_MM_readPlain_7 : decode b_MM_readPlain 7 = .ok (.iconst 4, 1) := by decide +kernel
theorem d_MM_readPlain_8 : decode b_MM_readPlain 8 = .ok (.invokevirtual 242, 3) := by decide +kernel
theorem d_MM_readPlain_11 : decode b_MM_readPlain 11 = .ok (.return_, 1) := by decide +kernel
theorem d_MM_words_0 : decode b_MM_words 0 = .ok (.aload_n 0, 1) := by decide +kernel
theorem d_MM_words_1 : decode b_MM_words 1 = .ok (.iconst 0, 1) := by decide +kernel
theorem d_MM_words_2 : decode b_MM_words 2 = .ok (.putfield 107, 3) := by decide +kernel
theorem d_MM_words_5 : decode b_MM_words 5 = .ok (.aload_n 0, 1) := by decide +kernel
theorem d_MM_words_6 : decode b_MM_words 6 = .ok (.iconst 0, 1) := by decide +kernel
theorem d_MM_words_7 : decode b_MM_words 7 = .ok (.putfield 121, 3) := by decide +kernel
theorem d_MM_words_10 : decode b_MM_words 10 = .ok (.iconst 0, 1) := by decide +kernel
theorem d_MM_words_11 : decode b_MM_words 11 = .ok (.istore_n 1, 1) := by decide +kernel
theorem d_MM_words_12 : decode b_MM_words 12 = .ok (.iconst 0, 1) := by decide +kernel
theorem d_MM_words_13 : decode b_MM_words 13 = .ok (.istore_n 2, 1) := by decide +kernel
theorem d_MM_words_14 : decode b_MM_words 14 = .ok (.iconst 0, 1) := by decide +kernel
theorem d_MM_words_15 : decode b_MM_words 15 = .ok (.istore_n 3, 1) := by decide +kernel
theorem d_MM_words_16 : decode b_MM_words 16 = .ok (.iload_n 2, 1) := by decide +kernel
theorem d_MM_words_17 : decode b_MM_words 17 = .ok (.aload_n 0, 1) := by decide +kernel
theorem d_MM_words_18 : decode b_MM_words 18 = .ok (.getfield 115, 3) := by decide +kernel
theorem d_MM_words_21 : decode b_MM_words 21 = .ok (.if_icmp .ge 54, 3) := by decide +kernel
theorem d_MM_words_75 : decode b_MM_words 75 = .ok (.aload_n 0, 1) := by decide +kernel
theorem d_MM_words_76 : decode b_MM_words 76 = .ok (.iload_n 1, 1) := by decide +kernel
theorem d_MM_words_77 : decode b_MM_words 77 = .ok (.aload_n 0, 1) := by decide +kernel
theorem d_MM_words_78 : decode b_MM_words 78 = .ok (.getfield 115, 3) := by decide +kernel
theorem d_MM_words_81 : decode b_MM_words 81 = .ok (.invokevirtual 266, 3) := by decide +kernel
theorem d_MM_words_84 : decode b_MM_words 84 = .ok (.aload_n 0, 1) := by decide +kernel
theorem d_MM_words_85 : decode b_MM_words 85 = .ok (.iconst 0, 1) := by decide +kernel
theorem d_MM_words_86 : decode b_MM_words 86 = .ok (.putfield 115, 3) := by decide +kernel
theorem d_MM_words_89 : decode b_MM_words 89 = .ok (.aload_n 0, 1) := by decide +kernel
theorem d_MM_words_90 : decode b_MM_words 90 = .ok (.getfield 121, 3) := by decide +kernel
theorem d_MM_words_93 : decode b_MM_words 93 = .ok (.ireturn, 1) := by decide +kernel
theorem d_MM_base_0 : decode b_MM_base 0 = .ok (.iconst 0, 1) := by decide +kernel
theorem d_MM_base_1 : decode b_MM_base 1 = .ok (.istore_n 1, 1) := by decide +kernel
theorem d_MM_base_2 : decode b_MM_base 2 = .ok (.iconst 0, 1) := by decide +kernel
theorem d_MM_base_3 : decode b_MM_base 3 = .ok (.istore_n 2, 1) := by decide +kernel
theorem d_MM_base_4 : decode b_MM_base 4 = .ok (.iload_n 2, 1) := by decide +kernel
theorem d_MM_base_5 : decode b_MM_base 5 = .ok (.aload_n 0, 1) := by decide +kernel
theorem d_MM_base_6 : decode b_MM_base 6 = .ok (.getfield 115, 3) := by decide +kernel
theorem d_MM_base_9 : decode b_MM_base 9 = .ok (.if_icmp .ge 140, 3) := by decide +kernel
theorem d_MM_base_149 : decode b_MM_base 149 = .ok (.return_, 1) := by decide +kernel
theorem d_MM_code_0 : decode b_MM_code 0 = .ok (.aload_n 0, 1) := by decide +kernel
theorem d_MM_code_1 : decode b_MM_code 1 = .ok (.iload_n 1, 1) := by decide +kernel
theorem d_MM_code_2 : decode b_MM_code 2 = .ok (.iconst 1, 1) := by decide +kernel
theorem d_MM_code_3 : decode b_MM_code 3 = .ok (.if_icmp .eq 12, 3) := by decide +kernel
theorem d_MM_code_6 : decode b_MM_code 6 = .ok (.iload_n 1, 1) := by decide +kernel
theorem d_MM_code_7 : decode b_MM_code 7 = .ok (.iconst 2, 1) := by decide +kernel
theorem d_MM_code_8 : decode b_MM_code 8 = .ok (.if_icmp .eq 7, 3) := by decide +kernel
theorem d_MM_code_11 : decode b_MM_code 11 = .ok (.iconst 1, 1) := by decide +kernel
theorem d_MM_code_12 : decode b_MM_code 12 = .ok (.goto 4, 3) := by decide +kernel
theorem d_MM_code_15 : decode b_MM_code 15 = .ok (.iconst 0, 1) := by decide +kernel
theorem d_MM_code_16 : decode b_MM_code 16 = .ok (.putfield 107, 3) := by decide +kernel
theorem d_MM_code_19 : decode b_MM_code 19 = .ok (.aload_n 0, 1) := by decide +kernel
theorem d_MM_code_20 : decode b_MM_code 20 = .ok (.getfield 107, 3) := by decide +kernel
theorem d_MM_code_23 : decode b_MM_code 23 = .ok (.ifCond .le 5, 3) := by decide +kernel
theorem d_MM_code_26 : decode b_MM_code 26 = .ok (.iconst 0, 1) := by decide +kernel
theorem d_MM_code_27 : decode b_MM_code 27 = .ok (.ireturn, 1) := by decide +kernel
theorem d_MM_code_28 : decode b_MM_code 28 = .ok (.aload_n 0, 1) := by decide +kernel
theorem d_MM_code_29 : decode b_MM_code 29 = .ok (.iconst 0, 1) := by decide +kernel
theorem d_MM_code_30 : decode b_MM_code 30 = .ok (.putfield 118, 3) := by decide +kernel
theorem d_MM_code_33 : decode b_MM_code 33 = .ok (.iload_n 1, 1) := by decide +kernel
theorem d_MM_code_34 : decode b_MM_code 34 = .ok (.iconst 1, 1) := by decide +kernel
theorem d_MM_code_35 : decode b_MM_code 35 = .ok (.if_icmp .ne 10, 3) := by decide +kernel
theorem d_MM_code_38 : decode b_MM_code 38 = .ok (.aload_n 0, 1) := by decide +kernel
theorem d_MM_code_39 : decode b_MM_code 39 = .ok (.invokevirtual 309, 3) := by decide +kernel
theorem d_MM_code_42 : decode b_MM_code 42 = .ok (.goto 7, 3) := by decide +kernel
theorem d_MM_code_45 : decode b_MM_code 45 = .ok (.aload_n 0, 1) := by decide +kernel
theorem d_MM_code_46 : decode b_MM_code 46 = .ok (.invokevirtual 312, 3) := by decide +kernel
theorem d_MM_code_49 : decode b_MM_code 49 = .ok (.aload_n 0, 1) := by decide +kernel
theorem d_MM_code_50 : decode b_MM_code 50 = .ok (.getfield 118, 3) := by decide +kernel
theorem d_MM_code_53 : decode b_MM_code 53 = .ok (.sipush 1500, 3) := by decide +kernel
theorem d_MM_code_56 : decode b_MM_code 56 = .ok (.if_icmp .le 10, 3) := by decide +kernel
theorem d_MM_code_66 : decode b_MM_code 66 = .ok (.aload_n 0, 1) := by decide +kernel
theorem d_MM_code_67 : decode b_MM_code 67 = .ok (.invokevirtual 177, 3) := by decide +kernel
theorem d_MM_code_70 : decode b_MM_code 70 = .ok (.aload_n 0, 1) := by decide +kernel
theorem d_MM_code_71 : decode b_MM_code 71 = .ok (.getfield 115, 3) := by decide +kernel
theorem d_MM_code_74 : decode b_MM_code 74 = .ok (.ireturn, 1) := by decide +kernel
theorem d_MM_quote_0 : decode b_MM_quote 0 = .ok (.iconst 0, 1) := by decide +kernel
theorem d_MM_quote_1 : decode b_MM_quote 1 = .ok (.istore_n 1, 1) := by decide +kernel
theorem d_MM_quote_2 : decode b_MM_quote 2 = .ok (.iconst 0, 1) := by decide +kernel
theorem d_MM_quote_3 : decode b_MM_quote 3 = .ok (.istore_n 2, 1) := by decide +kernel
theorem d_MM_quote_4 : decode b_MM_quote 4 = .ok (.iload_n 2, 1) := by decide +kernel
theorem d_MM_quote_5 : decode b_MM_quote 5 = .ok (.aload_n 0, 1) := by decide +kernel
theorem d_MM_quote_6 : decode b_MM_quote 6 = .ok (.getfield 115, 3) := by decide +kernel
theorem d_MM_quote_9 : decode b_MM_quote 9 = .ok (.if_icmp .ge 203, 3) := by decide +kernel
theorem d_MM_quote_212 : decode b_MM_quote 212 = .ok (.return_, 1) := by decide +kernel
theorem d_MM_byteAt_0 : decode b_MM_byteAt 0 = .ok (.aload_n 0, 1) := by decide +kernel
theorem d_MM_byteAt_1 : decode b_MM_byteAt 1 = .ok (.iconst 0, 1) := by decide +kernel
theorem d_MM_byteAt_2 : decode b_MM_byteAt 2 = .ok (.putfield 107, 3) := by decide +kernel
theorem d_MM_byteAt_5 : decode b_MM_byteAt 5 = .ok (.iload_n 1, 1) := by decide +kernel
theorem d_MM_byteAt_6 : decode b_MM_byteAt 6 = .ok (.ifCond .lt 24, 3) := by decide +kernel
theorem d_MM_byteAt_9 : decode b_MM_byteAt 9 = .ok (.iload_n 1, 1) := by decide +kernel
theorem d_MM_byteAt_10 : decode b_MM_byteAt 10 = .ok (.aload_n 0, 1) := by decide +kernel
theorem d_MM_byteAt_11 : decode b_MM_byteAt 11 = .ok (.getfield 115, 3) := by decide +kernel
theorem d_MM_byteAt_14 : decode b_MM_byteAt 14 = .ok (.if_icmp .ge 16, 3) := by decide +kernel
theorem d_MM_byteAt_30 : decode b_MM_byteAt 30 = .ok (.iconst (-1), 1) := by decide +kernel
theorem d_MM_byteAt_31 : decode b_MM_byteAt 31 = .ok (.ireturn, 1) := by decide +kernel
theorem d_MM_at_0 : decode b_MM_at 0 = .ok (.aload_n 0, 1) := by decide +kernel
theorem d_MM_at_1 : decode b_MM_at 1 = .ok (.iconst 0, 1) := by decide +kernel
theorem d_MM_at_2 : decode b_MM_at 2 = .ok (.putfield 107, 3) := by decide +kernel
theorem d_MM_at_5 : decode b_MM_at 5 = .ok (.iload_n 1, 1) := by decide +kernel
theorem d_MM_at_6 : decode b_MM_at 6 = .ok (.ifCond .lt 20, 3) := by decide +kernel
theorem d_MM_at_9 : decode b_MM_at 9 = .ok (.iload_n 1, 1) := by decide +kernel
theorem d_MM_at_10 : decode b_MM_at 10 = .ok (.aload_n 0, 1) := by decide +kernel
theorem d_MM_at_11 : decode b_MM_at 11 = .ok (.getfield 121, 3) := by decide +kernel
theorem d_MM_at_14 : decode b_MM_at 14 = .ok (.if_icmp .ge 12, 3) := by decide +kernel
theorem d_MM_at_26 : decode b_MM_at 26 = .ok (.iconst (-1), 1) := by decide +kernel
theorem d_MM_at_27 : decode b_MM_at 27 = .ok (.ireturn, 1) := by decide +kernel
theorem d_MM_count_0 : decode b_MM_count 0 = .ok (.aload_n 0, 1) := by decide +kernel
theorem d_MM_count_1 : decode b_MM_count 1 = .ok (.iconst 0, 1) := by decide +kernel
theorem d_MM_count_2 : decode b_MM_count 2 = .ok (.putfield 107, 3) := by decide +kernel
theorem d_MM_count_5 : decode b_MM_count 5 = .ok (.iload_n 1, 1) := by decide +kernel
theorem d_MM_count_6 : decode b_MM_count 6 = .ok (.iconst 2, 1) := by decide +kernel
theorem d_MM_count_7 : decode b_MM_count 7 = .ok (.if_icmp .eq 28, 3) := by decide +kernel
theorem d_MM_count_10 : decode b_MM_count 10 = .ok (.iload_n 1, 1) := by decide +kernel
theorem d_MM_count_11 : decode b_MM_count 11 = .ok (.ifCond .ne 10, 3) := by decide +kernel
theorem d_MM_count_14 : decode b_MM_count 14 = .ok (.aload_n 0, 1) := by decide +kernel
theorem d_MM_count_15 : decode b_MM_count 15 = .ok (.getfield 115, 3) := by decide +kernel
theorem d_MM_count_18 : decode b_MM_count 18 = .ok (.goto 16, 3) := by decide +kernel
theorem d_MM_count_21 : decode b_MM_count 21 = .ok (.iload_n 1, 1) := by decide +kernel
theorem d_MM_count_22 : decode b_MM_count 22 = .ok (.iconst 1, 1) := by decide +kernel
theorem d_MM_count_23 : decode b_MM_count 23 = .ok (.if_icmp .ne 10, 3) := by decide +kernel
theorem d_MM_count_26 : decode b_MM_count 26 = .ok (.aload_n 0, 1) := by decide +kernel
theorem d_MM_count_27 : decode b_MM_count 27 = .ok (.getfield 121, 3) := by decide +kernel
theorem d_MM_count_30 : decode b_MM_count 30 = .ok (.goto 4, 3) := by decide +kernel
theorem d_MM_count_33 : decode b_MM_count 33 = .ok (.iconst (-1), 1) := by decide +kernel
theorem d_MM_count_34 : decode b_MM_count 34 = .ok (.ireturn, 1) := by decide +kernel
theorem d_MM_count_35 : decode b_MM_count 35 = .ok (.iconst 0, 1) := by decide +kernel
theorem d_MM_count_36 : decode b_MM_count 36 = .ok (.istore_n 2, 1) := by decide +kernel
theorem d_MM_count_37 : decode b_MM_count 37 = .ok (.iconst 0, 1) := by decide +kernel
theorem d_MM_count_38 : decode b_MM_count 38 = .ok (.istore_n 3, 1) := by decide +kernel
theorem d_MM_count_39 : decode b_MM_count 39 = .ok (.iload_n 3, 1) := by decide +kernel
theorem d_MM_count_40 : decode b_MM_count 40 = .ok (.aload_n 0, 1) := by decide +kernel
theorem d_MM_count_41 : decode b_MM_count 41 = .ok (.getfield 121, 3) := by decide +kernel
theorem d_MM_count_44 : decode b_MM_count 44 = .ok (.if_icmp .ge 28, 3) := by decide +kernel
theorem d_MM_count_72 : decode b_MM_count 72 = .ok (.iload_n 2, 1) := by decide +kernel
theorem d_MM_count_73 : decode b_MM_count 73 = .ok (.ireturn, 1) := by decide +kernel
theorem d_MM_thrown_0 : decode b_MM_thrown 0 = .ok (.aload_n 0, 1) := by decide +kernel
theorem d_MM_thrown_1 : decode b_MM_thrown 1 = .ok (.getfield 107, 3) := by decide +kernel
theorem d_MM_thrown_4 : decode b_MM_thrown 4 = .ok (.ireturn, 1) := by decide +kernel
theorem d_MM_init_0 : decode b_MM_init 0 = .ok (.aload_n 0, 1) := by decide +kernel
theorem d_MM_init_1 : decode b_MM_init 1 = .ok (.invokespecial 1, 3) := by decide +kernel
theorem d_MM_init_4 : decode b_MM_init 4 = .ok (.aload_n 0, 1) := by decide +kernel
theorem d_MM_init_5 : decode b_MM_init 5 = .ok (.bipush 27, 2) := by decide +kernel
theorem d_MM_init_7 : decode b_MM_init 7 = .ok (.newarray .long, 2) := by decide +kernel
theorem d_MM_init_9 : decode b_MM_init 9 = .ok (.dup, 1) := by decide +kernel
theorem d_MM_init_10 : decode b_MM_init 10 = .ok (.iconst 0, 1) := by decide +kernel
theorem d_MM_init_11 : decode b_MM_init 11 = .ok (.ldc2_w 7, 3) := by decide +kernel
theorem d_MM_init_14 : decode b_MM_init 14 = .ok (.lastore, 1) := by decide +kernel
theorem d_MM_init_15 : decode b_MM_init 15 = .ok (.dup, 1) := by decide +kernel
theorem d_MM_init_16 : decode b_MM_init 16 = .ok (.iconst 1, 1) := by decide +kernel
theorem d_MM_init_17 : decode b_MM_init 17 = .ok (.ldc2_w 9, 3) := by decide +kernel
theorem d_MM_init_20 : decode b_MM_init 20 = .ok (.lastore, 1) := by decide +kernel
theorem d_MM_init_21 : decode b_MM_init 21 = .ok (.dup, 1) := by decide +kernel
theorem d_MM_init_22 : decode b_MM_init 22 = .ok (.iconst 2, 1) := by decide +kernel
theorem d_MM_init_23 : decode b_MM_init 23 = .ok (.ldc2_w 11, 3) := by decide +kernel
theorem d_MM_init_26 : decode b_MM_init 26 = .ok (.lastore, 1) := by decide +kernel
theorem d_MM_init_27 : decode b_MM_init 27 = .ok (.dup, 1) := by decide +kernel
theorem d_MM_init_28 : decode b_MM_init 28 = .ok (.iconst 3, 1) := by decide +kernel
theorem d_MM_init_29 : decode b_MM_init 29 = .ok (.ldc2_w 13, 3) := by decide +kernel
theorem d_MM_init_32 : decode b_MM_init 32 = .ok (.lastore, 1) := by decide +kernel
theorem d_MM_init_33 : decode b_MM_init 33 = .ok (.dup, 1) := by decide +kernel
theorem d_MM_init_34 : decode b_MM_init 34 = .ok (.iconst 4, 1) := by decide +kernel
theorem d_MM_init_35 : decode b_MM_init 35 = .ok (.ldc2_w 15, 3) := by decide +kernel
theorem d_MM_init_38 : decode b_MM_init 38 = .ok (.lastore, 1) := by decide +kernel
theorem d_MM_init_39 : decode b_MM_init 39 = .ok (.dup, 1) := by decide +kernel
theorem d_MM_init_40 : decode b_MM_init 40 = .ok (.iconst 5, 1) := by decide +kernel
theorem d_MM_init_41 : decode b_MM_init 41 = .ok (.ldc2_w 17, 3) := by decide +kernel
theorem d_MM_init_44 : decode b_MM_init 44 = .ok (.lastore, 1) := by decide +kernel
theorem d_MM_init_45 : decode b_MM_init 45 = .ok (.dup, 1) := by decide +kernel
theorem d_MM_init_46 : decode b_MM_init 46 = .ok (.bipush 6, 2) := by decide +kernel
theorem d_MM_init_48 : decode b_MM_init 48 = .ok (.ldc2_w 19, 3) := by decide +kernel
theorem d_MM_init_51 : decode b_MM_init 51 = .ok (.lastore, 1) := by decide +kernel
theorem d_MM_init_52 : decode b_MM_init 52 = .ok (.dup, 1) := by decide +kernel
theorem d_MM_init_53 : decode b_MM_init 53 = .ok (.bipush 7, 2) := by decide +kernel
theorem d_MM_init_55 : decode b_MM_init 55 = .ok (.ldc2_w 21, 3) := by decide +kernel
theorem d_MM_init_58 : decode b_MM_init 58 = .ok (.lastore, 1) := by decide +kernel
theorem d_MM_init_59 : decode b_MM_init 59 = .ok (.dup, 1) := by decide +kernel
theorem d_MM_init_60 : decode b_MM_init 60 = .ok (.bipush 8, 2) := by decide +kernel
theorem d_MM_init_62 : decode b_MM_init 62 = .ok (.ldc2_w 23, 3) := by decide +kernel
theorem d_MM_init_65 : decode b_MM_init 65 = .ok (.lastore, 1) := by decide +kernel
theorem d_MM_init_66 : decode b_MM_init 66 = .ok (.dup, 1) := by decide +kernel
theorem d_MM_init_67 : decode b_MM_init 67 = .ok (.bipush 9, 2) := by decide +kernel
theorem d_MM_init_69 : decode b_MM_init 69 = .ok (.ldc2_w 25, 3) := by decide +kernel
theorem d_MM_init_72 : decode b_MM_init 72 = .ok (.lastore, 1) := by decide +kernel
theorem d_MM_init_73 : decode b_MM_init 73 = .ok (.dup, 1) := by decide +kernel
theorem d_MM_init_74 : decode b_MM_init 74 = .ok (.bipush 10, 2) := by decide +kernel
theorem d_MM_init_76 : decode b_MM_init 76 = .ok (.ldc2_w 17, 3) := by decide +kernel
theorem d_MM_init_79 : decode b_MM_init 79 = .ok (.lastore, 1) := by decide +kernel
theorem d_MM_init_80 : decode b_MM_init 80 = .ok (.dup, 1) := by decide +kernel
theorem d_MM_init_81 : decode b_MM_init 81 = .ok (.bipush 11, 2) := by decide +kernel
theorem d_MM_init_83 : decode b_MM_init 83 = .ok (.ldc2_w 19, 3) := by decide +kernel
theorem d_MM_init_86 : decode b_MM_init 86 = .ok (.lastore, 1) := by decide +kernel
theorem d_MM_init_87 : decode b_MM_init 87 = .ok (.dup, 1) := by decide +kernel
theorem d_MM_init_88 : decode b_MM_init 88 = .ok (.bipush 12, 2) := by decide +kernel
theorem d_MM_init_90 : decode b_MM_init 90 = .ok (.ldc2_w 27, 3) := by decide +kernel
theorem d_MM_init_93 : decode b_MM_init 93 = .ok (.lastore, 1) := by decide +kernel
theorem d_MM_init_94 : decode b_MM_init 94 = .ok (.dup, 1) := by decide +kernel
theorem d_MM_init_95 : decode b_MM_init 95 = .ok (.bipush 13, 2) := by decide +kernel
theorem d_MM_init_97 : decode b_MM_init 97 = .ok (.ldc2_w 29, 3) := by decide +kernel
theorem d_MM_init_100 : decode b_MM_init 100 = .ok (.lastore, 1) := by decide +kernel
theorem d_MM_init_101 : decode b_MM_init 101 = .ok (.dup, 1) := by decide +kernel
theorem d_MM_init_102 : decode b_MM_init 102 = .ok (.bipush 14, 2) := by decide +kernel
theorem d_MM_init_104 : decode b_MM_init 104 = .ok (.ldc2_w 31, 3) := by decide +kernel
theorem d_MM_init_107 : decode b_MM_init 107 = .ok (.lastore, 1) := by decide +kernel
theorem d_MM_init_108 : decode b_MM_init 108 = .ok (.dup, 1) := by decide +kernel
theorem d_MM_init_109 : decode b_MM_init 109 = .ok (.bipush 15, 2) := by decide +kernel
theorem d_MM_init_111 : decode b_MM_init 111 = .ok (.ldc2_w 33, 3) := by decide +kernel
theorem d_MM_init_114 : decode b_MM_init 114 = .ok (.lastore, 1) := by decide +kernel
theorem d_MM_init_115 : decode b_MM_init 115 = .ok (.dup, 1) := by decide +kernel
theorem d_MM_init_116 : decode b_MM_init 116 = .ok (.bipush 16, 2) := by decide +kernel
theorem d_MM_init_118 : decode b_MM_init 118 = .ok (.ldc2_w 35, 3) := by decide +kernel
theorem d_MM_init_121 : decode b_MM_init 121 = .ok (.lastore, 1) := by decide +kernel
theorem d_MM_init_122 : decode b_MM_init 122 = .ok (.dup, 1) := by decide +kernel
theorem d_MM_init_123 : decode b_MM_init 123 = .ok (.bipush 17, 2) := by decide +kernel
theorem d_MM_init_125 : decode b_MM_init 125 = .ok (.ldc2_w 37, 3) := by decide +kernel
theorem d_MM_init_128 : decode b_MM_init 128 = .ok (.lastore, 1) := by decide +kernel
theorem d_MM_init_129 : decode b_MM_init 129 = .ok (.dup, 1) := by decide +kernel
theorem d_MM_init_130 : decode b_MM_init 130 = .ok (.bipush 18, 2) := by decide +kernel
theorem d_MM_init_132 : decode b_MM_init 132 = .ok (.ldc2_w 39, 3) := by decide +kernel
theorem d_MM_init_135 : decode b_MM_init 135 = .ok (.lastore, 1) := by decide +kernel
theorem d_MM_init_136 : decode b_MM_init 136 = .ok (.dup, 1) := by decide +kernel
theorem d_MM_init_137 : decode b_MM_init 137 = .ok (.bipush 19, 2) := by decide +kernel
theorem d_MM_init_139 : decode b_MM_init 139 = .ok (.ldc2_w 41, 3) := by decide +kernel
theorem d_MM_init_142 : decode b_MM_init 142 = .ok (.lastore, 1) := by decide +kernel
theorem d_MM_init_143 : decode b_MM_init 143 = .ok (.dup, 1) := by decide +kernel
theorem d_MM_init_144 : decode b_MM_init 144 = .ok (.bipush 20, 2) := by decide +kernel
theorem d_MM_init_146 : decode b_MM_init 146 = .ok (.ldc2_w 43, 3) := by decide +kernel
theorem d_MM_init_149 : decode b_MM_init 149 = .ok (.lastore, 1) := by decide +kernel
theorem d_MM_init_150 : decode b_MM_init 150 = .ok (.dup, 1) := by decide +kernel
theorem d_MM_init_151 : decode b_MM_init 151 = .ok (.bipush 21, 2) := by decide +kernel
theorem d_MM_init_153 : decode b_MM_init 153 = .ok (.ldc2_w 45, 3) := by decide +kernel
theorem d_MM_init_156 : decode b_MM_init 156 = .ok (.lastore, 1) := by decide +kernel
theorem d_MM_init_157 : decode b_MM_init 157 = .ok (.dup, 1) := by decide +kernel
theorem d_MM_init_158 : decode b_MM_init 158 = .ok (.bipush 22, 2) := by decide +kernel
theorem d_MM_init_160 : decode b_MM_init 160 = .ok (.ldc2_w 47, 3) := by decide +kernel
theorem d_MM_init_163 : decode b_MM_init 163 = .ok (.lastore, 1) := by decide +kernel
theorem d_MM_init_164 : decode b_MM_init 164 = .ok (.dup, 1) := by decide +kernel
theorem d_MM_init_165 : decode b_MM_init 165 = .ok (.bipush 23, 2) := by decide +kernel
theorem d_MM_init_167 : decode b_MM_init 167 = .ok (.ldc2_w 49, 3) := by decide +kernel
theorem d_MM_init_170 : decode b_MM_init 170 = .ok (.lastore, 1) := by decide +kernel
theorem d_MM_init_171 : decode b_MM_init 171 = .ok (.dup, 1) := by decide +kernel
theorem d_MM_init_172 : decode b_MM_init 172 = .ok (.bipush 24, 2) := by decide +kernel
theorem d_MM_init_174 : decode b_MM_init 174 = .ok (.ldc2_w 51, 3) := by decide +kernel
theorem d_MM_init_177 : decode b_MM_init 177 = .ok (.lastore, 1) := by decide +kernel
theorem d_MM_init_178 : decode b_MM_init 178 = .ok (.dup, 1) := by decide +kernel
theorem d_MM_init_179 : decode b_MM_init 179 = .ok (.bipush 25, 2) := by decide +kernel
theorem d_MM_init_181 : decode b_MM_init 181 = .ok (.ldc2_w 53, 3) := by decide +kernel
theorem d_MM_init_184 : decode b_MM_init 184 = .ok (.lastore, 1) := by decide +kernel
theorem d_MM_init_185 : decode b_MM_init 185 = .ok (.dup, 1) := by decide +kernel
theorem d_MM_init_186 : decode b_MM_init 186 = .ok (.bipush 26, 2) := by decide +kernel
theorem d_MM_init_188 : decode b_MM_init 188 = .ok (.ldc2_w 55, 3) := by decide +kernel
theorem d_MM_init_191 : decode b_MM_init 191 = .ok (.lastore, 1) := by decide +kernel
theorem d_MM_init_192 : decode b_MM_init 192 = .ok (.putfield 57, 3) := by decide +kernel
theorem d_MM_init_195 : decode b_MM_init 195 = .ok (.aload_n 0, 1) := by decide +kernel
theorem d_MM_init_196 : decode b_MM_init 196 = .ok (.bipush 27, 2) := by decide +kernel
theorem d_MM_init_198 : decode b_MM_init 198 = .ok (.newarray .long, 2) := by decide +kernel
theorem d_MM_init_200 : decode b_MM_init 200 = .ok (.dup, 1) := by decide +kernel
theorem d_MM_init_201 : decode b_MM_init 201 = .ok (.iconst 0, 1) := by decide +kernel
theorem d_MM_init_202 : decode b_MM_init 202 = .ok (.lconst 0, 1) := by decide +kernel
theorem d_MM_init_203 : decode b_MM_init 203 = .ok (.lastore, 1) := by decide +kernel
theorem d_MM_init_204 : decode b_MM_init 204 = .ok (.dup, 1) := by decide +kernel
theorem d_MM_init_205 : decode b_MM_init 205 = .ok (.iconst 1, 1) := by decide +kernel
theorem d_MM_init_206 : decode b_MM_init 206 = .ok (.lconst 0, 1) := by decide +kernel
theorem d_MM_init_207 : decode b_MM_init 207 = .ok (.lastore, 1) := by decide +kernel
theorem d_MM_init_208 : decode b_MM_init 208 = .ok (.dup, 1) := by decide +kernel
theorem d_MM_init_209 : decode b_MM_init 209 = .ok (.iconst 2, 1) := by decide +kernel
theorem d_MM_init_210 : decode b_MM_init 210 = .ok (.ldc2_w 63, 3) := by decide +kernel
theorem d_MM_init_213 : decode b_MM_init 213 = .ok (.lastore, 1) := by decide +kernel
theorem d_MM_init_214 : decode b_MM_init 214 = .ok (.dup, 1) := by decide +kernel
theorem d_MM_init_215 : decode b_MM_init 215 = .ok (.iconst 3, 1) := by decide +kernel
theorem d_MM_init_216 : decode b_MM_init 216 = .ok (.ldc2_w 65, 3) := by decide +kernel
theorem d_MM_init_219 : decode b_MM_init 219 = .ok (.lastore, 1) := by decide +kernel
theorem d_MM_init_220 : decode b_MM_init 220 = .ok (.dup, 1) := by decide +kernel
theorem d_MM_init_221 : decode b_MM_init 221 = .ok (.iconst 4, 1) := by decide +kernel
theorem d_MM_init_222 : decode b_MM_init 222 = .ok (.lconst 0, 1) := by decide +kernel
theorem d_MM_init_223 : decode b_MM_init 223 = .ok (.lastore, 1) := by decide +kernel
theorem d_MM_init_224 : decode b_MM_init 224 = .ok (.dup, 1) := by decide +kernel
theorem d_MM_init_225 : decode b_MM_init 225 = .ok (.iconst 5, 1) := by decide +kernel
theorem d_MM_init_226 : decode b_MM_init 226 = .ok (.ldc2_w 67, 3) := by decide +kernel
theorem d_MM_init_229 : decode b_MM_init 229 = .ok (.lastore, 1) := by decide +kernel
theorem d_MM_init_230 : decode b_MM_init 230 = .ok (.dup, 1) := by decide +kernel
theorem d_MM_init_231 : decode b_MM_init 231 = .ok (.bipush 6, 2) := by decide +kernel
theorem d_MM_init_233 : decode b_MM_init 233 = .ok (.ldc2_w 69, 3) := by decide +kernel
theorem d_MM_init_236 : decode b_MM_init 236 = .ok (.lastore, 1) := by decide +kernel
theorem d_MM_init_237 : decode b_MM_init 237 = .ok (.dup, 1) := by decide +kernel
theorem d_MM_init_238 : decode b_MM_init 238 = .ok (.bipush 7, 2) := by decide +kernel
theorem d_MM_init_240 : decode b_MM_init 240 = .ok (.lconst 0, 1) := by decide +kernel
theorem d_MM_init_241 : decode b_MM_init 241 = .ok (.lastore, 1) := by decide +kernel
theorem d_MM_init_242 : decode b_MM_init 242 = .ok (.dup, 1) := by decide +kernel
theorem d_MM_init_243 : decode b_MM_init 243 = .ok (.bipush 8, 2) := by decide +kernel
theorem d_MM_init_245 : decode b_MM_init 245 = .ok (.lconst 0, 1) := by decide +kernel
theorem d_MM_init_246 : decode b_MM_init 246 = .ok (.lastore, 1) := by decide +kernel
theorem d_MM_init_247 : decode b_MM_init 247 = .ok (.dup, 1) := by decide +kernel
theorem d_MM_init_248 : decode b_MM_init 248 = .ok (.bipush 9, 2) := by decide +kernel
theorem d_MM_init_250 : decode b_MM_init 250 = .ok (.lconst 0, 1) := by decide +kernel
theorem d_MM_init_251 : decode b_MM_init 251 = .ok (.lastore, 1) := by decide +kernel
theorem d_MM_init_252 : decode b_MM_init 252 = .ok (.dup, 1) := by decide +kernel
theorem d_MM_init_253 : decode b_MM_init 253 = .ok (.bipush 10, 2) := by decide +kernel
theorem d_MM_init_255 : decode b_MM_init 255 = .ok (.ldc2_w 71, 3) := by decide +kernel
theorem d_MM_init_258 : decode b_MM_init 258 = .ok (.lastore, 1) := by decide +kernel
theorem d_MM_init_259 : decode b_MM_init 259 = .ok (.dup, 1) := by decide +kernel
theorem d_MM_init_260 : decode b_MM_init 260 = .ok (.bipush 11, 2) := by decide +kernel
theorem d_MM_init_262 : decode b_MM_init 262 = .ok (.ldc2_w 73, 3) := by decide +kernel
theorem d_MM_init_265 : decode b_MM_init 265 = .ok (.lastore, 1) := by decide +kernel
theorem d_MM_init_266 : decode b_MM_init 266 = .ok (.dup, 1) := by decide +kernel
theorem d_MM_init_267 : decode b_MM_init 267 = .ok (.bipush 12, 2) := by decide +kernel
theorem d_MM_init_269 : decode b_MM_init 269 = .ok (.lconst 0, 1) := by decide +kernel
theorem d_MM_init_270 : decode b_MM_init 270 = .ok (.lastore, 1) := by decide +kernel
theorem d_MM_init_271 : decode b_MM_init 271 = .ok (.dup, 1) := by decide +kernel
theorem d_MM_init_272 : decode b_MM_init 272 = .ok (.bipush 13, 2) := by decide +kernel
theorem d_MM_init_274 : decode b_MM_init 274 = .ok (.lconst 0, 1) := by decide +kernel
theorem d_MM_init_275 : decode b_MM_init 275 = .ok (.lastore, 1) := by decide +kernel
theorem d_MM_init_276 : decode b_MM_init 276 = .ok (.dup, 1) := by decide +kernel
theorem d_MM_init_277 : decode b_MM_init 277 = .ok (.bipush 14, 2) := by decide +kernel
theorem d_MM_init_279 : decode b_MM_init 279 = .ok (.ldc2_w 75, 3) := by decide +kernel
theorem d_MM_init_282 : decode b_MM_init 282 = .ok (.lastore, 1) := by decide +kernel
theorem d_MM_init_283 : decode b_MM_init 283 = .ok (.dup, 1) := by decide +kernel
theorem d_MM_init_284 : decode b_MM_init 284 = .ok (.bipush 15, 2) := by decide +kernel
theorem d_MM_init_286 : decode b_MM_init 286 = .ok (.lconst 0, 1) := by decide +kernel
theorem d_MM_init_287 : decode b_MM_init 287 = .ok (.lastore, 1) := by decide +kernel
theorem d_MM_init_288 : decode b_MM_init 288 = .ok (.dup, 1) := by decide +kernel
theorem d_MM_init_289 : decode b_MM_init 289 = .ok (.bipush 16, 2) := by decide +kernel
theorem d_MM_init_291 : decode b_MM_init 291 = .ok (.lconst 0, 1) := by decide +kernel
theorem d_MM_init_292 : decode b_MM_init 292 = .ok (.lastore, 1) := by decide +kernel
theorem d_MM_init_293 : decode b_MM_init 293 = .ok (.dup, 1) := by decide +kernel
theorem d_MM_init_294 : decode b_MM_init 294 = .ok (.bipush 17, 2) := by decide +kernel
theorem d_MM_init_296 : decode b_MM_init 296 = .ok (.lconst 0, 1) := by decide +kernel
theorem d_MM_init_297 : decode b_MM_init 297 = .ok (.lastore, 1) := by decide +kernel
theorem d_MM_init_298 : decode b_MM_init 298 = .ok (.dup, 1) := by decide +kernel
theorem d_MM_init_299 : decode b_MM_init 299 = .ok (.bipush 18, 2) := by decide +kernel
theorem d_MM_init_301 : decode b_MM_init 301 = .ok (.lconst 0, 1) := by decide +kernel
theorem d_MM_init_302 : decode b_MM_init 302 = .ok (.lastore, 1) := by decide +kernel
theorem d_MM_init_303 : decode b_MM_init 303 = .ok (.dup, 1) := by decide +kernel
theorem d_MM_init_304 : decode b_MM_init 304 = .ok (.bipush 19, 2) := by decide +kernel
theorem d_MM_init_306 : decode b_MM_init 306 = .ok (.lconst 0, 1) := by decide +kernel
theorem d_MM_init_307 : decode b_MM_init 307 = .ok (.lastore, 1) := by decide +kernel
theorem d_MM_init_308 : decode b_MM_init 308 = .ok (.dup, 1) := by decide +kernel
theorem d_MM_init_309 : decode b_MM_init 309 = .ok (.bipush 20, 2) := by decide +kernel
theorem d_MM_init_311 : decode b_MM_init 311 = .ok (.lconst 0, 1) := by decide +kernel
theorem d_MM_init_312 : decode b_MM_init 312 = .ok (.lastore, 1) := by decide +kernel
theorem d_MM_init_313 : decode b_MM_init 313 = .ok (.dup, 1) := by decide +kernel
theorem d_MM_init_314 : decode b_MM_init 314 = .ok (.bipush 21, 2) := by decide +kernel
theorem d_MM_init_316 : decode b_MM_init 316 = .ok (.lconst 0, 1) := by decide +kernel
theorem d_MM_init_317 : decode b_MM_init 317 = .ok (.lastore, 1) := by decide +kernel
theorem d_MM_init_318 : decode b_MM_init 318 = .ok (.dup, 1) := by decide +kernel
theorem d_MM_init_319 : decode b_MM_init 319 = .ok (.bipush 22, 2) := by decide +kernel
theorem d_MM_init_321 : decode b_MM_init 321 = .ok (.lconst 0, 1) := by decide +kernel
theorem d_MM_init_322 : decode b_MM_init 322 = .ok (.lastore, 1) := by decide +kernel
theorem d_MM_init_323 : decode b_MM_init 323 = .ok (.dup, 1) := by decide +kernel
theorem d_MM_init_324 : decode b_MM_init 324 = .ok (.bipush 23, 2) := by decide +kernel
theorem d_MM_init_326 : decode b_MM_init 326 = .ok (.lconst 0, 1) := by decide +kernel
theorem d_MM_init_327 : decode b_MM_init 327 = .ok (.lastore, 1) := by decide +kernel
theorem d_MM_init_328 : decode b_MM_init 328 = .ok (.dup, 1) := by decide +kernel
theorem d_MM_init_329 : decode b_MM_init 329 = .ok (.bipush 24, 2) := by decide +kernel
theorem d_MM_init_331 : decode b_MM_init 331 = .ok (.lconst 0, 1) := by decide +kernel
theorem d_MM_init_332 : decode b_MM_init 332 = .ok (.lastore, 1) := by decide +kernel
theorem d_MM_init_333 : decode b_MM_init 333 = .ok (.dup, 1) := by decide +kernel
theorem d_MM_init_334 : decode b_MM_init 334 = .ok (.bipush 25, 2) := by decide +kernel
theorem d_MM_init_336 : decode b_MM_init 336 = .ok (.lconst 0, 1) := by decide +kernel
theorem d_MM_init_337 : decode b_MM_init 337 = .ok (.lastore, 1) := by decide +kernel
theorem d_MM_init_338 : decode b_MM_init 338 = .ok (.dup, 1) := by decide +kernel
theorem d_MM_init_339 : decode b_MM_init 339 = .ok (.bipush 26, 2) := by decide +kernel
theorem d_MM_init_341 : decode b_MM_init 341 = .ok (.lconst 0, 1) := by decide +kernel
theorem d_MM_init_342 : decode b_MM_init 342 = .ok (.lastore, 1) := by decide +kernel
theorem d_MM_init_343 : decode b_MM_init 343 = .ok (.putfield 77, 3) := by decide +kernel
theorem d_MM_init_346 : decode b_MM_init 346 = .ok (.aload_n 0, 1) := by decide +kernel
theorem d_MM_init_347 : decode b_MM_init 347 = .ok (.bipush 27, 2) := by decide +kernel
theorem d_MM_init_349 : decode b_MM_init 349 = .ok (.newarray .int, 2) := by decide +kernel
theorem d_MM_init_351 : decode b_MM_init 351 = .ok (.dup, 1) := by decide +kernel
theorem d_MM_init_352 : decode b_MM_init 352 = .ok (.iconst 0, 1) := by decide +kernel
theorem d_MM_init_353 : decode b_MM_init 353 = .ok (.iconst 0, 1) := by decide +kernel
theorem d_MM_init_354 : decode b_MM_init 354 = .ok (.iastore, 1) := by decide +kernel
theorem d_MM_init_355 : decode b_MM_init 355 = .ok (.dup, 1) := by decide +kernel
theorem d_MM_init_356 : decode b_MM_init 356 = .ok (.iconst 1, 1) := by decide +kernel
theorem d_MM_init_357 : decode b_MM_init 357 = .ok (.iconst 0, 1) := by decide +kernel
theorem d_MM_init_358 : decode b_MM_init 358 = .ok (.iastore, 1) := by decide +kernel
theorem d_MM_init_359 : decode b_MM_init 359 = .ok (.dup, 1) := by decide +kernel
theorem d_MM_init_360 : decode b_MM_init 360 = .ok (.iconst 2, 1) := by decide +kernel
theorem d_MM_init_361 : decode b_MM_init 361 = .ok (.iconst 0, 1) := by decide +kernel
theorem d_MM_init_362 : decode b_MM_init 362 = .ok (.iastore, 1) := by decide +kernel
theorem d_MM_init_363 : decode b_MM_init 363 = .ok (.dup, 1) := by decide +kernel
theorem d_MM_init_364 : decode b_MM_init 364 = .ok (.iconst 3, 1) := by decide +kernel
theorem d_MM_init_365 : decode b_MM_init 365 = .ok (.iconst 0, 1) := by decide +kernel
theorem d_MM_init_366 : decode b_MM_init 366 = .ok (.iastore, 1) := by decide +kernel
theorem d_MM_init_367 : decode b_MM_init 367 = .ok (.dup, 1) := by decide +kernel
theorem d_MM_init_368 : decode b_MM_init 368 = .ok (.iconst 4, 1) := by decide +kernel
theorem d_MM_init_369 : decode b_MM_init 369 = .ok (.iconst 0, 1) := by decide +kernel
theorem d_MM_init_370 : decode b_MM_init 370 = .ok (.iastore, 1) := by decide +kernel
theorem d_MM_init_371 : decode b_MM_init 371 = .ok (.dup, 1) := by decide +kernel
theorem d_MM_init_372 : decode b_MM_init 372 = .ok (.iconst 5, 1) := by decide +kernel
theorem d_MM_init_373 : decode b_MM_init 373 = .ok (.iconst 1, 1) := by decide +kernel
theorem d_MM_init_374 : decode b_MM_init 374 = .ok (.iastore, 1) := by decide +kernel
theorem d_MM_init_375 : decode b_MM_init 375 = .ok (.dup, 1) := by decide +kernel
theorem d_MM_init_376 : decode b_MM_init 376 = .ok (.bipush 6, 2) := by decide +kernel
theorem d_MM_init_378 : decode b_MM_init 378 = .ok (.iconst 1, 1) := by decide +kernel
theorem d_MM_init_379 : decode b_MM_init 379 = .ok (.iastore, 1) := by decide +kernel
theorem d_MM_init_380 : decode b_MM_init 380 = .ok (.dup, 1) := by decide +kernel
theorem d_MM_init_381 : decode b_MM_init 381 = .ok (.bipush 7, 2) := by decide +kernel
theorem d_MM_init_383 : decode b_MM_init 383 = .ok (.iconst 1, 1) := by decide +kernel
theorem d_MM_init_384 : decode b_MM_init 384 = .ok (.iastore, 1) := by decide +kernel
theorem d_MM_init_385 : decode b_MM_init 385 = .ok (.dup, 1) := by decide +kernel
theorem d_MM_init_386 : decode b_MM_init 386 = .ok (.bipush 8, 2) := by decide +kernel
theorem d_MM_init_388 : decode b_MM_init 388 = .ok (.iconst 1, 1) := by decide +kernel
theorem d_MM_init_389 : decode b_MM_init 389 = .ok (.iastore, 1) := by decide +kernel
theorem d_MM_init_390 : decode b_MM_init 390 = .ok (.dup, 1) := by decide +kernel
theorem d_MM_init_391 : decode b_MM_init 391 = .ok (.bipush 9, 2) := by decide +kernel
theorem d_MM_init_393 : decode b_MM_init 393 = .ok (.iconst 1, 1) := by decide +kernel
theorem d_MM_init_394 : decode b_MM_init 394 = .ok (.iastore, 1) := by decide +kernel
theorem d_MM_init_395 : decode b_MM_init 395 = .ok (.dup, 1) := by decide +kernel
theorem d_MM_init_396 : decode b_MM_init 396 = .ok (.bipush 10, 2) := by decide +kernel
theorem d_MM_init_398 : decode b_MM_init 398 = .ok (.iconst 2, 1) := by decide +kernel
theorem d_MM_init_399 : decode b_MM_init 399 = .ok (.iastore, 1) := by decide +kernel
theorem d_MM_init_400 : decode b_MM_init 400 = .ok (.dup, 1) := by decide +kernel
theorem d_MM_init_401 : decode b_MM_init 401 = .ok (.bipush 11, 2) := by decide +kernel
theorem d_MM_init_403 : decode b_MM_init 403 = .ok (.iconst 2, 1) := by decide +kernel
theorem d_MM_init_404 : decode b_MM_init 404 = .ok (.iastore, 1) := by decide +kernel
theorem d_MM_init_405 : decode b_MM_init 405 = .ok (.dup, 1) := by decide +kernel
theorem d_MM_init_406 : decode b_MM_init 406 = .ok (.bipush 12, 2) := by decide +kernel
theorem d_MM_init_408 : decode b_MM_init 408 = .ok (.iconst 2, 1) := by decide +kernel
theorem d_MM_init_409 : decode b_MM_init 409 = .ok (.iastore, 1) := by decide +kernel
theorem d_MM_init_410 : decode b_MM_init 410 = .ok (.dup, 1) := by decide +kernel
theorem d_MM_init_411 : decode b_MM_init 411 = .ok (.bipush 13, 2) := by decide +kernel
theorem d_MM_init_413 : decode b_MM_init 413 = .ok (.iconst 2, 1) := by decide +kernel
theorem d_MM_init_414 : decode b_MM_init 414 = .ok (.iastore, 1) := by decide +kernel
theorem d_MM_init_415 : decode b_MM_init 415 = .ok (.dup, 1) := by decide +kernel
theorem d_MM_init_416 : decode b_MM_init 416 = .ok (.bipush 14, 2) := by decide +kernel
theorem d_MM_init_418 : decode b_MM_init 418 = .ok (.iconst 3, 1) := by decide +kernel
theorem d_MM_init_419 : decode b_MM_init 419 = .ok (.iastore, 1) := by decide +kernel
theorem d_MM_init_420 : decode b_MM_init 420 = .ok (.dup, 1) := by decide +kernel
theorem d_MM_init_421 : decode b_MM_init 421 = .ok (.bipush 15, 2) := by decide +kernel
theorem d_MM_init_423 : decode b_MM_init 423 = .ok (.iconst 3, 1) := by decide +kernel
theorem d_MM_init_424 : decode b_MM_init 424 = .ok (.iastore, 1) := by decide +kernel
theorem d_MM_init_425 : decode b_MM_init 425 = .ok (.dup, 1) := by decide +kernel
theorem d_MM_init_426 : decode b_MM_init 426 = .ok (.bipush 16, 2) := by decide +kernel
theorem d_MM_init_428 : decode b_MM_init 428 = .ok (.iconst 3, 1) := by decide +kernel
theorem d_MM_init_429 : decode b_MM_init 429 = .ok (.iastore, 1) := by decide +kernel
theorem d_MM_init_430 : decode b_MM_init 430 = .ok (.dup, 1) := by decide +kernel
theorem d_MM_init_431 : decode b_MM_init 431 = .ok (.bipush 17, 2) := by decide +kernel
theorem d_MM_init_433 : decode b_MM_init 433 = .ok (.iconst 4, 1) := by decide +kernel
theorem d_MM_init_434 : decode b_MM_init 434 = .ok (.iastore, 1) := by decide +kernel
theorem d_MM_init_435 : decode b_MM_init 435 = .ok (.dup, 1) := by decide +kernel
theorem d_MM_init_436 : decode b_MM_init 436 = .ok (.bipush 18, 2) := by decide +kernel
theorem d_MM_init_438 : decode b_MM_init 438 = .ok (.iconst 4, 1) := by decide +kernel
theorem d_MM_init_439 : decode b_MM_init 439 = .ok (.iastore, 1) := by decide +kernel
theorem d_MM_init_440 : decode b_MM_init 440 = .ok (.dup, 1) := by decide +kernel
theorem d_MM_init_441 : decode b_MM_init 441 = .ok (.bipush 19, 2) := by decide +kernel
theorem d_MM_init_443 : decode b_MM_init 443 = .ok (.iconst 5, 1) := by decide +kernel
theorem d_MM_init_444 : decode b_MM_init 444 = .ok (.iastore, 1) := by decide +kernel
theorem d_MM_init_445 : decode b_MM_init 445 = .ok (.dup, 1) := by decide +kernel
theorem d_MM_init_446 : decode b_MM_init 446 = .ok (.bipush 20, 2) := by decide +kernel
theorem d_MM_init_448 : decode b_MM_init 448 = .ok (.iconst 5, 1) := by decide +kernel
theorem d_MM_init_449 : decode b_MM_init 449 = .ok (.iastore, 1) := by decide +kernel
theorem d_MM_init_450 : decode b_MM_init 450 = .ok (.dup, 1) := by decide +kernel
theorem d_MM_init_451 : decode b_MM_init 451 = .ok (.bipush 21, 2) := by decide +kernel
theorem d_MM_init_453 : decode b_MM_init 453 = .ok (.bipush 6, 2) := by decide +kernel
theorem d_MM_init_455 : decode b_MM_init 455 = .ok (.iastore, 1) := by decide +kernel
theorem d_MM_init_456 : decode b_MM_init 456 = .ok (.dup, 1) := by decide +kernel
theorem d_MM_init_457 : decode b_MM_init 457 = .ok (.bipush 22, 2) := by decide +kernel
theorem d_MM_init_459 : decode b_MM_init 459 = .ok (.bipush 7, 2) := by decide +kernel
theorem d_MM_init_461 : decode b_MM_init 461 = .ok (.iastore, 1) := by decide +kernel
theorem d_MM_init_462 : decode b_MM_init 462 = .ok (.dup, 1) := by decide +kernel
theorem d_MM_init_463 : decode b_MM_init 463 = .ok (.bipush 23, 2) := by decide +kernel
theorem d_MM_init_465 : decode b_MM_init 465 = .ok (.bipush 8, 2) := by decide +kernel
theorem d_MM_init_467 : decode b_MM_init 467 = .ok (.iastore, 1) := by decide +kernel
theorem d_MM_init_468 : decode b_MM_init 468 = .ok (.dup, 1) := by decide +kernel
theorem d_MM_init_469 : decode b_MM_init 469 = .ok (.bipush 24, 2) := by decide +kernel
theorem d_MM_init_471 : decode b_MM_init 471 = .ok (.bipush 8, 2) := by decide +kernel
theorem d_MM_init_473 : decode b_MM_init 473 = .ok (.iastore, 1) := by decide +kernel
theorem d_MM_init_474 : decode b_MM_init 474 = .ok (.dup, 1) := by decide +kernel
theorem d_MM_init_475 : decode b_MM_init 475 = .ok (.bipush 25, 2) := by decide +kernel
theorem d_MM_init_477 : decode b_MM_init 477 = .ok (.bipush 9, 2) := by decide +kernel
theorem d_MM_init_479 : decode b_MM_init 479 = .ok (.iastore, 1) := by decide +kernel
theorem d_MM_init_480 : decode b_MM_init 480 = .ok (.dup, 1) := by decide +kernel
theorem d_MM_init_481 : decode b_MM_init 481 = .ok (.bipush 26, 2) := by decide +kernel
theorem d_MM_init_483 : decode b_MM_init 483 = .ok (.bipush 9, 2) := by decide +kernel
theorem d_MM_init_485 : decode b_MM_init 485 = .ok (.iastore, 1) := by decide +kernel
theorem d_MM_init_486 : decode b_MM_init 486 = .ok (.putfield 80, 3) := by decide +kernel
theorem d_MM_init_489 : decode b_MM_init 489 = .ok (.aload_n 0, 1) := by decide +kernel
theorem d_MM_init_490 : decode b_MM_init 490 = .ok (.bipush 32, 2) := by decide +kernel
theorem d_MM_init_492 : decode b_MM_init 492 = .ok (.newarray .int, 2) := by decide +kernel
theorem d_MM_init_494 : decode b_MM_init 494 = .ok (.dup, 1) := by decide +kernel
theorem d_MM_init_495 : decode b_MM_init 495 = .ok (.iconst 0, 1) := by decide +kernel
theorem d_MM_init_496 : decode b_MM_init 496 = .ok (.sipush 8364, 3) := by decide +kernel
theorem d_MM_init_499 : decode b_MM_init 499 = .ok (.iastore, 1) := by decide +kernel
theorem d_MM_init_500 : decode b_MM_init 500 = .ok (.dup, 1) := by decide +kernel
theorem d_MM_init_501 : decode b_MM_init 501 = .ok (.iconst 1, 1) := by decide +kernel
theorem d_MM_init_502 : decode b_MM_init 502 = .ok (.ldc 84, 2) := by decide +kernel
theorem d_MM_init_504 : decode b_MM_init 504 = .ok (.iastore, 1) := by decide +kernel
theorem d_MM_init_505 : decode b_MM_init 505 = .ok (.dup, 1) := by decide +kernel
theorem d_MM_init_506 : decode b_MM_init 506 = .ok (.iconst 2, 1) := by decide +kernel
theorem d_MM_init_507 : decode b_MM_init 507 = .ok (.sipush 8218, 3) := by decide +kernel
theorem d_MM_init_510 : decode b_MM_init 510 = .ok (.iastore, 1) := by decide +kernel
theorem d_MM_init_511 : decode b_MM_init 511 = .ok (.dup, 1) := by decide +kernel
theorem d_MM_init_512 : decode b_MM_init 512 = .ok (.iconst 3, 1) := by decide +kernel
theorem d_MM_init_513 : decode b_MM_init 513 = .ok (.sipush 402, 3) := by decide +kernel
theorem d_MM_init_516 : decode b_MM_init 516 = .ok (.iastore, 1) := by decide +kernel
theorem d_MM_init_517 : decode b_MM_init 517 = .ok (.dup, 1) := by decide +kernel
theorem d_MM_init_518 : decode b_MM_init 518 = .ok (.iconst 4, 1) := by decide +kernel
theorem d_MM_init_519 : decode b_MM_init 519 = .ok (.sipush 8222, 3) := by decide +kernel
theorem d_MM_init_522 : decode b_MM_init 522 = .ok (.iastore, 1) := by decide +kernel
theorem d_MM_init_523 : decode b_MM_init 523 = .ok (.dup, 1) := by decide +kernel
theorem d_MM_init_524 : decode b_MM_init 524 = .ok (.iconst 5, 1) := by decide +kernel
theorem d_MM_init_525 : decode b_MM_init 525 = .ok (.sipush 8230, 3) := by decide +kernel
theorem d_MM_init_528 : decode b_MM_init 528 = .ok (.iastore, 1) := by decide +kernel
theorem d_MM_init_529 : decode b_MM_init 529 = .ok (.dup, 1) := by decide +kernel
theorem d_MM_init_530 : decode b_MM_init 530 = .ok (.bipush 6, 2) := by decide +kernel
theorem d_MM_init_532 : decode b_MM_init 532 = .ok (.sipush 8224, 3) := by decide +kernel
theorem d_MM_init_535 : decode b_MM_init 535 = .ok (.iastore, 1) := by decide +kernel
theorem d_MM_init_536 : decode b_MM_init 536 = .ok (.dup, 1) := by decide +kernel
theorem d_MM_init_537 : decode b_MM_init 537 = .ok (.bipush 7, 2) := by decide +kernel
theorem d_MM_init_539 : decode b_MM_init 539 = .ok (.sipush 8225, 3) := by decide +kernel
theorem d_MM_init_542 : decode b_MM_init 542 = .ok (.iastore, 1) := by decide +kernel
theorem d_MM_init_543 : decode b_MM_init 543 = .ok (.dup, 1) := by decide +kernel
theorem d_MM_init_544 : decode b_MM_init 544 = .ok (.bipush 8, 2) := by decide +kernel
theorem d_MM_init_546 : decode b_MM_init 546 = .ok (.sipush 710, 3) := by decide +kernel
theorem d_MM_init_549 : decode b_MM_init 549 = .ok (.iastore, 1) := by decide +kernel
theorem d_MM_init_550 : decode b_MM_init 550 = .ok (.dup, 1) := by decide +kernel
theorem d_MM_init_551 : decode b_MM_init 551 = .ok (.bipush 9, 2) := by decide +kernel
theorem d_MM_init_553 : decode b_MM_init 553 = .ok (.sipush 8240, 3) := by decide +kernel
theorem d_MM_init_556 : decode b_MM_init 556 = .ok (.iastore, 1) := by decide +kernel
theorem d_MM_init_557 : decode b_MM_init 557 = .ok (.dup, 1) := by decide +kernel
theorem d_MM_init_558 : decode b_MM_init 558 = .ok (.bipush 10, 2) := by decide +kernel
theorem d_MM_init_560 : decode b_MM_init 560 = .ok (.sipush 352, 3) := by decide +kernel
theorem d_MM_init_563 : decode b_MM_init 563 = .ok (.iastore, 1) := by decide +kernel
theorem d_MM_init_564 : decode b_MM_init 564 = .ok (.dup, 1) := by decide +kernel
theorem d_MM_init_565 : decode b_MM_init 565 = .ok (.bipush 11, 2) := by decide +kernel
theorem d_MM_init_567 : decode b_MM_init 567 = .ok (.sipush 8249, 3) := by decide +kernel
theorem d_MM_init_570 : decode b_MM_init 570 = .ok (.iastore, 1) := by decide +kernel
theorem d_MM_init_571 : decode b_MM_init 571 = .ok (.dup, 1) := by decide +kernel
theorem d_MM_init_572 : decode b_MM_init 572 = .ok (.bipush 12, 2) := by decide +kernel
theorem d_MM_init_574 : decode b_MM_init 574 = .ok (.sipush 338, 3) := by decide +kernel
theorem d_MM_init_577 : decode b_MM_init 577 = .ok (.iastore, 1) := by decide +kernel
theorem d_MM_init_578 : decode b_MM_init 578 = .ok (.dup, 1) := by decide +kernel
theorem d_MM_init_579 : decode b_MM_init 579 = .ok (.bipush 13, 2) := by decide +kernel
theorem d_MM_init_581 : decode b_MM_init 581 = .ok (.ldc 84, 2) := by decide +kernel
theorem d_MM_init_583 : decode b_MM_init 583 = .ok (.iastore, 1) := by decide +kernel
theorem d_MM_init_584 : decode b_MM_init 584 = .ok (.dup, 1) := by decide +kernel
theorem d_MM_init_585 : decode b_MM_init 585 = .ok (.bipush 14, 2) := by decide +kernel
theorem d_MM_init_587 : decode b_MM_init 587 = .ok (.sipush 381, 3) := by decide +kernel
theorem d_MM_init_590 : decode b_MM_init 590 = .ok (.iastore, 1) := by decide +kernel
theorem d_MM_init_591 : decode b_MM_init 591 = .ok (.dup, 1) := by decide +kernel
theorem d_MM_init_592 : decode b_MM_init 592 = .ok (.bipush 15, 2) := by decide +kernel
theorem d_MM_init_594 : decode b_MM_init 594 = .ok (.ldc 84, 2) := by decide +kernel
theorem d_MM_init_596 : decode b_MM_init 596 = .ok (.iastore, 1) := by decide +kernel
theorem d_MM_init_597 : decode b_MM_init 597 = .ok (.dup, 1) := by decide +kernel
theorem d_MM_init_598 : decode b_MM_init 598 = .ok (.bipush 16, 2) := by decide +kernel
theorem d_MM_init_600 : decode b_MM_init 600 = .ok (.ldc 84, 2) := by decide +kernel
theorem d_MM_init_602 : decode b_MM_init 602 = .ok (.iastore, 1) := by decide +kernel
theorem d_MM_init_603 : decode b_MM_init 603 = .ok (.dup, 1) := by decide +kernel
theorem d_MM_init_604 : decode b_MM_init 604 = .ok (.bipush 17, 2) := by decide +kernel
theorem d_MM_init_606 : decode b_MM_init 606 = .ok (.sipush 8216, 3) := by decide +kernel
theorem d_MM_init_609 : decode b_MM_init 609 = .ok (.iastore, 1) := by decide +kernel
theorem d_MM_init_610 : decode b_MM_init 610 = .ok (.dup, 1) := by decide +kernel
theorem d_MM_init_611 : decode b_MM_init 611 = .ok (.bipush 18, 2) := by decide +kernel
theorem d_MM_init_613 : decode b_MM_init 613 = .ok (.sipush 8217, 3) := by decide +kernel
theorem d_MM_init_616 : decode b_MM_init 616 = .ok (.iastore, 1) := by decide +kernel
theorem d_MM_init_617 : decode b_MM_init 617 = .ok (.dup, 1) := by decide +kernel
theorem d_MM_init_618 : decode b_MM_init 618 = .ok (.bipush 19, 2) := by decide +kernel
theorem d_MM_init_620 : decode b_MM_init 620 = .ok (.sipush 8220, 3) := by decide +kernel
theorem d_MM_init_623 : decode b_MM_init 623 = .ok (.iastore, 1) := by decide +kernel
theorem d_MM_init_624 : decode b_MM_init 624 = .ok (.dup, 1) := by decide +kernel
theorem d_MM_init_625 : decode b_MM_init 625 = .ok (.bipush 20, 2) := by decide +kernel
theorem d_MM_init_627 : decode b_MM_init 627 = .ok (.sipush 8221, 3) := by decide +kernel
theorem d_MM_init_630 : decode b_MM_init 630 = .ok (.iastore, 1) := by decide +kernel
theorem d_MM_init_631 : decode b_MM_init 631 = .ok (.dup, 1) := by decide +kernel
theorem d_MM_init_632 : decode b_MM_init 632 = .ok (.bipush 21, 2) := by decide +kernel
theorem d_MM_init_634 : decode b_MM_init 634 = .ok (.sipush 8226, 3) := by decide +kernel
theorem d_MM_init_637 : decode b_MM_init 637 = .ok (.iastore, 1) := by decide +kernel
theorem d_MM_init_638 : decode b_MM_init 638 = .ok (.dup, 1) := by decide +kernel
theorem d_MM_init_639 : decode b_MM_init 639 = .ok (.bipush 22, 2) := by decide +kernel
theorem d_MM_init_641 : decode b_MM_init 641 = .ok (.sipush 8211, 3) := by decide +kernel
theorem d_MM_init_644 : decode b_MM_init 644 = .ok (.iastore, 1) := by decide +kernel
theorem d_MM_init_645 : decode b_MM_init 645 = .ok (.dup, 1) := by decide +kernel
theorem d_MM_init_646 : decode b_MM_init 646 = .ok (.bipush 23, 2) := by decide +kernel
theorem d_MM_init_648 : decode b_MM_init 648 = .ok (.sipush 8212, 3) := by decide +kernel
theorem d_MM_init_651 : decode b_MM_init 651 = .ok (.iastore, 1) := by decide +kernel
theorem d_MM_init_652 : decode b_MM_init 652 = .ok (.dup, 1) := by decide +kernel
theorem d_MM_init_653 : decode b_MM_init 653 = .ok (.bipush 24, 2) := by decide +kernel
theorem d_MM_init_655 : decode b_MM_init 655 = .ok (.sipush 732, 3) := by decide +kernel
theorem d_MM_init_658 : decode b_MM_init 658 = .ok (.iastore, 1) := by decide +kernel
theorem d_MM_init_659 : decode b_MM_init 659 = .ok (.dup, 1) := by decide +kernel
theorem d_MM_init_660 : decode b_MM_init 660 = .ok (.bipush 25, 2) := by decide +kernel
theorem d_MM_init_662 : decode b_MM_init 662 = .ok (.sipush 8482, 3) := by decide +kernel
theorem d_MM_init_665 : decode b_MM_init 665 = .ok (.iastore, 1) := by decide +kernel
theorem d_MM_init_666 : decode b_MM_init 666 = .ok (.dup, 1) := by decide +kernel
theorem d_MM_init_667 : decode b_MM_init 667 = .ok (.bipush 26, 2) := by decide +kernel
theorem d_MM_init_669 : decode b_MM_init 669 = .ok (.sipush 353, 3) := by decide +kernel
theorem d_MM_init_672 : decode b_MM_init 672 = .ok (.iastore, 1) := by decide +kernel
theorem d_MM_init_673 : decode b_MM_init 673 = .ok (.dup, 1) := by decide +kernel
theorem d_MM_init_674 : decode b_MM_init 674 = .ok (.bipush 27, 2) := by decide +kernel
theorem d_MM_init_676 : decode b_MM_init 676 = .ok (.sipush 8250, 3) := by decide +kernel
theorem d_MM_init_679 : decode b_MM_init 679 = .ok (.iastore, 1) := by decide +kernel
theorem d_MM_init_680 : decode b_MM_init 680 = .ok (.dup, 1) := by decide +kernel
theorem d_MM_init_681 : decode b_MM_init 681 = .ok (.bipush 28, 2) := by decide +kernel
theorem d_MM_init_683 : decode b_MM_init 683 = .ok (.sipush 339, 3) := by decide +kernel
theorem d_MM_init_686 : decode b_MM_init 686 = .ok (.iastore, 1) := by decide +kernel
theorem d_MM_init_687 : decode b_MM_init 687 = .ok (.dup, 1) := by decide +kernel
theorem d_MM_init_688 : decode b_MM_init 688 = .ok (.bipush 29, 2) := by decide +kernel
theorem d_MM_init_690 : decode b_MM_init 690 = .ok (.ldc 84, 2) := by decide +kernel
theorem d_MM_init_692 : decode b_MM_init 692 = .ok (.iastore, 1) := by decide +kernel
theorem d_MM_init_693 : decode b_MM_init 693 = .ok (.dup, 1) := by decide +kernel
theorem d_MM_init_694 : decode b_MM_init 694 = .ok (.bipush 30, 2) := by decide +kernel
theorem d_MM_init_696 : decode b_MM_init 696 = .ok (.sipush 382, 3) := by decide +kernel
theorem d_MM_init_699 : decode b_MM_init 699 = .ok (.iastore, 1) := by decide +kernel
theorem d_MM_init_700 : decode b_MM_init 700 = .ok (.dup, 1) := by decide +kernel
theorem d_MM_init_701 : decode b_MM_init 701 = .ok (.bipush 31, 2) := by decide +kernel
theorem d_MM_init_703 : decode b_MM_init 703 = .ok (.sipush 376, 3) := by decide +kernel
theorem d_MM_init_706 : decode b_MM_init 706 = .ok (.iastore, 1) := by decide +kernel
theorem d_MM_init_707 : decode b_MM_init 707 = .ok (.putfield 85, 3) := by decide +kernel
theorem d_MM_init_710 : decode b_MM_init 710 = .ok (.aload_n 0, 1) := by decide +kernel
theorem d_MM_init_711 : decode b_MM_init 711 = .ok (.bipush 32, 2) := by decide +kernel
theorem d_MM_init_713 : decode b_MM_init 713 = .ok (.newarray .int, 2) := by decide +kernel
theorem d_MM_init_715 : decode b_MM_init 715 = .ok (.dup, 1) := by decide +kernel
theorem d_MM_init_716 : decode b_MM_init 716 = .ok (.iconst 0, 1) := by decide +kernel
theorem d_MM_init_717 : decode b_MM_init 717 = .ok (.sipush 1102, 3) := by decide +kernel
theorem d_MM_init_720 : decode b_MM_init 720 = .ok (.iastore, 1) := by decide +kernel
theorem d_MM_init_721 : decode b_MM_init 721 = .ok (.dup, 1) := by decide +kernel
theorem d_MM_init_722 : decode b_MM_init 722 = .ok (.iconst 1, 1) := by decide +kernel
theorem d_MM_init_723 : decode b_MM_init 723 = .ok (.sipush 1072, 3) := by decide +kernel
theorem d_MM_init_726 : decode b_MM_init 726 = .ok (.iastore, 1) := by decide +kernel
theorem d_MM_init_727 : decode b_MM_init 727 = .ok (.dup, 1) := by decide +kernel
theorem d_MM_init_728 : decode b_MM_init 728 = .ok (.iconst 2, 1) := by decide +kernel
theorem d_MM_init_729 : decode b_MM_init 729 = .ok (.sipush 1073, 3) := by decide +kernel
theorem d_MM_init_732 : decode b_MM_init 732 = .ok (.iastore, 1) := by decide +kernel
theorem d_MM_init_733 : decode b_MM_init 733 = .ok (.dup, 1) := by decide +kernel
theorem d_MM_init_734 : decode b_MM_init 734 = .ok (.iconst 3, 1) := by decide +kernel
theorem d_MM_init_735 : decode b_MM_init 735 = .ok (.sipush 1094, 3) := by decide +kernel
theorem d_MM_init_738 : decode b_MM_init 738 = .ok (.iastore, 1) := by decide +kernel
theorem d_MM_init_739 : decode b_MM_init 739 = .ok (.dup, 1) := by decide +kernel
theorem d_MM_init_740 : decode b_MM_init 740 = .ok (.iconst 4, 1) := by decide +kernel
theorem d_MM_init_741 : decode b_MM_init 741 = .ok (.sipush 1076, 3) := by decide +kernel
theorem d_MM_init_744 : decode b_MM_init 744 = .ok (.iastore, 1) := by decide +kernel
theorem d_MM_init_745 : decode b_MM_init 745 = .ok (.dup, 1) := by decide +kernel
theorem d_MM_init_746 : decode b_MM_init 746 = .ok (.iconst 5, 1) := by decide +kernel
theorem d_MM_init_747 : decode b_MM_init 747 = .ok (.sipush 1077, 3) := by decide +kernel
theorem d_MM_init_750 : decode b_MM_init 750 = .ok (.iastore, 1) := by decide +kernel
theorem d_MM_init_751 : decode b_MM_init 751 = .ok (.dup, 1) := by decide +kernel
theorem d_MM_init_752 : decode b_MM_init 752 = .ok (.bipush 6, 2) := by decide +kernel
theorem d_MM_init_754 : decode b_MM_init 754 = .ok (.sipush 1092, 3) := by decide +kernel
theorem d_MM_init_757 : decode b_MM_init 757 = .ok (.iastore, 1) := by decide +kernel
theorem d_MM_init_758 : decode b_MM_init 758 = .ok (.dup, 1) := by decide +kernel
theorem d_MM_init_759 : decode b_MM_init 759 = .ok (.bipush 7, 2) := by decide +kernel
theorem d_MM_init_761 : decode b_MM_init 761 = .ok (.sipush 1075, 3) := by decide +kernel
theorem d_MM_init_764 : decode b_MM_init 764 = .ok (.iastore, 1) := by decide +kernel
theorem d_MM_init_765 : decode b_MM_init 765 = .ok (.dup, 1) := by decide +kernel
theorem d_MM_init_766 : decode b_MM_init 766 = .ok (.bipush 8, 2) := by decide +kernel
theorem d_MM_init_768 : decode b_MM_init 768 = .ok (.sipush 1093, 3) := by decide +kernel
theorem d_MM_init_771 : decode b_MM_init 771 = .ok (.iastore, 1) := by decide +kernel
theorem d_MM_init_772 : decode b_MM_init 772 = .ok (.dup, 1) := by decide +kernel
theorem d_MM_init_773 : decode b_MM_init 773 = .ok (.bipush 9, 2) := by decide +kernel
theorem d_MM_init_775 : decode b_MM_init 775 = .ok (.sipush 1080, 3) := by decide +kernel
theorem d_MM_init_778 : decode b_MM_init 778 = .ok (.iastore, 1) := by decide +kernel
theorem d_MM_init_779 : decode b_MM_init 779 = .ok (.dup, 1) := by decide +kernel
theorem d_MM_init_780 : decode b_MM_init 780 = .ok (.bipush 10, 2) := by decide +kernel
theorem d_MM_init_782 : decode b_MM_init 782 = .ok (.sipush 1081, 3) := by decide +kernel
theorem d_MM_init_785 : decode b_MM_init 785 = .ok (.iastore, 1) := by decide +kernel
theorem d_MM_init_786 : decode b_MM_init 786 = .ok (.dup, 1) := by decide +kernel
theorem d_MM_init_787 : decode b_MM_init 787 = .ok (.bipush 11, 2) := by decide +kernel
theorem d_MM_init_789 : decode b_MM_init 789 = .ok (.sipush 1082, 3) := by decide +kernel
theorem d_MM_init_792 : decode b_MM_init 792 = .ok (.iastore, 1) := by decide +kernel
theorem d_MM_init_793 : decode b_MM_init 793 = .ok (.dup, 1) := by decide +kernel
theorem d_MM_init_794 : decode b_MM_init 794 = .ok (.bipush 12, 2) := by decide +kernel
theorem d_MM_init_796 : decode b_MM_init 796 = .ok (.sipush 1083, 3) := by decide +kernel
theorem d_MM_init_799 : decode b_MM_init 799 = .ok (.iastore, 1) := by decide +kernel
theorem d_MM_init_800 : decode b_MM_init 800 = .ok (.dup, 1) := by decide +kernel
theorem d_MM_init_801 : decode b_MM_init 801 = .ok (.bipush 13, 2) := by decide +kernel
theorem d_MM_init_803 : decode b_MM_init 803 = .ok (.sipush 1084, 3) := by decide +kernel
theorem d_MM_init_806 : decode b_MM_init 806 = .ok (.iastore, 1) := by decide +kernel
theorem d_MM_init_807 : decode b_MM_init 807 = .ok (.dup, 1) := by decide +kernel
theorem d_MM_init_808 : decode b_MM_init 808 = .ok (.bipush 14, 2) := by decide +kernel
theorem d_MM_init_810 : decode b_MM_init 810 = .ok (.sipush 1085, 3) := by decide +kernel
theorem d_MM_init_813 : decode b_MM_init 813 = .ok (.iastore, 1) := by decide +kernel
theorem d_MM_init_814 : decode b_MM_init 814 = .ok (.dup, 1) := by decide +kernel
theorem d_MM_init_815 : decode b_MM_init 815 = .ok (.bipush 15, 2) := by decide +kernel
theorem d_MM_init_817 : decode b_MM_init 817 = .ok (.sipush 1086, 3) := by decide +kernel
theorem d_MM_init_820 : decode b_MM_init 820 = .ok (.iastore, 1) := by decide +kernel
theorem d_MM_init_821 : decode b_MM_init 821 = .ok (.dup, 1) := by decide +kernel
theorem d_MM_init_822 : decode b_MM_init 822 = .ok (.bipush 16, 2) := by decide +kernel
theorem d_MM_init_824 : decode b_MM_init 824 = .ok (.sipush 1087, 3) := by decide +kernel
theorem d_MM_init_827 : decode b_MM_init 827 = .ok (.iastore, 1) := by decide +kernel
theorem d_MM_init_828 : decode b_MM_init 828 = .ok (.dup, 1) := by decide +kernel
theorem d_MM_init_829 : decode b_MM_init 829 = .ok (.bipush 17, 2) := by decide +kernel
theorem d_MM_init_831 : decode b_MM_init 831 = .ok (.sipush 1103, 3) := by decide +kernel
theorem d_MM_init_834 : decode b_MM_init 834 = .ok (.iastore, 1) := by decide +kernel
theorem d_MM_init_835 : decode b_MM_init 835 = .ok (.dup, 1) := by decide +kernel
theorem d_MM_init_836 : decode b_MM_init 836 = .ok (.bipush 18, 2) := by decide +kernel
theorem d_MM_init_838 : decode b_MM_init 838 = .ok (.sipush 1088, 3) := by decide +kernel
theorem d_MM_init_841 : decode b_MM_init 841 = .ok (.iastore, 1) := by decide +kernel
theorem d_MM_init_842 : decode b_MM_init 842 = .ok (.dup, 1) := by decide +kernel
theorem d_MM_init_843 : decode b_MM_init 843 = .ok (.bipush 19, 2) := by decide +kernel
theorem d_MM_init_845 : decode b_MM_init 845 = .ok (.sipush 1089, 3) := by decide +kernel
theorem d_MM_init_848 : decode b_MM_init 848 = .ok (.iastore, 1) := by decide +kernel
theorem d_MM_init_849 : decode b_MM_init 849 = .ok (.dup, 1) := by decide +kernel
theorem d_MM_init_850 : decode b_MM_init 850 = .ok (.bipush 20, 2) := by decide +kernel
theorem d_MM_init_852 : decode b_MM_init 852 = .ok (.sipush 1090, 3) := by decide +kernel
theorem d_MM_init_855 : decode b_MM_init 855 = .ok (.iastore, 1) := by decide +kernel
theorem d_MM_init_856 : decode b_MM_init 856 = .ok (.dup, 1) := by decide +kernel
theorem d_MM_init_857 : decode b_MM_init 857 = .ok (.bipush 21, 2) := by decide +kernel
theorem d_MM_init_859 : decode b_MM_init 859 = .ok (.sipush 1091, 3) := by decide +kernel
theorem d_MM_init_862 : decode b_MM_init 862 = .ok (.iastore, 1) := by decide +kernel
theorem d_MM_init_863 : decode b_MM_init 863 = .ok (.dup, 1) := by decide +kernel
theorem d_MM_init_864 : decode b_MM_init 864 = .ok (.bipush 22, 2) := by decide +kernel
theorem d_MM_init_866 : decode b_MM_init 866 = .ok (.sipush 1078, 3) := by decide +kernel
theorem d_MM_init_869 : decode b_MM_init 869 = .ok (.iastore, 1) := by decide +kernel
theorem d_MM_init_870 : decode b_MM_init 870 = .ok (.dup, 1) := by decide +kernel
theorem d_MM_init_871 : decode b_MM_init 871 = .ok (.bipush 23, 2) := by decide +kernel
theorem d_MM_init_873 : decode b_MM_init 873 = .ok (.sipush 1074, 3) := by decide +kernel
theorem d_MM_init_876 : decode b_MM_init 876 = .ok (.iastore, 1) := by decide +kernel
theorem d_MM_init_877 : decode b_MM_init 877 = .ok (.dup, 1) := by decide +kernel
theorem d_MM_init_878 : decode b_MM_init 878 = .ok (.bipush 24, 2) := by decide +kernel
theorem d_MM_init_880 : decode b_MM_init 880 = .ok (.sipush 1100, 3) := by decide +kernel
theorem d_MM_init_883 : decode b_MM_init 883 = .ok (.iastore, 1) := by decide +kernel
theorem d_MM_init_884 : decode b_MM_init 884 = .ok (.dup, 1) := by decide +kernel
theorem d_MM_init_885 : decode b_MM_init 885 = .ok (.bipush 25, 2) := by decide +kernel
theorem d_MM_init_887 : decode b_MM_init 887 = .ok (.sipush 1099, 3) := by decide +kernel
theorem d_MM_init_890 : decode b_MM_init 890 = .ok (.iastore, 1) := by decide +kernel
theorem d_MM_init_891 : decode b_MM_init 891 = .ok (.dup, 1) := by decide +kernel
theorem d_MM_init_892 : decode b_MM_init 892 = .ok (.bipush 26, 2) := by decide +kernel
theorem d_MM_init_894 : decode b_MM_init 894 = .ok (.sipush 1079, 3) := by decide +kernel
theorem d_MM_init_897 : decode b_MM_init 897 = .ok (.iastore, 1) := by decide +kernel
theorem d_MM_init_898 : decode b_MM_init 898 = .ok (.dup, 1) := by decide +kernel
theorem d_MM_init_899 : decode b_MM_init 899 = .ok (.bipush 27, 2) := by decide +kernel
theorem d_MM_init_901 : decode b_MM_init 901 = .ok (.sipush 1096, 3) := by decide +kernel
theorem d_MM_init_904 : decode b_MM_init 904 = .ok (.iastore, 1) := by decide +kernel
theorem d_MM_init_905 : decode b_MM_init 905 = .ok (.dup, 1) := by decide +kernel
theorem d_MM_init_906 : decode b_MM_init 906 = .ok (.bipush 28, 2) := by decide +kernel
theorem d_MM_init_908 : decode b_MM_init 908 = .ok (.sipush 1101, 3) := by decide +kernel
theorem d_MM_init_911 : decode b_MM_init 911 = .ok (.iastore, 1) := by decide +kernel
theorem d_MM_init_912 : decode b_MM_init 912 = .ok (.dup, 1) := by decide +kernel
theorem d_MM_init_913 : decode b_MM_init 913 = .ok (.bipush 29, 2) := by decide +kernel
theorem d_MM_init_915 : decode b_MM_init 915 = .ok (.sipush 1097, 3) := by decide +kernel
theorem d_MM_init_918 : decode b_MM_init 918 = .ok (.iastore, 1) := by decide +kernel
theorem d_MM_init_919 : decode b_MM_init 919 = .ok (.dup, 1) := by decide +kernel
theorem d_MM_init_920 : decode b_MM_init 920 = .ok (.bipush 30, 2) := by decide +kernel
theorem d_MM_init_922 : decode b_MM_init 922 = .ok (.sipush 1095, 3) := by decide +kernel
theorem d_MM_init_925 : decode b_MM_init 925 = .ok (.iastore, 1) := by decide +kernel
theorem d_MM_init_926 : decode b_MM_init 926 = .ok (.dup, 1) := by decide +kernel
theorem d_MM_init_927 : decode b_MM_init 927 = .ok (.bipush 31, 2) := by decide +kernel
theorem d_MM_init_929 : decode b_MM_init 929 = .ok (.sipush 1098, 3) := by decide +kernel
theorem d_MM_init_932 : decode b_MM_init 932 = .ok (.iastore, 1) := by decide +kernel
theorem d_MM_init_933 : decode b_MM_init 933 = .ok (.putfield 88, 3) := by decide +kernel
theorem d_MM_init_936 : decode b_MM_init 936 = .ok (.aload_n 0, 1) := by decide +kernel
theorem d_MM_init_937 : decode b_MM_init 937 = .ok (.bipush 20, 2) := by decide +kernel
theorem d_MM_init_939 : decode b_MM_init 939 = .ok (.newarray .byte, 2) := by decide +kernel
theorem d_MM_init_941 : decode b_MM_init 941 = .ok (.putfield 91, 3) := by decide +kernel
theorem d_MM_init_944 : decode b_MM_init 944 = .ok (.aload_n 0, 1) := by decide +kernel
theorem d_MM_init_945 : decode b_MM_init 945 = .ok (.sipush 1500, 3) := by decide +kernel
theorem d_MM_init_948 : decode b_MM_init 948 = .ok (.newarray .byte, 2) := by decide +kernel
theorem d_MM_init_950 : decode b_MM_init 950 = .ok (.putfield 95, 3) := by decide +kernel
theorem d_MM_init_953 : decode b_MM_init 953 = .ok (.aload_n 0, 1) := by decide +kernel
theorem d_MM_init_954 : decode b_MM_init 954 = .ok (.sipush 3000, 3) := by decide +kernel
theorem d_MM_init_957 : decode b_MM_init 957 = .ok (.newarray .int, 2) := by decide +kernel
theorem d_MM_init_959 : decode b_MM_init 959 = .ok (.putfield 98, 3) := by decide +kernel
theorem d_MM_init_962 : decode b_MM_init 962 = .ok (.aload_n 0, 1) := by decide +kernel
theorem d_MM_init_963 : decode b_MM_init 963 = .ok (.sipush 6000, 3) := by decide +kernel
theorem d_MM_init_966 : decode b_MM_init 966 = .ok (.newarray .byte, 2) := by decide +kernel
theorem d_MM_init_968 : decode b_MM_init 968 = .ok (.putfield 101, 3) := by decide +kernel
theorem d_MM_init_971 : decode b_MM_init 971 = .ok (.aload_n 0, 1) := by decide +kernel
theorem d_MM_init_972 : decode b_MM_init 972 = .ok (.sipush 1500, 3) := by decide +kernel
theorem d_MM_init_975 : decode b_MM_init 975 = .ok (.newarray .byte, 2) := by decide +kernel
theorem d_MM_init_977 : decode b_MM_init 977 = .ok (.putfield 104, 3) := by decide +kernel
theorem d_MM_init_980 : decode b_MM_init 980 = .ok (.return_, 1) := by decide +kernel
