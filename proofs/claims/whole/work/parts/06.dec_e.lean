theorem dX12_perform_31 : decode cX12_perform 31 = .ok (.aload_n 0, 1) := by decide +kernel
theorem dX12_perform_32 : decode cX12_perform 32 = .ok (.invokevirtual 327, 3) := by decide +kernel
theorem dX12_perform_35 : decode cX12_perform 35 = .ok (.iload_n 3, 1) := by decide +kernel
theorem dX12_perform_36 : decode cX12_perform 36 = .ok (.ireturn, 1) := by decide +kernel
theorem dX12_draw_0 : decode cX12_draw 0 = .ok (.aload_n 0, 1) := by decide +kernel
theorem dX12_draw_1 : decode cX12_draw 1 = .ok (.ldc_w 362, 3) := by decide +kernel
theorem dX12_draw_4 : decode cX12_draw 4 = .ok (.aload_n 0, 1) := by decide +kernel
theorem dX12_draw_5 : decode cX12_draw 5 = .ok (.getfield 363, 3) := by decide +kernel
theorem dX12_draw_8 : decode cX12_draw 8 = .ok (.imul, 1) := by decide +kernel
theorem dX12_draw_9 : decode cX12_draw 9 = .ok (.sipush 12345, 3) := by decide +kernel
theorem dX12_draw_12 : decode cX12_draw 12 = .ok (.iadd, 1) := by decide +kernel
theorem dX12_draw_13 : decode cX12_draw 13 = .ok (.putfield 363, 3) := by decide +kernel
theorem dX12_draw_16 : decode cX12_draw 16 = .ok (.aload_n 0, 1) := by decide +kernel
theorem dX12_draw_17 : decode cX12_draw 17 = .ok (.getfield 363, 3) := by decide +kernel
theorem dX12_draw_20 : decode cX12_draw 20 = .ok (.bipush 16, 2) := by decide +kernel
theorem dX12_draw_22 : decode cX12_draw 22 = .ok (.iushr, 1) := by decide +kernel
theorem dX12_draw_23 : decode cX12_draw 23 = .ok (.iload_n 1, 1) := by decide +kernel
theorem dX12_draw_24 : decode cX12_draw 24 = .ok (.irem, 1) := by decide +kernel
theorem dX12_draw_25 : decode cX12_draw 25 = .ok (.ireturn, 1) := by decide +kernel
theorem dX12_drawn_0 : decode cX12_drawn 0 = .ok (.aload_n 0, 1) := by decide +kernel
theorem dX12_drawn_1 : decode cX12_drawn 1 = .ok (.iconst 5, 1) := by decide +kernel
theorem dX12_drawn_2 : decode cX12_drawn 2 = .ok (.invokevirtual 366, 3) := by decide +kernel
theorem dX12_drawn_5 : decode cX12_drawn 5 = .ok (.istore_n 1, 1) := by decide +kernel
theorem dX12_drawn_6 : decode cX12_drawn 6 = .ok (.iload_n 1, 1) := by decide +kernel
theorem dX12_drawn_7 : decode cX12_drawn 7 = .ok (.iconst 2, 1) := by decide +kernel
theorem dX12_drawn_8 : decode cX12_drawn 8 = .ok (.if_icmp .ge 7, 3) := by decide +kernel
theorem dX12_drawn_11 : decode cX12_drawn 11 = .ok (.iconst 0, 1) := by decide +kernel
theorem dX12_drawn_12 : decode cX12_drawn 12 = .ok (.goto 25, 3) := by decide +kernel
theorem dX12_drawn_15 : decode cX12_drawn 15 = .ok (.iload_n 1, 1) := by decide +kernel
theorem dX12_drawn_16 : decode cX12_drawn 16 = .ok (.iconst 4, 1) := by decide +kernel
theorem dX12_drawn_17 : decode cX12_drawn 17 = .ok (.if_icmp .ge 11, 3) := by decide +kernel
theorem dX12_drawn_20 : decode cX12_drawn 20 = .ok (.aload_n 0, 1) := by decide +kernel
theorem dX12_drawn_21 : decode cX12_drawn 21 = .ok (.iconst 4, 1) := by decide +kernel
theorem dX12_drawn_22 : decode cX12_drawn 22 = .ok (.invokevirtual 366, 3) := by decide +kernel
theorem dX12_drawn_25 : decode cX12_drawn 25 = .ok (.goto 12, 3) := by decide +kernel
theorem dX12_drawn_28 : decode cX12_drawn 28 = .ok (.bipush 10, 2) := by decide +kernel
theorem dX12_drawn_30 : decode cX12_drawn 30 = .ok (.aload_n 0, 1) := by decide +kernel
theorem dX12_drawn_31 : decode cX12_drawn 31 = .ok (.bipush 10, 2) := by decide +kernel
theorem dX12_drawn_33 : decode cX12_drawn 33 = .ok (.invokevirtual 366, 3) := by decide +kernel
theorem dX12_drawn_36 : decode cX12_drawn 36 = .ok (.iadd, 1) := by decide +kernel
theorem dX12_drawn_37 : decode cX12_drawn 37 = .ok (.ireturn, 1) := by decide +kernel
theorem dX12_year_0 : decode cX12_year 0 = .ok (.aload_n 0, 1) := by decide +kernel
theorem dX12_year_1 : decode cX12_year 1 = .ok (.iconst 0, 1) := by decide +kernel
theorem dX12_year_2 : decode cX12_year 2 = .ok (.putfield 1, 3) := by decide +kernel
theorem dX12_year_5 : decode cX12_year 5 = .ok (.iload_n 2, 1) := by decide +kernel
theorem dX12_year_6 : decode cX12_year 6 = .ok (.i2l, 1) := by decide +kernel
theorem dX12_year_7 : decode cX12_year 7 = .ok (.lconst 1, 1) := by decide +kernel
theorem dX12_year_8 : decode cX12_year 8 = .ok (.ldc2_w 369, 3) := by decide +kernel
theorem dX12_year_11 : decode cX12_year 11 = .ok (.invokestatic 169, 3) := by decide +kernel
theorem dX12_year_14 : decode cX12_year 14 = .ok (.ifCond .ne 6, 3) := by decide +kernel
theorem dX12_year_17 : decode cX12_year 17 = .ok (.bipush (-3), 2) := by decide +kernel
theorem dX12_year_19 : decode cX12_year 19 = .ok (.ireturn, 1) := by decide +kernel
theorem dX12_year_20 : decode cX12_year 20 = .ok (.aload_n 0, 1) := by decide +kernel
theorem dX12_year_21 : decode cX12_year 21 = .ok (.invokevirtual 321, 3) := by decide +kernel
theorem dX12_year_24 : decode cX12_year 24 = .ok (.aload_n 0, 1) := by decide +kernel
theorem dX12_year_25 : decode cX12_year 25 = .ok (.iload_n 1, 1) := by decide +kernel
theorem dX12_year_26 : decode cX12_year 26 = .ok (.putfield 363, 3) := by decide +kernel
theorem dX12_year_29 : decode cX12_year 29 = .ok (.iconst 0, 1) := by decide +kernel
theorem dX12_year_30 : decode cX12_year 30 = .ok (.istore_n 3, 1) := by decide +kernel
theorem dX12_year_31 : decode cX12_year 31 = .ok (.iconst 0, 1) := by decide +kernel
theorem dX12_year_32 : decode cX12_year 32 = .ok (.istore 4, 2) := by decide +kernel
theorem dX12_year_34 : decode cX12_year 34 = .ok (.iload 4, 2) := by decide +kernel
theorem dX12_year_36 : decode cX12_year 36 = .ok (.iload_n 2, 1) := by decide +kernel
theorem dX12_year_37 : decode cX12_year 37 = .ok (.if_icmp .ge 37, 3) := by decide +kernel
theorem dX12_year_40 : decode cX12_year 40 = .ok (.aload_n 0, 1) := by decide +kernel
theorem dX12_year_41 : decode cX12_year 41 = .ok (.invokevirtual 371, 3) := by decide +kernel
theorem dX12_year_44 : decode cX12_year 44 = .ok (.istore 5, 2) := by decide +kernel
theorem dX12_year_46 : decode cX12_year 46 = .ok (.aload_n 0, 1) := by decide +kernel
theorem dX12_year_47 : decode cX12_year 47 = .ok (.iload 5, 2) := by decide +kernel
theorem dX12_year_49 : decode cX12_year 49 = .ok (.i2l, 1) := by decide +kernel
theorem dX12_year_50 : decode cX12_year 50 = .ok (.invokevirtual 341, 3) := by decide +kernel
theorem dX12_year_53 : decode cX12_year 53 = .ok (.ifCond .eq 6, 3) := by decide +kernel
theorem dX12_year_56 : decode cX12_year 56 = .ok (.goto 12, 3) := by decide +kernel
theorem dX12_year_59 : decode cX12_year 59 = .ok (.aload_n 0, 1) := by decide +kernel
theorem dX12_year_60 : decode cX12_year 60 = .ok (.iload 5, 2) := by decide +kernel
theorem dX12_year_62 : decode cX12_year 62 = .ok (.invokevirtual 344, 3) := by decide +kernel
theorem dX12_year_65 : decode cX12_year 65 = .ok (.iinc 3 1, 3) := by decide +kernel
theorem dX12_year_68 : decode cX12_year 68 = .ok (.iinc 4 1, 3) := by decide +kernel
theorem dX12_year_71 : decode cX12_year 71 = .ok (.goto (-37), 3) := by decide +kernel
theorem dX12_year_74 : decode cX12_year 74 = .ok (.iload_n 3, 1) := by decide +kernel
theorem dX12_year_75 : decode cX12_year 75 = .ok (.ifCond .le 7, 3) := by decide +kernel
theorem dX12_year_78 : decode cX12_year 78 = .ok (.aload_n 0, 1) := by decide +kernel
theorem dX12_year_79 : decode cX12_year 79 = .ok (.invokevirtual 327, 3) := by decide +kernel
theorem dX12_year_82 : decode cX12_year 82 = .ok (.iload_n 3, 1) := by decide +kernel
theorem dX12_year_83 : decode cX12_year 83 = .ok (.ireturn, 1) := by decide +kernel
theorem dX12_noWord_0 : decode cX12_noWord 0 = .ok (.aload_n 0, 1) := by decide +kernel
theorem dX12_noWord_1 : decode cX12_noWord 1 = .ok (.iload_n 1, 1) := by decide +kernel
theorem dX12_noWord_2 : decode cX12_noWord 2 = .ok (.invokevirtual 347, 3) := by decide +kernel
theorem dX12_noWord_5 : decode cX12_noWord 5 = .ok (.istore_n 2, 1) := by decide +kernel
theorem dX12_noWord_6 : decode cX12_noWord 6 = .ok (.iload_n 2, 1) := by decide +kernel
theorem dX12_noWord_7 : decode cX12_noWord 7 = .ok (.ifCond .eq 5, 3) := by decide +kernel
theorem dX12_noWord_10 : decode cX12_noWord 10 = .ok (.iload_n 2, 1) := by decide +kernel
theorem dX12_noWord_11 : decode cX12_noWord 11 = .ok (.ireturn, 1) := by decide +kernel
theorem dX12_noWord_12 : decode cX12_noWord 12 = .ok (.aload_n 0, 1) := by decide +kernel
theorem dX12_noWord_13 : decode cX12_noWord 13 = .ok (.getfield 97, 3) := by decide +kernel
theorem dX12_noWord_16 : decode cX12_noWord 16 = .ok (.iload_n 1, 1) := by decide +kernel
theorem dX12_noWord_17 : decode cX12_noWord 17 = .ok (.iaload, 1) := by decide +kernel
theorem dX12_noWord_18 : decode cX12_noWord 18 = .ok (.i2l, 1) := by decide +kernel
theorem dX12_noWord_19 : decode cX12_noWord 19 = .ok (.lconst 1, 1) := by decide +kernel
theorem dX12_noWord_20 : decode cX12_noWord 20 = .ok (.ldc2_w 374, 3) := by decide +kernel
theorem dX12_noWord_23 : decode cX12_noWord 23 = .ok (.invokestatic 169, 3) := by decide +kernel
theorem dX12_noWord_26 : decode cX12_noWord 26 = .ok (.ifCond .ne 6, 3) := by decide +kernel
theorem dX12_noWord_29 : decode cX12_noWord 29 = .ok (.bipush (-4), 2) := by decide +kernel
theorem dX12_noWord_31 : decode cX12_noWord 31 = .ok (.ireturn, 1) := by decide +kernel
theorem dX12_noWord_32 : decode cX12_noWord 32 = .ok (.iconst 0, 1) := by decide +kernel
theorem dX12_noWord_33 : decode cX12_noWord 33 = .ok (.istore_n 3, 1) := by decide +kernel
theorem dX12_noWord_34 : decode cX12_noWord 34 = .ok (.iload_n 3, 1) := by decide +kernel
theorem dX12_noWord_35 : decode cX12_noWord 35 = .ok (.aload_n 0, 1) := by decide +kernel
theorem dX12_noWord_36 : decode cX12_noWord 36 = .ok (.getfield 97, 3) := by decide +kernel
theorem dX12_noWord_39 : decode cX12_noWord 39 = .ok (.iload_n 1, 1) := by decide +kernel
theorem dX12_noWord_40 : decode cX12_noWord 40 = .ok (.iaload, 1) := by decide +kernel
theorem dX12_noWord_41 : decode cX12_noWord 41 = .ok (.if_icmp .ge 29, 3) := by decide +kernel
theorem dX12_noWord_44 : decode cX12_noWord 44 = .ok (.aload_n 0, 1) := by decide +kernel
theorem dX12_noWord_45 : decode cX12_noWord 45 = .ok (.getfield 100, 3) := by decide +kernel
theorem dX12_noWord_48 : decode cX12_noWord 48 = .ok (.bipush 40, 2) := by decide +kernel
theorem dX12_noWord_50 : decode cX12_noWord 50 = .ok (.iload_n 1, 1) := by decide +kernel
theorem dX12_noWord_51 : decode cX12_noWord 51 = .ok (.imul, 1) := by decide +kernel
theorem dX12_noWord_52 : decode cX12_noWord 52 = .ok (.iload_n 3, 1) := by decide +kernel
theorem dX12_noWord_53 : decode cX12_noWord 53 = .ok (.iadd, 1) := by decide +kernel
theorem dX12_noWord_54 : decode cX12_noWord 54 = .ok (.laload, 1) := by decide +kernel
theorem dX12_noWord_55 : decode cX12_noWord 55 = .ok (.invokestatic 293, 3) := by decide +kernel
theorem dX12_noWord_58 : decode cX12_noWord 58 = .ok (.ifCond .ne 6, 3) := by decide +kernel
theorem dX12_noWord_61 : decode cX12_noWord 61 = .ok (.bipush (-3), 2) := by decide +kernel
theorem dX12_noWord_63 : decode cX12_noWord 63 = .ok (.ireturn, 1) := by decide +kernel
theorem dX12_noWord_64 : decode cX12_noWord 64 = .ok (.iinc 3 1, 3) := by decide +kernel
theorem dX12_noWord_67 : decode cX12_noWord 67 = .ok (.goto (-33), 3) := by decide +kernel
theorem dX12_noWord_70 : decode cX12_noWord 70 = .ok (.iconst 0, 1) := by decide +kernel
theorem dX12_noWord_71 : decode cX12_noWord 71 = .ok (.ireturn, 1) := by decide +kernel
theorem dX12_laysSpelling_0 : decode cX12_laysSpelling 0 = .ok (.aload_n 0, 1) := by decide +kernel
theorem dX12_laysSpelling_1 : decode cX12_laysSpelling 1 = .ok (.aload_n 0, 1) := by decide +kernel
theorem dX12_laysSpelling_2 : decode cX12_laysSpelling 2 = .ok (.getfield 97, 3) := by decide +kernel
theorem dX12_laysSpelling_5 : decode cX12_laysSpelling 5 = .ok (.iload_n 1, 1) := by decide +kernel
theorem dX12_laysSpelling_6 : decode cX12_laysSpelling 6 = .ok (.iaload, 1) := by decide +kernel
theorem dX12_laysSpelling_7 : decode cX12_laysSpelling 7 = .ok (.putfield 376, 3) := by decide +kernel
theorem dX12_laysSpelling_10 : decode cX12_laysSpelling 10 = .ok (.iconst 0, 1) := by decide +kernel
theorem dX12_laysSpelling_11 : decode cX12_laysSpelling 11 = .ok (.istore_n 2, 1) := by decide +kernel
theorem dX12_laysSpelling_12 : decode cX12_laysSpelling 12 = .ok (.iload_n 2, 1) := by decide +kernel
theorem dX12_laysSpelling_13 : decode cX12_laysSpelling 13 = .ok (.aload_n 0, 1) := by decide +kernel
theorem dX12_laysSpelling_14 : decode cX12_laysSpelling 14 = .ok (.getfield 376, 3) := by decide +kernel
theorem dX12_laysSpelling_17 : decode cX12_laysSpelling 17 = .ok (.if_icmp .ge 27, 3) := by decide +kernel
theorem dX12_laysSpelling_20 : decode cX12_laysSpelling 20 = .ok (.aload_n 0, 1) := by decide +kernel
theorem dX12_laysSpelling_21 : decode cX12_laysSpelling 21 = .ok (.getfield 55, 3) := by decide +kernel
theorem dX12_laysSpelling_24 : decode cX12_laysSpelling 24 = .ok (.iload_n 2, 1) := by decide +kernel
theorem dX12_laysSpelling_25 : decode cX12_laysSpelling 25 = .ok (.aload_n 0, 1) := by decide +kernel
theorem dX12_laysSpelling_26 : decode cX12_laysSpelling 26 = .ok (.getfield 100, 3) := by decide +kernel
theorem dX12_laysSpelling_29 : decode cX12_laysSpelling 29 = .ok (.bipush 40, 2) := by decide +kernel
theorem dX12_laysSpelling_31 : decode cX12_laysSpelling 31 = .ok (.iload_n 1, 1) := by decide +kernel
theorem dX12_laysSpelling_32 : decode cX12_laysSpelling 32 = .ok (.imul, 1) := by decide +kernel
theorem dX12_laysSpelling_33 : decode cX12_laysSpelling 33 = .ok (.iload_n 2, 1) := by decide +kernel
theorem dX12_laysSpelling_34 : decode cX12_laysSpelling 34 = .ok (.iadd, 1) := by decide +kernel
theorem dX12_laysSpelling_35 : decode cX12_laysSpelling 35 = .ok (.laload, 1) := by decide +kernel
theorem dX12_laysSpelling_36 : decode cX12_laysSpelling 36 = .ok (.l2i, 1) := by decide +kernel
theorem dX12_laysSpelling_37 : decode cX12_laysSpelling 37 = .ok (.iastore, 1) := by decide +kernel
theorem dX12_laysSpelling_38 : decode cX12_laysSpelling 38 = .ok (.iinc 2 1, 3) := by decide +kernel
theorem dX12_laysSpelling_41 : decode cX12_laysSpelling 41 = .ok (.goto (-29), 3) := by decide +kernel
theorem dX12_laysSpelling_44 : decode cX12_laysSpelling 44 = .ok (.return_, 1) := by decide +kernel
theorem dX12_isRead_0 : decode cX12_isRead 0 = .ok (.iload_n 1, 1) := by decide +kernel
theorem dX12_isRead_1 : decode cX12_isRead 1 = .ok (.iload_n 2, 1) := by decide +kernel
theorem dX12_isRead_2 : decode cX12_isRead 2 = .ok (.iconst 1, 1) := by decide +kernel
theorem dX12_isRead_3 : decode cX12_isRead 3 = .ok (.iadd, 1) := by decide +kernel
theorem dX12_isRead_4 : decode cX12_isRead 4 = .ok (.if_icmp .gt 15, 3) := by decide +kernel
theorem dX12_isRead_7 : decode cX12_isRead 7 = .ok (.aload_n 0, 1) := by decide +kernel
theorem dX12_isRead_8 : decode cX12_isRead 8 = .ok (.getfield 55, 3) := by decide +kernel
theorem dX12_isRead_11 : decode cX12_isRead 11 = .ok (.iload_n 1, 1) := by decide +kernel
theorem dX12_isRead_12 : decode cX12_isRead 12 = .ok (.iconst 1, 1) := by decide +kernel
theorem dX12_isRead_13 : decode cX12_isRead 13 = .ok (.isub, 1) := by decide +kernel
theorem dX12_isRead_14 : decode cX12_isRead 14 = .ok (.iaload, 1) := by decide +kernel
theorem dX12_isRead_15 : decode cX12_isRead 15 = .ok (.iload_n 3, 1) := by decide +kernel
theorem dX12_isRead_16 : decode cX12_isRead 16 = .ok (.if_icmp .eq 5, 3) := by decide +kernel
theorem dX12_isRead_19 : decode cX12_isRead 19 = .ok (.iconst 0, 1) := by decide +kernel
theorem dX12_isRead_20 : decode cX12_isRead 20 = .ok (.ireturn, 1) := by decide +kernel
theorem dX12_isRead_21 : decode cX12_isRead 21 = .ok (.iconst 0, 1) := by decide +kernel
theorem dX12_isRead_22 : decode cX12_isRead 22 = .ok (.istore 4, 2) := by decide +kernel
theorem dX12_isRead_24 : decode cX12_isRead 24 = .ok (.iload 4, 2) := by decide +kernel
theorem dX12_isRead_26 : decode cX12_isRead 26 = .ok (.iload_n 1, 1) := by decide +kernel
theorem dX12_isRead_27 : decode cX12_isRead 27 = .ok (.iconst 1, 1) := by decide +kernel
theorem dX12_isRead_28 : decode cX12_isRead 28 = .ok (.isub, 1) := by decide +kernel
theorem dX12_isRead_29 : decode cX12_isRead 29 = .ok (.if_icmp .ge 34, 3) := by decide +kernel
theorem dX12_isRead_32 : decode cX12_isRead 32 = .ok (.aload_n 0, 1) := by decide +kernel
theorem dX12_isRead_33 : decode cX12_isRead 33 = .ok (.getfield 55, 3) := by decide +kernel
theorem dX12_isRead_36 : decode cX12_isRead 36 = .ok (.iload 4, 2) := by decide +kernel
theorem dX12_isRead_38 : decode cX12_isRead 38 = .ok (.iaload, 1) := by decide +kernel
theorem dX12_isRead_39 : decode cX12_isRead 39 = .ok (.aload_n 0, 1) := by decide +kernel
theorem dX12_isRead_40 : decode cX12_isRead 40 = .ok (.getfield 55, 3) := by decide +kernel
theorem dX12_isRead_43 : decode cX12_isRead 43 = .ok (.iload_n 2, 1) := by decide +kernel
theorem dX12_isRead_44 : decode cX12_isRead 44 = .ok (.iload_n 1, 1) := by decide +kernel
theorem dX12_isRead_45 : decode cX12_isRead 45 = .ok (.isub, 1) := by decide +kernel
theorem dX12_isRead_46 : decode cX12_isRead 46 = .ok (.iconst 1, 1) := by decide +kernel
theorem dX12_isRead_47 : decode cX12_isRead 47 = .ok (.iadd, 1) := by decide +kernel
theorem dX12_isRead_48 : decode cX12_isRead 48 = .ok (.iload 4, 2) := by decide +kernel
theorem dX12_isRead_50 : decode cX12_isRead 50 = .ok (.iadd, 1) := by decide +kernel
theorem dX12_isRead_51 : decode cX12_isRead 51 = .ok (.iaload, 1) := by decide +kernel
theorem dX12_isRead_52 : decode cX12_isRead 52 = .ok (.if_icmp .eq 5, 3) := by decide +kernel
theorem dX12_isRead_55 : decode cX12_isRead 55 = .ok (.iconst 0, 1) := by decide +kernel
theorem dX12_isRead_56 : decode cX12_isRead 56 = .ok (.ireturn, 1) := by decide +kernel
theorem dX12_isRead_57 : decode cX12_isRead 57 = .ok (.iinc 4 1, 3) := by decide +kernel
theorem dX12_isRead_60 : decode cX12_isRead 60 = .ok (.goto (-36), 3) := by decide +kernel
theorem dX12_isRead_63 : decode cX12_isRead 63 = .ok (.iconst 1, 1) := by decide +kernel
theorem dX12_isRead_64 : decode cX12_isRead 64 = .ok (.ireturn, 1) := by decide +kernel
theorem dX12_laysHits_0 : decode cX12_laysHits 0 = .ok (.iconst 0, 1) := by decide +kernel
theorem dX12_laysHits_1 : decode cX12_laysHits 1 = .ok (.istore_n 1, 1) := by decide +kernel
theorem dX12_laysHits_2 : decode cX12_laysHits 2 = .ok (.iload_n 1, 1) := by decide +kernel
theorem dX12_laysHits_3 : decode cX12_laysHits 3 = .ok (.bipush 6, 2) := by decide +kernel
theorem dX12_laysHits_5 : decode cX12_laysHits 5 = .ok (.if_icmp .ge 135, 3) := by decide +kernel
theorem dX12_laysHits_8 : decode cX12_laysHits 8 = .ok (.iconst 0, 1) := by decide +kernel
theorem dX12_laysHits_9 : decode cX12_laysHits 9 = .ok (.istore_n 2, 1) := by decide +kernel
theorem dX12_laysHits_10 : decode cX12_laysHits 10 = .ok (.iload_n 2, 1) := by decide +kernel
theorem dX12_laysHits_11 : decode cX12_laysHits 11 = .ok (.aload_n 0, 1) := by decide +kernel
theorem dX12_laysHits_12 : decode cX12_laysHits 12 = .ok (.getfield 376, 3) := by decide +kernel
theorem dX12_laysHits_15 : decode cX12_laysHits 15 = .ok (.if_icmp .ge 119, 3) := by decide +kernel
theorem dX12_laysHits_18 : decode cX12_laysHits 18 = .ok (.bipush 6, 2) := by decide +kernel
theorem dX12_laysHits_20 : decode cX12_laysHits 20 = .ok (.bipush 6, 2) := by decide +kernel
theorem dX12_laysHits_22 : decode cX12_laysHits 22 = .ok (.aload_n 0, 1) := by decide +kernel
theorem dX12_laysHits_23 : decode cX12_laysHits 23 = .ok (.getfield 13, 3) := by decide +kernel
theorem dX12_laysHits_26 : decode cX12_laysHits 26 = .ok (.bipush 113, 2) := by decide +kernel
theorem dX12_laysHits_28 : decode cX12_laysHits 28 = .ok (.iaload, 1) := by decide +kernel
theorem dX12_laysHits_29 : decode cX12_laysHits 29 = .ok (.imul, 1) := by decide +kernel
theorem dX12_laysHits_30 : decode cX12_laysHits 30 = .ok (.iload_n 1, 1) := by decide +kernel
theorem dX12_laysHits_31 : decode cX12_laysHits 31 = .ok (.iadd, 1) := by decide +kernel
theorem dX12_laysHits_32 : decode cX12_laysHits 32 = .ok (.imul, 1) := by decide +kernel
theorem dX12_laysHits_33 : decode cX12_laysHits 33 = .ok (.iload_n 2, 1) := by decide +kernel
theorem dX12_laysHits_34 : decode cX12_laysHits 34 = .ok (.iadd, 1) := by decide +kernel
theorem dX12_laysHits_35 : decode cX12_laysHits 35 = .ok (.istore_n 3, 1) := by decide +kernel
theorem dX12_laysHits_36 : decode cX12_laysHits 36 = .ok (.iload_n 2, 1) := by decide +kernel
theorem dX12_laysHits_37 : decode cX12_laysHits 37 = .ok (.aload_n 0, 1) := by decide +kernel
theorem dX12_laysHits_38 : decode cX12_laysHits 38 = .ok (.getfield 376, 3) := by decide +kernel
theorem dX12_laysHits_41 : decode cX12_laysHits 41 = .ok (.iconst 1, 1) := by decide +kernel
theorem dX12_laysHits_42 : decode cX12_laysHits 42 = .ok (.isub, 1) := by decide +kernel
theorem dX12_laysHits_43 : decode cX12_laysHits 43 = .ok (.if_icmp .ne 17, 3) := by decide +kernel
theorem dX12_laysHits_46 : decode cX12_laysHits 46 = .ok (.aload_n 0, 1) := by decide +kernel
theorem dX12_laysHits_47 : decode cX12_laysHits 47 = .ok (.getfield 55, 3) := by decide +kernel
theorem dX12_laysHits_50 : decode cX12_laysHits 50 = .ok (.iload_n 2, 1) := by decide +kernel
theorem dX12_laysHits_51 : decode cX12_laysHits 51 = .ok (.iaload, 1) := by decide +kernel
theorem dX12_laysHits_52 : decode cX12_laysHits 52 = .ok (.iload_n 1, 1) := by decide +kernel
theorem dX12_laysHits_53 : decode cX12_laysHits 53 = .ok (.if_icmp .ne 7, 3) := by decide +kernel
theorem dX12_laysHits_56 : decode cX12_laysHits 56 = .ok (.iconst 1, 1) := by decide +kernel
theorem dX12_laysHits_57 : decode cX12_laysHits 57 = .ok (.goto 4, 3) := by decide +kernel
theorem dX12_laysHits_60 : decode cX12_laysHits 60 = .ok (.iconst 0, 1) := by decide +kernel
theorem dX12_laysHits_61 : decode cX12_laysHits 61 = .ok (.istore 4, 2) := by decide +kernel
theorem dX12_laysHits_63 : decode cX12_laysHits 63 = .ok (.iload 4, 2) := by decide +kernel
theorem dX12_laysHits_65 : decode cX12_laysHits 65 = .ok (.ifCond .eq 12, 3) := by decide +kernel
theorem dX12_laysHits_68 : decode cX12_laysHits 68 = .ok (.aload_n 0, 1) := by decide +kernel
theorem dX12_laysHits_69 : decode cX12_laysHits 69 = .ok (.getfield 376, 3) := by decide +kernel
theorem dX12_laysHits_72 : decode cX12_laysHits 72 = .ok (.iconst 1, 1) := by decide +kernel
theorem dX12_laysHits_73 : decode cX12_laysHits 73 = .ok (.isub, 1) := by decide +kernel
theorem dX12_laysHits_74 : decode cX12_laysHits 74 = .ok (.goto 6, 3) := by decide +kernel
theorem dX12_laysHits_77 : decode cX12_laysHits 77 = .ok (.iload_n 2, 1) := by decide +kernel
theorem dX12_laysHits_78 : decode cX12_laysHits 78 = .ok (.iconst 1, 1) := by decide +kernel
theorem dX12_laysHits_79 : decode cX12_laysHits 79 = .ok (.iadd, 1) := by decide +kernel
theorem dX12_laysHits_80 : decode cX12_laysHits 80 = .ok (.istore 5, 2) := by decide +kernel
theorem dX12_laysHits_82 : decode cX12_laysHits 82 = .ok (.iload 5, 2) := by decide +kernel
theorem dX12_laysHits_84 : decode cX12_laysHits 84 = .ok (.ifCond .le 20, 3) := by decide +kernel
theorem dX12_laysHits_87 : decode cX12_laysHits 87 = .ok (.aload_n 0, 1) := by decide +kernel
theorem dX12_laysHits_88 : decode cX12_laysHits 88 = .ok (.iload 5, 2) := by decide +kernel
theorem dX12_laysHits_90 : decode cX12_laysHits 90 = .ok (.iload_n 2, 1) := by decide +kernel
theorem dX12_laysHits_91 : decode cX12_laysHits 91 = .ok (.iload_n 1, 1) := by decide +kernel
theorem dX12_laysHits_92 : decode cX12_laysHits 92 = .ok (.invokevirtual 379, 3) := by decide +kernel
theorem dX12_laysHits_95 : decode cX12_laysHits 95 = .ok (.ifCond .ne 9, 3) := by decide +kernel
theorem dX12_laysHits_98 : decode cX12_laysHits 98 = .ok (.iinc 5 (-1), 3) := by decide +kernel
theorem dX12_laysHits_101 : decode cX12_laysHits 101 = .ok (.goto (-19), 3) := by decide +kernel
theorem dX12_laysHits_104 : decode cX12_laysHits 104 = .ok (.aload_n 0, 1) := by decide +kernel
theorem dX12_laysHits_105 : decode cX12_laysHits 105 = .ok (.getfield 52, 3) := by decide +kernel
theorem dX12_laysHits_108 : decode cX12_laysHits 108 = .ok (.iload_n 3, 1) := by decide +kernel
theorem dX12_laysHits_109 : decode cX12_laysHits 109 = .ok (.iload 5, 2) := by decide +kernel
theorem dX12_laysHits_111 : decode cX12_laysHits 111 = .ok (.iastore, 1) := by decide +kernel
theorem dX12_laysHits_112 : decode cX12_laysHits 112 = .ok (.aload_n 0, 1) := by decide +kernel
theorem dX12_laysHits_113 : decode cX12_laysHits 113 = .ok (.getfield 58, 3) := by decide +kernel
theorem dX12_laysHits_116 : decode cX12_laysHits 116 = .ok (.iload_n 3, 1) := by decide +kernel
theorem dX12_laysHits_117 : decode cX12_laysHits 117 = .ok (.iload 4, 2) := by decide +kernel
theorem dX12_laysHits_119 : decode cX12_laysHits 119 = .ok (.ifCond .eq 7, 3) := by decide +kernel
theorem dX12_laysHits_122 : decode cX12_laysHits 122 = .ok (.lconst 1, 1) := by decide +kernel
theorem dX12_laysHits_123 : decode cX12_laysHits 123 = .ok (.goto 4, 3) := by decide +kernel
theorem dX12_laysHits_126 : decode cX12_laysHits 126 = .ok (.lconst 0, 1) := by decide +kernel
theorem dX12_laysHits_127 : decode cX12_laysHits 127 = .ok (.lastore, 1) := by decide +kernel
theorem dX12_laysHits_128 : decode cX12_laysHits 128 = .ok (.iinc 2 1, 3) := by decide +kernel
theorem dX12_laysHits_131 : decode cX12_laysHits 131 = .ok (.goto (-121), 3) := by decide +kernel
theorem dX12_laysHits_134 : decode cX12_laysHits 134 = .ok (.iinc 1 1, 3) := by decide +kernel
theorem dX12_laysHits_137 : decode cX12_laysHits 137 = .ok (.goto (-135), 3) := by decide +kernel
theorem dX12_laysHits_140 : decode cX12_laysHits 140 = .ok (.aload_n 0, 1) := by decide +kernel
theorem dX12_laysHits_141 : decode cX12_laysHits 141 = .ok (.getfield 13, 3) := by decide +kernel
theorem dX12_laysHits_144 : decode cX12_laysHits 144 = .ok (.bipush 113, 2) := by decide +kernel
theorem dX12_laysHits_146 : decode cX12_laysHits 146 = .ok (.iaload, 1) := by decide +kernel
theorem dX12_laysHits_147 : decode cX12_laysHits 147 = .ok (.iconst 1, 1) := by decide +kernel
theorem dX12_laysHits_148 : decode cX12_laysHits 148 = .ok (.isub, 1) := by decide +kernel
theorem dX12_laysHits_149 : decode cX12_laysHits 149 = .ok (.istore_n 1, 1) := by decide +kernel
theorem dX12_laysHits_150 : decode cX12_laysHits 150 = .ok (.iload_n 1, 1) := by decide +kernel
theorem dX12_laysHits_151 : decode cX12_laysHits 151 = .ok (.ifCond .lt 148, 3) := by decide +kernel
theorem dX12_laysHits_154 : decode cX12_laysHits 154 = .ok (.iconst 0, 1) := by decide +kernel
theorem dX12_laysHits_155 : decode cX12_laysHits 155 = .ok (.istore_n 2, 1) := by decide +kernel
theorem dX12_laysHits_156 : decode cX12_laysHits 156 = .ok (.iload_n 2, 1) := by decide +kernel
theorem dX12_laysHits_157 : decode cX12_laysHits 157 = .ok (.bipush 6, 2) := by decide +kernel
theorem dX12_laysHits_159 : decode cX12_laysHits 159 = .ok (.if_icmp .ge 134, 3) := by decide +kernel
theorem dX12_laysHits_162 : decode cX12_laysHits 162 = .ok (.iconst 0, 1) := by decide +kernel
theorem dX12_laysHits_163 : decode cX12_laysHits 163 = .ok (.istore_n 3, 1) := by decide +kernel
theorem dX12_laysHits_164 : decode cX12_laysHits 164 = .ok (.iload_n 3, 1) := by decide +kernel
theorem dX12_laysHits_165 : decode cX12_laysHits 165 = .ok (.aload_n 0, 1) := by decide +kernel
theorem dX12_laysHits_166 : decode cX12_laysHits 166 = .ok (.getfield 376, 3) := by decide +kernel
theorem dX12_laysHits_169 : decode cX12_laysHits 169 = .ok (.if_icmp .ge 118, 3) := by decide +kernel
theorem dX12_laysHits_172 : decode cX12_laysHits 172 = .ok (.iload_n 3, 1) := by decide +kernel
theorem dX12_laysHits_173 : decode cX12_laysHits 173 = .ok (.istore 4, 2) := by decide +kernel
theorem dX12_laysHits_175 : decode cX12_laysHits 175 = .ok (.lconst 0, 1) := by decide +kernel
theorem dX12_laysHits_176 : decode cX12_laysHits 176 = .ok (.lstore 5, 2) := by decide +kernel
theorem dX12_laysHits_178 : decode cX12_laysHits 178 = .ok (.iconst 0, 1) := by decide +kernel
theorem dX12_laysHits_179 : decode cX12_laysHits 179 = .ok (.istore 7, 2) := by decide +kernel
theorem dX12_laysHits_181 : decode cX12_laysHits 181 = .ok (.aload_n 0, 1) := by decide +kernel
theorem dX12_laysHits_182 : decode cX12_laysHits 182 = .ok (.iload_n 1, 1) := by decide +kernel
theorem dX12_laysHits_183 : decode cX12_laysHits 183 = .ok (.iload_n 2, 1) := by decide +kernel
theorem dX12_laysHits_184 : decode cX12_laysHits 184 = .ok (.iload 7, 2) := by decide +kernel
theorem dX12_laysHits_186 : decode cX12_laysHits 186 = .ok (.invokevirtual 264, 3) := by decide +kernel
theorem dX12_laysHits_189 : decode cX12_laysHits 189 = .ok (.iconst (-1), 1) := by decide +kernel
theorem dX12_laysHits_190 : decode cX12_laysHits 190 = .ok (.if_icmp .eq 55, 3) := by decide +kernel
theorem dX12_laysHits_193 : decode cX12_laysHits 193 = .ok (.bipush 6, 2) := by decide +kernel
theorem dX12_laysHits_195 : decode cX12_laysHits 195 = .ok (.bipush 6, 2) := by decide +kernel
theorem dX12_laysHits_197 : decode cX12_laysHits 197 = .ok (.iload_n 1, 1) := by decide +kernel
theorem dX12_laysHits_198 : decode cX12_laysHits 198 = .ok (.iconst 1, 1) := by decide +kernel
theorem dX12_laysHits_199 : decode cX12_laysHits 199 = .ok (.iadd, 1) := by decide +kernel
theorem dX12_laysHits_200 : decode cX12_laysHits 200 = .ok (.imul, 1) := by decide +kernel
theorem dX12_laysHits_201 : decode cX12_laysHits 201 = .ok (.aload_n 0, 1) := by decide +kernel
theorem dX12_laysHits_202 : decode cX12_laysHits 202 = .ok (.iload_n 1, 1) := by decide +kernel
theorem dX12_laysHits_203 : decode cX12_laysHits 203 = .ok (.iload_n 2, 1) := by decide +kernel
theorem dX12_laysHits_204 : decode cX12_laysHits 204 = .ok (.iload 7, 2) := by decide +kernel
theorem dX12_laysHits_206 : decode cX12_laysHits 206 = .ok (.invokevirtual 264, 3) := by decide +kernel
theorem dX12_laysHits_209 : decode cX12_laysHits 209 = .ok (.iadd, 1) := by decide +kernel
theorem dX12_laysHits_210 : decode cX12_laysHits 210 = .ok (.imul, 1) := by decide +kernel
theorem dX12_laysHits_211 : decode cX12_laysHits 211 = .ok (.iload 4, 2) := by decide +kernel
theorem dX12_laysHits_213 : decode cX12_laysHits 213 = .ok (.iadd, 1) := by decide +kernel
theorem dX12_laysHits_214 : decode cX12_laysHits 214 = .ok (.istore 8, 2) := by decide +kernel
theorem dX12_laysHits_216 : decode cX12_laysHits 216 = .ok (.lload 5, 2) := by decide +kernel
theorem dX12_laysHits_218 : decode cX12_laysHits 218 = .ok (.aload_n 0, 1) := by decide +kernel
theorem dX12_laysHits_219 : decode cX12_laysHits 219 = .ok (.getfield 58, 3) := by decide +kernel
theorem dX12_laysHits_222 : decode cX12_laysHits 222 = .ok (.iload 8, 2) := by decide +kernel
theorem dX12_laysHits_224 : decode cX12_laysHits 224 = .ok (.laload, 1) := by decide +kernel
theorem dX12_laysHits_225 : decode cX12_laysHits 225 = .ok (.invokestatic 245, 3) := by decide +kernel
theorem dX12_laysHits_228 : decode cX12_laysHits 228 = .ok (.lstore 5, 2) := by decide +kernel
theorem dX12_laysHits_230 : decode cX12_laysHits 230 = .ok (.aload_n 0, 1) := by decide +kernel
theorem dX12_laysHits_231 : decode cX12_laysHits 231 = .ok (.getfield 52, 3) := by decide +kernel
theorem dX12_laysHits_234 : decode cX12_laysHits 234 = .ok (.iload 8, 2) := by decide +kernel
theorem dX12_laysHits_236 : decode cX12_laysHits 236 = .ok (.iaload, 1) := by decide +kernel
theorem dX12_laysHits_237 : decode cX12_laysHits 237 = .ok (.istore 4, 2) := by decide +kernel
theorem dX12_laysHits_239 : decode cX12_laysHits 239 = .ok (.iinc 7 1, 3) := by decide +kernel
theorem dX12_laysHits_242 : decode cX12_laysHits 242 = .ok (.goto (-61), 3) := by decide +kernel
theorem dX12_laysHits_245 : decode cX12_laysHits 245 = .ok (.aload_n 0, 1) := by decide +kernel
theorem dX12_laysHits_246 : decode cX12_laysHits 246 = .ok (.getfield 52, 3) := by decide +kernel
theorem dX12_laysHits_249 : decode cX12_laysHits 249 = .ok (.bipush 6, 2) := by decide +kernel
theorem dX12_laysHits_251 : decode cX12_laysHits 251 = .ok (.bipush 6, 2) := by decide +kernel
theorem dX12_laysHits_253 : decode cX12_laysHits 253 = .ok (.iload_n 1, 1) := by decide +kernel
theorem dX12_laysHits_254 : decode cX12_laysHits 254 = .ok (.imul, 1) := by decide +kernel
theorem dX12_laysHits_255 : decode cX12_laysHits 255 = .ok (.iload_n 2, 1) := by decide +kernel
theorem dX12_laysHits_256 : decode cX12_laysHits 256 = .ok (.iadd, 1) := by decide +kernel
theorem dX12_laysHits_257 : decode cX12_laysHits 257 = .ok (.imul, 1) := by decide +kernel
theorem dX12_laysHits_258 : decode cX12_laysHits 258 = .ok (.iload_n 3, 1) := by decide +kernel
theorem dX12_laysHits_259 : decode cX12_laysHits 259 = .ok (.iadd, 1) := by decide +kernel
theorem dX12_laysHits_260 : decode cX12_laysHits 260 = .ok (.iload 4, 2) := by decide +kernel
theorem dX12_laysHits_262 : decode cX12_laysHits 262 = .ok (.iastore, 1) := by decide +kernel
theorem dX12_laysHits_263 : decode cX12_laysHits 263 = .ok (.aload_n 0, 1) := by decide +kernel
theorem dX12_laysHits_264 : decode cX12_laysHits 264 = .ok (.getfield 58, 3) := by decide +kernel
theorem dX12_laysHits_267 : decode cX12_laysHits 267 = .ok (.bipush 6, 2) := by decide +kernel
theorem dX12_laysHits_269 : decode cX12_laysHits 269 = .ok (.bipush 6, 2) := by decide +kernel
theorem dX12_laysHits_271 : decode cX12_laysHits 271 = .ok (.iload_n 1, 1) := by decide +kernel
theorem dX12_laysHits_272 : decode cX12_laysHits 272 = .ok (.imul, 1) := by decide +kernel
theorem dX12_laysHits_273 : decode cX12_laysHits 273 = .ok (.iload_n 2, 1) := by decide +kernel
theorem dX12_laysHits_274 : decode cX12_laysHits 274 = .ok (.iadd, 1) := by decide +kernel
theorem dX12_laysHits_275 : decode cX12_laysHits 275 = .ok (.imul, 1) := by decide +kernel
theorem dX12_laysHits_276 : decode cX12_laysHits 276 = .ok (.iload_n 3, 1) := by decide +kernel
theorem dX12_laysHits_277 : decode cX12_laysHits 277 = .ok (.iadd, 1) := by decide +kernel
theorem dX12_laysHits_278 : decode cX12_laysHits 278 = .ok (.lload 5, 2) := by decide +kernel
theorem dX12_laysHits_280 : decode cX12_laysHits 280 = .ok (.lastore, 1) := by decide +kernel
theorem dX12_laysHits_281 : decode cX12_laysHits 281 = .ok (.iinc 3 1, 3) := by decide +kernel
theorem dX12_laysHits_284 : decode cX12_laysHits 284 = .ok (.goto (-120), 3) := by decide +kernel
theorem dX12_laysHits_287 : decode cX12_laysHits 287 = .ok (.iinc 2 1, 3) := by decide +kernel
theorem dX12_laysHits_290 : decode cX12_laysHits 290 = .ok (.goto (-134), 3) := by decide +kernel
theorem dX12_laysHits_293 : decode cX12_laysHits 293 = .ok (.iinc 1 (-1), 3) := by decide +kernel
theorem dX12_laysHits_296 : decode cX12_laysHits 296 = .ok (.goto (-146), 3) := by decide +kernel
theorem dX12_laysHits_299 : decode cX12_laysHits 299 = .ok (.return_, 1) := by decide +kernel
theorem dX12_occurs_0 : decode cX12_occurs 0 = .ok (.aload_n 0, 1) := by decide +kernel
theorem dX12_occurs_1 : decode cX12_occurs 1 = .ok (.iconst 0, 1) := by decide +kernel
theorem dX12_occurs_2 : decode cX12_occurs 2 = .ok (.putfield 1, 3) := by decide +kernel
theorem dX12_occurs_5 : decode cX12_occurs 5 = .ok (.aload_n 0, 1) := by decide +kernel
theorem dX12_occurs_6 : decode cX12_occurs 6 = .ok (.iload_n 1, 1) := by decide +kernel
theorem dX12_occurs_7 : decode cX12_occurs 7 = .ok (.invokevirtual 383, 3) := by decide +kernel
theorem dX12_occurs_10 : decode cX12_occurs 10 = .ok (.istore_n 2, 1) := by decide +kernel
theorem dX12_occurs_11 : decode cX12_occurs 11 = .ok (.iload_n 2, 1) := by decide +kernel
theorem dX12_occurs_12 : decode cX12_occurs 12 = .ok (.ifCond .eq 6, 3) := by decide +kernel
theorem dX12_occurs_15 : decode cX12_occurs 15 = .ok (.iload_n 2, 1) := by decide +kernel
theorem dX12_occurs_16 : decode cX12_occurs 16 = .ok (.i2l, 1) := by decide +kernel
theorem dX12_occurs_17 : decode cX12_occurs 17 = .ok (.lreturn, 1) := by decide +kernel
theorem dX12_occurs_18 : decode cX12_occurs 18 = .ok (.aload_n 0, 1) := by decide +kernel
theorem dX12_occurs_19 : decode cX12_occurs 19 = .ok (.iload_n 1, 1) := by decide +kernel
theorem dX12_occurs_20 : decode cX12_occurs 20 = .ok (.invokevirtual 386, 3) := by decide +kernel
theorem dX12_occurs_23 : decode cX12_occurs 23 = .ok (.aload_n 0, 1) := by decide +kernel
theorem dX12_occurs_24 : decode cX12_occurs 24 = .ok (.invokevirtual 389, 3) := by decide +kernel
theorem dX12_occurs_27 : decode cX12_occurs 27 = .ok (.iconst 0, 1) := by decide +kernel
theorem dX12_occurs_28 : decode cX12_occurs 28 = .ok (.istore_n 3, 1) := by decide +kernel
theorem dX12_occurs_29 : decode cX12_occurs 29 = .ok (.lconst 0, 1) := by decide +kernel
theorem dX12_occurs_30 : decode cX12_occurs 30 = .ok (.lstore 4, 2) := by decide +kernel
theorem dX12_occurs_32 : decode cX12_occurs 32 = .ok (.iconst 0, 1) := by decide +kernel
theorem dX12_occurs_33 : decode cX12_occurs 33 = .ok (.istore 6, 2) := by decide +kernel
theorem dX12_occurs_35 : decode cX12_occurs 35 = .ok (.iload 6, 2) := by decide +kernel
theorem dX12_occurs_37 : decode cX12_occurs 37 = .ok (.aload_n 0, 1) := by decide +kernel
theorem dX12_occurs_38 : decode cX12_occurs 38 = .ok (.getfield 13, 3) := by decide +kernel
theorem dX12_occurs_41 : decode cX12_occurs 41 = .ok (.iconst 2, 1) := by decide +kernel
theorem dX12_occurs_42 : decode cX12_occurs 42 = .ok (.iaload, 1) := by decide +kernel
theorem dX12_occurs_43 : decode cX12_occurs 43 = .ok (.if_icmp .ge 45, 3) := by decide +kernel
theorem dX12_occurs_46 : decode cX12_occurs 46 = .ok (.bipush 6, 2) := by decide +kernel
theorem dX12_occurs_48 : decode cX12_occurs 48 = .ok (.aload_n 0, 1) := by decide +kernel
theorem dX12_occurs_49 : decode cX12_occurs 49 = .ok (.getfield 13, 3) := by decide +kernel
theorem dX12_occurs_52 : decode cX12_occurs 52 = .ok (.iconst 3, 1) := by decide +kernel
theorem dX12_occurs_53 : decode cX12_occurs 53 = .ok (.iload 6, 2) := by decide +kernel
theorem dX12_occurs_55 : decode cX12_occurs 55 = .ok (.iadd, 1) := by decide +kernel
theorem dX12_occurs_56 : decode cX12_occurs 56 = .ok (.iaload, 1) := by decide +kernel
theorem dX12_occurs_57 : decode cX12_occurs 57 = .ok (.imul, 1) := by decide +kernel
theorem dX12_occurs_58 : decode cX12_occurs 58 = .ok (.iload_n 3, 1) := by decide +kernel
theorem dX12_occurs_59 : decode cX12_occurs 59 = .ok (.iadd, 1) := by decide +kernel
theorem dX12_occurs_60 : decode cX12_occurs 60 = .ok (.istore 7, 2) := by decide +kernel
theorem dX12_occurs_62 : decode cX12_occurs 62 = .ok (.lload 4, 2) := by decide +kernel
theorem dX12_occurs_64 : decode cX12_occurs 64 = .ok (.aload_n 0, 1) := by decide +kernel
theorem dX12_occurs_65 : decode cX12_occurs 65 = .ok (.getfield 58, 3) := by decide +kernel
theorem dX12_occurs_68 : decode cX12_occurs 68 = .ok (.iload 7, 2) := by decide +kernel
theorem dX12_occurs_70 : decode cX12_occurs 70 = .ok (.laload, 1) := by decide +kernel
theorem dX12_occurs_71 : decode cX12_occurs 71 = .ok (.ladd, 1) := by decide +kernel
theorem dX12_occurs_72 : decode cX12_occurs 72 = .ok (.lstore 4, 2) := by decide +kernel
theorem dX12_occurs_74 : decode cX12_occurs 74 = .ok (.aload_n 0, 1) := by decide +kernel
theorem dX12_occurs_75 : decode cX12_occurs 75 = .ok (.getfield 52, 3) := by decide +kernel
theorem dX12_occurs_78 : decode cX12_occurs 78 = .ok (.iload 7, 2) := by decide +kernel
theorem dX12_occurs_80 : decode cX12_occurs 80 = .ok (.iaload, 1) := by decide +kernel
theorem dX12_occurs_81 : decode cX12_occurs 81 = .ok (.istore_n 3, 1) := by decide +kernel
theorem dX12_occurs_82 : decode cX12_occurs 82 = .ok (.iinc 6 1, 3) := by decide +kernel
theorem dX12_occurs_85 : decode cX12_occurs 85 = .ok (.goto (-50), 3) := by decide +kernel
theorem dX12_occurs_88 : decode cX12_occurs 88 = .ok (.lload 4, 2) := by decide +kernel
theorem dX12_occurs_90 : decode cX12_occurs 90 = .ok (.lreturn, 1) := by decide +kernel
theorem dX12_first_0 : decode cX12_first 0 = .ok (.aload_n 0, 1) := by decide +kernel
theorem dX12_first_1 : decode cX12_first 1 = .ok (.iconst 0, 1) := by decide +kernel
theorem dX12_first_2 : decode cX12_first 2 = .ok (.putfield 1, 3) := by decide +kernel
theorem dX12_first_5 : decode cX12_first 5 = .ok (.aload_n 0, 1) := by decide +kernel
theorem dX12_first_6 : decode cX12_first 6 = .ok (.iload_n 1, 1) := by decide +kernel
theorem dX12_first_7 : decode cX12_first 7 = .ok (.invokevirtual 383, 3) := by decide +kernel
theorem dX12_first_10 : decode cX12_first 10 = .ok (.istore_n 2, 1) := by decide +kernel
theorem dX12_first_11 : decode cX12_first 11 = .ok (.iload_n 2, 1) := by decide +kernel
theorem dX12_first_12 : decode cX12_first 12 = .ok (.ifCond .eq 6, 3) := by decide +kernel
theorem dX12_first_15 : decode cX12_first 15 = .ok (.iload_n 2, 1) := by decide +kernel
theorem dX12_first_16 : decode cX12_first 16 = .ok (.i2l, 1) := by decide +kernel
theorem dX12_first_17 : decode cX12_first 17 = .ok (.lreturn, 1) := by decide +kernel
theorem dX12_first_18 : decode cX12_first 18 = .ok (.aload_n 0, 1) := by decide +kernel
theorem dX12_first_19 : decode cX12_first 19 = .ok (.iload_n 1, 1) := by decide +kernel
theorem dX12_first_20 : decode cX12_first 20 = .ok (.invokevirtual 386, 3) := by decide +kernel
theorem dX12_first_23 : decode cX12_first 23 = .ok (.aload_n 0, 1) := by decide +kernel
theorem dX12_first_24 : decode cX12_first 24 = .ok (.invokevirtual 389, 3) := by decide +kernel
theorem dX12_first_27 : decode cX12_first 27 = .ok (.aload_n 0, 1) := by decide +kernel
theorem dX12_first_28 : decode cX12_first 28 = .ok (.invokevirtual 253, 3) := by decide +kernel
theorem dX12_first_31 : decode cX12_first 31 = .ok (.iconst 0, 1) := by decide +kernel
theorem dX12_first_32 : decode cX12_first 32 = .ok (.istore_n 3, 1) := by decide +kernel
theorem dX12_first_33 : decode cX12_first 33 = .ok (.lconst 0, 1) := by decide +kernel
theorem dX12_first_34 : decode cX12_first 34 = .ok (.lstore 4, 2) := by decide +kernel
theorem dX12_first_36 : decode cX12_first 36 = .ok (.iconst (-1), 1) := by decide +kernel
theorem dX12_first_37 : decode cX12_first 37 = .ok (.istore 6, 2) := by decide +kernel
theorem dX12_first_39 : decode cX12_first 39 = .ok (.iconst 0, 1) := by decide +kernel
theorem dX12_first_40 : decode cX12_first 40 = .ok (.istore 7, 2) := by decide +kernel
theorem dX12_first_42 : decode cX12_first 42 = .ok (.iload 7, 2) := by decide +kernel
theorem dX12_first_44 : decode cX12_first 44 = .ok (.aload_n 0, 1) := by decide +kernel
theorem dX12_first_45 : decode cX12_first 45 = .ok (.getfield 13, 3) := by decide +kernel
theorem dX12_first_48 : decode cX12_first 48 = .ok (.bipush 113, 2) := by decide +kernel
theorem dX12_first_50 : decode cX12_first 50 = .ok (.iaload, 1) := by decide +kernel
theorem dX12_first_51 : decode cX12_first 51 = .ok (.if_icmp .gt 125, 3) := by decide +kernel
theorem dX12_first_54 : decode cX12_first 54 = .ok (.iconst 0, 1) := by decide +kernel
theorem dX12_first_55 : decode cX12_first 55 = .ok (.istore 8, 2) := by decide +kernel
theorem dX12_first_57 : decode cX12_first 57 = .ok (.aload_n 0, 1) := by decide +kernel
theorem dX12_first_58 : decode cX12_first 58 = .ok (.iload 7, 2) := by decide +kernel
theorem dX12_first_60 : decode cX12_first 60 = .ok (.iconst 1, 1) := by decide +kernel
theorem dX12_first_61 : decode cX12_first 61 = .ok (.isub, 1) := by decide +kernel
theorem dX12_first_62 : decode cX12_first 62 = .ok (.iload 6, 2) := by decide +kernel
theorem dX12_first_64 : decode cX12_first 64 = .ok (.iconst 0, 1) := by decide +kernel
theorem dX12_first_65 : decode cX12_first 65 = .ok (.invokevirtual 264, 3) := by decide +kernel
theorem dX12_first_68 : decode cX12_first 68 = .ok (.istore 9, 2) := by decide +kernel
theorem dX12_first_70 : decode cX12_first 70 = .ok (.iload 9, 2) := by decide +kernel
theorem dX12_first_72 : decode cX12_first 72 = .ok (.iconst (-1), 1) := by decide +kernel
theorem dX12_first_73 : decode cX12_first 73 = .ok (.if_icmp .eq 83, 3) := by decide +kernel
theorem dX12_first_76 : decode cX12_first 76 = .ok (.aload_n 0, 1) := by decide +kernel
theorem dX12_first_77 : decode cX12_first 77 = .ok (.getfield 58, 3) := by decide +kernel
theorem dX12_first_80 : decode cX12_first 80 = .ok (.bipush 6, 2) := by decide +kernel
theorem dX12_first_82 : decode cX12_first 82 = .ok (.bipush 6, 2) := by decide +kernel
theorem dX12_first_84 : decode cX12_first 84 = .ok (.iload 7, 2) := by decide +kernel
theorem dX12_first_86 : decode cX12_first 86 = .ok (.imul, 1) := by decide +kernel
theorem dX12_first_87 : decode cX12_first 87 = .ok (.iload 9, 2) := by decide +kernel
theorem dX12_first_89 : decode cX12_first 89 = .ok (.iadd, 1) := by decide +kernel
theorem dX12_first_90 : decode cX12_first 90 = .ok (.imul, 1) := by decide +kernel
theorem dX12_first_91 : decode cX12_first 91 = .ok (.iload_n 3, 1) := by decide +kernel
theorem dX12_first_92 : decode cX12_first 92 = .ok (.iadd, 1) := by decide +kernel
theorem dX12_first_93 : decode cX12_first 93 = .ok (.laload, 1) := by decide +kernel
theorem dX12_first_94 : decode cX12_first 94 = .ok (.lconst 0, 1) := by decide +kernel
theorem dX12_first_95 : decode cX12_first 95 = .ok (.lcmp, 1) := by decide +kernel
theorem dX12_first_96 : decode cX12_first 96 = .ok (.ifCond .ne 60, 3) := by decide +kernel
theorem dX12_first_99 : decode cX12_first 99 = .ok (.lload 4, 2) := by decide +kernel
theorem dX12_first_101 : decode cX12_first 101 = .ok (.aload_n 0, 1) := by decide +kernel
theorem dX12_first_102 : decode cX12_first 102 = .ok (.getfield 33, 3) := by decide +kernel
theorem dX12_first_105 : decode cX12_first 105 = .ok (.bipush 6, 2) := by decide +kernel
theorem dX12_first_107 : decode cX12_first 107 = .ok (.iload 7, 2) := by decide +kernel
theorem dX12_first_109 : decode cX12_first 109 = .ok (.imul, 1) := by decide +kernel
theorem dX12_first_110 : decode cX12_first 110 = .ok (.iload 9, 2) := by decide +kernel
theorem dX12_first_112 : decode cX12_first 112 = .ok (.iadd, 1) := by decide +kernel
theorem dX12_first_113 : decode cX12_first 113 = .ok (.laload, 1) := by decide +kernel
theorem dX12_first_114 : decode cX12_first 114 = .ok (.ladd, 1) := by decide +kernel
theorem dX12_first_115 : decode cX12_first 115 = .ok (.lstore 4, 2) := by decide +kernel
theorem dX12_first_117 : decode cX12_first 117 = .ok (.aload_n 0, 1) := by decide +kernel
theorem dX12_first_118 : decode cX12_first 118 = .ok (.getfield 52, 3) := by decide +kernel
theorem dX12_first_121 : decode cX12_first 121 = .ok (.bipush 6, 2) := by decide +kernel
theorem dX12_first_123 : decode cX12_first 123 = .ok (.bipush 6, 2) := by decide +kernel
theorem dX12_first_125 : decode cX12_first 125 = .ok (.iload 7, 2) := by decide +kernel
theorem dX12_first_127 : decode cX12_first 127 = .ok (.imul, 1) := by decide +kernel
theorem dX12_first_128 : decode cX12_first 128 = .ok (.iload 9, 2) := by decide +kernel
theorem dX12_first_130 : decode cX12_first 130 = .ok (.iadd, 1) := by decide +kernel
theorem dX12_first_131 : decode cX12_first 131 = .ok (.imul, 1) := by decide +kernel
theorem dX12_first_132 : decode cX12_first 132 = .ok (.iload_n 3, 1) := by decide +kernel
theorem dX12_first_133 : decode cX12_first 133 = .ok (.iadd, 1) := by decide +kernel
theorem dX12_first_134 : decode cX12_first 134 = .ok (.iaload, 1) := by decide +kernel
theorem dX12_first_135 : decode cX12_first 135 = .ok (.istore_n 3, 1) := by decide +kernel
theorem dX12_first_136 : decode cX12_first 136 = .ok (.iinc 8 1, 3) := by decide +kernel
theorem dX12_first_139 : decode cX12_first 139 = .ok (.aload_n 0, 1) := by decide +kernel
theorem dX12_first_140 : decode cX12_first 140 = .ok (.iload 7, 2) := by decide +kernel
theorem dX12_first_142 : decode cX12_first 142 = .ok (.iconst 1, 1) := by decide +kernel
theorem dX12_first_143 : decode cX12_first 143 = .ok (.isub, 1) := by decide +kernel
theorem dX12_first_144 : decode cX12_first 144 = .ok (.iload 6, 2) := by decide +kernel
theorem dX12_first_146 : decode cX12_first 146 = .ok (.iload 8, 2) := by decide +kernel
theorem dX12_first_148 : decode cX12_first 148 = .ok (.invokevirtual 264, 3) := by decide +kernel
theorem dX12_first_151 : decode cX12_first 151 = .ok (.istore 9, 2) := by decide +kernel
theorem dX12_first_153 : decode cX12_first 153 = .ok (.goto (-83), 3) := by decide +kernel
theorem dX12_first_156 : decode cX12_first 156 = .ok (.iload 9, 2) := by decide +kernel
theorem dX12_first_158 : decode cX12_first 158 = .ok (.iconst (-1), 1) := by decide +kernel
theorem dX12_first_159 : decode cX12_first 159 = .ok (.if_icmp .ne 7, 3) := by decide +kernel
theorem dX12_first_162 : decode cX12_first 162 = .ok (.ldc2_w 307, 3) := by decide +kernel
theorem dX12_first_165 : decode cX12_first 165 = .ok (.lreturn, 1) := by decide +kernel
theorem dX12_first_166 : decode cX12_first 166 = .ok (.iload 9, 2) := by decide +kernel
theorem dX12_first_168 : decode cX12_first 168 = .ok (.istore 6, 2) := by decide +kernel
theorem dX12_first_170 : decode cX12_first 170 = .ok (.iinc 7 1, 3) := by decide +kernel
theorem dX12_first_173 : decode cX12_first 173 = .ok (.goto (-131), 3) := by decide +kernel
theorem dX12_first_176 : decode cX12_first 176 = .ok (.lload 4, 2) := by decide +kernel
theorem dX12_first_178 : decode cX12_first 178 = .ok (.aload_n 0, 1) := by decide +kernel
theorem dX12_first_179 : decode cX12_first 179 = .ok (.getfield 376, 3) := by decide +kernel
theorem dX12_first_182 : decode cX12_first 182 = .ok (.i2l, 1) := by decide +kernel
theorem dX12_first_183 : decode cX12_first 183 = .ok (.lsub, 1) := by decide +kernel
theorem dX12_first_184 : decode cX12_first 184 = .ok (.lconst 1, 1) := by decide +kernel
theorem dX12_first_185 : decode cX12_first 185 = .ok (.ladd, 1) := by decide +kernel
theorem dX12_first_186 : decode cX12_first 186 = .ok (.lreturn, 1) := by decide +kernel
theorem dX12_isBack_0 : decode cX12_isBack 0 = .ok (.aload_n 0, 1) := by decide +kernel
theorem dX12_isBack_1 : decode cX12_isBack 1 = .ok (.iload_n 1, 1) := by decide +kernel
theorem dX12_isBack_2 : decode cX12_isBack 2 = .ok (.iload_n 2, 1) := by decide +kernel
theorem dX12_isBack_3 : decode cX12_isBack 3 = .ok (.invokevirtual 239, 3) := by decide +kernel
theorem dX12_isBack_6 : decode cX12_isBack 6 = .ok (.istore 4, 2) := by decide +kernel
theorem dX12_isBack_8 : decode cX12_isBack 8 = .ok (.iload 4, 2) := by decide +kernel
theorem dX12_isBack_10 : decode cX12_isBack 10 = .ok (.ifCond .eq 14, 3) := by decide +kernel
theorem dX12_isBack_13 : decode cX12_isBack 13 = .ok (.iload_n 3, 1) := by decide +kernel
theorem dX12_isBack_14 : decode cX12_isBack 14 = .ok (.iload 4, 2) := by decide +kernel
theorem dX12_isBack_16 : decode cX12_isBack 16 = .ok (.iadd, 1) := by decide +kernel
theorem dX12_isBack_17 : decode cX12_isBack 17 = .ok (.aload_n 0, 1) := by decide +kernel
theorem dX12_isBack_18 : decode cX12_isBack 18 = .ok (.getfield 376, 3) := by decide +kernel
theorem dX12_isBack_21 : decode cX12_isBack 21 = .ok (.if_icmp .le 5, 3) := by decide +kernel
theorem dX12_isBack_24 : decode cX12_isBack 24 = .ok (.iconst 0, 1) := by decide +kernel
theorem dX12_isBack_25 : decode cX12_isBack 25 = .ok (.ireturn, 1) := by decide +kernel
theorem dX12_isBack_26 : decode cX12_isBack 26 = .ok (.iconst 0, 1) := by decide +kernel
theorem dX12_isBack_27 : decode cX12_isBack 27 = .ok (.istore 5, 2) := by decide +kernel
theorem dX12_isBack_29 : decode cX12_isBack 29 = .ok (.iload 5, 2) := by decide +kernel
theorem dX12_isBack_31 : decode cX12_isBack 31 = .ok (.iload 4, 2) := by decide +kernel
theorem dX12_isBack_33 : decode cX12_isBack 33 = .ok (.if_icmp .ge 31, 3) := by decide +kernel
theorem dX12_isBack_36 : decode cX12_isBack 36 = .ok (.aload_n 0, 1) := by decide +kernel
theorem dX12_isBack_37 : decode cX12_isBack 37 = .ok (.iload_n 1, 1) := by decide +kernel
theorem dX12_isBack_38 : decode cX12_isBack 38 = .ok (.iload_n 2, 1) := by decide +kernel
theorem dX12_isBack_39 : decode cX12_isBack 39 = .ok (.iload 5, 2) := by decide +kernel
theorem dX12_isBack_41 : decode cX12_isBack 41 = .ok (.invokevirtual 242, 3) := by decide +kernel
theorem dX12_isBack_44 : decode cX12_isBack 44 = .ok (.aload_n 0, 1) := by decide +kernel
theorem dX12_isBack_45 : decode cX12_isBack 45 = .ok (.getfield 55, 3) := by decide +kernel
theorem dX12_isBack_48 : decode cX12_isBack 48 = .ok (.iload_n 3, 1) := by decide +kernel
theorem dX12_isBack_49 : decode cX12_isBack 49 = .ok (.iload 5, 2) := by decide +kernel
theorem dX12_isBack_51 : decode cX12_isBack 51 = .ok (.iadd, 1) := by decide +kernel
theorem dX12_isBack_52 : decode cX12_isBack 52 = .ok (.iaload, 1) := by decide +kernel
theorem dX12_isBack_53 : decode cX12_isBack 53 = .ok (.if_icmp .eq 5, 3) := by decide +kernel
theorem dX12_isBack_56 : decode cX12_isBack 56 = .ok (.iconst 0, 1) := by decide +kernel
theorem dX12_isBack_57 : decode cX12_isBack 57 = .ok (.ireturn, 1) := by decide +kernel
theorem dX12_isBack_58 : decode cX12_isBack 58 = .ok (.iinc 5 1, 3) := by decide +kernel
theorem dX12_isBack_61 : decode cX12_isBack 61 = .ok (.goto (-32), 3) := by decide +kernel
theorem dX12_isBack_64 : decode cX12_isBack 64 = .ok (.iconst 1, 1) := by decide +kernel
theorem dX12_isBack_65 : decode cX12_isBack 65 = .ok (.ireturn, 1) := by decide +kernel
theorem dX12_laysBacks_0 : decode cX12_laysBacks 0 = .ok (.aload_n 0, 1) := by decide +kernel
theorem dX12_laysBacks_1 : decode cX12_laysBacks 1 = .ok (.iload_n 1, 1) := by decide +kernel
theorem dX12_laysBacks_2 : decode cX12_laysBacks 2 = .ok (.invokevirtual 386, 3) := by decide +kernel
theorem dX12_laysBacks_5 : decode cX12_laysBacks 5 = .ok (.aload_n 0, 1) := by decide +kernel
theorem dX12_laysBacks_6 : decode cX12_laysBacks 6 = .ok (.getfield 61, 3) := by decide +kernel
theorem dX12_laysBacks_9 : decode cX12_laysBacks 9 = .ok (.aload_n 0, 1) := by decide +kernel
theorem dX12_laysBacks_10 : decode cX12_laysBacks 10 = .ok (.getfield 376, 3) := by decide +kernel
theorem dX12_laysBacks_13 : decode cX12_laysBacks 13 = .ok (.iconst 1, 1) := by decide +kernel
theorem dX12_laysBacks_14 : decode cX12_laysBacks 14 = .ok (.iastore, 1) := by decide +kernel
theorem dX12_laysBacks_15 : decode cX12_laysBacks 15 = .ok (.aload_n 0, 1) := by decide +kernel
theorem dX12_laysBacks_16 : decode cX12_laysBacks 16 = .ok (.getfield 376, 3) := by decide +kernel
theorem dX12_laysBacks_19 : decode cX12_laysBacks 19 = .ok (.iconst 1, 1) := by decide +kernel
theorem dX12_laysBacks_20 : decode cX12_laysBacks 20 = .ok (.isub, 1) := by decide +kernel
theorem dX12_laysBacks_21 : decode cX12_laysBacks 21 = .ok (.istore_n 3, 1) := by decide +kernel
theorem dX12_laysBacks_22 : decode cX12_laysBacks 22 = .ok (.iload_n 3, 1) := by decide +kernel
theorem dX12_laysBacks_23 : decode cX12_laysBacks 23 = .ok (.ifCond .lt 70, 3) := by decide +kernel
theorem dX12_laysBacks_26 : decode cX12_laysBacks 26 = .ok (.aload_n 0, 1) := by decide +kernel
theorem dX12_laysBacks_27 : decode cX12_laysBacks 27 = .ok (.getfield 61, 3) := by decide +kernel
theorem dX12_laysBacks_30 : decode cX12_laysBacks 30 = .ok (.iload_n 3, 1) := by decide +kernel
theorem dX12_laysBacks_31 : decode cX12_laysBacks 31 = .ok (.iconst 0, 1) := by decide +kernel
theorem dX12_laysBacks_32 : decode cX12_laysBacks 32 = .ok (.iastore, 1) := by decide +kernel
theorem dX12_laysBacks_33 : decode cX12_laysBacks 33 = .ok (.iconst 0, 1) := by decide +kernel
theorem dX12_laysBacks_34 : decode cX12_laysBacks 34 = .ok (.istore 4, 2) := by decide +kernel
theorem dX12_laysBacks_36 : decode cX12_laysBacks 36 = .ok (.iload 4, 2) := by decide +kernel
theorem dX12_laysBacks_38 : decode cX12_laysBacks 38 = .ok (.bipush 6, 2) := by decide +kernel
theorem dX12_laysBacks_40 : decode cX12_laysBacks 40 = .ok (.if_icmp .ge 47, 3) := by decide +kernel
theorem dX12_laysBacks_43 : decode cX12_laysBacks 43 = .ok (.aload_n 0, 1) := by decide +kernel
theorem dX12_laysBacks_44 : decode cX12_laysBacks 44 = .ok (.getfield 61, 3) := by decide +kernel
theorem dX12_laysBacks_47 : decode cX12_laysBacks 47 = .ok (.iload_n 3, 1) := by decide +kernel
theorem dX12_laysBacks_48 : decode cX12_laysBacks 48 = .ok (.dup2, 1) := by decide +kernel
theorem dX12_laysBacks_49 : decode cX12_laysBacks 49 = .ok (.iaload, 1) := by decide +kernel
theorem dX12_laysBacks_50 : decode cX12_laysBacks 50 = .ok (.aload_n 0, 1) := by decide +kernel
theorem dX12_laysBacks_51 : decode cX12_laysBacks 51 = .ok (.iload_n 2, 1) := by decide +kernel
theorem dX12_laysBacks_52 : decode cX12_laysBacks 52 = .ok (.iload 4, 2) := by decide +kernel
theorem dX12_laysBacks_54 : decode cX12_laysBacks 54 = .ok (.iload_n 3, 1) := by decide +kernel
theorem dX12_laysBacks_55 : decode cX12_laysBacks 55 = .ok (.invokevirtual 392, 3) := by decide +kernel
theorem dX12_laysBacks_58 : decode cX12_laysBacks 58 = .ok (.ifCond .eq 20, 3) := by decide +kernel
theorem dX12_laysBacks_61 : decode cX12_laysBacks 61 = .ok (.aload_n 0, 1) := by decide +kernel
theorem dX12_laysBacks_62 : decode cX12_laysBacks 62 = .ok (.getfield 61, 3) := by decide +kernel
theorem dX12_laysBacks_65 : decode cX12_laysBacks 65 = .ok (.iload_n 3, 1) := by decide +kernel
theorem dX12_laysBacks_66 : decode cX12_laysBacks 66 = .ok (.aload_n 0, 1) := by decide +kernel
theorem dX12_laysBacks_67 : decode cX12_laysBacks 67 = .ok (.iload_n 2, 1) := by decide +kernel
theorem dX12_laysBacks_68 : decode cX12_laysBacks 68 = .ok (.iload 4, 2) := by decide +kernel
theorem dX12_laysBacks_70 : decode cX12_laysBacks 70 = .ok (.invokevirtual 239, 3) := by decide +kernel
theorem dX12_laysBacks_73 : decode cX12_laysBacks 73 = .ok (.iadd, 1) := by decide +kernel
theorem dX12_laysBacks_74 : decode cX12_laysBacks 74 = .ok (.iaload, 1) := by decide +kernel
theorem dX12_laysBacks_75 : decode cX12_laysBacks 75 = .ok (.goto 4, 3) := by decide +kernel
theorem dX12_laysBacks_78 : decode cX12_laysBacks 78 = .ok (.iconst 0, 1) := by decide +kernel
theorem dX12_laysBacks_79 : decode cX12_laysBacks 79 = .ok (.iadd, 1) := by decide +kernel
theorem dX12_laysBacks_80 : decode cX12_laysBacks 80 = .ok (.iastore, 1) := by decide +kernel
theorem dX12_laysBacks_81 : decode cX12_laysBacks 81 = .ok (.iinc 4 1, 3) := by decide +kernel
theorem dX12_laysBacks_84 : decode cX12_laysBacks 84 = .ok (.goto (-48), 3) := by decide +kernel
theorem dX12_laysBacks_87 : decode cX12_laysBacks 87 = .ok (.iinc 3 (-1), 3) := by decide +kernel
theorem dX12_laysBacks_90 : decode cX12_laysBacks 90 = .ok (.goto (-68), 3) := by decide +kernel
theorem dX12_laysBacks_93 : decode cX12_laysBacks 93 = .ok (.aload_n 0, 1) := by decide +kernel
theorem dX12_laysBacks_94 : decode cX12_laysBacks 94 = .ok (.getfield 61, 3) := by decide +kernel
theorem dX12_laysBacks_97 : decode cX12_laysBacks 97 = .ok (.iconst 0, 1) := by decide +kernel
theorem dX12_laysBacks_98 : decode cX12_laysBacks 98 = .ok (.iaload, 1) := by decide +kernel
theorem dX12_laysBacks_99 : decode cX12_laysBacks 99 = .ok (.ireturn, 1) := by decide +kernel
theorem dX12_noBack_0 : decode cX12_noBack 0 = .ok (.iload_n 1, 1) := by decide +kernel
theorem dX12_noBack_1 : decode cX12_noBack 1 = .ok (.i2l, 1) := by decide +kernel
theorem dX12_noBack_2 : decode cX12_noBack 2 = .ok (.lconst 0, 1) := by decide +kernel
theorem dX12_noBack_3 : decode cX12_noBack 3 = .ok (.ldc2_w 334, 3) := by decide +kernel
theorem dX12_noBack_6 : decode cX12_noBack 6 = .ok (.invokestatic 169, 3) := by decide +kernel
theorem dX12_noBack_9 : decode cX12_noBack 9 = .ok (.ifCond .eq 11, 3) := by decide +kernel
theorem dX12_noBack_12 : decode cX12_noBack 12 = .ok (.aload_n 0, 1) := by decide +kernel
theorem dX12_noBack_13 : decode cX12_noBack 13 = .ok (.iload_n 2, 1) := by decide +kernel
theorem dX12_noBack_14 : decode cX12_noBack 14 = .ok (.invokevirtual 290, 3) := by decide +kernel
theorem dX12_noBack_17 : decode cX12_noBack 17 = .ok (.ifCond .ne 8, 3) := by decide +kernel
theorem dX12_noBack_20 : decode cX12_noBack 20 = .ok (.bipush (-2), 2) := by decide +kernel
theorem dX12_noBack_22 : decode cX12_noBack 22 = .ok (.goto 8, 3) := by decide +kernel
theorem dX12_noBack_25 : decode cX12_noBack 25 = .ok (.aload_n 0, 1) := by decide +kernel
theorem dX12_noBack_26 : decode cX12_noBack 26 = .ok (.iload_n 1, 1) := by decide +kernel
theorem dX12_noBack_27 : decode cX12_noBack 27 = .ok (.invokevirtual 383, 3) := by decide +kernel
theorem dX12_noBack_30 : decode cX12_noBack 30 = .ok (.ireturn, 1) := by decide +kernel
theorem dX12_backs_0 : decode cX12_backs 0 = .ok (.aload_n 0, 1) := by decide +kernel
theorem dX12_backs_1 : decode cX12_backs 1 = .ok (.iconst 0, 1) := by decide +kernel
theorem dX12_backs_2 : decode cX12_backs 2 = .ok (.putfield 1, 3) := by decide +kernel
theorem dX12_backs_5 : decode cX12_backs 5 = .ok (.aload_n 0, 1) := by decide +kernel
theorem dX12_backs_6 : decode cX12_backs 6 = .ok (.iload_n 1, 1) := by decide +kernel
theorem dX12_backs_7 : decode cX12_backs 7 = .ok (.iload_n 2, 1) := by decide +kernel
theorem dX12_backs_8 : decode cX12_backs 8 = .ok (.invokevirtual 395, 3) := by decide +kernel
theorem dX12_backs_11 : decode cX12_backs 11 = .ok (.istore_n 3, 1) := by decide +kernel
theorem dX12_backs_12 : decode cX12_backs 12 = .ok (.iload_n 3, 1) := by decide +kernel
theorem dX12_backs_13 : decode cX12_backs 13 = .ok (.ifCond .eq 7, 3) := by decide +kernel
theorem dX12_backs_16 : decode cX12_backs 16 = .ok (.iload_n 3, 1) := by decide +kernel
theorem dX12_backs_17 : decode cX12_backs 17 = .ok (.goto 9, 3) := by decide +kernel
theorem dX12_backs_20 : decode cX12_backs 20 = .ok (.aload_n 0, 1) := by decide +kernel
theorem dX12_backs_21 : decode cX12_backs 21 = .ok (.iload_n 1, 1) := by decide +kernel
theorem dX12_backs_22 : decode cX12_backs 22 = .ok (.iload_n 2, 1) := by decide +kernel
theorem dX12_backs_23 : decode cX12_backs 23 = .ok (.invokevirtual 398, 3) := by decide +kernel
theorem dX12_backs_26 : decode cX12_backs 26 = .ok (.ireturn, 1) := by decide +kernel
theorem dX12_backBy_0 : decode cX12_backBy 0 = .ok (.aload_n 0, 1) := by decide +kernel
theorem dX12_backBy_1 : decode cX12_backBy 1 = .ok (.iconst 0, 1) := by decide +kernel
theorem dX12_backBy_2 : decode cX12_backBy 2 = .ok (.putfield 1, 3) := by decide +kernel
theorem dX12_backBy_5 : decode cX12_backBy 5 = .ok (.aload_n 0, 1) := by decide +kernel
theorem dX12_backBy_6 : decode cX12_backBy 6 = .ok (.iload_n 1, 1) := by decide +kernel
theorem dX12_backBy_7 : decode cX12_backBy 7 = .ok (.iload_n 2, 1) := by decide +kernel
theorem dX12_backBy_8 : decode cX12_backBy 8 = .ok (.invokevirtual 395, 3) := by decide +kernel
theorem dX12_backBy_11 : decode cX12_backBy 11 = .ok (.istore 4, 2) := by decide +kernel
theorem dX12_backBy_13 : decode cX12_backBy 13 = .ok (.iload 4, 2) := by decide +kernel
theorem dX12_backBy_15 : decode cX12_backBy 15 = .ok (.ifCond .eq 6, 3) := by decide +kernel
theorem dX12_backBy_18 : decode cX12_backBy 18 = .ok (.iload 4, 2) := by decide +kernel
theorem dX12_backBy_20 : decode cX12_backBy 20 = .ok (.ireturn, 1) := by decide +kernel
theorem dX12_backBy_21 : decode cX12_backBy 21 = .ok (.iload_n 3, 1) := by decide +kernel
theorem dX12_backBy_22 : decode cX12_backBy 22 = .ok (.ifCond .ge 6, 3) := by decide +kernel
theorem dX12_backBy_25 : decode cX12_backBy 25 = .ok (.bipush (-3), 2) := by decide +kernel
theorem dX12_backBy_27 : decode cX12_backBy 27 = .ok (.ireturn, 1) := by decide +kernel
theorem dX12_backBy_28 : decode cX12_backBy 28 = .ok (.aload_n 0, 1) := by decide +kernel
theorem dX12_backBy_29 : decode cX12_backBy 29 = .ok (.iload_n 1, 1) := by decide +kernel
theorem dX12_backBy_30 : decode cX12_backBy 30 = .ok (.iload_n 2, 1) := by decide +kernel
theorem dX12_backBy_31 : decode cX12_backBy 31 = .ok (.invokevirtual 398, 3) := by decide +kernel
theorem dX12_backBy_34 : decode cX12_backBy 34 = .ok (.ifCond .ne 5, 3) := by decide +kernel
theorem dX12_backBy_37 : decode cX12_backBy 37 = .ok (.iconst (-1), 1) := by decide +kernel
theorem dX12_backBy_38 : decode cX12_backBy 38 = .ok (.ireturn, 1) := by decide +kernel
theorem dX12_backBy_39 : decode cX12_backBy 39 = .ok (.iconst 0, 1) := by decide +kernel
theorem dX12_backBy_40 : decode cX12_backBy 40 = .ok (.istore 5, 2) := by decide +kernel
theorem dX12_backBy_42 : decode cX12_backBy 42 = .ok (.iconst 0, 1) := by decide +kernel
theorem dX12_backBy_43 : decode cX12_backBy 43 = .ok (.istore 6, 2) := by decide +kernel
theorem dX12_backBy_45 : decode cX12_backBy 45 = .ok (.iload 5, 2) := by decide +kernel
theorem dX12_backBy_47 : decode cX12_backBy 47 = .ok (.aload_n 0, 1) := by decide +kernel
theorem dX12_backBy_48 : decode cX12_backBy 48 = .ok (.getfield 376, 3) := by decide +kernel
theorem dX12_backBy_51 : decode cX12_backBy 51 = .ok (.if_icmp .ge 69, 3) := by decide +kernel
theorem dX12_backBy_54 : decode cX12_backBy 54 = .ok (.iconst 0, 1) := by decide +kernel
theorem dX12_backBy_55 : decode cX12_backBy 55 = .ok (.istore 7, 2) := by decide +kernel
theorem dX12_backBy_57 : decode cX12_backBy 57 = .ok (.aload_n 0, 1) := by decide +kernel
theorem dX12_backBy_58 : decode cX12_backBy 58 = .ok (.iload_n 2, 1) := by decide +kernel
theorem dX12_backBy_59 : decode cX12_backBy 59 = .ok (.iload 7, 2) := by decide +kernel
theorem dX12_backBy_61 : decode cX12_backBy 61 = .ok (.iload 5, 2) := by decide +kernel
theorem dX12_backBy_63 : decode cX12_backBy 63 = .ok (.invokevirtual 392, 3) := by decide +kernel
theorem dX12_backBy_66 : decode cX12_backBy 66 = .ok (.ifCond .eq 21, 3) := by decide +kernel
theorem dX12_backBy_69 : decode cX12_backBy 69 = .ok (.aload_n 0, 1) := by decide +kernel
theorem dX12_backBy_70 : decode cX12_backBy 70 = .ok (.getfield 61, 3) := by decide +kernel
theorem dX12_backBy_73 : decode cX12_backBy 73 = .ok (.iload 5, 2) := by decide +kernel
theorem dX12_backBy_75 : decode cX12_backBy 75 = .ok (.aload_n 0, 1) := by decide +kernel
theorem dX12_backBy_76 : decode cX12_backBy 76 = .ok (.iload_n 2, 1) := by decide +kernel
theorem dX12_backBy_77 : decode cX12_backBy 77 = .ok (.iload 7, 2) := by decide +kernel
theorem dX12_backBy_79 : decode cX12_backBy 79 = .ok (.invokevirtual 239, 3) := by decide +kernel
theorem dX12_backBy_82 : decode cX12_backBy 82 = .ok (.iadd, 1) := by decide +kernel
theorem dX12_backBy_83 : decode cX12_backBy 83 = .ok (.iaload, 1) := by decide +kernel
theorem dX12_backBy_84 : decode cX12_backBy 84 = .ok (.ifCond .ne 9, 3) := by decide +kernel
theorem dX12_backBy_87 : decode cX12_backBy 87 = .ok (.iinc 7 1, 3) := by decide +kernel
theorem dX12_backBy_90 : decode cX12_backBy 90 = .ok (.goto (-33), 3) := by decide +kernel
theorem dX12_backBy_93 : decode cX12_backBy 93 = .ok (.iload 6, 2) := by decide +kernel
theorem dX12_backBy_95 : decode cX12_backBy 95 = .ok (.iload_n 3, 1) := by decide +kernel
theorem dX12_backBy_96 : decode cX12_backBy 96 = .ok (.if_icmp .ne 6, 3) := by decide +kernel
theorem dX12_backBy_99 : decode cX12_backBy 99 = .ok (.iload 7, 2) := by decide +kernel
theorem dX12_backBy_101 : decode cX12_backBy 101 = .ok (.ireturn, 1) := by decide +kernel
theorem dX12_backBy_102 : decode cX12_backBy 102 = .ok (.iload 5, 2) := by decide +kernel
theorem dX12_backBy_104 : decode cX12_backBy 104 = .ok (.aload_n 0, 1) := by decide +kernel
theorem dX12_backBy_105 : decode cX12_backBy 105 = .ok (.iload_n 2, 1) := by decide +kernel
theorem dX12_backBy_106 : decode cX12_backBy 106 = .ok (.iload 7, 2) := by decide +kernel
theorem dX12_backBy_108 : decode cX12_backBy 108 = .ok (.invokevirtual 239, 3) := by decide +kernel
theorem dX12_backBy_111 : decode cX12_backBy 111 = .ok (.iadd, 1) := by decide +kernel
theorem dX12_backBy_112 : decode cX12_backBy 112 = .ok (.istore 5, 2) := by decide +kernel
theorem dX12_backBy_114 : decode cX12_backBy 114 = .ok (.iinc 6 1, 3) := by decide +kernel
theorem dX12_backBy_117 : decode cX12_backBy 117 = .ok (.goto (-72), 3) := by decide +kernel
theorem dX12_backBy_120 : decode cX12_backBy 120 = .ok (.iconst (-1), 1) := by decide +kernel
theorem dX12_backBy_121 : decode cX12_backBy 121 = .ok (.ireturn, 1) := by decide +kernel
theorem dX12_laysReach_0 : decode cX12_laysReach 0 = .ok (.iconst 0, 1) := by decide +kernel
theorem dX12_laysReach_1 : decode cX12_laysReach 1 = .ok (.istore_n 2, 1) := by decide +kernel
theorem dX12_laysReach_2 : decode cX12_laysReach 2 = .ok (.iload_n 2, 1) := by decide +kernel
theorem dX12_laysReach_3 : decode cX12_laysReach 3 = .ok (.bipush 6, 2) := by decide +kernel
theorem dX12_laysReach_5 : decode cX12_laysReach 5 = .ok (.if_icmp .ge 52, 3) := by decide +kernel
theorem dX12_laysReach_8 : decode cX12_laysReach 8 = .ok (.aload_n 0, 1) := by decide +kernel
theorem dX12_laysReach_9 : decode cX12_laysReach 9 = .ok (.getfield 64, 3) := by decide +kernel
theorem dX12_laysReach_12 : decode cX12_laysReach 12 = .ok (.iload_n 2, 1) := by decide +kernel
theorem dX12_laysReach_13 : decode cX12_laysReach 13 = .ok (.iconst 0, 1) := by decide +kernel
theorem dX12_laysReach_14 : decode cX12_laysReach 14 = .ok (.iastore, 1) := by decide +kernel
theorem dX12_laysReach_15 : decode cX12_laysReach 15 = .ok (.iconst 0, 1) := by decide +kernel
theorem dX12_laysReach_16 : decode cX12_laysReach 16 = .ok (.istore_n 3, 1) := by decide +kernel
theorem dX12_laysReach_17 : decode cX12_laysReach 17 = .ok (.iload_n 3, 1) := by decide +kernel
theorem dX12_laysReach_18 : decode cX12_laysReach 18 = .ok (.aload_n 0, 1) := by decide +kernel
theorem dX12_laysReach_19 : decode cX12_laysReach 19 = .ok (.iload_n 1, 1) := by decide +kernel
theorem dX12_laysReach_20 : decode cX12_laysReach 20 = .ok (.iload_n 2, 1) := by decide +kernel
theorem dX12_laysReach_21 : decode cX12_laysReach 21 = .ok (.invokevirtual 239, 3) := by decide +kernel
theorem dX12_laysReach_24 : decode cX12_laysReach 24 = .ok (.if_icmp .ge 27, 3) := by decide +kernel
theorem dX12_laysReach_27 : decode cX12_laysReach 27 = .ok (.aload_n 0, 1) := by decide +kernel
theorem dX12_laysReach_28 : decode cX12_laysReach 28 = .ok (.getfield 64, 3) := by decide +kernel
theorem dX12_laysReach_31 : decode cX12_laysReach 31 = .ok (.iload_n 2, 1) := by decide +kernel
theorem dX12_laysReach_32 : decode cX12_laysReach 32 = .ok (.dup2, 1) := by decide +kernel
theorem dX12_laysReach_33 : decode cX12_laysReach 33 = .ok (.iaload, 1) := by decide +kernel
theorem dX12_laysReach_34 : decode cX12_laysReach 34 = .ok (.iconst 1, 1) := by decide +kernel
theorem dX12_laysReach_35 : decode cX12_laysReach 35 = .ok (.aload_n 0, 1) := by decide +kernel
theorem dX12_laysReach_36 : decode cX12_laysReach 36 = .ok (.iload_n 1, 1) := by decide +kernel
theorem dX12_laysReach_37 : decode cX12_laysReach 37 = .ok (.iload_n 2, 1) := by decide +kernel
theorem dX12_laysReach_38 : decode cX12_laysReach 38 = .ok (.iload_n 3, 1) := by decide +kernel
theorem dX12_laysReach_39 : decode cX12_laysReach 39 = .ok (.invokevirtual 242, 3) := by decide +kernel
theorem dX12_laysReach_42 : decode cX12_laysReach 42 = .ok (.ishl, 1) := by decide +kernel
theorem dX12_laysReach_43 : decode cX12_laysReach 43 = .ok (.ior, 1) := by decide +kernel
theorem dX12_laysReach_44 : decode cX12_laysReach 44 = .ok (.iastore, 1) := by decide +kernel
theorem dX12_laysReach_45 : decode cX12_laysReach 45 = .ok (.iinc 3 1, 3) := by decide +kernel
theorem dX12_laysReach_48 : decode cX12_laysReach 48 = .ok (.goto (-31), 3) := by decide +kernel
theorem dX12_laysReach_51 : decode cX12_laysReach 51 = .ok (.iinc 2 1, 3) := by decide +kernel
theorem dX12_laysReach_54 : decode cX12_laysReach 54 = .ok (.goto (-52), 3) := by decide +kernel
theorem dX12_laysReach_57 : decode cX12_laysReach 57 = .ok (.iconst 0, 1) := by decide +kernel
theorem dX12_laysReach_58 : decode cX12_laysReach 58 = .ok (.istore_n 2, 1) := by decide +kernel
theorem dX12_laysReach_59 : decode cX12_laysReach 59 = .ok (.iload_n 2, 1) := by decide +kernel
theorem dX12_laysReach_60 : decode cX12_laysReach 60 = .ok (.bipush 6, 2) := by decide +kernel
theorem dX12_laysReach_62 : decode cX12_laysReach 62 = .ok (.if_icmp .ge 52, 3) := by decide +kernel
theorem dX12_laysReach_65 : decode cX12_laysReach 65 = .ok (.iconst 0, 1) := by decide +kernel
theorem dX12_laysReach_66 : decode cX12_laysReach 66 = .ok (.istore_n 3, 1) := by decide +kernel
theorem dX12_laysReach_67 : decode cX12_laysReach 67 = .ok (.iload_n 3, 1) := by decide +kernel
theorem dX12_laysReach_68 : decode cX12_laysReach 68 = .ok (.bipush 6, 2) := by decide +kernel
theorem dX12_laysReach_70 : decode cX12_laysReach 70 = .ok (.if_icmp .ge 38, 3) := by decide +kernel
theorem dX12_laysReach_73 : decode cX12_laysReach 73 = .ok (.aload_n 0, 1) := by decide +kernel
theorem dX12_laysReach_74 : decode cX12_laysReach 74 = .ok (.getfield 64, 3) := by decide +kernel
theorem dX12_laysReach_77 : decode cX12_laysReach 77 = .ok (.iload_n 3, 1) := by decide +kernel
theorem dX12_laysReach_78 : decode cX12_laysReach 78 = .ok (.iaload, 1) := by decide +kernel
theorem dX12_laysReach_79 : decode cX12_laysReach 79 = .ok (.i2l, 1) := by decide +kernel
theorem dX12_laysReach_80 : decode cX12_laysReach 80 = .ok (.iload_n 2, 1) := by decide +kernel
theorem dX12_laysReach_81 : decode cX12_laysReach 81 = .ok (.invokestatic 401, 3) := by decide +kernel
theorem dX12_laysReach_84 : decode cX12_laysReach 84 = .ok (.ifCond .eq 18, 3) := by decide +kernel
theorem dX12_laysReach_87 : decode cX12_laysReach 87 = .ok (.aload_n 0, 1) := by decide +kernel
theorem dX12_laysReach_88 : decode cX12_laysReach 88 = .ok (.getfield 64, 3) := by decide +kernel
theorem dX12_laysReach_91 : decode cX12_laysReach 91 = .ok (.iload_n 3, 1) := by decide +kernel
theorem dX12_laysReach_92 : decode cX12_laysReach 92 = .ok (.dup2, 1) := by decide +kernel
theorem dX12_laysReach_93 : decode cX12_laysReach 93 = .ok (.iaload, 1) := by decide +kernel
theorem dX12_laysReach_94 : decode cX12_laysReach 94 = .ok (.aload_n 0, 1) := by decide +kernel
theorem dX12_laysReach_95 : decode cX12_laysReach 95 = .ok (.getfield 64, 3) := by decide +kernel
theorem dX12_laysReach_98 : decode cX12_laysReach 98 = .ok (.iload_n 2, 1) := by decide +kernel
theorem dX12_laysReach_99 : decode cX12_laysReach 99 = .ok (.iaload, 1) := by decide +kernel
theorem dX12_laysReach_100 : decode cX12_laysReach 100 = .ok (.ior, 1) := by decide +kernel
theorem dX12_laysReach_101 : decode cX12_laysReach 101 = .ok (.iastore, 1) := by decide +kernel
theorem dX12_laysReach_102 : decode cX12_laysReach 102 = .ok (.iinc 3 1, 3) := by decide +kernel
theorem dX12_laysReach_105 : decode cX12_laysReach 105 = .ok (.goto (-38), 3) := by decide +kernel
theorem dX12_laysReach_108 : decode cX12_laysReach 108 = .ok (.iinc 2 1, 3) := by decide +kernel
theorem dX12_laysReach_111 : decode cX12_laysReach 111 = .ok (.goto (-52), 3) := by decide +kernel
theorem dX12_laysReach_114 : decode cX12_laysReach 114 = .ok (.return_, 1) := by decide +kernel
theorem dX12_itsAll_0 : decode cX12_itsAll 0 = .ok (.aload_n 0, 1) := by decide +kernel
theorem dX12_itsAll_1 : decode cX12_itsAll 1 = .ok (.getfield 64, 3) := by decide +kernel
theorem dX12_itsAll_4 : decode cX12_itsAll 4 = .ok (.iload_n 1, 1) := by decide +kernel
theorem dX12_itsAll_5 : decode cX12_itsAll 5 = .ok (.iaload, 1) := by decide +kernel
theorem dX12_itsAll_6 : decode cX12_itsAll 6 = .ok (.iconst 1, 1) := by decide +kernel
theorem dX12_itsAll_7 : decode cX12_itsAll 7 = .ok (.iload_n 1, 1) := by decide +kernel
theorem dX12_itsAll_8 : decode cX12_itsAll 8 = .ok (.ishl, 1) := by decide +kernel
theorem dX12_itsAll_9 : decode cX12_itsAll 9 = .ok (.ior, 1) := by decide +kernel
theorem dX12_itsAll_10 : decode cX12_itsAll 10 = .ok (.ireturn, 1) := by decide +kernel
theorem dX12_isDoubled_0 : decode cX12_isDoubled 0 = .ok (.iconst 0, 1) := by decide +kernel
theorem dX12_isDoubled_1 : decode cX12_isDoubled 1 = .ok (.istore_n 3, 1) := by decide +kernel
theorem dX12_isDoubled_2 : decode cX12_isDoubled 2 = .ok (.iconst 0, 1) := by decide +kernel
theorem dX12_isDoubled_3 : decode cX12_isDoubled 3 = .ok (.istore 4, 2) := by decide +kernel
theorem dX12_isDoubled_5 : decode cX12_isDoubled 5 = .ok (.iload 4, 2) := by decide +kernel
theorem dX12_isDoubled_7 : decode cX12_isDoubled 7 = .ok (.aload_n 0, 1) := by decide +kernel
theorem dX12_isDoubled_8 : decode cX12_isDoubled 8 = .ok (.iload_n 1, 1) := by decide +kernel
theorem dX12_isDoubled_9 : decode cX12_isDoubled 9 = .ok (.iload_n 2, 1) := by decide +kernel
theorem dX12_isDoubled_10 : decode cX12_isDoubled 10 = .ok (.invokevirtual 239, 3) := by decide +kernel
theorem dX12_isDoubled_13 : decode cX12_isDoubled 13 = .ok (.if_icmp .ge 37, 3) := by decide +kernel
theorem dX12_isDoubled_16 : decode cX12_isDoubled 16 = .ok (.iload_n 3, 1) := by decide +kernel
theorem dX12_isDoubled_17 : decode cX12_isDoubled 17 = .ok (.aload_n 0, 1) := by decide +kernel
theorem dX12_isDoubled_18 : decode cX12_isDoubled 18 = .ok (.aload_n 0, 1) := by decide +kernel
theorem dX12_isDoubled_19 : decode cX12_isDoubled 19 = .ok (.iload_n 1, 1) := by decide +kernel
theorem dX12_isDoubled_20 : decode cX12_isDoubled 20 = .ok (.iload_n 2, 1) := by decide +kernel
theorem dX12_isDoubled_21 : decode cX12_isDoubled 21 = .ok (.iload 4, 2) := by decide +kernel
theorem dX12_isDoubled_23 : decode cX12_isDoubled 23 = .ok (.invokevirtual 242, 3) := by decide +kernel
theorem dX12_isDoubled_26 : decode cX12_isDoubled 26 = .ok (.invokevirtual 405, 3) := by decide +kernel
theorem dX12_isDoubled_29 : decode cX12_isDoubled 29 = .ok (.i2l, 1) := by decide +kernel
theorem dX12_isDoubled_30 : decode cX12_isDoubled 30 = .ok (.iload_n 2, 1) := by decide +kernel
theorem dX12_isDoubled_31 : decode cX12_isDoubled 31 = .ok (.invokestatic 401, 3) := by decide +kernel
theorem dX12_isDoubled_34 : decode cX12_isDoubled 34 = .ok (.ifCond .eq 7, 3) := by decide +kernel
theorem dX12_isDoubled_37 : decode cX12_isDoubled 37 = .ok (.iconst 1, 1) := by decide +kernel
theorem dX12_isDoubled_38 : decode cX12_isDoubled 38 = .ok (.goto 4, 3) := by decide +kernel
theorem dX12_isDoubled_41 : decode cX12_isDoubled 41 = .ok (.iconst 0, 1) := by decide +kernel
theorem dX12_isDoubled_42 : decode cX12_isDoubled 42 = .ok (.iadd, 1) := by decide +kernel
theorem dX12_isDoubled_43 : decode cX12_isDoubled 43 = .ok (.istore_n 3, 1) := by decide +kernel
theorem dX12_isDoubled_44 : decode cX12_isDoubled 44 = .ok (.iinc 4 1, 3) := by decide +kernel
theorem dX12_isDoubled_47 : decode cX12_isDoubled 47 = .ok (.goto (-42), 3) := by decide +kernel
theorem dX12_isDoubled_50 : decode cX12_isDoubled 50 = .ok (.iload_n 3, 1) := by decide +kernel
theorem dX12_isDoubled_51 : decode cX12_isDoubled 51 = .ok (.iconst 1, 1) := by decide +kernel
theorem dX12_isDoubled_52 : decode cX12_isDoubled 52 = .ok (.if_icmp .le 7, 3) := by decide +kernel
theorem dX12_isDoubled_55 : decode cX12_isDoubled 55 = .ok (.iconst 1, 1) := by decide +kernel
theorem dX12_isDoubled_56 : decode cX12_isDoubled 56 = .ok (.goto 4, 3) := by decide +kernel
theorem dX12_isDoubled_59 : decode cX12_isDoubled 59 = .ok (.iconst 0, 1) := by decide +kernel
theorem dX12_isDoubled_60 : decode cX12_isDoubled 60 = .ok (.ireturn, 1) := by decide +kernel
theorem dX12_rowFrom_0 : decode cX12_rowFrom 0 = .ok (.iconst 0, 1) := by decide +kernel
theorem dX12_rowFrom_1 : decode cX12_rowFrom 1 = .ok (.istore_n 2, 1) := by decide +kernel
theorem dX12_rowFrom_2 : decode cX12_rowFrom 2 = .ok (.iconst 0, 1) := by decide +kernel
theorem dX12_rowFrom_3 : decode cX12_rowFrom 3 = .ok (.istore_n 3, 1) := by decide +kernel
theorem dX12_rowFrom_4 : decode cX12_rowFrom 4 = .ok (.iload_n 3, 1) := by decide +kernel
theorem dX12_rowFrom_5 : decode cX12_rowFrom 5 = .ok (.bipush 6, 2) := by decide +kernel
theorem dX12_rowFrom_7 : decode cX12_rowFrom 7 = .ok (.if_icmp .ge 74, 3) := by decide +kernel
theorem dX12_rowFrom_10 : decode cX12_rowFrom 10 = .ok (.aload_n 0, 1) := by decide +kernel
theorem dX12_rowFrom_11 : decode cX12_rowFrom 11 = .ok (.getfield 64, 3) := by decide +kernel
theorem dX12_rowFrom_14 : decode cX12_rowFrom 14 = .ok (.iload_n 1, 1) := by decide +kernel
theorem dX12_rowFrom_15 : decode cX12_rowFrom 15 = .ok (.iaload, 1) := by decide +kernel
theorem dX12_rowFrom_16 : decode cX12_rowFrom 16 = .ok (.i2l, 1) := by decide +kernel
theorem dX12_rowFrom_17 : decode cX12_rowFrom 17 = .ok (.iload_n 3, 1) := by decide +kernel
theorem dX12_rowFrom_18 : decode cX12_rowFrom 18 = .ok (.invokestatic 401, 3) := by decide +kernel
theorem dX12_rowFrom_21 : decode cX12_rowFrom 21 = .ok (.ifCond .eq 54, 3) := by decide +kernel
theorem dX12_rowFrom_24 : decode cX12_rowFrom 24 = .ok (.aload_n 0, 1) := by decide +kernel
theorem dX12_rowFrom_25 : decode cX12_rowFrom 25 = .ok (.getfield 64, 3) := by decide +kernel
theorem dX12_rowFrom_28 : decode cX12_rowFrom 28 = .ok (.iload_n 3, 1) := by decide +kernel
theorem dX12_rowFrom_29 : decode cX12_rowFrom 29 = .ok (.iaload, 1) := by decide +kernel
theorem dX12_rowFrom_30 : decode cX12_rowFrom 30 = .ok (.i2l, 1) := by decide +kernel
theorem dX12_rowFrom_31 : decode cX12_rowFrom 31 = .ok (.iload_n 3, 1) := by decide +kernel
theorem dX12_rowFrom_32 : decode cX12_rowFrom 32 = .ok (.invokestatic 401, 3) := by decide +kernel
theorem dX12_rowFrom_35 : decode cX12_rowFrom 35 = .ok (.ifCond .eq 40, 3) := by decide +kernel
theorem dX12_rowFrom_38 : decode cX12_rowFrom 38 = .ok (.aload_n 0, 1) := by decide +kernel
theorem dX12_rowFrom_39 : decode cX12_rowFrom 39 = .ok (.getfield 64, 3) := by decide +kernel
theorem dX12_rowFrom_42 : decode cX12_rowFrom 42 = .ok (.iload_n 3, 1) := by decide +kernel
theorem dX12_rowFrom_43 : decode cX12_rowFrom 43 = .ok (.iaload, 1) := by decide +kernel
theorem dX12_rowFrom_44 : decode cX12_rowFrom 44 = .ok (.i2l, 1) := by decide +kernel
theorem dX12_rowFrom_45 : decode cX12_rowFrom 45 = .ok (.iload_n 1, 1) := by decide +kernel
theorem dX12_rowFrom_46 : decode cX12_rowFrom 46 = .ok (.invokestatic 401, 3) := by decide +kernel
theorem dX12_rowFrom_49 : decode cX12_rowFrom 49 = .ok (.ifCond .eq 6, 3) := by decide +kernel
theorem dX12_rowFrom_52 : decode cX12_rowFrom 52 = .ok (.goto 23, 3) := by decide +kernel
theorem dX12_rowFrom_55 : decode cX12_rowFrom 55 = .ok (.aload_n 0, 1) := by decide +kernel
theorem dX12_rowFrom_56 : decode cX12_rowFrom 56 = .ok (.iload_n 3, 1) := by decide +kernel
theorem dX12_rowFrom_57 : decode cX12_rowFrom 57 = .ok (.invokevirtual 408, 3) := by decide +kernel
theorem dX12_rowFrom_60 : decode cX12_rowFrom 60 = .ok (.istore 4, 2) := by decide +kernel
theorem dX12_rowFrom_62 : decode cX12_rowFrom 62 = .ok (.iload 4, 2) := by decide +kernel
theorem dX12_rowFrom_64 : decode cX12_rowFrom 64 = .ok (.iload_n 2, 1) := by decide +kernel
theorem dX12_rowFrom_65 : decode cX12_rowFrom 65 = .ok (.if_icmp .le 8, 3) := by decide +kernel
theorem dX12_rowFrom_68 : decode cX12_rowFrom 68 = .ok (.iload 4, 2) := by decide +kernel
theorem dX12_rowFrom_70 : decode cX12_rowFrom 70 = .ok (.goto 4, 3) := by decide +kernel
theorem dX12_rowFrom_73 : decode cX12_rowFrom 73 = .ok (.iload_n 2, 1) := by decide +kernel
theorem dX12_rowFrom_74 : decode cX12_rowFrom 74 = .ok (.istore_n 2, 1) := by decide +kernel
theorem dX12_rowFrom_75 : decode cX12_rowFrom 75 = .ok (.iinc 3 1, 3) := by decide +kernel
theorem dX12_rowFrom_78 : decode cX12_rowFrom 78 = .ok (.goto (-74), 3) := by decide +kernel
theorem dX12_rowFrom_81 : decode cX12_rowFrom 81 = .ok (.iload_n 2, 1) := by decide +kernel
theorem dX12_rowFrom_82 : decode cX12_rowFrom 82 = .ok (.iconst 1, 1) := by decide +kernel
theorem dX12_rowFrom_83 : decode cX12_rowFrom 83 = .ok (.iadd, 1) := by decide +kernel
theorem dX12_rowFrom_84 : decode cX12_rowFrom 84 = .ok (.ireturn, 1) := by decide +kernel
theorem dX12_mostRow_0 : decode cX12_mostRow 0 = .ok (.iconst 0, 1) := by decide +kernel
theorem dX12_mostRow_1 : decode cX12_mostRow 1 = .ok (.istore_n 2, 1) := by decide +kernel
theorem dX12_mostRow_2 : decode cX12_mostRow 2 = .ok (.iconst 0, 1) := by decide +kernel
theorem dX12_mostRow_3 : decode cX12_mostRow 3 = .ok (.istore_n 3, 1) := by decide +kernel
theorem dX12_mostRow_4 : decode cX12_mostRow 4 = .ok (.iload_n 3, 1) := by decide +kernel
theorem dX12_mostRow_5 : decode cX12_mostRow 5 = .ok (.bipush 6, 2) := by decide +kernel
theorem dX12_mostRow_7 : decode cX12_mostRow 7 = .ok (.if_icmp .ge 59, 3) := by decide +kernel
theorem dX12_mostRow_10 : decode cX12_mostRow 10 = .ok (.aload_n 0, 1) := by decide +kernel
theorem dX12_mostRow_11 : decode cX12_mostRow 11 = .ok (.iload_n 1, 1) := by decide +kernel
theorem dX12_mostRow_12 : decode cX12_mostRow 12 = .ok (.invokevirtual 405, 3) := by decide +kernel
theorem dX12_mostRow_15 : decode cX12_mostRow 15 = .ok (.i2l, 1) := by decide +kernel
theorem dX12_mostRow_16 : decode cX12_mostRow 16 = .ok (.iload_n 3, 1) := by decide +kernel
theorem dX12_mostRow_17 : decode cX12_mostRow 17 = .ok (.invokestatic 401, 3) := by decide +kernel
theorem dX12_mostRow_20 : decode cX12_mostRow 20 = .ok (.ifCond .eq 40, 3) := by decide +kernel
theorem dX12_mostRow_23 : decode cX12_mostRow 23 = .ok (.aload_n 0, 1) := by decide +kernel
theorem dX12_mostRow_24 : decode cX12_mostRow 24 = .ok (.getfield 64, 3) := by decide +kernel
theorem dX12_mostRow_27 : decode cX12_mostRow 27 = .ok (.iload_n 3, 1) := by decide +kernel
theorem dX12_mostRow_28 : decode cX12_mostRow 28 = .ok (.iaload, 1) := by decide +kernel
theorem dX12_mostRow_29 : decode cX12_mostRow 29 = .ok (.i2l, 1) := by decide +kernel
theorem dX12_mostRow_30 : decode cX12_mostRow 30 = .ok (.iload_n 3, 1) := by decide +kernel
theorem dX12_mostRow_31 : decode cX12_mostRow 31 = .ok (.invokestatic 401, 3) := by decide +kernel
theorem dX12_mostRow_34 : decode cX12_mostRow 34 = .ok (.ifCond .ne 6, 3) := by decide +kernel
theorem dX12_mostRow_37 : decode cX12_mostRow 37 = .ok (.goto 23, 3) := by decide +kernel
theorem dX12_mostRow_40 : decode cX12_mostRow 40 = .ok (.aload_n 0, 1) := by decide +kernel
theorem dX12_mostRow_41 : decode cX12_mostRow 41 = .ok (.iload_n 3, 1) := by decide +kernel
theorem dX12_mostRow_42 : decode cX12_mostRow 42 = .ok (.invokevirtual 408, 3) := by decide +kernel
theorem dX12_mostRow_45 : decode cX12_mostRow 45 = .ok (.istore 4, 2) := by decide +kernel
theorem dX12_mostRow_47 : decode cX12_mostRow 47 = .ok (.iload 4, 2) := by decide +kernel
theorem dX12_mostRow_49 : decode cX12_mostRow 49 = .ok (.iload_n 2, 1) := by decide +kernel
theorem dX12_mostRow_50 : decode cX12_mostRow 50 = .ok (.if_icmp .le 8, 3) := by decide +kernel
theorem dX12_mostRow_53 : decode cX12_mostRow 53 = .ok (.iload 4, 2) := by decide +kernel
theorem dX12_mostRow_55 : decode cX12_mostRow 55 = .ok (.goto 4, 3) := by decide +kernel
theorem dX12_mostRow_58 : decode cX12_mostRow 58 = .ok (.iload_n 2, 1) := by decide +kernel
theorem dX12_mostRow_59 : decode cX12_mostRow 59 = .ok (.istore_n 2, 1) := by decide +kernel
theorem dX12_mostRow_60 : decode cX12_mostRow 60 = .ok (.iinc 3 1, 3) := by decide +kernel
theorem dX12_mostRow_63 : decode cX12_mostRow 63 = .ok (.goto (-59), 3) := by decide +kernel
theorem dX12_mostRow_66 : decode cX12_mostRow 66 = .ok (.iload_n 2, 1) := by decide +kernel
theorem dX12_mostRow_67 : decode cX12_mostRow 67 = .ok (.ireturn, 1) := by decide +kernel
theorem dX12_fateOf_0 : decode cX12_fateOf 0 = .ok (.aload_n 0, 1) := by decide +kernel
theorem dX12_fateOf_1 : decode cX12_fateOf 1 = .ok (.iload_n 1, 1) := by decide +kernel
theorem dX12_fateOf_2 : decode cX12_fateOf 2 = .ok (.invokevirtual 411, 3) := by decide +kernel
theorem dX12_fateOf_5 : decode cX12_fateOf 5 = .ok (.iconst 0, 1) := by decide +kernel
theorem dX12_fateOf_6 : decode cX12_fateOf 6 = .ok (.istore_n 3, 1) := by decide +kernel
theorem dX12_fateOf_7 : decode cX12_fateOf 7 = .ok (.iload_n 3, 1) := by decide +kernel
theorem dX12_fateOf_8 : decode cX12_fateOf 8 = .ok (.bipush 6, 2) := by decide +kernel
theorem dX12_fateOf_10 : decode cX12_fateOf 10 = .ok (.if_icmp .ge 33, 3) := by decide +kernel
theorem dX12_fateOf_13 : decode cX12_fateOf 13 = .ok (.aload_n 0, 1) := by decide +kernel
theorem dX12_fateOf_14 : decode cX12_fateOf 14 = .ok (.iload_n 2, 1) := by decide +kernel
theorem dX12_fateOf_15 : decode cX12_fateOf 15 = .ok (.invokevirtual 405, 3) := by decide +kernel
theorem dX12_fateOf_18 : decode cX12_fateOf 18 = .ok (.i2l, 1) := by decide +kernel
theorem dX12_fateOf_19 : decode cX12_fateOf 19 = .ok (.iload_n 3, 1) := by decide +kernel
theorem dX12_fateOf_20 : decode cX12_fateOf 20 = .ok (.invokestatic 401, 3) := by decide +kernel
theorem dX12_fateOf_23 : decode cX12_fateOf 23 = .ok (.ifCond .eq 14, 3) := by decide +kernel
theorem dX12_fateOf_26 : decode cX12_fateOf 26 = .ok (.aload_n 0, 1) := by decide +kernel
theorem dX12_fateOf_27 : decode cX12_fateOf 27 = .ok (.iload_n 1, 1) := by decide +kernel
theorem dX12_fateOf_28 : decode cX12_fateOf 28 = .ok (.iload_n 3, 1) := by decide +kernel
theorem dX12_fateOf_29 : decode cX12_fateOf 29 = .ok (.invokevirtual 414, 3) := by decide +kernel
theorem dX12_fateOf_32 : decode cX12_fateOf 32 = .ok (.ifCond .eq 5, 3) := by decide +kernel
theorem dX12_fateOf_35 : decode cX12_fateOf 35 = .ok (.iconst 3, 1) := by decide +kernel
theorem dX12_fateOf_36 : decode cX12_fateOf 36 = .ok (.ireturn, 1) := by decide +kernel
theorem dX12_fateOf_37 : decode cX12_fateOf 37 = .ok (.iinc 3 1, 3) := by decide +kernel
theorem dX12_fateOf_40 : decode cX12_fateOf 40 = .ok (.goto (-33), 3) := by decide +kernel
theorem dX12_fateOf_43 : decode cX12_fateOf 43 = .ok (.aload_n 0, 1) := by decide +kernel
theorem dX12_fateOf_44 : decode cX12_fateOf 44 = .ok (.iload_n 2, 1) := by decide +kernel
theorem dX12_fateOf_45 : decode cX12_fateOf 45 = .ok (.invokevirtual 418, 3) := by decide +kernel
theorem dX12_fateOf_48 : decode cX12_fateOf 48 = .ok (.istore_n 3, 1) := by decide +kernel
theorem dX12_fateOf_49 : decode cX12_fateOf 49 = .ok (.iload_n 3, 1) := by decide +kernel
theorem dX12_fateOf_50 : decode cX12_fateOf 50 = .ok (.ifCond .ne 7, 3) := by decide +kernel
theorem dX12_fateOf_53 : decode cX12_fateOf 53 = .ok (.iconst 0, 1) := by decide +kernel
theorem dX12_fateOf_54 : decode cX12_fateOf 54 = .ok (.goto 13, 3) := by decide +kernel
theorem dX12_fateOf_57 : decode cX12_fateOf 57 = .ok (.iload_n 3, 1) := by decide +kernel
theorem dX12_fateOf_58 : decode cX12_fateOf 58 = .ok (.iconst 1, 1) := by decide +kernel
theorem dX12_fateOf_59 : decode cX12_fateOf 59 = .ok (.if_icmp .ne 7, 3) := by decide +kernel
theorem dX12_fateOf_62 : decode cX12_fateOf 62 = .ok (.iconst 1, 1) := by decide +kernel
theorem dX12_fateOf_63 : decode cX12_fateOf 63 = .ok (.goto 4, 3) := by decide +kernel
theorem dX12_fateOf_66 : decode cX12_fateOf 66 = .ok (.iconst 2, 1) := by decide +kernel
theorem dX12_fateOf_67 : decode cX12_fateOf 67 = .ok (.ireturn, 1) := by decide +kernel
theorem dX12_fate_0 : decode cX12_fate 0 = .ok (.aload_n 0, 1) := by decide +kernel
theorem dX12_fate_1 : decode cX12_fate 1 = .ok (.iconst 0, 1) := by decide +kernel
theorem dX12_fate_2 : decode cX12_fate 2 = .ok (.putfield 1, 3) := by decide +kernel
theorem dX12_fate_5 : decode cX12_fate 5 = .ok (.aload_n 0, 1) := by decide +kernel
theorem dX12_fate_6 : decode cX12_fate 6 = .ok (.iload_n 1, 1) := by decide +kernel
theorem dX12_fate_7 : decode cX12_fate 7 = .ok (.invokevirtual 290, 3) := by decide +kernel
theorem dX12_fate_10 : decode cX12_fate 10 = .ok (.ifCond .eq 20, 3) := by decide +kernel
theorem dX12_fate_13 : decode cX12_fate 13 = .ok (.iload_n 2, 1) := by decide +kernel
theorem dX12_fate_14 : decode cX12_fate 14 = .ok (.i2l, 1) := by decide +kernel
theorem dX12_fate_15 : decode cX12_fate 15 = .ok (.invokestatic 293, 3) := by decide +kernel
theorem dX12_fate_18 : decode cX12_fate 18 = .ok (.ifCond .eq 12, 3) := by decide +kernel
theorem dX12_fate_21 : decode cX12_fate 21 = .ok (.aload_n 0, 1) := by decide +kernel
theorem dX12_fate_22 : decode cX12_fate 22 = .ok (.iload_n 1, 1) := by decide +kernel
theorem dX12_fate_23 : decode cX12_fate 23 = .ok (.iload_n 2, 1) := by decide +kernel
theorem dX12_fate_24 : decode cX12_fate 24 = .ok (.invokevirtual 421, 3) := by decide +kernel
theorem dX12_fate_27 : decode cX12_fate 27 = .ok (.goto 5, 3) := by decide +kernel
theorem dX12_fate_30 : decode cX12_fate 30 = .ok (.bipush (-2), 2) := by decide +kernel
theorem dX12_fate_32 : decode cX12_fate 32 = .ok (.ireturn, 1) := by decide +kernel
theorem dX12_degree_0 : decode cX12_degree 0 = .ok (.aload_n 0, 1) := by decide +kernel
theorem dX12_degree_1 : decode cX12_degree 1 = .ok (.iconst 0, 1) := by decide +kernel
theorem dX12_degree_2 : decode cX12_degree 2 = .ok (.putfield 1, 3) := by decide +kernel
theorem dX12_degree_5 : decode cX12_degree 5 = .ok (.aload_n 0, 1) := by decide +kernel
theorem dX12_degree_6 : decode cX12_degree 6 = .ok (.iload_n 1, 1) := by decide +kernel
theorem dX12_degree_7 : decode cX12_degree 7 = .ok (.invokevirtual 290, 3) := by decide +kernel
theorem dX12_degree_10 : decode cX12_degree 10 = .ok (.ifCond .eq 11, 3) := by decide +kernel
theorem dX12_degree_13 : decode cX12_degree 13 = .ok (.iload_n 2, 1) := by decide +kernel
theorem dX12_degree_14 : decode cX12_degree 14 = .ok (.i2l, 1) := by decide +kernel
theorem dX12_degree_15 : decode cX12_degree 15 = .ok (.invokestatic 293, 3) := by decide +kernel
theorem dX12_degree_18 : decode cX12_degree 18 = .ok (.ifCond .ne 6, 3) := by decide +kernel
theorem dX12_degree_21 : decode cX12_degree 21 = .ok (.bipush (-2), 2) := by decide +kernel
theorem dX12_degree_23 : decode cX12_degree 23 = .ok (.ireturn, 1) := by decide +kernel
theorem dX12_degree_24 : decode cX12_degree 24 = .ok (.aload_n 0, 1) := by decide +kernel
theorem dX12_degree_25 : decode cX12_degree 25 = .ok (.iload_n 1, 1) := by decide +kernel
theorem dX12_degree_26 : decode cX12_degree 26 = .ok (.iload_n 2, 1) := by decide +kernel
theorem dX12_degree_27 : decode cX12_degree 27 = .ok (.invokevirtual 421, 3) := by decide +kernel
theorem dX12_degree_30 : decode cX12_degree 30 = .ok (.iconst 2, 1) := by decide +kernel
theorem dX12_degree_31 : decode cX12_degree 31 = .ok (.if_icmp .ne 13, 3) := by decide +kernel
theorem dX12_degree_34 : decode cX12_degree 34 = .ok (.aload_n 0, 1) := by decide +kernel
theorem dX12_degree_35 : decode cX12_degree 35 = .ok (.iload_n 2, 1) := by decide +kernel
theorem dX12_degree_36 : decode cX12_degree 36 = .ok (.invokevirtual 418, 3) := by decide +kernel
theorem dX12_degree_39 : decode cX12_degree 39 = .ok (.iconst 1, 1) := by decide +kernel
theorem dX12_degree_40 : decode cX12_degree 40 = .ok (.isub, 1) := by decide +kernel
theorem dX12_degree_41 : decode cX12_degree 41 = .ok (.goto 4, 3) := by decide +kernel
theorem dX12_degree_44 : decode cX12_degree 44 = .ok (.iconst (-1), 1) := by decide +kernel
theorem dX12_degree_45 : decode cX12_degree 45 = .ok (.ireturn, 1) := by decide +kernel
theorem dX12_begins_0 : decode cX12_begins 0 = .ok (.aload_n 0, 1) := by decide +kernel
theorem dX12_begins_1 : decode cX12_begins 1 = .ok (.iconst 0, 1) := by decide +kernel
theorem dX12_begins_2 : decode cX12_begins 2 = .ok (.putfield 1, 3) := by decide +kernel
theorem dX12_begins_5 : decode cX12_begins 5 = .ok (.aload_n 0, 1) := by decide +kernel
theorem dX12_begins_6 : decode cX12_begins 6 = .ok (.iload_n 1, 1) := by decide +kernel
theorem dX12_begins_7 : decode cX12_begins 7 = .ok (.invokevirtual 290, 3) := by decide +kernel
theorem dX12_begins_10 : decode cX12_begins 10 = .ok (.ifCond .ne 6, 3) := by decide +kernel
theorem dX12_begins_13 : decode cX12_begins 13 = .ok (.bipush (-2), 2) := by decide +kernel
theorem dX12_begins_15 : decode cX12_begins 15 = .ok (.ireturn, 1) := by decide +kernel
theorem dX12_begins_16 : decode cX12_begins 16 = .ok (.iconst 0, 1) := by decide +kernel
theorem dX12_begins_17 : decode cX12_begins 17 = .ok (.istore_n 2, 1) := by decide +kernel
theorem dX12_begins_18 : decode cX12_begins 18 = .ok (.iconst 0, 1) := by decide +kernel
theorem dX12_begins_19 : decode cX12_begins 19 = .ok (.istore_n 3, 1) := by decide +kernel
theorem dX12_begins_20 : decode cX12_begins 20 = .ok (.iload_n 3, 1) := by decide +kernel
theorem dX12_begins_21 : decode cX12_begins 21 = .ok (.bipush 6, 2) := by decide +kernel
theorem dX12_begins_23 : decode cX12_begins 23 = .ok (.if_icmp .ge 40, 3) := by decide +kernel
theorem dX12_begins_26 : decode cX12_begins 26 = .ok (.iload_n 2, 1) := by decide +kernel
theorem dX12_begins_27 : decode cX12_begins 27 = .ok (.aload_n 0, 1) := by decide +kernel
theorem dX12_begins_28 : decode cX12_begins 28 = .ok (.iload_n 1, 1) := by decide +kernel
theorem dX12_begins_29 : decode cX12_begins 29 = .ok (.iload_n 3, 1) := by decide +kernel
theorem dX12_begins_30 : decode cX12_begins 30 = .ok (.invokevirtual 239, 3) := by decide +kernel
theorem dX12_begins_33 : decode cX12_begins 33 = .ok (.iconst 1, 1) := by decide +kernel
theorem dX12_begins_34 : decode cX12_begins 34 = .ok (.if_icmp .le 20, 3) := by decide +kernel
theorem dX12_begins_37 : decode cX12_begins 37 = .ok (.aload_n 0, 1) := by decide +kernel
theorem dX12_begins_38 : decode cX12_begins 38 = .ok (.iload_n 1, 1) := by decide +kernel
theorem dX12_begins_39 : decode cX12_begins 39 = .ok (.iload_n 3, 1) := by decide +kernel
theorem dX12_begins_40 : decode cX12_begins 40 = .ok (.iconst 0, 1) := by decide +kernel
theorem dX12_begins_41 : decode cX12_begins 41 = .ok (.invokevirtual 242, 3) := by decide +kernel
theorem dX12_begins_44 : decode cX12_begins 44 = .ok (.iload_n 3, 1) := by decide +kernel
theorem dX12_begins_45 : decode cX12_begins 45 = .ok (.if_icmp .ne 9, 3) := by decide +kernel
theorem dX12_begins_48 : decode cX12_begins 48 = .ok (.iconst 1, 1) := by decide +kernel
theorem dX12_begins_49 : decode cX12_begins 49 = .ok (.iload_n 3, 1) := by decide +kernel
theorem dX12_begins_50 : decode cX12_begins 50 = .ok (.ishl, 1) := by decide +kernel
theorem dX12_begins_51 : decode cX12_begins 51 = .ok (.goto 4, 3) := by decide +kernel
theorem dX12_begins_54 : decode cX12_begins 54 = .ok (.iconst 0, 1) := by decide +kernel
theorem dX12_begins_55 : decode cX12_begins 55 = .ok (.ior, 1) := by decide +kernel
theorem dX12_begins_56 : decode cX12_begins 56 = .ok (.istore_n 2, 1) := by decide +kernel
theorem dX12_begins_57 : decode cX12_begins 57 = .ok (.iinc 3 1, 3) := by decide +kernel
theorem dX12_begins_60 : decode cX12_begins 60 = .ok (.goto (-40), 3) := by decide +kernel
theorem dX12_begins_63 : decode cX12_begins 63 = .ok (.iload_n 2, 1) := by decide +kernel
theorem dX12_begins_64 : decode cX12_begins 64 = .ok (.ireturn, 1) := by decide +kernel
theorem dX12_laysMany_0 : decode cX12_laysMany 0 = .ok (.iconst 0, 1) := by decide +kernel
theorem dX12_laysMany_1 : decode cX12_laysMany 1 = .ok (.istore_n 1, 1) := by decide +kernel
theorem dX12_laysMany_2 : decode cX12_laysMany 2 = .ok (.iload_n 1, 1) := by decide +kernel
theorem dX12_laysMany_3 : decode cX12_laysMany 3 = .ok (.bipush 6, 2) := by decide +kernel
theorem dX12_laysMany_5 : decode cX12_laysMany 5 = .ok (.if_icmp .ge 28, 3) := by decide +kernel
theorem dX12_laysMany_8 : decode cX12_laysMany 8 = .ok (.aload_n 0, 1) := by decide +kernel
theorem dX12_laysMany_9 : decode cX12_laysMany 9 = .ok (.iload_n 1, 1) := by decide +kernel
theorem dX12_laysMany_10 : decode cX12_laysMany 10 = .ok (.invokevirtual 304, 3) := by decide +kernel
theorem dX12_laysMany_13 : decode cX12_laysMany 13 = .ok (.aload_n 0, 1) := by decide +kernel
theorem dX12_laysMany_14 : decode cX12_laysMany 14 = .ok (.getfield 67, 3) := by decide +kernel
theorem dX12_laysMany_17 : decode cX12_laysMany 17 = .ok (.iload_n 1, 1) := by decide +kernel
theorem dX12_laysMany_18 : decode cX12_laysMany 18 = .ok (.aload_n 0, 1) := by decide +kernel
theorem dX12_laysMany_19 : decode cX12_laysMany 19 = .ok (.aload_n 0, 1) := by decide +kernel
theorem dX12_laysMany_20 : decode cX12_laysMany 20 = .ok (.getfield 37, 3) := by decide +kernel
theorem dX12_laysMany_23 : decode cX12_laysMany 23 = .ok (.invokevirtual 256, 3) := by decide +kernel
theorem dX12_laysMany_26 : decode cX12_laysMany 26 = .ok (.lastore, 1) := by decide +kernel
theorem dX12_laysMany_27 : decode cX12_laysMany 27 = .ok (.iinc 1 1, 3) := by decide +kernel
theorem dX12_laysMany_30 : decode cX12_laysMany 30 = .ok (.goto (-28), 3) := by decide +kernel
theorem dX12_laysMany_33 : decode cX12_laysMany 33 = .ok (.return_, 1) := by decide +kernel
theorem dX12_goesMany_0 : decode cX12_goesMany 0 = .ok (.bipush 6, 2) := by decide +kernel
theorem dX12_goesMany_2 : decode cX12_goesMany 2 = .ok (.iload_n 1, 1) := by decide +kernel
theorem dX12_goesMany_3 : decode cX12_goesMany 3 = .ok (.iconst 1, 1) := by decide +kernel
theorem dX12_goesMany_4 : decode cX12_goesMany 4 = .ok (.iadd, 1) := by decide +kernel
theorem dX12_goesMany_5 : decode cX12_goesMany 5 = .ok (.imul, 1) := by decide +kernel
theorem dX12_goesMany_6 : decode cX12_goesMany 6 = .ok (.istore_n 3, 1) := by decide +kernel
theorem dX12_goesMany_7 : decode cX12_goesMany 7 = .ok (.iconst 0, 1) := by decide +kernel
theorem dX12_goesMany_8 : decode cX12_goesMany 8 = .ok (.istore 4, 2) := by decide +kernel
theorem dX12_goesMany_10 : decode cX12_goesMany 10 = .ok (.iload 4, 2) := by decide +kernel
theorem dX12_goesMany_12 : decode cX12_goesMany 12 = .ok (.bipush 6, 2) := by decide +kernel
theorem dX12_goesMany_14 : decode cX12_goesMany 14 = .ok (.if_icmp .ge 19, 3) := by decide +kernel
theorem dX12_goesMany_17 : decode cX12_goesMany 17 = .ok (.aload_n 0, 1) := by decide +kernel
theorem dX12_goesMany_18 : decode cX12_goesMany 18 = .ok (.getfield 67, 3) := by decide +kernel
theorem dX12_goesMany_21 : decode cX12_goesMany 21 = .ok (.iload_n 3, 1) := by decide +kernel
theorem dX12_goesMany_22 : decode cX12_goesMany 22 = .ok (.iload 4, 2) := by decide +kernel
theorem dX12_goesMany_24 : decode cX12_goesMany 24 = .ok (.iadd, 1) := by decide +kernel
theorem dX12_goesMany_25 : decode cX12_goesMany 25 = .ok (.lconst 0, 1) := by decide +kernel
theorem dX12_goesMany_26 : decode cX12_goesMany 26 = .ok (.lastore, 1) := by decide +kernel
theorem dX12_goesMany_27 : decode cX12_goesMany 27 = .ok (.iinc 4 1, 3) := by decide +kernel
theorem dX12_goesMany_30 : decode cX12_goesMany 30 = .ok (.goto (-20), 3) := by decide +kernel
theorem dX12_goesMany_33 : decode cX12_goesMany 33 = .ok (.iconst 0, 1) := by decide +kernel
theorem dX12_goesMany_34 : decode cX12_goesMany 34 = .ok (.istore 4, 2) := by decide +kernel
theorem dX12_goesMany_36 : decode cX12_goesMany 36 = .ok (.iload 4, 2) := by decide +kernel
theorem dX12_goesMany_38 : decode cX12_goesMany 38 = .ok (.bipush 6, 2) := by decide +kernel
theorem dX12_goesMany_40 : decode cX12_goesMany 40 = .ok (.if_icmp .ge 61, 3) := by decide +kernel
theorem dX12_goesMany_43 : decode cX12_goesMany 43 = .ok (.iconst 0, 1) := by decide +kernel
theorem dX12_goesMany_44 : decode cX12_goesMany 44 = .ok (.istore 5, 2) := by decide +kernel
theorem dX12_goesMany_46 : decode cX12_goesMany 46 = .ok (.iload 5, 2) := by decide +kernel
theorem dX12_goesMany_48 : decode cX12_goesMany 48 = .ok (.aload_n 0, 1) := by decide +kernel
theorem dX12_goesMany_49 : decode cX12_goesMany 49 = .ok (.iload_n 2, 1) := by decide +kernel
theorem dX12_goesMany_50 : decode cX12_goesMany 50 = .ok (.iload 4, 2) := by decide +kernel
theorem dX12_goesMany_52 : decode cX12_goesMany 52 = .ok (.invokevirtual 239, 3) := by decide +kernel
theorem dX12_goesMany_55 : decode cX12_goesMany 55 = .ok (.if_icmp .ge 40, 3) := by decide +kernel
theorem dX12_goesMany_58 : decode cX12_goesMany 58 = .ok (.aload_n 0, 1) := by decide +kernel
theorem dX12_goesMany_59 : decode cX12_goesMany 59 = .ok (.getfield 67, 3) := by decide +kernel
theorem dX12_goesMany_62 : decode cX12_goesMany 62 = .ok (.iload_n 3, 1) := by decide +kernel
theorem dX12_goesMany_63 : decode cX12_goesMany 63 = .ok (.aload_n 0, 1) := by decide +kernel
theorem dX12_goesMany_64 : decode cX12_goesMany 64 = .ok (.iload_n 2, 1) := by decide +kernel
theorem dX12_goesMany_65 : decode cX12_goesMany 65 = .ok (.iload 4, 2) := by decide +kernel
theorem dX12_goesMany_67 : decode cX12_goesMany 67 = .ok (.iload 5, 2) := by decide +kernel
theorem dX12_goesMany_69 : decode cX12_goesMany 69 = .ok (.invokevirtual 242, 3) := by decide +kernel
theorem dX12_goesMany_72 : decode cX12_goesMany 72 = .ok (.iadd, 1) := by decide +kernel
theorem dX12_goesMany_73 : decode cX12_goesMany 73 = .ok (.dup2, 1) := by decide +kernel
theorem dX12_goesMany_74 : decode cX12_goesMany 74 = .ok (.laload, 1) := by decide +kernel
theorem dX12_goesMany_75 : decode cX12_goesMany 75 = .ok (.aload_n 0, 1) := by decide +kernel
theorem dX12_goesMany_76 : decode cX12_goesMany 76 = .ok (.getfield 67, 3) := by decide +kernel
theorem dX12_goesMany_79 : decode cX12_goesMany 79 = .ok (.bipush 6, 2) := by decide +kernel
theorem dX12_goesMany_81 : decode cX12_goesMany 81 = .ok (.iload_n 1, 1) := by decide +kernel
theorem dX12_goesMany_82 : decode cX12_goesMany 82 = .ok (.imul, 1) := by decide +kernel
theorem dX12_goesMany_83 : decode cX12_goesMany 83 = .ok (.iload 4, 2) := by decide +kernel
theorem dX12_goesMany_85 : decode cX12_goesMany 85 = .ok (.iadd, 1) := by decide +kernel
theorem dX12_goesMany_86 : decode cX12_goesMany 86 = .ok (.laload, 1) := by decide +kernel
theorem dX12_goesMany_87 : decode cX12_goesMany 87 = .ok (.ladd, 1) := by decide +kernel
theorem dX12_goesMany_88 : decode cX12_goesMany 88 = .ok (.lastore, 1) := by decide +kernel
theorem dX12_goesMany_89 : decode cX12_goesMany 89 = .ok (.iinc 5 1, 3) := by decide +kernel
theorem dX12_goesMany_92 : decode cX12_goesMany 92 = .ok (.goto (-46), 3) := by decide +kernel
theorem dX12_goesMany_95 : decode cX12_goesMany 95 = .ok (.iinc 4 1, 3) := by decide +kernel
theorem dX12_goesMany_98 : decode cX12_goesMany 98 = .ok (.goto (-62), 3) := by decide +kernel
theorem dX12_goesMany_101 : decode cX12_goesMany 101 = .ok (.return_, 1) := by decide +kernel
theorem dX12_longIn_0 : decode cX12_longIn 0 = .ok (.lconst 0, 1) := by decide +kernel
theorem dX12_longIn_1 : decode cX12_longIn 1 = .ok (.lstore_n 2, 1) := by decide +kernel
theorem dX12_longIn_2 : decode cX12_longIn 2 = .ok (.iconst 0, 1) := by decide +kernel
theorem dX12_longIn_3 : decode cX12_longIn 3 = .ok (.istore 4, 2) := by decide +kernel
theorem dX12_longIn_5 : decode cX12_longIn 5 = .ok (.iload 4, 2) := by decide +kernel
theorem dX12_longIn_7 : decode cX12_longIn 7 = .ok (.bipush 6, 2) := by decide +kernel
theorem dX12_longIn_9 : decode cX12_longIn 9 = .ok (.if_icmp .ge 24, 3) := by decide +kernel
theorem dX12_longIn_12 : decode cX12_longIn 12 = .ok (.lload_n 2, 1) := by decide +kernel
theorem dX12_longIn_13 : decode cX12_longIn 13 = .ok (.aload_n 0, 1) := by decide +kernel
theorem dX12_longIn_14 : decode cX12_longIn 14 = .ok (.getfield 67, 3) := by decide +kernel
theorem dX12_longIn_17 : decode cX12_longIn 17 = .ok (.bipush 6, 2) := by decide +kernel
theorem dX12_longIn_19 : decode cX12_longIn 19 = .ok (.iload_n 1, 1) := by decide +kernel
theorem dX12_longIn_20 : decode cX12_longIn 20 = .ok (.imul, 1) := by decide +kernel
theorem dX12_longIn_21 : decode cX12_longIn 21 = .ok (.iload 4, 2) := by decide +kernel
theorem dX12_longIn_23 : decode cX12_longIn 23 = .ok (.iadd, 1) := by decide +kernel
theorem dX12_longIn_24 : decode cX12_longIn 24 = .ok (.laload, 1) := by decide +kernel
theorem dX12_longIn_25 : decode cX12_longIn 25 = .ok (.ladd, 1) := by decide +kernel
theorem dX12_longIn_26 : decode cX12_longIn 26 = .ok (.lstore_n 2, 1) := by decide +kernel
theorem dX12_longIn_27 : decode cX12_longIn 27 = .ok (.iinc 4 1, 3) := by decide +kernel
theorem dX12_longIn_30 : decode cX12_longIn 30 = .ok (.goto (-25), 3) := by decide +kernel
theorem dX12_longIn_33 : decode cX12_longIn 33 = .ok (.lload_n 2, 1) := by decide +kernel
theorem dX12_longIn_34 : decode cX12_longIn 34 = .ok (.lreturn, 1) := by decide +kernel
theorem dX12_kindsIn_0 : decode cX12_kindsIn 0 = .ok (.iconst 0, 1) := by decide +kernel
theorem dX12_kindsIn_1 : decode cX12_kindsIn 1 = .ok (.istore_n 1, 1) := by decide +kernel
theorem dX12_kindsIn_2 : decode cX12_kindsIn 2 = .ok (.iconst 0, 1) := by decide +kernel
theorem dX12_kindsIn_3 : decode cX12_kindsIn 3 = .ok (.istore_n 2, 1) := by decide +kernel
theorem dX12_kindsIn_4 : decode cX12_kindsIn 4 = .ok (.iload_n 2, 1) := by decide +kernel
theorem dX12_kindsIn_5 : decode cX12_kindsIn 5 = .ok (.bipush 6, 2) := by decide +kernel
theorem dX12_kindsIn_7 : decode cX12_kindsIn 7 = .ok (.if_icmp .ge 30, 3) := by decide +kernel
theorem dX12_kindsIn_10 : decode cX12_kindsIn 10 = .ok (.iload_n 1, 1) := by decide +kernel
theorem dX12_kindsIn_11 : decode cX12_kindsIn 11 = .ok (.aload_n 0, 1) := by decide +kernel
theorem dX12_kindsIn_12 : decode cX12_kindsIn 12 = .ok (.getfield 67, 3) := by decide +kernel
theorem dX12_kindsIn_15 : decode cX12_kindsIn 15 = .ok (.iload_n 2, 1) := by decide +kernel
theorem dX12_kindsIn_16 : decode cX12_kindsIn 16 = .ok (.laload, 1) := by decide +kernel
theorem dX12_kindsIn_17 : decode cX12_kindsIn 17 = .ok (.lconst 0, 1) := by decide +kernel
theorem dX12_kindsIn_18 : decode cX12_kindsIn 18 = .ok (.lcmp, 1) := by decide +kernel
theorem dX12_kindsIn_19 : decode cX12_kindsIn 19 = .ok (.ifCond .le 9, 3) := by decide +kernel
theorem dX12_kindsIn_22 : decode cX12_kindsIn 22 = .ok (.iconst 1, 1) := by decide +kernel
theorem dX12_kindsIn_23 : decode cX12_kindsIn 23 = .ok (.iload_n 2, 1) := by decide +kernel
theorem dX12_kindsIn_24 : decode cX12_kindsIn 24 = .ok (.ishl, 1) := by decide +kernel
theorem dX12_kindsIn_25 : decode cX12_kindsIn 25 = .ok (.goto 4, 3) := by decide +kernel
theorem dX12_kindsIn_28 : decode cX12_kindsIn 28 = .ok (.iconst 0, 1) := by decide +kernel
theorem dX12_kindsIn_29 : decode cX12_kindsIn 29 = .ok (.ior, 1) := by decide +kernel
theorem dX12_kindsIn_30 : decode cX12_kindsIn 30 = .ok (.istore_n 1, 1) := by decide +kernel
theorem dX12_kindsIn_31 : decode cX12_kindsIn 31 = .ok (.iinc 2 1, 3) := by decide +kernel
theorem dX12_kindsIn_34 : decode cX12_kindsIn 34 = .ok (.goto (-30), 3) := by decide +kernel
theorem dX12_kindsIn_37 : decode cX12_kindsIn 37 = .ok (.iload_n 1, 1) := by decide +kernel
theorem dX12_kindsIn_38 : decode cX12_kindsIn 38 = .ok (.ireturn, 1) := by decide +kernel
theorem dX12_kindsTo_0 : decode cX12_kindsTo 0 = .ok (.iconst 0, 1) := by decide +kernel
theorem dX12_kindsTo_1 : decode cX12_kindsTo 1 = .ok (.istore_n 3, 1) := by decide +kernel
theorem dX12_kindsTo_2 : decode cX12_kindsTo 2 = .ok (.iconst 0, 1) := by decide +kernel
theorem dX12_kindsTo_3 : decode cX12_kindsTo 3 = .ok (.istore 4, 2) := by decide +kernel
theorem dX12_kindsTo_5 : decode cX12_kindsTo 5 = .ok (.iload 4, 2) := by decide +kernel
theorem dX12_kindsTo_7 : decode cX12_kindsTo 7 = .ok (.bipush 6, 2) := by decide +kernel
theorem dX12_kindsTo_9 : decode cX12_kindsTo 9 = .ok (.if_icmp .ge 54, 3) := by decide +kernel
theorem dX12_kindsTo_12 : decode cX12_kindsTo 12 = .ok (.iconst 0, 1) := by decide +kernel
theorem dX12_kindsTo_13 : decode cX12_kindsTo 13 = .ok (.istore 5, 2) := by decide +kernel
theorem dX12_kindsTo_15 : decode cX12_kindsTo 15 = .ok (.iload 5, 2) := by decide +kernel
theorem dX12_kindsTo_17 : decode cX12_kindsTo 17 = .ok (.aload_n 0, 1) := by decide +kernel
theorem dX12_kindsTo_18 : decode cX12_kindsTo 18 = .ok (.iload_n 2, 1) := by decide +kernel
theorem dX12_kindsTo_19 : decode cX12_kindsTo 19 = .ok (.iload 4, 2) := by decide +kernel
theorem dX12_kindsTo_21 : decode cX12_kindsTo 21 = .ok (.invokevirtual 239, 3) := by decide +kernel
theorem dX12_kindsTo_24 : decode cX12_kindsTo 24 = .ok (.if_icmp .ge 33, 3) := by decide +kernel
theorem dX12_kindsTo_27 : decode cX12_kindsTo 27 = .ok (.iload_n 1, 1) := by decide +kernel
theorem dX12_kindsTo_28 : decode cX12_kindsTo 28 = .ok (.i2l, 1) := by decide +kernel
theorem dX12_kindsTo_29 : decode cX12_kindsTo 29 = .ok (.iload 4, 2) := by decide +kernel
theorem dX12_kindsTo_31 : decode cX12_kindsTo 31 = .ok (.invokestatic 401, 3) := by decide +kernel
theorem dX12_kindsTo_34 : decode cX12_kindsTo 34 = .ok (.ifCond .eq 23, 3) := by decide +kernel
theorem dX12_kindsTo_37 : decode cX12_kindsTo 37 = .ok (.iload_n 3, 1) := by decide +kernel
theorem dX12_kindsTo_38 : decode cX12_kindsTo 38 = .ok (.iconst 1, 1) := by decide +kernel
theorem dX12_kindsTo_39 : decode cX12_kindsTo 39 = .ok (.aload_n 0, 1) := by decide +kernel
theorem dX12_kindsTo_40 : decode cX12_kindsTo 40 = .ok (.iload_n 2, 1) := by decide +kernel
theorem dX12_kindsTo_41 : decode cX12_kindsTo 41 = .ok (.iload 4, 2) := by decide +kernel
theorem dX12_kindsTo_43 : decode cX12_kindsTo 43 = .ok (.iload 5, 2) := by decide +kernel
theorem dX12_kindsTo_45 : decode cX12_kindsTo 45 = .ok (.invokevirtual 242, 3) := by decide +kernel
theorem dX12_kindsTo_48 : decode cX12_kindsTo 48 = .ok (.ishl, 1) := by decide +kernel
theorem dX12_kindsTo_49 : decode cX12_kindsTo 49 = .ok (.ior, 1) := by decide +kernel
theorem dX12_kindsTo_50 : decode cX12_kindsTo 50 = .ok (.istore_n 3, 1) := by decide +kernel
theorem dX12_kindsTo_51 : decode cX12_kindsTo 51 = .ok (.iinc 5 1, 3) := by decide +kernel
theorem dX12_kindsTo_54 : decode cX12_kindsTo 54 = .ok (.goto (-39), 3) := by decide +kernel
theorem dX12_kindsTo_57 : decode cX12_kindsTo 57 = .ok (.iinc 4 1, 3) := by decide +kernel
theorem dX12_kindsTo_60 : decode cX12_kindsTo 60 = .ok (.goto (-55), 3) := by decide +kernel
theorem dX12_kindsTo_63 : decode cX12_kindsTo 63 = .ok (.iload_n 3, 1) := by decide +kernel
theorem dX12_kindsTo_64 : decode cX12_kindsTo 64 = .ok (.ireturn, 1) := by decide +kernel
theorem dX12_comes_0 : decode cX12_comes 0 = .ok (.aload_n 0, 1) := by decide +kernel
theorem dX12_comes_1 : decode cX12_comes 1 = .ok (.iconst 0, 1) := by decide +kernel
theorem dX12_comes_2 : decode cX12_comes 2 = .ok (.putfield 1, 3) := by decide +kernel
theorem dX12_comes_5 : decode cX12_comes 5 = .ok (.iload_n 1, 1) := by decide +kernel
theorem dX12_comes_6 : decode cX12_comes 6 = .ok (.i2l, 1) := by decide +kernel
theorem dX12_comes_7 : decode cX12_comes 7 = .ok (.invokestatic 293, 3) := by decide +kernel
theorem dX12_comes_10 : decode cX12_comes 10 = .ok (.ifCond .ne 6, 3) := by decide +kernel
theorem dX12_comes_13 : decode cX12_comes 13 = .ok (.bipush (-2), 2) := by decide +kernel
theorem dX12_comes_15 : decode cX12_comes 15 = .ok (.ireturn, 1) := by decide +kernel
theorem dX12_comes_16 : decode cX12_comes 16 = .ok (.aload_n 0, 1) := by decide +kernel
theorem dX12_comes_17 : decode cX12_comes 17 = .ok (.invokevirtual 424, 3) := by decide +kernel
theorem dX12_comes_20 : decode cX12_comes 20 = .ok (.iconst 0, 1) := by decide +kernel
theorem dX12_comes_21 : decode cX12_comes 21 = .ok (.istore_n 2, 1) := by decide +kernel
theorem dX12_comes_22 : decode cX12_comes 22 = .ok (.iload_n 2, 1) := by decide +kernel
theorem dX12_comes_23 : decode cX12_comes 23 = .ok (.bipush 64, 2) := by decide +kernel
theorem dX12_comes_25 : decode cX12_comes 25 = .ok (.if_icmp .ge 18, 3) := by decide +kernel
theorem dX12_comes_28 : decode cX12_comes 28 = .ok (.aload_n 0, 1) := by decide +kernel
theorem dX12_comes_29 : decode cX12_comes 29 = .ok (.getfield 70, 3) := by decide +kernel
theorem dX12_comes_32 : decode cX12_comes 32 = .ok (.iload_n 2, 1) := by decide +kernel
theorem dX12_comes_33 : decode cX12_comes 33 = .ok (.ldc_w 427, 3) := by decide +kernel
theorem dX12_comes_36 : decode cX12_comes 36 = .ok (.iastore, 1) := by decide +kernel
theorem dX12_comes_37 : decode cX12_comes 37 = .ok (.iinc 2 1, 3) := by decide +kernel
theorem dX12_comes_40 : decode cX12_comes 40 = .ok (.goto (-18), 3) := by decide +kernel
theorem dX12_comes_43 : decode cX12_comes 43 = .ok (.aload_n 0, 1) := by decide +kernel
theorem dX12_comes_44 : decode cX12_comes 44 = .ok (.getfield 70, 3) := by decide +kernel
theorem dX12_comes_47 : decode cX12_comes 47 = .ok (.aload_n 0, 1) := by decide +kernel
theorem dX12_comes_48 : decode cX12_comes 48 = .ok (.invokevirtual 428, 3) := by decide +kernel
theorem dX12_comes_51 : decode cX12_comes 51 = .ok (.iconst 0, 1) := by decide +kernel
theorem dX12_comes_52 : decode cX12_comes 52 = .ok (.iastore, 1) := by decide +kernel
theorem dX12_comes_53 : decode cX12_comes 53 = .ok (.iconst 0, 1) := by decide +kernel
theorem dX12_comes_54 : decode cX12_comes 54 = .ok (.istore_n 2, 1) := by decide +kernel
theorem dX12_comes_55 : decode cX12_comes 55 = .ok (.iload_n 2, 1) := by decide +kernel
theorem dX12_comes_56 : decode cX12_comes 56 = .ok (.bipush 64, 2) := by decide +kernel
theorem dX12_comes_58 : decode cX12_comes 58 = .ok (.if_icmp .ge 100, 3) := by decide +kernel
theorem dX12_comes_61 : decode cX12_comes 61 = .ok (.iconst 0, 1) := by decide +kernel
theorem dX12_comes_62 : decode cX12_comes 62 = .ok (.istore_n 3, 1) := by decide +kernel
theorem dX12_comes_63 : decode cX12_comes 63 = .ok (.iload_n 3, 1) := by decide +kernel
theorem dX12_comes_64 : decode cX12_comes 64 = .ok (.bipush 64, 2) := by decide +kernel
theorem dX12_comes_66 : decode cX12_comes 66 = .ok (.if_icmp .ge 86, 3) := by decide +kernel
theorem dX12_comes_69 : decode cX12_comes 69 = .ok (.aload_n 0, 1) := by decide +kernel
theorem dX12_comes_70 : decode cX12_comes 70 = .ok (.getfield 70, 3) := by decide +kernel
theorem dX12_comes_73 : decode cX12_comes 73 = .ok (.iload_n 3, 1) := by decide +kernel
theorem dX12_comes_74 : decode cX12_comes 74 = .ok (.iaload, 1) := by decide +kernel
theorem dX12_comes_75 : decode cX12_comes 75 = .ok (.iload_n 2, 1) := by decide +kernel
theorem dX12_comes_76 : decode cX12_comes 76 = .ok (.if_icmp .eq 6, 3) := by decide +kernel
theorem dX12_comes_79 : decode cX12_comes 79 = .ok (.goto 67, 3) := by decide +kernel
theorem dX12_comes_82 : decode cX12_comes 82 = .ok (.iload_n 3, 1) := by decide +kernel
theorem dX12_comes_83 : decode cX12_comes 83 = .ok (.i2l, 1) := by decide +kernel
theorem dX12_comes_84 : decode cX12_comes 84 = .ok (.iload_n 1, 1) := by decide +kernel
theorem dX12_comes_85 : decode cX12_comes 85 = .ok (.invokestatic 401, 3) := by decide +kernel
theorem dX12_comes_88 : decode cX12_comes 88 = .ok (.ifCond .eq 5, 3) := by decide +kernel
theorem dX12_comes_91 : decode cX12_comes 91 = .ok (.iload_n 2, 1) := by decide +kernel
theorem dX12_comes_92 : decode cX12_comes 92 = .ok (.ireturn, 1) := by decide +kernel
theorem dX12_comes_93 : decode cX12_comes 93 = .ok (.iconst 0, 1) := by decide +kernel
theorem dX12_comes_94 : decode cX12_comes 94 = .ok (.istore 4, 2) := by decide +kernel
theorem dX12_comes_96 : decode cX12_comes 96 = .ok (.iload 4, 2) := by decide +kernel
theorem dX12_comes_98 : decode cX12_comes 98 = .ok (.aload_n 0, 1) := by decide +kernel
theorem dX12_comes_99 : decode cX12_comes 99 = .ok (.getfield 13, 3) := by decide +kernel
theorem dX12_comes_102 : decode cX12_comes 102 = .ok (.iconst 1, 1) := by decide +kernel
theorem dX12_comes_103 : decode cX12_comes 103 = .ok (.iaload, 1) := by decide +kernel
theorem dX12_comes_104 : decode cX12_comes 104 = .ok (.if_icmp .ge 42, 3) := by decide +kernel
theorem dX12_comes_107 : decode cX12_comes 107 = .ok (.aload_n 0, 1) := by decide +kernel
theorem dX12_comes_108 : decode cX12_comes 108 = .ok (.getfield 70, 3) := by decide +kernel
theorem dX12_comes_111 : decode cX12_comes 111 = .ok (.aload_n 0, 1) := by decide +kernel
theorem dX12_comes_112 : decode cX12_comes 112 = .ok (.iload_n 3, 1) := by decide +kernel
theorem dX12_comes_113 : decode cX12_comes 113 = .ok (.iload 4, 2) := by decide +kernel
theorem dX12_comes_115 : decode cX12_comes 115 = .ok (.invokevirtual 431, 3) := by decide +kernel
theorem dX12_comes_118 : decode cX12_comes 118 = .ok (.iaload, 1) := by decide +kernel
theorem dX12_comes_119 : decode cX12_comes 119 = .ok (.ldc_w 427, 3) := by decide +kernel
theorem dX12_comes_122 : decode cX12_comes 122 = .ok (.if_icmp .ne 18, 3) := by decide +kernel
theorem dX12_comes_125 : decode cX12_comes 125 = .ok (.aload_n 0, 1) := by decide +kernel
theorem dX12_comes_126 : decode cX12_comes 126 = .ok (.getfield 70, 3) := by decide +kernel
theorem dX12_comes_129 : decode cX12_comes 129 = .ok (.aload_n 0, 1) := by decide +kernel
theorem dX12_comes_130 : decode cX12_comes 130 = .ok (.iload_n 3, 1) := by decide +kernel
theorem dX12_comes_131 : decode cX12_comes 131 = .ok (.iload 4, 2) := by decide +kernel
theorem dX12_comes_133 : decode cX12_comes 133 = .ok (.invokevirtual 431, 3) := by decide +kernel
theorem dX12_comes_136 : decode cX12_comes 136 = .ok (.iload_n 2, 1) := by decide +kernel
theorem dX12_comes_137 : decode cX12_comes 137 = .ok (.iconst 1, 1) := by decide +kernel
theorem dX12_comes_138 : decode cX12_comes 138 = .ok (.iadd, 1) := by decide +kernel
theorem dX12_comes_139 : decode cX12_comes 139 = .ok (.iastore, 1) := by decide +kernel
theorem dX12_comes_140 : decode cX12_comes 140 = .ok (.iinc 4 1, 3) := by decide +kernel
theorem dX12_comes_143 : decode cX12_comes 143 = .ok (.goto (-47), 3) := by decide +kernel
theorem dX12_comes_146 : decode cX12_comes 146 = .ok (.iinc 3 1, 3) := by decide +kernel
theorem dX12_comes_149 : decode cX12_comes 149 = .ok (.goto (-86), 3) := by decide +kernel
theorem dX12_comes_152 : decode cX12_comes 152 = .ok (.iinc 2 1, 3) := by decide +kernel
theorem dX12_comes_155 : decode cX12_comes 155 = .ok (.goto (-100), 3) := by decide +kernel
theorem dX12_comes_158 : decode cX12_comes 158 = .ok (.iconst (-1), 1) := by decide +kernel
theorem dX12_comes_159 : decode cX12_comes 159 = .ok (.ireturn, 1) := by decide +kernel
theorem dX12_finds_0 : decode cX12_finds 0 = .ok (.iload_n 3, 1) := by decide +kernel
theorem dX12_finds_1 : decode cX12_finds 1 = .ok (.iload 4, 2) := by decide +kernel
theorem dX12_finds_3 : decode cX12_finds 3 = .ok (.if_icmp .ne 19, 3) := by decide +kernel
theorem dX12_finds_6 : decode cX12_finds 6 = .ok (.aload_n 0, 1) := by decide +kernel
theorem dX12_finds_7 : decode cX12_finds 7 = .ok (.iload_n 3, 1) := by decide +kernel
theorem dX12_finds_8 : decode cX12_finds 8 = .ok (.invokevirtual 434, 3) := by decide +kernel
theorem dX12_finds_11 : decode cX12_finds 11 = .ok (.lload_n 1, 1) := by decide +kernel
theorem dX12_finds_12 : decode cX12_finds 12 = .ok (.lcmp, 1) := by decide +kernel
theorem dX12_finds_13 : decode cX12_finds 13 = .ok (.ifCond .ne 7, 3) := by decide +kernel
theorem dX12_finds_16 : decode cX12_finds 16 = .ok (.iconst 1, 1) := by decide +kernel
theorem dX12_finds_17 : decode cX12_finds 17 = .ok (.goto 4, 3) := by decide +kernel
theorem dX12_finds_20 : decode cX12_finds 20 = .ok (.iconst 0, 1) := by decide +kernel
theorem dX12_finds_21 : decode cX12_finds 21 = .ok (.ireturn, 1) := by decide +kernel
theorem dX12_finds_22 : decode cX12_finds 22 = .ok (.iconst 0, 1) := by decide +kernel
theorem dX12_finds_23 : decode cX12_finds 23 = .ok (.istore 5, 2) := by decide +kernel
theorem dX12_finds_25 : decode cX12_finds 25 = .ok (.iload 5, 2) := by decide +kernel
theorem dX12_finds_27 : decode cX12_finds 27 = .ok (.aload_n 0, 1) := by decide +kernel
theorem dX12_finds_28 : decode cX12_finds 28 = .ok (.getfield 13, 3) := by decide +kernel
theorem dX12_finds_31 : decode cX12_finds 31 = .ok (.iconst 1, 1) := by decide +kernel
theorem dX12_finds_32 : decode cX12_finds 32 = .ok (.iaload, 1) := by decide +kernel
theorem dX12_finds_33 : decode cX12_finds 33 = .ok (.if_icmp .ge 39, 3) := by decide +kernel
theorem dX12_finds_36 : decode cX12_finds 36 = .ok (.aload_n 0, 1) := by decide +kernel
theorem dX12_finds_37 : decode cX12_finds 37 = .ok (.getfield 73, 3) := by decide +kernel
theorem dX12_finds_40 : decode cX12_finds 40 = .ok (.iload_n 3, 1) := by decide +kernel
theorem dX12_finds_41 : decode cX12_finds 41 = .ok (.iload 5, 2) := by decide +kernel
theorem dX12_finds_43 : decode cX12_finds 43 = .ok (.iastore, 1) := by decide +kernel
theorem dX12_finds_44 : decode cX12_finds 44 = .ok (.aload_n 0, 1) := by decide +kernel
theorem dX12_finds_45 : decode cX12_finds 45 = .ok (.iload_n 3, 1) := by decide +kernel
theorem dX12_finds_46 : decode cX12_finds 46 = .ok (.iload 5, 2) := by decide +kernel
theorem dX12_finds_48 : decode cX12_finds 48 = .ok (.invokevirtual 437, 3) := by decide +kernel
theorem dX12_finds_51 : decode cX12_finds 51 = .ok (.aload_n 0, 1) := by decide +kernel
theorem dX12_finds_52 : decode cX12_finds 52 = .ok (.lload_n 1, 1) := by decide +kernel
theorem dX12_finds_53 : decode cX12_finds 53 = .ok (.iload_n 3, 1) := by decide +kernel
theorem dX12_finds_54 : decode cX12_finds 54 = .ok (.iconst 1, 1) := by decide +kernel
theorem dX12_finds_55 : decode cX12_finds 55 = .ok (.iadd, 1) := by decide +kernel
theorem dX12_finds_56 : decode cX12_finds 56 = .ok (.iload 4, 2) := by decide +kernel
theorem dX12_finds_58 : decode cX12_finds 58 = .ok (.invokevirtual 441, 3) := by decide +kernel
theorem dX12_finds_61 : decode cX12_finds 61 = .ok (.ifCond .eq 5, 3) := by decide +kernel
theorem dX12_finds_64 : decode cX12_finds 64 = .ok (.iconst 1, 1) := by decide +kernel
theorem dX12_finds_65 : decode cX12_finds 65 = .ok (.ireturn, 1) := by decide +kernel
theorem dX12_finds_66 : decode cX12_finds 66 = .ok (.iinc 5 1, 3) := by decide +kernel
theorem dX12_finds_69 : decode cX12_finds 69 = .ok (.goto (-44), 3) := by decide +kernel
theorem dX12_finds_72 : decode cX12_finds 72 = .ok (.iconst 0, 1) := by decide +kernel
theorem dX12_finds_73 : decode cX12_finds 73 = .ok (.ireturn, 1) := by decide +kernel
theorem dX12_laysFound_0 : decode cX12_laysFound 0 = .ok (.aload_n 0, 1) := by decide +kernel
theorem dX12_laysFound_1 : decode cX12_laysFound 1 = .ok (.invokevirtual 424, 3) := by decide +kernel
theorem dX12_laysFound_4 : decode cX12_laysFound 4 = .ok (.iconst 0, 1) := by decide +kernel
theorem dX12_laysFound_5 : decode cX12_laysFound 5 = .ok (.istore_n 3, 1) := by decide +kernel
theorem dX12_laysFound_6 : decode cX12_laysFound 6 = .ok (.iload_n 3, 1) := by decide +kernel
theorem dX12_laysFound_7 : decode cX12_laysFound 7 = .ok (.bipush 7, 2) := by decide +kernel
theorem dX12_laysFound_9 : decode cX12_laysFound 9 = .ok (.if_icmp .ge 21, 3) := by decide +kernel
theorem dX12_laysFound_12 : decode cX12_laysFound 12 = .ok (.aload_n 0, 1) := by decide +kernel
theorem dX12_laysFound_13 : decode cX12_laysFound 13 = .ok (.lload_n 1, 1) := by decide +kernel
theorem dX12_laysFound_14 : decode cX12_laysFound 14 = .ok (.iconst 0, 1) := by decide +kernel
theorem dX12_laysFound_15 : decode cX12_laysFound 15 = .ok (.iload_n 3, 1) := by decide +kernel
theorem dX12_laysFound_16 : decode cX12_laysFound 16 = .ok (.invokevirtual 441, 3) := by decide +kernel
theorem dX12_laysFound_19 : decode cX12_laysFound 19 = .ok (.ifCond .eq 5, 3) := by decide +kernel
theorem dX12_laysFound_22 : decode cX12_laysFound 22 = .ok (.iload_n 3, 1) := by decide +kernel
theorem dX12_laysFound_23 : decode cX12_laysFound 23 = .ok (.ireturn, 1) := by decide +kernel
theorem dX12_laysFound_24 : decode cX12_laysFound 24 = .ok (.iinc 3 1, 3) := by decide +kernel
theorem dX12_laysFound_27 : decode cX12_laysFound 27 = .ok (.goto (-21), 3) := by decide +kernel
theorem dX12_laysFound_30 : decode cX12_laysFound 30 = .ok (.iconst (-1), 1) := by decide +kernel
theorem dX12_laysFound_31 : decode cX12_laysFound 31 = .ok (.ireturn, 1) := by decide +kernel
theorem dX12_soonest_0 : decode cX12_soonest 0 = .ok (.aload_n 0, 1) := by decide +kernel
theorem dX12_soonest_1 : decode cX12_soonest 1 = .ok (.iconst 0, 1) := by decide +kernel
theorem dX12_soonest_2 : decode cX12_soonest 2 = .ok (.putfield 1, 3) := by decide +kernel
theorem dX12_soonest_5 : decode cX12_soonest 5 = .ok (.lload_n 1, 1) := by decide +kernel
theorem dX12_soonest_6 : decode cX12_soonest 6 = .ok (.lconst 0, 1) := by decide +kernel
theorem dX12_soonest_7 : decode cX12_soonest 7 = .ok (.lcmp, 1) := by decide +kernel
theorem dX12_soonest_8 : decode cX12_soonest 8 = .ok (.ifCond .ge 8, 3) := by decide +kernel
theorem dX12_soonest_11 : decode cX12_soonest 11 = .ok (.bipush (-3), 2) := by decide +kernel
theorem dX12_soonest_13 : decode cX12_soonest 13 = .ok (.goto 8, 3) := by decide +kernel
theorem dX12_soonest_16 : decode cX12_soonest 16 = .ok (.aload_n 0, 1) := by decide +kernel
theorem dX12_soonest_17 : decode cX12_soonest 17 = .ok (.lload_n 1, 1) := by decide +kernel
theorem dX12_soonest_18 : decode cX12_soonest 18 = .ok (.invokevirtual 445, 3) := by decide +kernel
theorem dX12_soonest_21 : decode cX12_soonest 21 = .ok (.ireturn, 1) := by decide +kernel
theorem dX12_way_0 : decode cX12_way 0 = .ok (.aload_n 0, 1) := by decide +kernel
theorem dX12_way_1 : decode cX12_way 1 = .ok (.iconst 0, 1) := by decide +kernel
theorem dX12_way_2 : decode cX12_way 2 = .ok (.putfield 1, 3) := by decide +kernel
theorem dX12_way_5 : decode cX12_way 5 = .ok (.lload_n 1, 1) := by decide +kernel
theorem dX12_way_6 : decode cX12_way 6 = .ok (.lconst 0, 1) := by decide +kernel
theorem dX12_way_7 : decode cX12_way 7 = .ok (.lcmp, 1) := by decide +kernel
theorem dX12_way_8 : decode cX12_way 8 = .ok (.ifCond .lt 7, 3) := by decide +kernel
theorem dX12_way_11 : decode cX12_way 11 = .ok (.iload_n 3, 1) := by decide +kernel
theorem dX12_way_12 : decode cX12_way 12 = .ok (.ifCond .ge 6, 3) := by decide +kernel
theorem dX12_way_15 : decode cX12_way 15 = .ok (.bipush (-3), 2) := by decide +kernel
theorem dX12_way_17 : decode cX12_way 17 = .ok (.ireturn, 1) := by decide +kernel
theorem dX12_way_18 : decode cX12_way 18 = .ok (.aload_n 0, 1) := by decide +kernel
theorem dX12_way_19 : decode cX12_way 19 = .ok (.lload_n 1, 1) := by decide +kernel
theorem dX12_way_20 : decode cX12_way 20 = .ok (.invokevirtual 445, 3) := by decide +kernel
theorem dX12_way_23 : decode cX12_way 23 = .ok (.istore 4, 2) := by decide +kernel
theorem dX12_way_25 : decode cX12_way 25 = .ok (.iload_n 3, 1) := by decide +kernel
theorem dX12_way_26 : decode cX12_way 26 = .ok (.iload 4, 2) := by decide +kernel
theorem dX12_way_28 : decode cX12_way 28 = .ok (.if_icmp .ge 12, 3) := by decide +kernel
theorem dX12_way_31 : decode cX12_way 31 = .ok (.aload_n 0, 1) := by decide +kernel
theorem dX12_way_32 : decode cX12_way 32 = .ok (.getfield 73, 3) := by decide +kernel
theorem dX12_way_35 : decode cX12_way 35 = .ok (.iload_n 3, 1) := by decide +kernel
theorem dX12_way_36 : decode cX12_way 36 = .ok (.iaload, 1) := by decide +kernel
theorem dX12_way_37 : decode cX12_way 37 = .ok (.goto 4, 3) := by decide +kernel
theorem dX12_way_40 : decode cX12_way 40 = .ok (.iconst (-1), 1) := by decide +kernel
theorem dX12_way_41 : decode cX12_way 41 = .ok (.ireturn, 1) := by decide +kernel
theorem dX12_rowsFrom_0 : decode cX12_rowsFrom 0 = .ok (.iload_n 3, 1) := by decide +kernel
theorem dX12_rowsFrom_1 : decode cX12_rowsFrom 1 = .ok (.iload 4, 2) := by decide +kernel
theorem dX12_rowsFrom_3 : decode cX12_rowsFrom 3 = .ok (.if_icmp .ne 19, 3) := by decide +kernel
theorem dX12_rowsFrom_6 : decode cX12_rowsFrom 6 = .ok (.aload_n 0, 1) := by decide +kernel
theorem dX12_rowsFrom_7 : decode cX12_rowsFrom 7 = .ok (.iload_n 3, 1) := by decide +kernel
theorem dX12_rowsFrom_8 : decode cX12_rowsFrom 8 = .ok (.invokevirtual 434, 3) := by decide +kernel
theorem dX12_rowsFrom_11 : decode cX12_rowsFrom 11 = .ok (.lload_n 1, 1) := by decide +kernel
theorem dX12_rowsFrom_12 : decode cX12_rowsFrom 12 = .ok (.lcmp, 1) := by decide +kernel
theorem dX12_rowsFrom_13 : decode cX12_rowsFrom 13 = .ok (.ifCond .ne 7, 3) := by decide +kernel
theorem dX12_rowsFrom_16 : decode cX12_rowsFrom 16 = .ok (.iconst 1, 1) := by decide +kernel
theorem dX12_rowsFrom_17 : decode cX12_rowsFrom 17 = .ok (.goto 4, 3) := by decide +kernel
theorem dX12_rowsFrom_20 : decode cX12_rowsFrom 20 = .ok (.iconst 0, 1) := by decide +kernel
theorem dX12_rowsFrom_21 : decode cX12_rowsFrom 21 = .ok (.ireturn, 1) := by decide +kernel
theorem dX12_rowsFrom_22 : decode cX12_rowsFrom 22 = .ok (.iconst 0, 1) := by decide +kernel
theorem dX12_rowsFrom_23 : decode cX12_rowsFrom 23 = .ok (.istore 5, 2) := by decide +kernel
theorem dX12_rowsFrom_25 : decode cX12_rowsFrom 25 = .ok (.iconst 0, 1) := by decide +kernel
theorem dX12_rowsFrom_26 : decode cX12_rowsFrom 26 = .ok (.istore 6, 2) := by decide +kernel
theorem dX12_rowsFrom_28 : decode cX12_rowsFrom 28 = .ok (.iload 6, 2) := by decide +kernel
theorem dX12_rowsFrom_30 : decode cX12_rowsFrom 30 = .ok (.aload_n 0, 1) := by decide +kernel
theorem dX12_rowsFrom_31 : decode cX12_rowsFrom 31 = .ok (.getfield 13, 3) := by decide +kernel
theorem dX12_rowsFrom_34 : decode cX12_rowsFrom 34 = .ok (.iconst 1, 1) := by decide +kernel
theorem dX12_rowsFrom_35 : decode cX12_rowsFrom 35 = .ok (.iaload, 1) := by decide +kernel
theorem dX12_rowsFrom_36 : decode cX12_rowsFrom 36 = .ok (.if_icmp .ge 31, 3) := by decide +kernel
theorem dX12_rowsFrom_39 : decode cX12_rowsFrom 39 = .ok (.aload_n 0, 1) := by decide +kernel
theorem dX12_rowsFrom_40 : decode cX12_rowsFrom 40 = .ok (.iload_n 3, 1) := by decide +kernel
theorem dX12_rowsFrom_41 : decode cX12_rowsFrom 41 = .ok (.iload 6, 2) := by decide +kernel
theorem dX12_rowsFrom_43 : decode cX12_rowsFrom 43 = .ok (.invokevirtual 437, 3) := by decide +kernel
theorem dX12_rowsFrom_46 : decode cX12_rowsFrom 46 = .ok (.iload 5, 2) := by decide +kernel
theorem dX12_rowsFrom_48 : decode cX12_rowsFrom 48 = .ok (.aload_n 0, 1) := by decide +kernel
theorem dX12_rowsFrom_49 : decode cX12_rowsFrom 49 = .ok (.lload_n 1, 1) := by decide +kernel
theorem dX12_rowsFrom_50 : decode cX12_rowsFrom 50 = .ok (.iload_n 3, 1) := by decide +kernel
theorem dX12_rowsFrom_51 : decode cX12_rowsFrom 51 = .ok (.iconst 1, 1) := by decide +kernel
theorem dX12_rowsFrom_52 : decode cX12_rowsFrom 52 = .ok (.iadd, 1) := by decide +kernel
theorem dX12_rowsFrom_53 : decode cX12_rowsFrom 53 = .ok (.iload 4, 2) := by decide +kernel
theorem dX12_rowsFrom_55 : decode cX12_rowsFrom 55 = .ok (.invokevirtual 448, 3) := by decide +kernel
theorem dX12_rowsFrom_58 : decode cX12_rowsFrom 58 = .ok (.iadd, 1) := by decide +kernel
theorem dX12_rowsFrom_59 : decode cX12_rowsFrom 59 = .ok (.istore 5, 2) := by decide +kernel
theorem dX12_rowsFrom_61 : decode cX12_rowsFrom 61 = .ok (.iinc 6 1, 3) := by decide +kernel
theorem dX12_rowsFrom_64 : decode cX12_rowsFrom 64 = .ok (.goto (-36), 3) := by decide +kernel
theorem dX12_rowsFrom_67 : decode cX12_rowsFrom 67 = .ok (.iload 5, 2) := by decide +kernel
theorem dX12_rowsFrom_69 : decode cX12_rowsFrom 69 = .ok (.ireturn, 1) := by decide +kernel
theorem dX12_rows_0 : decode cX12_rows 0 = .ok (.aload_n 0, 1) := by decide +kernel
theorem dX12_rows_1 : decode cX12_rows 1 = .ok (.iconst 0, 1) := by decide +kernel
theorem dX12_rows_2 : decode cX12_rows 2 = .ok (.putfield 1, 3) := by decide +kernel
theorem dX12_rows_5 : decode cX12_rows 5 = .ok (.lload_n 1, 1) := by decide +kernel
theorem dX12_rows_6 : decode cX12_rows 6 = .ok (.lconst 0, 1) := by decide +kernel
theorem dX12_rows_7 : decode cX12_rows 7 = .ok (.lcmp, 1) := by decide +kernel
theorem dX12_rows_8 : decode cX12_rows 8 = .ok (.ifCond .lt 15, 3) := by decide +kernel
theorem dX12_rows_11 : decode cX12_rows 11 = .ok (.iload_n 3, 1) := by decide +kernel
theorem dX12_rows_12 : decode cX12_rows 12 = .ok (.i2l, 1) := by decide +kernel
theorem dX12_rows_13 : decode cX12_rows 13 = .ok (.lconst 0, 1) := by decide +kernel
theorem dX12_rows_14 : decode cX12_rows 14 = .ok (.ldc2_w 452, 3) := by decide +kernel
theorem dX12_rows_17 : decode cX12_rows 17 = .ok (.invokestatic 169, 3) := by decide +kernel
theorem dX12_rows_20 : decode cX12_rows 20 = .ok (.ifCond .ne 6, 3) := by decide +kernel
theorem dX12_rows_23 : decode cX12_rows 23 = .ok (.bipush (-3), 2) := by decide +kernel
theorem dX12_rows_25 : decode cX12_rows 25 = .ok (.ireturn, 1) := by decide +kernel
theorem dX12_rows_26 : decode cX12_rows 26 = .ok (.aload_n 0, 1) := by decide +kernel
theorem dX12_rows_27 : decode cX12_rows 27 = .ok (.invokevirtual 424, 3) := by decide +kernel
theorem dX12_rows_30 : decode cX12_rows 30 = .ok (.aload_n 0, 1) := by decide +kernel
theorem dX12_rows_31 : decode cX12_rows 31 = .ok (.lload_n 1, 1) := by decide +kernel
theorem dX12_rows_32 : decode cX12_rows 32 = .ok (.iconst 0, 1) := by decide +kernel
theorem dX12_rows_33 : decode cX12_rows 33 = .ok (.iload_n 3, 1) := by decide +kernel
theorem dX12_rows_34 : decode cX12_rows 34 = .ok (.invokevirtual 448, 3) := by decide +kernel
theorem dX12_rows_37 : decode cX12_rows 37 = .ok (.ireturn, 1) := by decide +kernel
theorem dX12_noLong_0 : decode cX12_noLong 0 = .ok (.aload_n 0, 1) := by decide +kernel
theorem dX12_noLong_1 : decode cX12_noLong 1 = .ok (.iload_n 1, 1) := by decide +kernel
theorem dX12_noLong_2 : decode cX12_noLong 2 = .ok (.invokevirtual 347, 3) := by decide +kernel
theorem dX12_noLong_5 : decode cX12_noLong 5 = .ok (.istore_n 3, 1) := by decide +kernel
theorem dX12_noLong_6 : decode cX12_noLong 6 = .ok (.iload_n 3, 1) := by decide +kernel
theorem dX12_noLong_7 : decode cX12_noLong 7 = .ok (.ifCond .eq 5, 3) := by decide +kernel
theorem dX12_noLong_10 : decode cX12_noLong 10 = .ok (.iload_n 3, 1) := by decide +kernel
theorem dX12_noLong_11 : decode cX12_noLong 11 = .ok (.ireturn, 1) := by decide +kernel
theorem dX12_noLong_12 : decode cX12_noLong 12 = .ok (.aload_n 0, 1) := by decide +kernel
theorem dX12_noLong_13 : decode cX12_noLong 13 = .ok (.getfield 97, 3) := by decide +kernel
theorem dX12_noLong_16 : decode cX12_noLong 16 = .ok (.iload_n 1, 1) := by decide +kernel
theorem dX12_noLong_17 : decode cX12_noLong 17 = .ok (.iaload, 1) := by decide +kernel
theorem dX12_noLong_18 : decode cX12_noLong 18 = .ok (.i2l, 1) := by decide +kernel
theorem dX12_noLong_19 : decode cX12_noLong 19 = .ok (.lconst 1, 1) := by decide +kernel
theorem dX12_noLong_20 : decode cX12_noLong 20 = .ok (.ldc2_w 454, 3) := by decide +kernel
theorem dX12_noLong_23 : decode cX12_noLong 23 = .ok (.invokestatic 169, 3) := by decide +kernel
theorem dX12_noLong_26 : decode cX12_noLong 26 = .ok (.ifCond .ne 6, 3) := by decide +kernel
theorem dX12_noLong_29 : decode cX12_noLong 29 = .ok (.bipush (-4), 2) := by decide +kernel
theorem dX12_noLong_31 : decode cX12_noLong 31 = .ok (.ireturn, 1) := by decide +kernel
theorem dX12_noLong_32 : decode cX12_noLong 32 = .ok (.iconst 0, 1) := by decide +kernel
theorem dX12_noLong_33 : decode cX12_noLong 33 = .ok (.istore 4, 2) := by decide +kernel
theorem dX12_noLong_35 : decode cX12_noLong 35 = .ok (.iload 4, 2) := by decide +kernel
theorem dX12_noLong_37 : decode cX12_noLong 37 = .ok (.aload_n 0, 1) := by decide +kernel
theorem dX12_noLong_38 : decode cX12_noLong 38 = .ok (.getfield 97, 3) := by decide +kernel
theorem dX12_noLong_41 : decode cX12_noLong 41 = .ok (.iload_n 1, 1) := by decide +kernel
theorem dX12_noLong_42 : decode cX12_noLong 42 = .ok (.iaload, 1) := by decide +kernel
theorem dX12_noLong_43 : decode cX12_noLong 43 = .ok (.if_icmp .ge 30, 3) := by decide +kernel
theorem dX12_noLong_46 : decode cX12_noLong 46 = .ok (.aload_n 0, 1) := by decide +kernel
theorem dX12_noLong_47 : decode cX12_noLong 47 = .ok (.getfield 100, 3) := by decide +kernel
theorem dX12_noLong_50 : decode cX12_noLong 50 = .ok (.bipush 40, 2) := by decide +kernel
theorem dX12_noLong_52 : decode cX12_noLong 52 = .ok (.iload_n 1, 1) := by decide +kernel
theorem dX12_noLong_53 : decode cX12_noLong 53 = .ok (.imul, 1) := by decide +kernel
theorem dX12_noLong_54 : decode cX12_noLong 54 = .ok (.iload 4, 2) := by decide +kernel
theorem dX12_noLong_56 : decode cX12_noLong 56 = .ok (.iadd, 1) := by decide +kernel
theorem dX12_noLong_57 : decode cX12_noLong 57 = .ok (.laload, 1) := by decide +kernel
theorem dX12_noLong_58 : decode cX12_noLong 58 = .ok (.iload_n 2, 1) := by decide +kernel
theorem dX12_noLong_59 : decode cX12_noLong 59 = .ok (.i2l, 1) := by decide +kernel
theorem dX12_noLong_60 : decode cX12_noLong 60 = .ok (.lcmp, 1) := by decide +kernel
theorem dX12_noLong_61 : decode cX12_noLong 61 = .ok (.ifCond .ge 6, 3) := by decide +kernel
theorem dX12_noLong_64 : decode cX12_noLong 64 = .ok (.bipush (-3), 2) := by decide +kernel
theorem dX12_noLong_66 : decode cX12_noLong 66 = .ok (.ireturn, 1) := by decide +kernel
theorem dX12_noLong_67 : decode cX12_noLong 67 = .ok (.iinc 4 1, 3) := by decide +kernel
theorem dX12_noLong_70 : decode cX12_noLong 70 = .ok (.goto (-35), 3) := by decide +kernel
theorem dX12_noLong_73 : decode cX12_noLong 73 = .ok (.iconst 0, 1) := by decide +kernel
theorem dX12_noLong_74 : decode cX12_noLong 74 = .ok (.ireturn, 1) := by decide +kernel
theorem dX12_goesLong_0 : decode cX12_goesLong 0 = .ok (.iload_n 2, 1) := by decide +kernel
theorem dX12_goesLong_1 : decode cX12_goesLong 1 = .ok (.aload_n 0, 1) := by decide +kernel
theorem dX12_goesLong_2 : decode cX12_goesLong 2 = .ok (.getfield 97, 3) := by decide +kernel
theorem dX12_goesLong_5 : decode cX12_goesLong 5 = .ok (.iload_n 1, 1) := by decide +kernel
theorem dX12_goesLong_6 : decode cX12_goesLong 6 = .ok (.iaload, 1) := by decide +kernel
theorem dX12_goesLong_7 : decode cX12_goesLong 7 = .ok (.if_icmp .ne 90, 3) := by decide +kernel
theorem dX12_goesLong_10 : decode cX12_goesLong 10 = .ok (.iconst 0, 1) := by decide +kernel
theorem dX12_goesLong_11 : decode cX12_goesLong 11 = .ok (.istore_n 3, 1) := by decide +kernel
theorem dX12_goesLong_12 : decode cX12_goesLong 12 = .ok (.iload_n 3, 1) := by decide +kernel
theorem dX12_goesLong_13 : decode cX12_goesLong 13 = .ok (.iload_n 2, 1) := by decide +kernel
theorem dX12_goesLong_14 : decode cX12_goesLong 14 = .ok (.if_icmp .ge 26, 3) := by decide +kernel
theorem dX12_goesLong_17 : decode cX12_goesLong 17 = .ok (.aload_n 0, 1) := by decide +kernel
theorem dX12_goesLong_18 : decode cX12_goesLong 18 = .ok (.getfield 76, 3) := by decide +kernel
theorem dX12_goesLong_21 : decode cX12_goesLong 21 = .ok (.iload_n 3, 1) := by decide +kernel
theorem dX12_goesLong_22 : decode cX12_goesLong 22 = .ok (.dup2, 1) := by decide +kernel
theorem dX12_goesLong_23 : decode cX12_goesLong 23 = .ok (.iaload, 1) := by decide +kernel
theorem dX12_goesLong_24 : decode cX12_goesLong 24 = .ok (.iconst 1, 1) := by decide +kernel
theorem dX12_goesLong_25 : decode cX12_goesLong 25 = .ok (.aload_n 0, 1) := by decide +kernel
theorem dX12_goesLong_26 : decode cX12_goesLong 26 = .ok (.getfield 73, 3) := by decide +kernel
theorem dX12_goesLong_29 : decode cX12_goesLong 29 = .ok (.iload_n 3, 1) := by decide +kernel
theorem dX12_goesLong_30 : decode cX12_goesLong 30 = .ok (.iaload, 1) := by decide +kernel
theorem dX12_goesLong_31 : decode cX12_goesLong 31 = .ok (.ishl, 1) := by decide +kernel
theorem dX12_goesLong_32 : decode cX12_goesLong 32 = .ok (.ior, 1) := by decide +kernel
theorem dX12_goesLong_33 : decode cX12_goesLong 33 = .ok (.iastore, 1) := by decide +kernel
theorem dX12_goesLong_34 : decode cX12_goesLong 34 = .ok (.iinc 3 1, 3) := by decide +kernel
theorem dX12_goesLong_37 : decode cX12_goesLong 37 = .ok (.goto (-25), 3) := by decide +kernel
theorem dX12_goesLong_40 : decode cX12_goesLong 40 = .ok (.iconst 0, 1) := by decide +kernel
theorem dX12_goesLong_41 : decode cX12_goesLong 41 = .ok (.istore_n 3, 1) := by decide +kernel
theorem dX12_goesLong_42 : decode cX12_goesLong 42 = .ok (.iload_n 3, 1) := by decide +kernel
theorem dX12_goesLong_43 : decode cX12_goesLong 43 = .ok (.aload_n 0, 1) := by decide +kernel
theorem dX12_goesLong_44 : decode cX12_goesLong 44 = .ok (.getfield 13, 3) := by decide +kernel
theorem dX12_goesLong_47 : decode cX12_goesLong 47 = .ok (.iconst 1, 1) := by decide +kernel
theorem dX12_goesLong_48 : decode cX12_goesLong 48 = .ok (.iaload, 1) := by decide +kernel
theorem dX12_goesLong_49 : decode cX12_goesLong 49 = .ok (.if_icmp .ge 37, 3) := by decide +kernel
theorem dX12_goesLong_52 : decode cX12_goesLong 52 = .ok (.aload_n 0, 1) := by decide +kernel
theorem dX12_goesLong_53 : decode cX12_goesLong 53 = .ok (.iload_n 2, 1) := by decide +kernel
theorem dX12_goesLong_54 : decode cX12_goesLong 54 = .ok (.iload_n 3, 1) := by decide +kernel
theorem dX12_goesLong_55 : decode cX12_goesLong 55 = .ok (.invokevirtual 437, 3) := by decide +kernel
theorem dX12_goesLong_58 : decode cX12_goesLong 58 = .ok (.aload_n 0, 1) := by decide +kernel
theorem dX12_goesLong_59 : decode cX12_goesLong 59 = .ok (.getfield 79, 3) := by decide +kernel
theorem dX12_goesLong_62 : decode cX12_goesLong 62 = .ok (.sipush 6561, 3) := by decide +kernel
theorem dX12_goesLong_65 : decode cX12_goesLong 65 = .ok (.iload_n 3, 1) := by decide +kernel
theorem dX12_goesLong_66 : decode cX12_goesLong 66 = .ok (.imul, 1) := by decide +kernel
theorem dX12_goesLong_67 : decode cX12_goesLong 67 = .ok (.aload_n 0, 1) := by decide +kernel
theorem dX12_goesLong_68 : decode cX12_goesLong 68 = .ok (.getfield 456, 3) := by decide +kernel
theorem dX12_goesLong_71 : decode cX12_goesLong 71 = .ok (.iadd, 1) := by decide +kernel
theorem dX12_goesLong_72 : decode cX12_goesLong 72 = .ok (.aload_n 0, 1) := by decide +kernel
theorem dX12_goesLong_73 : decode cX12_goesLong 73 = .ok (.iload_n 2, 1) := by decide +kernel
theorem dX12_goesLong_74 : decode cX12_goesLong 74 = .ok (.iconst 1, 1) := by decide +kernel
theorem dX12_goesLong_75 : decode cX12_goesLong 75 = .ok (.iadd, 1) := by decide +kernel
theorem dX12_goesLong_76 : decode cX12_goesLong 76 = .ok (.invokevirtual 434, 3) := by decide +kernel
theorem dX12_goesLong_79 : decode cX12_goesLong 79 = .ok (.lastore, 1) := by decide +kernel
theorem dX12_goesLong_80 : decode cX12_goesLong 80 = .ok (.iinc 3 1, 3) := by decide +kernel
theorem dX12_goesLong_83 : decode cX12_goesLong 83 = .ok (.goto (-41), 3) := by decide +kernel
theorem dX12_goesLong_86 : decode cX12_goesLong 86 = .ok (.aload_n 0, 1) := by decide +kernel
theorem dX12_goesLong_87 : decode cX12_goesLong 87 = .ok (.dup, 1) := by decide +kernel
theorem dX12_goesLong_88 : decode cX12_goesLong 88 = .ok (.getfield 456, 3) := by decide +kernel
theorem dX12_goesLong_91 : decode cX12_goesLong 91 = .ok (.iconst 1, 1) := by decide +kernel
theorem dX12_goesLong_92 : decode cX12_goesLong 92 = .ok (.iadd, 1) := by decide +kernel
theorem dX12_goesLong_93 : decode cX12_goesLong 93 = .ok (.putfield 456, 3) := by decide +kernel
theorem dX12_goesLong_96 : decode cX12_goesLong 96 = .ok (.return_, 1) := by decide +kernel
theorem dX12_goesLong_97 : decode cX12_goesLong 97 = .ok (.iconst 0, 1) := by decide +kernel
theorem dX12_goesLong_98 : decode cX12_goesLong 98 = .ok (.istore_n 3, 1) := by decide +kernel
theorem dX12_goesLong_99 : decode cX12_goesLong 99 = .ok (.iload_n 3, 1) := by decide +kernel
theorem dX12_goesLong_100 : decode cX12_goesLong 100 = .ok (.aload_n 0, 1) := by decide +kernel
theorem dX12_goesLong_101 : decode cX12_goesLong 101 = .ok (.getfield 13, 3) := by decide +kernel
theorem dX12_goesLong_104 : decode cX12_goesLong 104 = .ok (.iconst 1, 1) := by decide +kernel
theorem dX12_goesLong_105 : decode cX12_goesLong 105 = .ok (.iaload, 1) := by decide +kernel
theorem dX12_goesLong_106 : decode cX12_goesLong 106 = .ok (.if_icmp .ge 65, 3) := by decide +kernel
theorem dX12_goesLong_109 : decode cX12_goesLong 109 = .ok (.aload_n 0, 1) := by decide +kernel
theorem dX12_goesLong_110 : decode cX12_goesLong 110 = .ok (.getfield 73, 3) := by decide +kernel
theorem dX12_goesLong_113 : decode cX12_goesLong 113 = .ok (.iload_n 2, 1) := by decide +kernel
theorem dX12_goesLong_114 : decode cX12_goesLong 114 = .ok (.iload_n 3, 1) := by decide +kernel
theorem dX12_goesLong_115 : decode cX12_goesLong 115 = .ok (.iastore, 1) := by decide +kernel
theorem dX12_goesLong_116 : decode cX12_goesLong 116 = .ok (.aload_n 0, 1) := by decide +kernel
theorem dX12_goesLong_117 : decode cX12_goesLong 117 = .ok (.iload_n 2, 1) := by decide +kernel
theorem dX12_goesLong_118 : decode cX12_goesLong 118 = .ok (.iload_n 3, 1) := by decide +kernel
theorem dX12_goesLong_119 : decode cX12_goesLong 119 = .ok (.invokevirtual 437, 3) := by decide +kernel
theorem dX12_goesLong_122 : decode cX12_goesLong 122 = .ok (.aload_n 0, 1) := by decide +kernel
theorem dX12_goesLong_123 : decode cX12_goesLong 123 = .ok (.getfield 100, 3) := by decide +kernel
theorem dX12_goesLong_126 : decode cX12_goesLong 126 = .ok (.bipush 40, 2) := by decide +kernel
theorem dX12_goesLong_128 : decode cX12_goesLong 128 = .ok (.iload_n 1, 1) := by decide +kernel
theorem dX12_goesLong_129 : decode cX12_goesLong 129 = .ok (.imul, 1) := by decide +kernel
theorem dX12_goesLong_130 : decode cX12_goesLong 130 = .ok (.iload_n 2, 1) := by decide +kernel
theorem dX12_goesLong_131 : decode cX12_goesLong 131 = .ok (.iadd, 1) := by decide +kernel
theorem dX12_goesLong_132 : decode cX12_goesLong 132 = .ok (.laload, 1) := by decide +kernel
theorem dX12_goesLong_133 : decode cX12_goesLong 133 = .ok (.lstore 4, 2) := by decide +kernel
theorem dX12_goesLong_135 : decode cX12_goesLong 135 = .ok (.lload 4, 2) := by decide +kernel
theorem dX12_goesLong_137 : decode cX12_goesLong 137 = .ok (.ldc2_w 307, 3) := by decide +kernel
theorem dX12_goesLong_140 : decode cX12_goesLong 140 = .ok (.lcmp, 1) := by decide +kernel
theorem dX12_goesLong_141 : decode cX12_goesLong 141 = .ok (.ifCond .eq 16, 3) := by decide +kernel
theorem dX12_goesLong_144 : decode cX12_goesLong 144 = .ok (.lload 4, 2) := by decide +kernel
theorem dX12_goesLong_146 : decode cX12_goesLong 146 = .ok (.aload_n 0, 1) := by decide +kernel
theorem dX12_goesLong_147 : decode cX12_goesLong 147 = .ok (.iload_n 2, 1) := by decide +kernel
theorem dX12_goesLong_148 : decode cX12_goesLong 148 = .ok (.iconst 1, 1) := by decide +kernel
theorem dX12_goesLong_149 : decode cX12_goesLong 149 = .ok (.iadd, 1) := by decide +kernel
theorem dX12_goesLong_150 : decode cX12_goesLong 150 = .ok (.invokevirtual 434, 3) := by decide +kernel
theorem dX12_goesLong_153 : decode cX12_goesLong 153 = .ok (.lcmp, 1) := by decide +kernel
theorem dX12_goesLong_154 : decode cX12_goesLong 154 = .ok (.ifCond .ne 11, 3) := by decide +kernel
theorem dX12_goesLong_157 : decode cX12_goesLong 157 = .ok (.aload_n 0, 1) := by decide +kernel
theorem dX12_goesLong_158 : decode cX12_goesLong 158 = .ok (.iload_n 1, 1) := by decide +kernel
theorem dX12_goesLong_159 : decode cX12_goesLong 159 = .ok (.iload_n 2, 1) := by decide +kernel
theorem dX12_goesLong_160 : decode cX12_goesLong 160 = .ok (.iconst 1, 1) := by decide +kernel
theorem dX12_goesLong_161 : decode cX12_goesLong 161 = .ok (.iadd, 1) := by decide +kernel
theorem dX12_goesLong_162 : decode cX12_goesLong 162 = .ok (.invokevirtual 459, 3) := by decide +kernel
theorem dX12_goesLong_165 : decode cX12_goesLong 165 = .ok (.iinc 3 1, 3) := by decide +kernel
theorem dX12_goesLong_168 : decode cX12_goesLong 168 = .ok (.goto (-69), 3) := by decide +kernel
theorem dX12_goesLong_171 : decode cX12_goesLong 171 = .ok (.return_, 1) := by decide +kernel
theorem dX12_laysLongRows_0 : decode cX12_laysLongRows 0 = .ok (.aload_n 0, 1) := by decide +kernel
theorem dX12_laysLongRows_1 : decode cX12_laysLongRows 1 = .ok (.invokevirtual 424, 3) := by decide +kernel
theorem dX12_laysLongRows_4 : decode cX12_laysLongRows 4 = .ok (.aload_n 0, 1) := by decide +kernel
theorem dX12_laysLongRows_5 : decode cX12_laysLongRows 5 = .ok (.iconst 0, 1) := by decide +kernel
theorem dX12_laysLongRows_6 : decode cX12_laysLongRows 6 = .ok (.putfield 456, 3) := by decide +kernel
theorem dX12_laysLongRows_9 : decode cX12_laysLongRows 9 = .ok (.iconst 0, 1) := by decide +kernel
theorem dX12_laysLongRows_10 : decode cX12_laysLongRows 10 = .ok (.istore_n 2, 1) := by decide +kernel
theorem dX12_laysLongRows_11 : decode cX12_laysLongRows 11 = .ok (.iload_n 2, 1) := by decide +kernel
theorem dX12_laysLongRows_12 : decode cX12_laysLongRows 12 = .ok (.bipush 8, 2) := by decide +kernel
theorem dX12_laysLongRows_14 : decode cX12_laysLongRows 14 = .ok (.if_icmp .ge 16, 3) := by decide +kernel
theorem dX12_laysLongRows_17 : decode cX12_laysLongRows 17 = .ok (.aload_n 0, 1) := by decide +kernel
theorem dX12_laysLongRows_18 : decode cX12_laysLongRows 18 = .ok (.getfield 76, 3) := by decide +kernel
theorem dX12_laysLongRows_21 : decode cX12_laysLongRows 21 = .ok (.iload_n 2, 1) := by decide +kernel
theorem dX12_laysLongRows_22 : decode cX12_laysLongRows 22 = .ok (.iconst 0, 1) := by decide +kernel
theorem dX12_laysLongRows_23 : decode cX12_laysLongRows 23 = .ok (.iastore, 1) := by decide +kernel
theorem dX12_laysLongRows_24 : decode cX12_laysLongRows 24 = .ok (.iinc 2 1, 3) := by decide +kernel
theorem dX12_laysLongRows_27 : decode cX12_laysLongRows 27 = .ok (.goto (-16), 3) := by decide +kernel
theorem dX12_laysLongRows_30 : decode cX12_laysLongRows 30 = .ok (.aload_n 0, 1) := by decide +kernel
theorem dX12_laysLongRows_31 : decode cX12_laysLongRows 31 = .ok (.iload_n 1, 1) := by decide +kernel
theorem dX12_laysLongRows_32 : decode cX12_laysLongRows 32 = .ok (.iconst 0, 1) := by decide +kernel
theorem dX12_laysLongRows_33 : decode cX12_laysLongRows 33 = .ok (.invokevirtual 459, 3) := by decide +kernel
theorem dX12_laysLongRows_36 : decode cX12_laysLongRows 36 = .ok (.aload_n 0, 1) := by decide +kernel
theorem dX12_laysLongRows_37 : decode cX12_laysLongRows 37 = .ok (.getfield 456, 3) := by decide +kernel
theorem dX12_laysLongRows_40 : decode cX12_laysLongRows 40 = .ok (.ireturn, 1) := by decide +kernel
theorem dX12_longBy_0 : decode cX12_longBy 0 = .ok (.aload_n 0, 1) := by decide +kernel
theorem dX12_longBy_1 : decode cX12_longBy 1 = .ok (.iconst 0, 1) := by decide +kernel
theorem dX12_longBy_2 : decode cX12_longBy 2 = .ok (.putfield 1, 3) := by decide +kernel
theorem dX12_longBy_5 : decode cX12_longBy 5 = .ok (.aload_n 0, 1) := by decide +kernel
theorem dX12_longBy_6 : decode cX12_longBy 6 = .ok (.iload_n 1, 1) := by decide +kernel
theorem dX12_longBy_7 : decode cX12_longBy 7 = .ok (.iconst (-1), 1) := by decide +kernel
theorem dX12_longBy_8 : decode cX12_longBy 8 = .ok (.invokevirtual 462, 3) := by decide +kernel
theorem dX12_longBy_11 : decode cX12_longBy 11 = .ok (.istore_n 2, 1) := by decide +kernel
theorem dX12_longBy_12 : decode cX12_longBy 12 = .ok (.iload_n 2, 1) := by decide +kernel
theorem dX12_longBy_13 : decode cX12_longBy 13 = .ok (.ifCond .eq 7, 3) := by decide +kernel
theorem dX12_longBy_16 : decode cX12_longBy 16 = .ok (.iload_n 2, 1) := by decide +kernel
theorem dX12_longBy_17 : decode cX12_longBy 17 = .ok (.goto 8, 3) := by decide +kernel
theorem dX12_longBy_20 : decode cX12_longBy 20 = .ok (.aload_n 0, 1) := by decide +kernel
theorem dX12_longBy_21 : decode cX12_longBy 21 = .ok (.iload_n 1, 1) := by decide +kernel
theorem dX12_longBy_22 : decode cX12_longBy 22 = .ok (.invokevirtual 465, 3) := by decide +kernel
theorem dX12_longBy_25 : decode cX12_longBy 25 = .ok (.ireturn, 1) := by decide +kernel
theorem dX12_tables_0 : decode cX12_tables 0 = .ok (.aload_n 0, 1) := by decide +kernel
theorem dX12_tables_1 : decode cX12_tables 1 = .ok (.iconst 0, 1) := by decide +kernel
theorem dX12_tables_2 : decode cX12_tables 2 = .ok (.putfield 1, 3) := by decide +kernel
theorem dX12_tables_5 : decode cX12_tables 5 = .ok (.aload_n 0, 1) := by decide +kernel
theorem dX12_tables_6 : decode cX12_tables 6 = .ok (.iload_n 1, 1) := by decide +kernel
theorem dX12_tables_7 : decode cX12_tables 7 = .ok (.iconst (-1), 1) := by decide +kernel
theorem dX12_tables_8 : decode cX12_tables 8 = .ok (.invokevirtual 462, 3) := by decide +kernel
theorem dX12_tables_11 : decode cX12_tables 11 = .ok (.istore_n 3, 1) := by decide +kernel
theorem dX12_tables_12 : decode cX12_tables 12 = .ok (.iload_n 3, 1) := by decide +kernel
theorem dX12_tables_13 : decode cX12_tables 13 = .ok (.ifCond .eq 5, 3) := by decide +kernel
theorem dX12_tables_16 : decode cX12_tables 16 = .ok (.iload_n 3, 1) := by decide +kernel
theorem dX12_tables_17 : decode cX12_tables 17 = .ok (.ireturn, 1) := by decide +kernel
theorem dX12_tables_18 : decode cX12_tables 18 = .ok (.iload_n 2, 1) := by decide +kernel
theorem dX12_tables_19 : decode cX12_tables 19 = .ok (.ifCond .ge 6, 3) := by decide +kernel
theorem dX12_tables_22 : decode cX12_tables 22 = .ok (.bipush (-3), 2) := by decide +kernel
theorem dX12_tables_24 : decode cX12_tables 24 = .ok (.ireturn, 1) := by decide +kernel
theorem dX12_tables_25 : decode cX12_tables 25 = .ok (.iload_n 2, 1) := by decide +kernel
theorem dX12_tables_26 : decode cX12_tables 26 = .ok (.aload_n 0, 1) := by decide +kernel
theorem dX12_tables_27 : decode cX12_tables 27 = .ok (.getfield 97, 3) := by decide +kernel
theorem dX12_tables_30 : decode cX12_tables 30 = .ok (.iload_n 1, 1) := by decide +kernel
theorem dX12_tables_31 : decode cX12_tables 31 = .ok (.iaload, 1) := by decide +kernel
theorem dX12_tables_32 : decode cX12_tables 32 = .ok (.if_icmp .lt 6, 3) := by decide +kernel
theorem dX12_tables_35 : decode cX12_tables 35 = .ok (.bipush (-7), 2) := by decide +kernel
theorem dX12_tables_37 : decode cX12_tables 37 = .ok (.ireturn, 1) := by decide +kernel
theorem dX12_tables_38 : decode cX12_tables 38 = .ok (.aload_n 0, 1) := by decide +kernel
theorem dX12_tables_39 : decode cX12_tables 39 = .ok (.iload_n 1, 1) := by decide +kernel
theorem dX12_tables_40 : decode cX12_tables 40 = .ok (.invokevirtual 465, 3) := by decide +kernel
theorem dX12_tables_43 : decode cX12_tables 43 = .ok (.pop, 1) := by decide +kernel
theorem dX12_tables_44 : decode cX12_tables 44 = .ok (.aload_n 0, 1) := by decide +kernel
theorem dX12_tables_45 : decode cX12_tables 45 = .ok (.getfield 76, 3) := by decide +kernel
theorem dX12_tables_48 : decode cX12_tables 48 = .ok (.iload_n 2, 1) := by decide +kernel
theorem dX12_tables_49 : decode cX12_tables 49 = .ok (.iaload, 1) := by decide +kernel
theorem dX12_tables_50 : decode cX12_tables 50 = .ok (.ireturn, 1) := by decide +kernel
theorem dX12_moons_0 : decode cX12_moons 0 = .ok (.aload_n 0, 1) := by decide +kernel
theorem dX12_moons_1 : decode cX12_moons 1 = .ok (.iconst 0, 1) := by decide +kernel
theorem dX12_moons_2 : decode cX12_moons 2 = .ok (.putfield 1, 3) := by decide +kernel
theorem dX12_moons_5 : decode cX12_moons 5 = .ok (.aload_n 0, 1) := by decide +kernel
theorem dX12_moons_6 : decode cX12_moons 6 = .ok (.iload_n 1, 1) := by decide +kernel
theorem dX12_moons_7 : decode cX12_moons 7 = .ok (.iconst 0, 1) := by decide +kernel
theorem dX12_moons_8 : decode cX12_moons 8 = .ok (.invokevirtual 462, 3) := by decide +kernel
theorem dX12_moons_11 : decode cX12_moons 11 = .ok (.istore_n 2, 1) := by decide +kernel
theorem dX12_moons_12 : decode cX12_moons 12 = .ok (.iload_n 2, 1) := by decide +kernel
theorem dX12_moons_13 : decode cX12_moons 13 = .ok (.ifCond .eq 5, 3) := by decide +kernel
theorem dX12_moons_16 : decode cX12_moons 16 = .ok (.iload_n 2, 1) := by decide +kernel
theorem dX12_moons_17 : decode cX12_moons 17 = .ok (.ireturn, 1) := by decide +kernel
theorem dX12_moons_18 : decode cX12_moons 18 = .ok (.aload_n 0, 1) := by decide +kernel
theorem dX12_moons_19 : decode cX12_moons 19 = .ok (.invokevirtual 321, 3) := by decide +kernel
theorem dX12_moons_22 : decode cX12_moons 22 = .ok (.aload_n 0, 1) := by decide +kernel
theorem dX12_moons_23 : decode cX12_moons 23 = .ok (.invokevirtual 350, 3) := by decide +kernel
theorem dX12_moons_26 : decode cX12_moons 26 = .ok (.iconst 0, 1) := by decide +kernel
theorem dX12_moons_27 : decode cX12_moons 27 = .ok (.istore_n 3, 1) := by decide +kernel
theorem dX12_moons_28 : decode cX12_moons 28 = .ok (.iconst 0, 1) := by decide +kernel
theorem dX12_moons_29 : decode cX12_moons 29 = .ok (.istore 4, 2) := by decide +kernel
theorem dX12_moons_31 : decode cX12_moons 31 = .ok (.iload 4, 2) := by decide +kernel
theorem dX12_moons_33 : decode cX12_moons 33 = .ok (.bipush 10, 2) := by decide +kernel
theorem dX12_moons_35 : decode cX12_moons 35 = .ok (.if_icmp .ge 99, 3) := by decide +kernel
theorem dX12_moons_38 : decode cX12_moons 38 = .ok (.aload_n 0, 1) := by decide +kernel
theorem dX12_moons_39 : decode cX12_moons 39 = .ok (.invokevirtual 356, 3) := by decide +kernel
theorem dX12_moons_42 : decode cX12_moons 42 = .ok (.aload_n 0, 1) := by decide +kernel
theorem dX12_moons_43 : decode cX12_moons 43 = .ok (.getfield 13, 3) := by decide +kernel
theorem dX12_moons_46 : decode cX12_moons 46 = .ok (.bipush 111, 2) := by decide +kernel
theorem dX12_moons_48 : decode cX12_moons 48 = .ok (.iload 4, 2) := by decide +kernel
theorem dX12_moons_50 : decode cX12_moons 50 = .ok (.iastore, 1) := by decide +kernel
theorem dX12_moons_51 : decode cX12_moons 51 = .ok (.iconst 0, 1) := by decide +kernel
theorem dX12_moons_52 : decode cX12_moons 52 = .ok (.istore 5, 2) := by decide +kernel
theorem dX12_moons_54 : decode cX12_moons 54 = .ok (.iload 5, 2) := by decide +kernel
theorem dX12_moons_56 : decode cX12_moons 56 = .ok (.aload_n 0, 1) := by decide +kernel
theorem dX12_moons_57 : decode cX12_moons 57 = .ok (.getfield 97, 3) := by decide +kernel
theorem dX12_moons_60 : decode cX12_moons 60 = .ok (.iload_n 1, 1) := by decide +kernel
theorem dX12_moons_61 : decode cX12_moons 61 = .ok (.iaload, 1) := by decide +kernel
theorem dX12_moons_62 : decode cX12_moons 62 = .ok (.if_icmp .ge 44, 3) := by decide +kernel
theorem dX12_moons_65 : decode cX12_moons 65 = .ok (.aload_n 0, 1) := by decide +kernel
theorem dX12_moons_66 : decode cX12_moons 66 = .ok (.lconst 0, 1) := by decide +kernel
theorem dX12_moons_67 : decode cX12_moons 67 = .ok (.invokevirtual 318, 3) := by decide +kernel
theorem dX12_moons_70 : decode cX12_moons 70 = .ok (.ifCond .ne 36, 3) := by decide +kernel
theorem dX12_moons_73 : decode cX12_moons 73 = .ok (.aload_n 0, 1) := by decide +kernel
theorem dX12_moons_74 : decode cX12_moons 74 = .ok (.invokevirtual 324, 3) := by decide +kernel
theorem dX12_moons_77 : decode cX12_moons 77 = .ok (.aload_n 0, 1) := by decide +kernel
theorem dX12_moons_78 : decode cX12_moons 78 = .ok (.invokevirtual 278, 3) := by decide +kernel
theorem dX12_moons_81 : decode cX12_moons 81 = .ok (.aload_n 0, 1) := by decide +kernel
theorem dX12_moons_82 : decode cX12_moons 82 = .ok (.getfield 100, 3) := by decide +kernel
theorem dX12_moons_85 : decode cX12_moons 85 = .ok (.bipush 40, 2) := by decide +kernel
theorem dX12_moons_87 : decode cX12_moons 87 = .ok (.iload_n 1, 1) := by decide +kernel
theorem dX12_moons_88 : decode cX12_moons 88 = .ok (.imul, 1) := by decide +kernel
theorem dX12_moons_89 : decode cX12_moons 89 = .ok (.iload 5, 2) := by decide +kernel
theorem dX12_moons_91 : decode cX12_moons 91 = .ok (.iadd, 1) := by decide +kernel
theorem dX12_moons_92 : decode cX12_moons 92 = .ok (.laload, 1) := by decide +kernel
theorem dX12_moons_93 : decode cX12_moons 93 = .ok (.lcmp, 1) := by decide +kernel
theorem dX12_moons_94 : decode cX12_moons 94 = .ok (.ifCond .eq 6, 3) := by decide +kernel
theorem dX12_moons_97 : decode cX12_moons 97 = .ok (.goto 9, 3) := by decide +kernel
theorem dX12_moons_100 : decode cX12_moons 100 = .ok (.iinc 5 1, 3) := by decide +kernel
theorem dX12_moons_103 : decode cX12_moons 103 = .ok (.goto (-49), 3) := by decide +kernel
theorem dX12_moons_106 : decode cX12_moons 106 = .ok (.iload_n 3, 1) := by decide +kernel
theorem dX12_moons_107 : decode cX12_moons 107 = .ok (.iload 5, 2) := by decide +kernel
theorem dX12_moons_109 : decode cX12_moons 109 = .ok (.aload_n 0, 1) := by decide +kernel
theorem dX12_moons_110 : decode cX12_moons 110 = .ok (.getfield 97, 3) := by decide +kernel
theorem dX12_moons_113 : decode cX12_moons 113 = .ok (.iload_n 1, 1) := by decide +kernel
theorem dX12_moons_114 : decode cX12_moons 114 = .ok (.iaload, 1) := by decide +kernel
theorem dX12_moons_115 : decode cX12_moons 115 = .ok (.if_icmp .ne 10, 3) := by decide +kernel
theorem dX12_moons_118 : decode cX12_moons 118 = .ok (.iconst 1, 1) := by decide +kernel
theorem dX12_moons_119 : decode cX12_moons 119 = .ok (.iload 4, 2) := by decide +kernel
theorem dX12_moons_121 : decode cX12_moons 121 = .ok (.ishl, 1) := by decide +kernel
theorem dX12_moons_122 : decode cX12_moons 122 = .ok (.goto 4, 3) := by decide +kernel
theorem dX12_moons_125 : decode cX12_moons 125 = .ok (.iconst 0, 1) := by decide +kernel
theorem dX12_moons_126 : decode cX12_moons 126 = .ok (.ior, 1) := by decide +kernel
theorem dX12_moons_127 : decode cX12_moons 127 = .ok (.istore_n 3, 1) := by decide +kernel
theorem dX12_moons_128 : decode cX12_moons 128 = .ok (.iinc 4 1, 3) := by decide +kernel
theorem dX12_moons_131 : decode cX12_moons 131 = .ok (.goto (-100), 3) := by decide +kernel
theorem dX12_moons_134 : decode cX12_moons 134 = .ok (.aload_n 0, 1) := by decide +kernel
theorem dX12_moons_135 : decode cX12_moons 135 = .ok (.invokevirtual 356, 3) := by decide +kernel
theorem dX12_moons_138 : decode cX12_moons 138 = .ok (.aload_n 0, 1) := by decide +kernel
theorem dX12_moons_139 : decode cX12_moons 139 = .ok (.invokevirtual 359, 3) := by decide +kernel
theorem dX12_moons_142 : decode cX12_moons 142 = .ok (.iload_n 3, 1) := by decide +kernel
theorem dX12_moons_143 : decode cX12_moons 143 = .ok (.ireturn, 1) := by decide +kernel
theorem dX12_sorts_0 : decode cX12_sorts 0 = .ok (.sipush 3280, 3) := by decide +kernel
theorem dX12_sorts_3 : decode cX12_sorts 3 = .ok (.istore_n 3, 1) := by decide +kernel
theorem dX12_sorts_4 : decode cX12_sorts 4 = .ok (.iload_n 3, 1) := by decide +kernel
theorem dX12_sorts_5 : decode cX12_sorts 5 = .ok (.ifCond .le 103, 3) := by decide +kernel
theorem dX12_sorts_8 : decode cX12_sorts 8 = .ok (.iload_n 3, 1) := by decide +kernel
theorem dX12_sorts_9 : decode cX12_sorts 9 = .ok (.istore 4, 2) := by decide +kernel
theorem dX12_sorts_11 : decode cX12_sorts 11 = .ok (.iload 4, 2) := by decide +kernel
theorem dX12_sorts_13 : decode cX12_sorts 13 = .ok (.iload_n 2, 1) := by decide +kernel
theorem dX12_sorts_14 : decode cX12_sorts 14 = .ok (.if_icmp .ge 87, 3) := by decide +kernel
theorem dX12_sorts_17 : decode cX12_sorts 17 = .ok (.aload_n 0, 1) := by decide +kernel
theorem dX12_sorts_18 : decode cX12_sorts 18 = .ok (.getfield 79, 3) := by decide +kernel
theorem dX12_sorts_21 : decode cX12_sorts 21 = .ok (.iload_n 1, 1) := by decide +kernel
theorem dX12_sorts_22 : decode cX12_sorts 22 = .ok (.iload 4, 2) := by decide +kernel
theorem dX12_sorts_24 : decode cX12_sorts 24 = .ok (.iadd, 1) := by decide +kernel
theorem dX12_sorts_25 : decode cX12_sorts 25 = .ok (.laload, 1) := by decide +kernel
theorem dX12_sorts_26 : decode cX12_sorts 26 = .ok (.lstore 5, 2) := by decide +kernel
theorem dX12_sorts_28 : decode cX12_sorts 28 = .ok (.iload 4, 2) := by decide +kernel
theorem dX12_sorts_30 : decode cX12_sorts 30 = .ok (.istore 7, 2) := by decide +kernel
theorem dX12_sorts_32 : decode cX12_sorts 32 = .ok (.iload 7, 2) := by decide +kernel
theorem dX12_sorts_34 : decode cX12_sorts 34 = .ok (.iload_n 3, 1) := by decide +kernel
theorem dX12_sorts_35 : decode cX12_sorts 35 = .ok (.if_icmp .lt 49, 3) := by decide +kernel
theorem dX12_sorts_38 : decode cX12_sorts 38 = .ok (.aload_n 0, 1) := by decide +kernel
theorem dX12_sorts_39 : decode cX12_sorts 39 = .ok (.getfield 79, 3) := by decide +kernel
theorem dX12_sorts_42 : decode cX12_sorts 42 = .ok (.iload_n 1, 1) := by decide +kernel
theorem dX12_sorts_43 : decode cX12_sorts 43 = .ok (.iload 7, 2) := by decide +kernel
theorem dX12_sorts_45 : decode cX12_sorts 45 = .ok (.iadd, 1) := by decide +kernel
theorem dX12_sorts_46 : decode cX12_sorts 46 = .ok (.iload_n 3, 1) := by decide +kernel
theorem dX12_sorts_47 : decode cX12_sorts 47 = .ok (.isub, 1) := by decide +kernel
theorem dX12_sorts_48 : decode cX12_sorts 48 = .ok (.laload, 1) := by decide +kernel
theorem dX12_sorts_49 : decode cX12_sorts 49 = .ok (.lload 5, 2) := by decide +kernel
theorem dX12_sorts_51 : decode cX12_sorts 51 = .ok (.lcmp, 1) := by decide +kernel
theorem dX12_sorts_52 : decode cX12_sorts 52 = .ok (.ifCond .le 32, 3) := by decide +kernel
theorem dX12_sorts_55 : decode cX12_sorts 55 = .ok (.aload_n 0, 1) := by decide +kernel
theorem dX12_sorts_56 : decode cX12_sorts 56 = .ok (.getfield 79, 3) := by decide +kernel
theorem dX12_sorts_59 : decode cX12_sorts 59 = .ok (.iload_n 1, 1) := by decide +kernel
theorem dX12_sorts_60 : decode cX12_sorts 60 = .ok (.iload 7, 2) := by decide +kernel
theorem dX12_sorts_62 : decode cX12_sorts 62 = .ok (.iadd, 1) := by decide +kernel
theorem dX12_sorts_63 : decode cX12_sorts 63 = .ok (.aload_n 0, 1) := by decide +kernel
theorem dX12_sorts_64 : decode cX12_sorts 64 = .ok (.getfield 79, 3) := by decide +kernel
theorem dX12_sorts_67 : decode cX12_sorts 67 = .ok (.iload_n 1, 1) := by decide +kernel
theorem dX12_sorts_68 : decode cX12_sorts 68 = .ok (.iload 7, 2) := by decide +kernel
theorem dX12_sorts_70 : decode cX12_sorts 70 = .ok (.iadd, 1) := by decide +kernel
theorem dX12_sorts_71 : decode cX12_sorts 71 = .ok (.iload_n 3, 1) := by decide +kernel
theorem dX12_sorts_72 : decode cX12_sorts 72 = .ok (.isub, 1) := by decide +kernel
theorem dX12_sorts_73 : decode cX12_sorts 73 = .ok (.laload, 1) := by decide +kernel
theorem dX12_sorts_74 : decode cX12_sorts 74 = .ok (.lastore, 1) := by decide +kernel
theorem dX12_sorts_75 : decode cX12_sorts 75 = .ok (.iload 7, 2) := by decide +kernel
theorem dX12_sorts_77 : decode cX12_sorts 77 = .ok (.iload_n 3, 1) := by decide +kernel
theorem dX12_sorts_78 : decode cX12_sorts 78 = .ok (.isub, 1) := by decide +kernel
theorem dX12_sorts_79 : decode cX12_sorts 79 = .ok (.istore 7, 2) := by decide +kernel
theorem dX12_sorts_81 : decode cX12_sorts 81 = .ok (.goto (-49), 3) := by decide +kernel
theorem dX12_sorts_84 : decode cX12_sorts 84 = .ok (.aload_n 0, 1) := by decide +kernel
theorem dX12_sorts_85 : decode cX12_sorts 85 = .ok (.getfield 79, 3) := by decide +kernel
theorem dX12_sorts_88 : decode cX12_sorts 88 = .ok (.iload_n 1, 1) := by decide +kernel
theorem dX12_sorts_89 : decode cX12_sorts 89 = .ok (.iload 7, 2) := by decide +kernel
theorem dX12_sorts_91 : decode cX12_sorts 91 = .ok (.iadd, 1) := by decide +kernel
theorem dX12_sorts_92 : decode cX12_sorts 92 = .ok (.lload 5, 2) := by decide +kernel
theorem dX12_sorts_94 : decode cX12_sorts 94 = .ok (.lastore, 1) := by decide +kernel
theorem dX12_sorts_95 : decode cX12_sorts 95 = .ok (.iinc 4 1, 3) := by decide +kernel
theorem dX12_sorts_98 : decode cX12_sorts 98 = .ok (.goto (-87), 3) := by decide +kernel
theorem dX12_sorts_101 : decode cX12_sorts 101 = .ok (.iload_n 3, 1) := by decide +kernel
theorem dX12_sorts_102 : decode cX12_sorts 102 = .ok (.iconst 3, 1) := by decide +kernel
theorem dX12_sorts_103 : decode cX12_sorts 103 = .ok (.idiv, 1) := by decide +kernel
theorem dX12_sorts_104 : decode cX12_sorts 104 = .ok (.istore_n 3, 1) := by decide +kernel
theorem dX12_sorts_105 : decode cX12_sorts 105 = .ok (.goto (-101), 3) := by decide +kernel
theorem dX12_sorts_108 : decode cX12_sorts 108 = .ok (.return_, 1) := by decide +kernel
theorem dX12_attempt_0 : decode cX12_attempt 0 = .ok (.aload_n 0, 1) := by decide +kernel
theorem dX12_attempt_1 : decode cX12_attempt 1 = .ok (.iconst 0, 1) := by decide +kernel
theorem dX12_attempt_2 : decode cX12_attempt 2 = .ok (.putfield 1, 3) := by decide +kernel
theorem dX12_attempt_5 : decode cX12_attempt 5 = .ok (.aload_n 0, 1) := by decide +kernel
theorem dX12_attempt_6 : decode cX12_attempt 6 = .ok (.iload_n 1, 1) := by decide +kernel
theorem dX12_attempt_7 : decode cX12_attempt 7 = .ok (.iconst (-1), 1) := by decide +kernel
theorem dX12_attempt_8 : decode cX12_attempt 8 = .ok (.invokevirtual 462, 3) := by decide +kernel
theorem dX12_attempt_11 : decode cX12_attempt 11 = .ok (.istore_n 2, 1) := by decide +kernel
theorem dX12_attempt_12 : decode cX12_attempt 12 = .ok (.iload_n 2, 1) := by decide +kernel
theorem dX12_attempt_13 : decode cX12_attempt 13 = .ok (.ifCond .eq 5, 3) := by decide +kernel
theorem dX12_attempt_16 : decode cX12_attempt 16 = .ok (.iload_n 2, 1) := by decide +kernel
theorem dX12_attempt_17 : decode cX12_attempt 17 = .ok (.ireturn, 1) := by decide +kernel
theorem dX12_attempt_18 : decode cX12_attempt 18 = .ok (.aload_n 0, 1) := by decide +kernel
theorem dX12_attempt_19 : decode cX12_attempt 19 = .ok (.iload_n 1, 1) := by decide +kernel
theorem dX12_attempt_20 : decode cX12_attempt 20 = .ok (.invokevirtual 465, 3) := by decide +kernel
theorem dX12_attempt_23 : decode cX12_attempt 23 = .ok (.istore_n 3, 1) := by decide +kernel
theorem dX12_attempt_24 : decode cX12_attempt 24 = .ok (.iconst (-1), 1) := by decide +kernel
theorem dX12_attempt_25 : decode cX12_attempt 25 = .ok (.istore 4, 2) := by decide +kernel
theorem dX12_attempt_27 : decode cX12_attempt 27 = .ok (.ldc_w 427, 3) := by decide +kernel
theorem dX12_attempt_30 : decode cX12_attempt 30 = .ok (.istore 5, 2) := by decide +kernel
theorem dX12_attempt_32 : decode cX12_attempt 32 = .ok (.iconst 0, 1) := by decide +kernel
theorem dX12_attempt_33 : decode cX12_attempt 33 = .ok (.istore 6, 2) := by decide +kernel
theorem dX12_attempt_35 : decode cX12_attempt 35 = .ok (.iload 6, 2) := by decide +kernel
theorem dX12_attempt_37 : decode cX12_attempt 37 = .ok (.aload_n 0, 1) := by decide +kernel
theorem dX12_attempt_38 : decode cX12_attempt 38 = .ok (.getfield 13, 3) := by decide +kernel
theorem dX12_attempt_41 : decode cX12_attempt 41 = .ok (.iconst 1, 1) := by decide +kernel
theorem dX12_attempt_42 : decode cX12_attempt 42 = .ok (.iaload, 1) := by decide +kernel
theorem dX12_attempt_43 : decode cX12_attempt 43 = .ok (.if_icmp .ge 128, 3) := by decide +kernel
theorem dX12_attempt_46 : decode cX12_attempt 46 = .ok (.iload_n 3, 1) := by decide +kernel
theorem dX12_attempt_47 : decode cX12_attempt 47 = .ok (.ifCond .le 124, 3) := by decide +kernel
theorem dX12_attempt_50 : decode cX12_attempt 50 = .ok (.aload_n 0, 1) := by decide +kernel
theorem dX12_attempt_51 : decode cX12_attempt 51 = .ok (.sipush 6561, 3) := by decide +kernel
theorem dX12_attempt_54 : decode cX12_attempt 54 = .ok (.iload 6, 2) := by decide +kernel
theorem dX12_attempt_56 : decode cX12_attempt 56 = .ok (.imul, 1) := by decide +kernel
theorem dX12_attempt_57 : decode cX12_attempt 57 = .ok (.iload_n 3, 1) := by decide +kernel
theorem dX12_attempt_58 : decode cX12_attempt 58 = .ok (.invokevirtual 468, 3) := by decide +kernel
theorem dX12_attempt_61 : decode cX12_attempt 61 = .ok (.iconst 0, 1) := by decide +kernel
theorem dX12_attempt_62 : decode cX12_attempt 62 = .ok (.istore 7, 2) := by decide +kernel
theorem dX12_attempt_64 : decode cX12_attempt 64 = .ok (.iconst 0, 1) := by decide +kernel
theorem dX12_attempt_65 : decode cX12_attempt 65 = .ok (.istore 8, 2) := by decide +kernel
theorem dX12_attempt_67 : decode cX12_attempt 67 = .ok (.iconst 0, 1) := by decide +kernel
theorem dX12_attempt_68 : decode cX12_attempt 68 = .ok (.istore 9, 2) := by decide +kernel
theorem dX12_attempt_70 : decode cX12_attempt 70 = .ok (.iload 9, 2) := by decide +kernel
theorem dX12_attempt_72 : decode cX12_attempt 72 = .ok (.iload_n 3, 1) := by decide +kernel
theorem dX12_attempt_73 : decode cX12_attempt 73 = .ok (.if_icmp .ge 74, 3) := by decide +kernel
theorem dX12_attempt_76 : decode cX12_attempt 76 = .ok (.iload 9, 2) := by decide +kernel
theorem dX12_attempt_78 : decode cX12_attempt 78 = .ok (.ifCond .le 44, 3) := by decide +kernel
theorem dX12_attempt_81 : decode cX12_attempt 81 = .ok (.aload_n 0, 1) := by decide +kernel
theorem dX12_attempt_82 : decode cX12_attempt 82 = .ok (.getfield 79, 3) := by decide +kernel
theorem dX12_attempt_85 : decode cX12_attempt 85 = .ok (.sipush 6561, 3) := by decide +kernel
theorem dX12_attempt_88 : decode cX12_attempt 88 = .ok (.iload 6, 2) := by decide +kernel
theorem dX12_attempt_90 : decode cX12_attempt 90 = .ok (.imul, 1) := by decide +kernel
theorem dX12_attempt_91 : decode cX12_attempt 91 = .ok (.iload 9, 2) := by decide +kernel
theorem dX12_attempt_93 : decode cX12_attempt 93 = .ok (.iadd, 1) := by decide +kernel
theorem dX12_attempt_94 : decode cX12_attempt 94 = .ok (.laload, 1) := by decide +kernel
theorem dX12_attempt_95 : decode cX12_attempt 95 = .ok (.aload_n 0, 1) := by decide +kernel
theorem dX12_attempt_96 : decode cX12_attempt 96 = .ok (.getfield 79, 3) := by decide +kernel
theorem dX12_attempt_99 : decode cX12_attempt 99 = .ok (.sipush 6561, 3) := by decide +kernel
theorem dX12_attempt_102 : decode cX12_attempt 102 = .ok (.iload 6, 2) := by decide +kernel
theorem dX12_attempt_104 : decode cX12_attempt 104 = .ok (.imul, 1) := by decide +kernel
theorem dX12_attempt_105 : decode cX12_attempt 105 = .ok (.iload 9, 2) := by decide +kernel
theorem dX12_attempt_107 : decode cX12_attempt 107 = .ok (.iadd, 1) := by decide +kernel
theorem dX12_attempt_108 : decode cX12_attempt 108 = .ok (.iconst 1, 1) := by decide +kernel
theorem dX12_attempt_109 : decode cX12_attempt 109 = .ok (.isub, 1) := by decide +kernel
theorem dX12_attempt_110 : decode cX12_attempt 110 = .ok (.laload, 1) := by decide +kernel
theorem dX12_attempt_111 : decode cX12_attempt 111 = .ok (.lcmp, 1) := by decide +kernel
theorem dX12_attempt_112 : decode cX12_attempt 112 = .ok (.ifCond .ne 10, 3) := by decide +kernel
theorem dX12_attempt_115 : decode cX12_attempt 115 = .ok (.iload 8, 2) := by decide +kernel
theorem dX12_attempt_117 : decode cX12_attempt 117 = .ok (.iconst 1, 1) := by decide +kernel
theorem dX12_attempt_118 : decode cX12_attempt 118 = .ok (.iadd, 1) := by decide +kernel
theorem dX12_attempt_119 : decode cX12_attempt 119 = .ok (.goto 4, 3) := by decide +kernel
theorem dX12_attempt_122 : decode cX12_attempt 122 = .ok (.iconst 1, 1) := by decide +kernel
theorem dX12_attempt_123 : decode cX12_attempt 123 = .ok (.istore 8, 2) := by decide +kernel
theorem dX12_attempt_125 : decode cX12_attempt 125 = .ok (.iload 8, 2) := by decide +kernel
theorem dX12_attempt_127 : decode cX12_attempt 127 = .ok (.iload 7, 2) := by decide +kernel
theorem dX12_attempt_129 : decode cX12_attempt 129 = .ok (.if_icmp .le 8, 3) := by decide +kernel
theorem dX12_attempt_132 : decode cX12_attempt 132 = .ok (.iload 8, 2) := by decide +kernel
theorem dX12_attempt_134 : decode cX12_attempt 134 = .ok (.goto 5, 3) := by decide +kernel
theorem dX12_attempt_137 : decode cX12_attempt 137 = .ok (.iload 7, 2) := by decide +kernel
theorem dX12_attempt_139 : decode cX12_attempt 139 = .ok (.istore 7, 2) := by decide +kernel
theorem dX12_attempt_141 : decode cX12_attempt 141 = .ok (.iinc 9 1, 3) := by decide +kernel
theorem dX12_attempt_144 : decode cX12_attempt 144 = .ok (.goto (-74), 3) := by decide +kernel
theorem dX12_attempt_147 : decode cX12_attempt 147 = .ok (.iload 7, 2) := by decide +kernel
theorem dX12_attempt_149 : decode cX12_attempt 149 = .ok (.iload 5, 2) := by decide +kernel
theorem dX12_attempt_151 : decode cX12_attempt 151 = .ok (.if_icmp .lt 6, 3) := by decide +kernel
theorem dX12_attempt_154 : decode cX12_attempt 154 = .ok (.goto 11, 3) := by decide +kernel
theorem dX12_attempt_157 : decode cX12_attempt 157 = .ok (.iload 6, 2) := by decide +kernel
theorem dX12_attempt_159 : decode cX12_attempt 159 = .ok (.istore 4, 2) := by decide +kernel
theorem dX12_attempt_161 : decode cX12_attempt 161 = .ok (.iload 7, 2) := by decide +kernel
theorem dX12_attempt_163 : decode cX12_attempt 163 = .ok (.istore 5, 2) := by decide +kernel
theorem dX12_attempt_165 : decode cX12_attempt 165 = .ok (.iinc 6 1, 3) := by decide +kernel
theorem dX12_attempt_168 : decode cX12_attempt 168 = .ok (.goto (-133), 3) := by decide +kernel
theorem dX12_attempt_171 : decode cX12_attempt 171 = .ok (.iload 4, 2) := by decide +kernel
theorem dX12_attempt_173 : decode cX12_attempt 173 = .ok (.ireturn, 1) := by decide +kernel
theorem dX12_turnedFrom_0 : decode cX12_turnedFrom 0 = .ok (.iload_n 1, 1) := by decide +kernel
theorem dX12_turnedFrom_1 : decode cX12_turnedFrom 1 = .ok (.iload_n 2, 1) := by decide +kernel
theorem dX12_turnedFrom_2 : decode cX12_turnedFrom 2 = .ok (.if_icmp .ne 9, 3) := by decide +kernel
theorem dX12_turnedFrom_5 : decode cX12_turnedFrom 5 = .ok (.aload_n 0, 1) := by decide +kernel
theorem dX12_turnedFrom_6 : decode cX12_turnedFrom 6 = .ok (.iload_n 1, 1) := by decide +kernel
theorem dX12_turnedFrom_7 : decode cX12_turnedFrom 7 = .ok (.invokevirtual 434, 3) := by decide +kernel
theorem dX12_turnedFrom_10 : decode cX12_turnedFrom 10 = .ok (.lreturn, 1) := by decide +kernel
theorem dX12_turnedFrom_11 : decode cX12_turnedFrom 11 = .ok (.lconst 0, 1) := by decide +kernel
theorem dX12_turnedFrom_12 : decode cX12_turnedFrom 12 = .ok (.lstore_n 3, 1) := by decide +kernel
theorem dX12_turnedFrom_13 : decode cX12_turnedFrom 13 = .ok (.iconst 0, 1) := by decide +kernel
theorem dX12_turnedFrom_14 : decode cX12_turnedFrom 14 = .ok (.istore 5, 2) := by decide +kernel
theorem dX12_turnedFrom_16 : decode cX12_turnedFrom 16 = .ok (.iload 5, 2) := by decide +kernel
theorem dX12_turnedFrom_18 : decode cX12_turnedFrom 18 = .ok (.aload_n 0, 1) := by decide +kernel
theorem dX12_turnedFrom_19 : decode cX12_turnedFrom 19 = .ok (.getfield 13, 3) := by decide +kernel
theorem dX12_turnedFrom_22 : decode cX12_turnedFrom 22 = .ok (.iconst 1, 1) := by decide +kernel
theorem dX12_turnedFrom_23 : decode cX12_turnedFrom 23 = .ok (.iaload, 1) := by decide +kernel
theorem dX12_turnedFrom_24 : decode cX12_turnedFrom 24 = .ok (.if_icmp .ge 61, 3) := by decide +kernel
theorem dX12_turnedFrom_27 : decode cX12_turnedFrom 27 = .ok (.aload_n 0, 1) := by decide +kernel
theorem dX12_turnedFrom_28 : decode cX12_turnedFrom 28 = .ok (.iload_n 1, 1) := by decide +kernel
theorem dX12_turnedFrom_29 : decode cX12_turnedFrom 29 = .ok (.iload 5, 2) := by decide +kernel
theorem dX12_turnedFrom_31 : decode cX12_turnedFrom 31 = .ok (.invokevirtual 437, 3) := by decide +kernel
theorem dX12_turnedFrom_34 : decode cX12_turnedFrom 34 = .ok (.aload_n 0, 1) := by decide +kernel
theorem dX12_turnedFrom_35 : decode cX12_turnedFrom 35 = .ok (.iload_n 1, 1) := by decide +kernel
theorem dX12_turnedFrom_36 : decode cX12_turnedFrom 36 = .ok (.iconst 1, 1) := by decide +kernel
theorem dX12_turnedFrom_37 : decode cX12_turnedFrom 37 = .ok (.iadd, 1) := by decide +kernel
theorem dX12_turnedFrom_38 : decode cX12_turnedFrom 38 = .ok (.iload_n 2, 1) := by decide +kernel
theorem dX12_turnedFrom_39 : decode cX12_turnedFrom 39 = .ok (.invokevirtual 471, 3) := by decide +kernel
theorem dX12_turnedFrom_42 : decode cX12_turnedFrom 42 = .ok (.lstore 6, 2) := by decide +kernel
theorem dX12_turnedFrom_44 : decode cX12_turnedFrom 44 = .ok (.iload 5, 2) := by decide +kernel
theorem dX12_turnedFrom_46 : decode cX12_turnedFrom 46 = .ok (.ifCond .eq 30, 3) := by decide +kernel
theorem dX12_turnedFrom_49 : decode cX12_turnedFrom 49 = .ok (.iload_n 1, 1) := by decide +kernel
theorem dX12_turnedFrom_50 : decode cX12_turnedFrom 50 = .ok (.iconst 2, 1) := by decide +kernel
theorem dX12_turnedFrom_51 : decode cX12_turnedFrom 51 = .ok (.irem, 1) := by decide +kernel
theorem dX12_turnedFrom_52 : decode cX12_turnedFrom 52 = .ok (.ifCond .ne 10, 3) := by decide +kernel
theorem dX12_turnedFrom_55 : decode cX12_turnedFrom 55 = .ok (.lload 6, 2) := by decide +kernel
theorem dX12_turnedFrom_57 : decode cX12_turnedFrom 57 = .ok (.lload_n 3, 1) := by decide +kernel
theorem dX12_turnedFrom_58 : decode cX12_turnedFrom 58 = .ok (.lcmp, 1) := by decide +kernel
theorem dX12_turnedFrom_59 : decode cX12_turnedFrom 59 = .ok (.ifCond .gt 17, 3) := by decide +kernel
theorem dX12_turnedFrom_62 : decode cX12_turnedFrom 62 = .ok (.iload_n 1, 1) := by decide +kernel
theorem dX12_turnedFrom_63 : decode cX12_turnedFrom 63 = .ok (.iconst 2, 1) := by decide +kernel
theorem dX12_turnedFrom_64 : decode cX12_turnedFrom 64 = .ok (.irem, 1) := by decide +kernel
theorem dX12_turnedFrom_65 : decode cX12_turnedFrom 65 = .ok (.iconst 1, 1) := by decide +kernel
theorem dX12_turnedFrom_66 : decode cX12_turnedFrom 66 = .ok (.if_icmp .ne 13, 3) := by decide +kernel
theorem dX12_turnedFrom_69 : decode cX12_turnedFrom 69 = .ok (.lload 6, 2) := by decide +kernel
theorem dX12_turnedFrom_71 : decode cX12_turnedFrom 71 = .ok (.lload_n 3, 1) := by decide +kernel
theorem dX12_turnedFrom_72 : decode cX12_turnedFrom 72 = .ok (.lcmp, 1) := by decide +kernel
theorem dX12_turnedFrom_73 : decode cX12_turnedFrom 73 = .ok (.ifCond .ge 6, 3) := by decide +kernel
theorem dX12_turnedFrom_76 : decode cX12_turnedFrom 76 = .ok (.lload 6, 2) := by decide +kernel
theorem dX12_turnedFrom_78 : decode cX12_turnedFrom 78 = .ok (.lstore_n 3, 1) := by decide +kernel
theorem dX12_turnedFrom_79 : decode cX12_turnedFrom 79 = .ok (.iinc 5 1, 3) := by decide +kernel
theorem dX12_turnedFrom_82 : decode cX12_turnedFrom 82 = .ok (.goto (-66), 3) := by decide +kernel
theorem dX12_turnedFrom_85 : decode cX12_turnedFrom 85 = .ok (.lload_n 3, 1) := by decide +kernel
theorem dX12_turnedFrom_86 : decode cX12_turnedFrom 86 = .ok (.lreturn, 1) := by decide +kernel
theorem dX12_turned_0 : decode cX12_turned 0 = .ok (.aload_n 0, 1) := by decide +kernel
theorem dX12_turned_1 : decode cX12_turned 1 = .ok (.iconst 0, 1) := by decide +kernel
theorem dX12_turned_2 : decode cX12_turned 2 = .ok (.putfield 1, 3) := by decide +kernel
theorem dX12_turned_5 : decode cX12_turned 5 = .ok (.iload_n 1, 1) := by decide +kernel
theorem dX12_turned_6 : decode cX12_turned 6 = .ok (.i2l, 1) := by decide +kernel
theorem dX12_turned_7 : decode cX12_turned 7 = .ok (.lconst 0, 1) := by decide +kernel
theorem dX12_turned_8 : decode cX12_turned 8 = .ok (.ldc2_w 452, 3) := by decide +kernel
theorem dX12_turned_11 : decode cX12_turned 11 = .ok (.invokestatic 169, 3) := by decide +kernel
theorem dX12_turned_14 : decode cX12_turned 14 = .ok (.ifCond .ne 7, 3) := by decide +kernel
theorem dX12_turned_17 : decode cX12_turned 17 = .ok (.ldc2_w 302, 3) := by decide +kernel
theorem dX12_turned_20 : decode cX12_turned 20 = .ok (.lreturn, 1) := by decide +kernel
theorem dX12_turned_21 : decode cX12_turned 21 = .ok (.aload_n 0, 1) := by decide +kernel
theorem dX12_turned_22 : decode cX12_turned 22 = .ok (.invokevirtual 424, 3) := by decide +kernel
theorem dX12_turned_25 : decode cX12_turned 25 = .ok (.aload_n 0, 1) := by decide +kernel
theorem dX12_turned_26 : decode cX12_turned 26 = .ok (.iconst 0, 1) := by decide +kernel
theorem dX12_turned_27 : decode cX12_turned 27 = .ok (.iload_n 1, 1) := by decide +kernel
theorem dX12_turned_28 : decode cX12_turned 28 = .ok (.invokevirtual 471, 3) := by decide +kernel
theorem dX12_turned_31 : decode cX12_turned 31 = .ok (.lreturn, 1) := by decide +kernel
theorem dX12_best_0 : decode cX12_best 0 = .ok (.aload_n 0, 1) := by decide +kernel
theorem dX12_best_1 : decode cX12_best 1 = .ok (.iconst 0, 1) := by decide +kernel
theorem dX12_best_2 : decode cX12_best 2 = .ok (.putfield 1, 3) := by decide +kernel
theorem dX12_best_5 : decode cX12_best 5 = .ok (.iload_n 1, 1) := by decide +kernel
theorem dX12_best_6 : decode cX12_best 6 = .ok (.i2l, 1) := by decide +kernel
theorem dX12_best_7 : decode cX12_best 7 = .ok (.lconst 0, 1) := by decide +kernel
theorem dX12_best_8 : decode cX12_best 8 = .ok (.ldc2_w 452, 3) := by decide +kernel
theorem dX12_best_11 : decode cX12_best 11 = .ok (.invokestatic 169, 3) := by decide +kernel
theorem dX12_best_14 : decode cX12_best 14 = .ok (.ifCond .ne 6, 3) := by decide +kernel
theorem dX12_best_17 : decode cX12_best 17 = .ok (.bipush (-3), 2) := by decide +kernel
theorem dX12_best_19 : decode cX12_best 19 = .ok (.ireturn, 1) := by decide +kernel
theorem dX12_best_20 : decode cX12_best 20 = .ok (.iload_n 1, 1) := by decide +kernel
theorem dX12_best_21 : decode cX12_best 21 = .ok (.ifCond .ne 5, 3) := by decide +kernel
theorem dX12_best_24 : decode cX12_best 24 = .ok (.iconst (-1), 1) := by decide +kernel
theorem dX12_best_25 : decode cX12_best 25 = .ok (.ireturn, 1) := by decide +kernel
theorem dX12_best_26 : decode cX12_best 26 = .ok (.aload_n 0, 1) := by decide +kernel
theorem dX12_best_27 : decode cX12_best 27 = .ok (.invokevirtual 424, 3) := by decide +kernel
theorem dX12_best_30 : decode cX12_best 30 = .ok (.aload_n 0, 1) := by decide +kernel
theorem dX12_best_31 : decode cX12_best 31 = .ok (.iconst 0, 1) := by decide +kernel
theorem dX12_best_32 : decode cX12_best 32 = .ok (.iload_n 1, 1) := by decide +kernel
theorem dX12_best_33 : decode cX12_best 33 = .ok (.invokevirtual 471, 3) := by decide +kernel
theorem dX12_best_36 : decode cX12_best 36 = .ok (.lstore_n 2, 1) := by decide +kernel
theorem dX12_best_37 : decode cX12_best 37 = .ok (.iconst 0, 1) := by decide +kernel
theorem dX12_best_38 : decode cX12_best 38 = .ok (.istore 4, 2) := by decide +kernel
theorem dX12_best_40 : decode cX12_best 40 = .ok (.aload_n 0, 1) := by decide +kernel
theorem dX12_best_41 : decode cX12_best 41 = .ok (.iconst 0, 1) := by decide +kernel
theorem dX12_best_42 : decode cX12_best 42 = .ok (.iload 4, 2) := by decide +kernel
theorem dX12_best_44 : decode cX12_best 44 = .ok (.invokevirtual 437, 3) := by decide +kernel
theorem dX12_best_47 : decode cX12_best 47 = .ok (.aload_n 0, 1) := by decide +kernel
theorem dX12_best_48 : decode cX12_best 48 = .ok (.iconst 1, 1) := by decide +kernel
theorem dX12_best_49 : decode cX12_best 49 = .ok (.iload_n 1, 1) := by decide +kernel
theorem dX12_best_50 : decode cX12_best 50 = .ok (.invokevirtual 471, 3) := by decide +kernel
theorem dX12_best_53 : decode cX12_best 53 = .ok (.lload_n 2, 1) := by decide +kernel
theorem dX12_best_54 : decode cX12_best 54 = .ok (.lcmp, 1) := by decide +kernel
theorem dX12_best_55 : decode cX12_best 55 = .ok (.ifCond .eq 16, 3) := by decide +kernel
theorem dX12_best_58 : decode cX12_best 58 = .ok (.iinc 4 1, 3) := by decide +kernel
theorem dX12_best_61 : decode cX12_best 61 = .ok (.aload_n 0, 1) := by decide +kernel
theorem dX12_best_62 : decode cX12_best 62 = .ok (.iconst 0, 1) := by decide +kernel
theorem dX12_best_63 : decode cX12_best 63 = .ok (.iload 4, 2) := by decide +kernel
theorem dX12_best_65 : decode cX12_best 65 = .ok (.invokevirtual 437, 3) := by decide +kernel
theorem dX12_best_68 : decode cX12_best 68 = .ok (.goto (-21), 3) := by decide +kernel
theorem dX12_best_71 : decode cX12_best 71 = .ok (.iload 4, 2) := by decide +kernel
theorem dX12_best_73 : decode cX12_best 73 = .ok (.ireturn, 1) := by decide +kernel
theorem dX12_wholeOf_0 : decode cX12_wholeOf 0 = .ok (.lconst 1, 1) := by decide +kernel
theorem dX12_wholeOf_1 : decode cX12_wholeOf 1 = .ok (.lstore_n 2, 1) := by decide +kernel
theorem dX12_wholeOf_2 : decode cX12_wholeOf 2 = .ok (.iconst 0, 1) := by decide +kernel
theorem dX12_wholeOf_3 : decode cX12_wholeOf 3 = .ok (.istore 4, 2) := by decide +kernel
theorem dX12_wholeOf_5 : decode cX12_wholeOf 5 = .ok (.iload 4, 2) := by decide +kernel
theorem dX12_wholeOf_7 : decode cX12_wholeOf 7 = .ok (.iload_n 1, 1) := by decide +kernel
theorem dX12_wholeOf_8 : decode cX12_wholeOf 8 = .ok (.if_icmp .ge 19, 3) := by decide +kernel
theorem dX12_wholeOf_11 : decode cX12_wholeOf 11 = .ok (.lload_n 2, 1) := by decide +kernel
theorem dX12_wholeOf_12 : decode cX12_wholeOf 12 = .ok (.aload_n 0, 1) := by decide +kernel
theorem dX12_wholeOf_13 : decode cX12_wholeOf 13 = .ok (.getfield 13, 3) := by decide +kernel
theorem dX12_wholeOf_16 : decode cX12_wholeOf 16 = .ok (.iconst 1, 1) := by decide +kernel
theorem dX12_wholeOf_17 : decode cX12_wholeOf 17 = .ok (.iaload, 1) := by decide +kernel
theorem dX12_wholeOf_18 : decode cX12_wholeOf 18 = .ok (.i2l, 1) := by decide +kernel
theorem dX12_wholeOf_19 : decode cX12_wholeOf 19 = .ok (.lmul, 1) := by decide +kernel
theorem dX12_wholeOf_20 : decode cX12_wholeOf 20 = .ok (.lstore_n 2, 1) := by decide +kernel
theorem dX12_wholeOf_21 : decode cX12_wholeOf 21 = .ok (.iinc 4 1, 3) := by decide +kernel
theorem dX12_wholeOf_24 : decode cX12_wholeOf 24 = .ok (.goto (-19), 3) := by decide +kernel
theorem dX12_wholeOf_27 : decode cX12_wholeOf 27 = .ok (.lload_n 2, 1) := by decide +kernel
theorem dX12_wholeOf_28 : decode cX12_wholeOf 28 = .ok (.lreturn, 1) := by decide +kernel
theorem dX12_common_0 : decode cX12_common 0 = .ok (.lload_n 2, 1) := by decide +kernel
theorem dX12_common_1 : decode cX12_common 1 = .ok (.lconst 0, 1) := by decide +kernel
theorem dX12_common_2 : decode cX12_common 2 = .ok (.lcmp, 1) := by decide +kernel
theorem dX12_common_3 : decode cX12_common 3 = .ok (.ifCond .ne 7, 3) := by decide +kernel
theorem dX12_common_6 : decode cX12_common 6 = .ok (.lload_n 0, 1) := by decide +kernel
theorem dX12_common_7 : decode cX12_common 7 = .ok (.goto 10, 3) := by decide +kernel
theorem dX12_common_10 : decode cX12_common 10 = .ok (.lload_n 2, 1) := by decide +kernel
theorem dX12_common_11 : decode cX12_common 11 = .ok (.lload_n 0, 1) := by decide +kernel
theorem dX12_common_12 : decode cX12_common 12 = .ok (.lload_n 2, 1) := by decide +kernel
theorem dX12_common_13 : decode cX12_common 13 = .ok (.lrem, 1) := by decide +kernel
theorem dX12_common_14 : decode cX12_common 14 = .ok (.invokestatic 475, 3) := by decide +kernel
theorem dX12_common_17 : decode cX12_common 17 = .ok (.lreturn, 1) := by decide +kernel
theorem dX12_part_0 : decode cX12_part 0 = .ok (.iload 4, 2) := by decide +kernel
theorem dX12_part_2 : decode cX12_part 2 = .ok (.ifCond .ne 7, 3) := by decide +kernel
theorem dX12_part_5 : decode cX12_part 5 = .ok (.lload_n 0, 1) := by decide +kernel
theorem dX12_part_6 : decode cX12_part 6 = .ok (.goto 4, 3) := by decide +kernel
theorem dX12_part_9 : decode cX12_part 9 = .ok (.lload_n 2, 1) := by decide +kernel
theorem dX12_part_10 : decode cX12_part 10 = .ok (.lload_n 0, 1) := by decide +kernel
theorem dX12_part_11 : decode cX12_part 11 = .ok (.lload_n 2, 1) := by decide +kernel
theorem dX12_part_12 : decode cX12_part 12 = .ok (.invokestatic 475, 3) := by decide +kernel
theorem dX12_part_15 : decode cX12_part 15 = .ok (.ldiv, 1) := by decide +kernel
theorem dX12_part_16 : decode cX12_part 16 = .ok (.lreturn, 1) := by decide +kernel
theorem dX12_chance_0 : decode cX12_chance 0 = .ok (.aload_n 0, 1) := by decide +kernel
theorem dX12_chance_1 : decode cX12_chance 1 = .ok (.iconst 0, 1) := by decide +kernel
theorem dX12_chance_2 : decode cX12_chance 2 = .ok (.putfield 1, 3) := by decide +kernel
theorem dX12_chance_5 : decode cX12_chance 5 = .ok (.iload_n 2, 1) := by decide +kernel
theorem dX12_chance_6 : decode cX12_chance 6 = .ok (.i2l, 1) := by decide +kernel
theorem dX12_chance_7 : decode cX12_chance 7 = .ok (.lconst 0, 1) := by decide +kernel
theorem dX12_chance_8 : decode cX12_chance 8 = .ok (.lconst 1, 1) := by decide +kernel
theorem dX12_chance_9 : decode cX12_chance 9 = .ok (.invokestatic 169, 3) := by decide +kernel
theorem dX12_chance_12 : decode cX12_chance 12 = .ok (.ifCond .ne 6, 3) := by decide +kernel
theorem dX12_chance_15 : decode cX12_chance 15 = .ok (.bipush (-2), 2) := by decide +kernel
theorem dX12_chance_17 : decode cX12_chance 17 = .ok (.ireturn, 1) := by decide +kernel
theorem dX12_chance_18 : decode cX12_chance 18 = .ok (.iload_n 1, 1) := by decide +kernel
theorem dX12_chance_19 : decode cX12_chance 19 = .ok (.i2l, 1) := by decide +kernel
theorem dX12_chance_20 : decode cX12_chance 20 = .ok (.lconst 0, 1) := by decide +kernel
theorem dX12_chance_21 : decode cX12_chance 21 = .ok (.ldc2_w 478, 3) := by decide +kernel
theorem dX12_chance_24 : decode cX12_chance 24 = .ok (.invokestatic 169, 3) := by decide +kernel
theorem dX12_chance_27 : decode cX12_chance 27 = .ok (.ifCond .ne 6, 3) := by decide +kernel
theorem dX12_chance_30 : decode cX12_chance 30 = .ok (.bipush (-3), 2) := by decide +kernel
theorem dX12_chance_32 : decode cX12_chance 32 = .ok (.ireturn, 1) := by decide +kernel
theorem dX12_chance_33 : decode cX12_chance 33 = .ok (.aload_n 0, 1) := by decide +kernel
theorem dX12_chance_34 : decode cX12_chance 34 = .ok (.invokevirtual 424, 3) := by decide +kernel
theorem dX12_chance_37 : decode cX12_chance 37 = .ok (.iconst 0, 1) := by decide +kernel
theorem dX12_chance_38 : decode cX12_chance 38 = .ok (.istore_n 3, 1) := by decide +kernel
theorem dX12_chance_39 : decode cX12_chance 39 = .ok (.iload_n 3, 1) := by decide +kernel
theorem dX12_chance_40 : decode cX12_chance 40 = .ok (.bipush 64, 2) := by decide +kernel
theorem dX12_chance_42 : decode cX12_chance 42 = .ok (.if_icmp .ge 28, 3) := by decide +kernel
theorem dX12_chance_45 : decode cX12_chance 45 = .ok (.aload_n 0, 1) := by decide +kernel
theorem dX12_chance_46 : decode cX12_chance 46 = .ok (.getfield 82, 3) := by decide +kernel
theorem dX12_chance_49 : decode cX12_chance 49 = .ok (.iload_n 3, 1) := by decide +kernel
theorem dX12_chance_50 : decode cX12_chance 50 = .ok (.iload_n 3, 1) := by decide +kernel
theorem dX12_chance_51 : decode cX12_chance 51 = .ok (.aload_n 0, 1) := by decide +kernel
theorem dX12_chance_52 : decode cX12_chance 52 = .ok (.invokevirtual 428, 3) := by decide +kernel
theorem dX12_chance_55 : decode cX12_chance 55 = .ok (.if_icmp .ne 7, 3) := by decide +kernel
theorem dX12_chance_58 : decode cX12_chance 58 = .ok (.lconst 1, 1) := by decide +kernel
theorem dX12_chance_59 : decode cX12_chance 59 = .ok (.goto 4, 3) := by decide +kernel
theorem dX12_chance_62 : decode cX12_chance 62 = .ok (.lconst 0, 1) := by decide +kernel
theorem dX12_chance_63 : decode cX12_chance 63 = .ok (.lastore, 1) := by decide +kernel
theorem dX12_chance_64 : decode cX12_chance 64 = .ok (.iinc 3 1, 3) := by decide +kernel
theorem dX12_chance_67 : decode cX12_chance 67 = .ok (.goto (-28), 3) := by decide +kernel
theorem dX12_chance_70 : decode cX12_chance 70 = .ok (.iconst 0, 1) := by decide +kernel
theorem dX12_chance_71 : decode cX12_chance 71 = .ok (.istore_n 3, 1) := by decide +kernel
theorem dX12_chance_72 : decode cX12_chance 72 = .ok (.iload_n 3, 1) := by decide +kernel
theorem dX12_chance_73 : decode cX12_chance 73 = .ok (.iload_n 1, 1) := by decide +kernel
theorem dX12_chance_74 : decode cX12_chance 74 = .ok (.if_icmp .ge 122, 3) := by decide +kernel
theorem dX12_chance_77 : decode cX12_chance 77 = .ok (.iconst 0, 1) := by decide +kernel
theorem dX12_chance_78 : decode cX12_chance 78 = .ok (.istore 4, 2) := by decide +kernel
theorem dX12_chance_80 : decode cX12_chance 80 = .ok (.iload 4, 2) := by decide +kernel
theorem dX12_chance_82 : decode cX12_chance 82 = .ok (.bipush 64, 2) := by decide +kernel
theorem dX12_chance_84 : decode cX12_chance 84 = .ok (.if_icmp .ge 17, 3) := by decide +kernel
theorem dX12_chance_87 : decode cX12_chance 87 = .ok (.aload_n 0, 1) := by decide +kernel
theorem dX12_chance_88 : decode cX12_chance 88 = .ok (.getfield 85, 3) := by decide +kernel
theorem dX12_chance_91 : decode cX12_chance 91 = .ok (.iload 4, 2) := by decide +kernel
theorem dX12_chance_93 : decode cX12_chance 93 = .ok (.lconst 0, 1) := by decide +kernel
theorem dX12_chance_94 : decode cX12_chance 94 = .ok (.lastore, 1) := by decide +kernel
theorem dX12_chance_95 : decode cX12_chance 95 = .ok (.iinc 4 1, 3) := by decide +kernel
theorem dX12_chance_98 : decode cX12_chance 98 = .ok (.goto (-18), 3) := by decide +kernel
theorem dX12_chance_101 : decode cX12_chance 101 = .ok (.iconst 0, 1) := by decide +kernel
theorem dX12_chance_102 : decode cX12_chance 102 = .ok (.istore 4, 2) := by decide +kernel
theorem dX12_chance_104 : decode cX12_chance 104 = .ok (.iload 4, 2) := by decide +kernel
theorem dX12_chance_106 : decode cX12_chance 106 = .ok (.bipush 64, 2) := by decide +kernel
theorem dX12_chance_108 : decode cX12_chance 108 = .ok (.if_icmp .ge 52, 3) := by decide +kernel
theorem dX12_chance_111 : decode cX12_chance 111 = .ok (.iconst 0, 1) := by decide +kernel
theorem dX12_chance_112 : decode cX12_chance 112 = .ok (.istore 5, 2) := by decide +kernel
theorem dX12_chance_114 : decode cX12_chance 114 = .ok (.iload 5, 2) := by decide +kernel
theorem dX12_chance_116 : decode cX12_chance 116 = .ok (.aload_n 0, 1) := by decide +kernel
theorem dX12_chance_117 : decode cX12_chance 117 = .ok (.getfield 13, 3) := by decide +kernel
theorem dX12_chance_120 : decode cX12_chance 120 = .ok (.iconst 1, 1) := by decide +kernel
theorem dX12_chance_121 : decode cX12_chance 121 = .ok (.iaload, 1) := by decide +kernel
theorem dX12_chance_122 : decode cX12_chance 122 = .ok (.if_icmp .ge 32, 3) := by decide +kernel
theorem dX12_chance_125 : decode cX12_chance 125 = .ok (.aload_n 0, 1) := by decide +kernel
theorem dX12_chance_126 : decode cX12_chance 126 = .ok (.getfield 85, 3) := by decide +kernel
theorem dX12_chance_129 : decode cX12_chance 129 = .ok (.aload_n 0, 1) := by decide +kernel
theorem dX12_chance_130 : decode cX12_chance 130 = .ok (.iload 4, 2) := by decide +kernel
theorem dX12_chance_132 : decode cX12_chance 132 = .ok (.iload 5, 2) := by decide +kernel
theorem dX12_chance_134 : decode cX12_chance 134 = .ok (.invokevirtual 431, 3) := by decide +kernel
theorem dX12_chance_137 : decode cX12_chance 137 = .ok (.dup2, 1) := by decide +kernel
theorem dX12_chance_138 : decode cX12_chance 138 = .ok (.laload, 1) := by decide +kernel
theorem dX12_chance_139 : decode cX12_chance 139 = .ok (.aload_n 0, 1) := by decide +kernel
theorem dX12_chance_140 : decode cX12_chance 140 = .ok (.getfield 82, 3) := by decide +kernel
theorem dX12_chance_143 : decode cX12_chance 143 = .ok (.iload 4, 2) := by decide +kernel
theorem dX12_chance_145 : decode cX12_chance 145 = .ok (.laload, 1) := by decide +kernel
theorem dX12_chance_146 : decode cX12_chance 146 = .ok (.ladd, 1) := by decide +kernel
theorem dX12_chance_147 : decode cX12_chance 147 = .ok (.lastore, 1) := by decide +kernel
theorem dX12_chance_148 : decode cX12_chance 148 = .ok (.iinc 5 1, 3) := by decide +kernel
theorem dX12_chance_151 : decode cX12_chance 151 = .ok (.goto (-37), 3) := by decide +kernel
theorem dX12_chance_154 : decode cX12_chance 154 = .ok (.iinc 4 1, 3) := by decide +kernel
theorem dX12_chance_157 : decode cX12_chance 157 = .ok (.goto (-53), 3) := by decide +kernel
theorem dX12_chance_160 : decode cX12_chance 160 = .ok (.iconst 0, 1) := by decide +kernel
theorem dX12_chance_161 : decode cX12_chance 161 = .ok (.istore 4, 2) := by decide +kernel
theorem dX12_chance_163 : decode cX12_chance 163 = .ok (.iload 4, 2) := by decide +kernel
theorem dX12_chance_165 : decode cX12_chance 165 = .ok (.bipush 64, 2) := by decide +kernel
theorem dX12_chance_167 : decode cX12_chance 167 = .ok (.if_icmp .ge 23, 3) := by decide +kernel
theorem dX12_chance_170 : decode cX12_chance 170 = .ok (.aload_n 0, 1) := by decide +kernel
theorem dX12_chance_171 : decode cX12_chance 171 = .ok (.getfield 82, 3) := by decide +kernel
theorem dX12_chance_174 : decode cX12_chance 174 = .ok (.iload 4, 2) := by decide +kernel
theorem dX12_chance_176 : decode cX12_chance 176 = .ok (.aload_n 0, 1) := by decide +kernel
theorem dX12_chance_177 : decode cX12_chance 177 = .ok (.getfield 85, 3) := by decide +kernel
theorem dX12_chance_180 : decode cX12_chance 180 = .ok (.iload 4, 2) := by decide +kernel
theorem dX12_chance_182 : decode cX12_chance 182 = .ok (.laload, 1) := by decide +kernel
theorem dX12_chance_183 : decode cX12_chance 183 = .ok (.lastore, 1) := by decide +kernel
theorem dX12_chance_184 : decode cX12_chance 184 = .ok (.iinc 4 1, 3) := by decide +kernel
theorem dX12_chance_187 : decode cX12_chance 187 = .ok (.goto (-24), 3) := by decide +kernel
theorem dX12_chance_190 : decode cX12_chance 190 = .ok (.iinc 3 1, 3) := by decide +kernel
theorem dX12_chance_193 : decode cX12_chance 193 = .ok (.goto (-121), 3) := by decide +kernel
theorem dX12_chance_196 : decode cX12_chance 196 = .ok (.aload_n 0, 1) := by decide +kernel
theorem dX12_chance_197 : decode cX12_chance 197 = .ok (.getfield 82, 3) := by decide +kernel
theorem dX12_chance_200 : decode cX12_chance 200 = .ok (.iconst 0, 1) := by decide +kernel
theorem dX12_chance_201 : decode cX12_chance 201 = .ok (.laload, 1) := by decide +kernel
theorem dX12_chance_202 : decode cX12_chance 202 = .ok (.aload_n 0, 1) := by decide +kernel
theorem dX12_chance_203 : decode cX12_chance 203 = .ok (.iload_n 1, 1) := by decide +kernel
theorem dX12_chance_204 : decode cX12_chance 204 = .ok (.invokevirtual 480, 3) := by decide +kernel
theorem dX12_chance_207 : decode cX12_chance 207 = .ok (.iload_n 2, 1) := by decide +kernel
theorem dX12_chance_208 : decode cX12_chance 208 = .ok (.invokestatic 483, 3) := by decide +kernel
theorem dX12_chance_211 : decode cX12_chance 211 = .ok (.l2i, 1) := by decide +kernel
theorem dX12_chance_212 : decode cX12_chance 212 = .ok (.ireturn, 1) := by decide +kernel
theorem dX12_mean_0 : decode cX12_mean 0 = .ok (.aload_n 0, 1) := by decide +kernel
theorem dX12_mean_1 : decode cX12_mean 1 = .ok (.iconst 0, 1) := by decide +kernel
theorem dX12_mean_2 : decode cX12_mean 2 = .ok (.putfield 1, 3) := by decide +kernel
theorem dX12_mean_5 : decode cX12_mean 5 = .ok (.iload_n 2, 1) := by decide +kernel
theorem dX12_mean_6 : decode cX12_mean 6 = .ok (.i2l, 1) := by decide +kernel
theorem dX12_mean_7 : decode cX12_mean 7 = .ok (.lconst 0, 1) := by decide +kernel
theorem dX12_mean_8 : decode cX12_mean 8 = .ok (.lconst 1, 1) := by decide +kernel
theorem dX12_mean_9 : decode cX12_mean 9 = .ok (.invokestatic 169, 3) := by decide +kernel
theorem dX12_mean_12 : decode cX12_mean 12 = .ok (.ifCond .ne 7, 3) := by decide +kernel
theorem dX12_mean_15 : decode cX12_mean 15 = .ok (.ldc2_w 300, 3) := by decide +kernel
theorem dX12_mean_18 : decode cX12_mean 18 = .ok (.lreturn, 1) := by decide +kernel
theorem dX12_mean_19 : decode cX12_mean 19 = .ok (.iload_n 1, 1) := by decide +kernel
theorem dX12_mean_20 : decode cX12_mean 20 = .ok (.i2l, 1) := by decide +kernel
theorem dX12_mean_21 : decode cX12_mean 21 = .ok (.lconst 0, 1) := by decide +kernel
theorem dX12_mean_22 : decode cX12_mean 22 = .ok (.ldc2_w 374, 3) := by decide +kernel
theorem dX12_mean_25 : decode cX12_mean 25 = .ok (.invokestatic 169, 3) := by decide +kernel
theorem dX12_mean_28 : decode cX12_mean 28 = .ok (.ifCond .ne 7, 3) := by decide +kernel
theorem dX12_mean_31 : decode cX12_mean 31 = .ok (.ldc2_w 302, 3) := by decide +kernel
theorem dX12_mean_34 : decode cX12_mean 34 = .ok (.lreturn, 1) := by decide +kernel
theorem dX12_mean_35 : decode cX12_mean 35 = .ok (.aload_n 0, 1) := by decide +kernel
theorem dX12_mean_36 : decode cX12_mean 36 = .ok (.invokevirtual 424, 3) := by decide +kernel
theorem dX12_mean_39 : decode cX12_mean 39 = .ok (.iconst 0, 1) := by decide +kernel
theorem dX12_mean_40 : decode cX12_mean 40 = .ok (.istore_n 3, 1) := by decide +kernel
theorem dX12_mean_41 : decode cX12_mean 41 = .ok (.iload_n 3, 1) := by decide +kernel
theorem dX12_mean_42 : decode cX12_mean 42 = .ok (.bipush 6, 2) := by decide +kernel
theorem dX12_mean_44 : decode cX12_mean 44 = .ok (.if_icmp .ge 21, 3) := by decide +kernel
theorem dX12_mean_47 : decode cX12_mean 47 = .ok (.aload_n 0, 1) := by decide +kernel
theorem dX12_mean_48 : decode cX12_mean 48 = .ok (.getfield 88, 3) := by decide +kernel
theorem dX12_mean_51 : decode cX12_mean 51 = .ok (.iload_n 3, 1) := by decide +kernel
theorem dX12_mean_52 : decode cX12_mean 52 = .ok (.aload_n 0, 1) := by decide +kernel
theorem dX12_mean_53 : decode cX12_mean 53 = .ok (.getfield 67, 3) := by decide +kernel
theorem dX12_mean_56 : decode cX12_mean 56 = .ok (.iload_n 3, 1) := by decide +kernel
theorem dX12_mean_57 : decode cX12_mean 57 = .ok (.laload, 1) := by decide +kernel
theorem dX12_mean_58 : decode cX12_mean 58 = .ok (.lastore, 1) := by decide +kernel
theorem dX12_mean_59 : decode cX12_mean 59 = .ok (.iinc 3 1, 3) := by decide +kernel
theorem dX12_mean_62 : decode cX12_mean 62 = .ok (.goto (-21), 3) := by decide +kernel
theorem dX12_mean_65 : decode cX12_mean 65 = .ok (.iconst 0, 1) := by decide +kernel
theorem dX12_mean_66 : decode cX12_mean 66 = .ok (.istore_n 3, 1) := by decide +kernel
theorem dX12_mean_67 : decode cX12_mean 67 = .ok (.iload_n 3, 1) := by decide +kernel
theorem dX12_mean_68 : decode cX12_mean 68 = .ok (.iload_n 1, 1) := by decide +kernel
theorem dX12_mean_69 : decode cX12_mean 69 = .ok (.if_icmp .ge 146, 3) := by decide +kernel
theorem dX12_mean_72 : decode cX12_mean 72 = .ok (.iconst 0, 1) := by decide +kernel
theorem dX12_mean_73 : decode cX12_mean 73 = .ok (.istore 4, 2) := by decide +kernel
theorem dX12_mean_75 : decode cX12_mean 75 = .ok (.iload 4, 2) := by decide +kernel
theorem dX12_mean_77 : decode cX12_mean 77 = .ok (.bipush 6, 2) := by decide +kernel
theorem dX12_mean_79 : decode cX12_mean 79 = .ok (.if_icmp .ge 17, 3) := by decide +kernel
theorem dX12_mean_82 : decode cX12_mean 82 = .ok (.aload_n 0, 1) := by decide +kernel
theorem dX12_mean_83 : decode cX12_mean 83 = .ok (.getfield 91, 3) := by decide +kernel
theorem dX12_mean_86 : decode cX12_mean 86 = .ok (.iload 4, 2) := by decide +kernel
theorem dX12_mean_88 : decode cX12_mean 88 = .ok (.lconst 0, 1) := by decide +kernel
theorem dX12_mean_89 : decode cX12_mean 89 = .ok (.lastore, 1) := by decide +kernel
theorem dX12_mean_90 : decode cX12_mean 90 = .ok (.iinc 4 1, 3) := by decide +kernel
theorem dX12_mean_93 : decode cX12_mean 93 = .ok (.goto (-18), 3) := by decide +kernel
theorem dX12_mean_96 : decode cX12_mean 96 = .ok (.iconst 0, 1) := by decide +kernel
theorem dX12_mean_97 : decode cX12_mean 97 = .ok (.istore 4, 2) := by decide +kernel
theorem dX12_mean_99 : decode cX12_mean 99 = .ok (.iload 4, 2) := by decide +kernel
theorem dX12_mean_101 : decode cX12_mean 101 = .ok (.aload_n 0, 1) := by decide +kernel
theorem dX12_mean_102 : decode cX12_mean 102 = .ok (.getfield 13, 3) := by decide +kernel
theorem dX12_mean_105 : decode cX12_mean 105 = .ok (.iconst 1, 1) := by decide +kernel
theorem dX12_mean_106 : decode cX12_mean 106 = .ok (.iaload, 1) := by decide +kernel
theorem dX12_mean_107 : decode cX12_mean 107 = .ok (.if_icmp .ge 72, 3) := by decide +kernel
theorem dX12_mean_110 : decode cX12_mean 110 = .ok (.iconst 0, 1) := by decide +kernel
theorem dX12_mean_111 : decode cX12_mean 111 = .ok (.istore 5, 2) := by decide +kernel
theorem dX12_mean_113 : decode cX12_mean 113 = .ok (.iload 5, 2) := by decide +kernel
theorem dX12_mean_115 : decode cX12_mean 115 = .ok (.bipush 6, 2) := by decide +kernel
theorem dX12_mean_117 : decode cX12_mean 117 = .ok (.if_icmp .ge 56, 3) := by decide +kernel
theorem dX12_mean_120 : decode cX12_mean 120 = .ok (.iconst 0, 1) := by decide +kernel
theorem dX12_mean_121 : decode cX12_mean 121 = .ok (.istore 6, 2) := by decide +kernel
theorem dX12_mean_123 : decode cX12_mean 123 = .ok (.iload 6, 2) := by decide +kernel
theorem dX12_mean_125 : decode cX12_mean 125 = .ok (.aload_n 0, 1) := by decide +kernel
theorem dX12_mean_126 : decode cX12_mean 126 = .ok (.iload 4, 2) := by decide +kernel
theorem dX12_mean_128 : decode cX12_mean 128 = .ok (.iload 5, 2) := by decide +kernel
theorem dX12_mean_130 : decode cX12_mean 130 = .ok (.invokevirtual 239, 3) := by decide +kernel
theorem dX12_mean_133 : decode cX12_mean 133 = .ok (.if_icmp .ge 34, 3) := by decide +kernel
theorem dX12_mean_136 : decode cX12_mean 136 = .ok (.aload_n 0, 1) := by decide +kernel
theorem dX12_mean_137 : decode cX12_mean 137 = .ok (.getfield 91, 3) := by decide +kernel
theorem dX12_mean_140 : decode cX12_mean 140 = .ok (.aload_n 0, 1) := by decide +kernel
theorem dX12_mean_141 : decode cX12_mean 141 = .ok (.iload 4, 2) := by decide +kernel
theorem dX12_mean_143 : decode cX12_mean 143 = .ok (.iload 5, 2) := by decide +kernel
theorem dX12_mean_145 : decode cX12_mean 145 = .ok (.iload 6, 2) := by decide +kernel
theorem dX12_mean_147 : decode cX12_mean 147 = .ok (.invokevirtual 242, 3) := by decide +kernel
theorem dX12_mean_150 : decode cX12_mean 150 = .ok (.dup2, 1) := by decide +kernel
theorem dX12_mean_151 : decode cX12_mean 151 = .ok (.laload, 1) := by decide +kernel
theorem dX12_mean_152 : decode cX12_mean 152 = .ok (.aload_n 0, 1) := by decide +kernel
theorem dX12_mean_153 : decode cX12_mean 153 = .ok (.getfield 88, 3) := by decide +kernel
theorem dX12_mean_156 : decode cX12_mean 156 = .ok (.iload 5, 2) := by decide +kernel
theorem dX12_mean_158 : decode cX12_mean 158 = .ok (.laload, 1) := by decide +kernel
theorem dX12_mean_159 : decode cX12_mean 159 = .ok (.ladd, 1) := by decide +kernel
theorem dX12_mean_160 : decode cX12_mean 160 = .ok (.lastore, 1) := by decide +kernel
theorem dX12_mean_161 : decode cX12_mean 161 = .ok (.iinc 6 1, 3) := by decide +kernel
theorem dX12_mean_164 : decode cX12_mean 164 = .ok (.goto (-41), 3) := by decide +kernel
theorem dX12_mean_167 : decode cX12_mean 167 = .ok (.iinc 5 1, 3) := by decide +kernel
theorem dX12_mean_170 : decode cX12_mean 170 = .ok (.goto (-57), 3) := by decide +kernel
theorem dX12_mean_173 : decode cX12_mean 173 = .ok (.iinc 4 1, 3) := by decide +kernel
theorem dX12_mean_176 : decode cX12_mean 176 = .ok (.goto (-77), 3) := by decide +kernel
theorem dX12_mean_179 : decode cX12_mean 179 = .ok (.iconst 0, 1) := by decide +kernel
theorem dX12_mean_180 : decode cX12_mean 180 = .ok (.istore 4, 2) := by decide +kernel
theorem dX12_mean_182 : decode cX12_mean 182 = .ok (.iload 4, 2) := by decide +kernel
theorem dX12_mean_184 : decode cX12_mean 184 = .ok (.bipush 6, 2) := by decide +kernel
theorem dX12_mean_186 : decode cX12_mean 186 = .ok (.if_icmp .ge 23, 3) := by decide +kernel
theorem dX12_mean_189 : decode cX12_mean 189 = .ok (.aload_n 0, 1) := by decide +kernel
theorem dX12_mean_190 : decode cX12_mean 190 = .ok (.getfield 88, 3) := by decide +kernel
theorem dX12_mean_193 : decode cX12_mean 193 = .ok (.iload 4, 2) := by decide +kernel
theorem dX12_mean_195 : decode cX12_mean 195 = .ok (.aload_n 0, 1) := by decide +kernel
theorem dX12_mean_196 : decode cX12_mean 196 = .ok (.getfield 91, 3) := by decide +kernel
theorem dX12_mean_199 : decode cX12_mean 199 = .ok (.iload 4, 2) := by decide +kernel
theorem dX12_mean_201 : decode cX12_mean 201 = .ok (.laload, 1) := by decide +kernel
theorem dX12_mean_202 : decode cX12_mean 202 = .ok (.lastore, 1) := by decide +kernel
theorem dX12_mean_203 : decode cX12_mean 203 = .ok (.iinc 4 1, 3) := by decide +kernel
theorem dX12_mean_206 : decode cX12_mean 206 = .ok (.goto (-24), 3) := by decide +kernel
theorem dX12_mean_209 : decode cX12_mean 209 = .ok (.iinc 3 1, 3) := by decide +kernel
theorem dX12_mean_212 : decode cX12_mean 212 = .ok (.goto (-145), 3) := by decide +kernel
theorem dX12_mean_215 : decode cX12_mean 215 = .ok (.lconst 0, 1) := by decide +kernel
theorem dX12_mean_216 : decode cX12_mean 216 = .ok (.lstore_n 3, 1) := by decide +kernel
theorem dX12_mean_217 : decode cX12_mean 217 = .ok (.iconst 0, 1) := by decide +kernel
theorem dX12_mean_218 : decode cX12_mean 218 = .ok (.istore 5, 2) := by decide +kernel
theorem dX12_mean_220 : decode cX12_mean 220 = .ok (.iload 5, 2) := by decide +kernel
theorem dX12_mean_222 : decode cX12_mean 222 = .ok (.bipush 6, 2) := by decide +kernel
theorem dX12_mean_224 : decode cX12_mean 224 = .ok (.if_icmp .ge 19, 3) := by decide +kernel
theorem dX12_mean_227 : decode cX12_mean 227 = .ok (.lload_n 3, 1) := by decide +kernel
theorem dX12_mean_228 : decode cX12_mean 228 = .ok (.aload_n 0, 1) := by decide +kernel
theorem dX12_mean_229 : decode cX12_mean 229 = .ok (.getfield 88, 3) := by decide +kernel
theorem dX12_mean_232 : decode cX12_mean 232 = .ok (.iload 5, 2) := by decide +kernel
theorem dX12_mean_234 : decode cX12_mean 234 = .ok (.laload, 1) := by decide +kernel
theorem dX12_mean_235 : decode cX12_mean 235 = .ok (.ladd, 1) := by decide +kernel
theorem dX12_mean_236 : decode cX12_mean 236 = .ok (.lstore_n 3, 1) := by decide +kernel
theorem dX12_mean_237 : decode cX12_mean 237 = .ok (.iinc 5 1, 3) := by decide +kernel
theorem dX12_mean_240 : decode cX12_mean 240 = .ok (.goto (-20), 3) := by decide +kernel
theorem dX12_mean_243 : decode cX12_mean 243 = .ok (.lload_n 3, 1) := by decide +kernel
theorem dX12_mean_244 : decode cX12_mean 244 = .ok (.aload_n 0, 1) := by decide +kernel
theorem dX12_mean_245 : decode cX12_mean 245 = .ok (.iload_n 1, 1) := by decide +kernel
theorem dX12_mean_246 : decode cX12_mean 246 = .ok (.invokevirtual 480, 3) := by decide +kernel
theorem dX12_mean_249 : decode cX12_mean 249 = .ok (.iload_n 2, 1) := by decide +kernel
theorem dX12_mean_250 : decode cX12_mean 250 = .ok (.invokestatic 483, 3) := by decide +kernel
theorem dX12_mean_253 : decode cX12_mean 253 = .ok (.lreturn, 1) := by decide +kernel
theorem dX12_cut_0 : decode cX12_cut 0 = .ok (.iload_n 2, 1) := by decide +kernel
theorem dX12_cut_1 : decode cX12_cut 1 = .ok (.ifCond .ne 10, 3) := by decide +kernel
theorem dX12_cut_4 : decode cX12_cut 4 = .ok (.lload_n 0, 1) := by decide +kernel
theorem dX12_cut_5 : decode cX12_cut 5 = .ok (.l2i, 1) := by decide +kernel
theorem dX12_cut_6 : decode cX12_cut 6 = .ok (.i2b, 1) := by decide +kernel
theorem dX12_cut_7 : decode cX12_cut 7 = .ok (.i2l, 1) := by decide +kernel
theorem dX12_cut_8 : decode cX12_cut 8 = .ok (.goto 27, 3) := by decide +kernel
theorem dX12_cut_11 : decode cX12_cut 11 = .ok (.iload_n 2, 1) := by decide +kernel
theorem dX12_cut_12 : decode cX12_cut 12 = .ok (.iconst 1, 1) := by decide +kernel
theorem dX12_cut_13 : decode cX12_cut 13 = .ok (.if_icmp .ne 10, 3) := by decide +kernel
theorem dX12_cut_16 : decode cX12_cut 16 = .ok (.lload_n 0, 1) := by decide +kernel
theorem dX12_cut_17 : decode cX12_cut 17 = .ok (.l2i, 1) := by decide +kernel
theorem dX12_cut_18 : decode cX12_cut 18 = .ok (.i2s, 1) := by decide +kernel
theorem dX12_cut_19 : decode cX12_cut 19 = .ok (.i2l, 1) := by decide +kernel
theorem dX12_cut_20 : decode cX12_cut 20 = .ok (.goto 15, 3) := by decide +kernel
theorem dX12_cut_23 : decode cX12_cut 23 = .ok (.iload_n 2, 1) := by decide +kernel
theorem dX12_cut_24 : decode cX12_cut 24 = .ok (.iconst 2, 1) := by decide +kernel
theorem dX12_cut_25 : decode cX12_cut 25 = .ok (.if_icmp .ne 9, 3) := by decide +kernel
theorem dX12_cut_28 : decode cX12_cut 28 = .ok (.lload_n 0, 1) := by decide +kernel
theorem dX12_cut_29 : decode cX12_cut 29 = .ok (.l2i, 1) := by decide +kernel
theorem dX12_cut_30 : decode cX12_cut 30 = .ok (.i2l, 1) := by decide +kernel
theorem dX12_cut_31 : decode cX12_cut 31 = .ok (.goto 4, 3) := by decide +kernel
theorem dX12_cut_34 : decode cX12_cut 34 = .ok (.lload_n 0, 1) := by decide +kernel
theorem dX12_cut_35 : decode cX12_cut 35 = .ok (.lreturn, 1) := by decide +kernel
theorem dX12_numbers_0 : decode cX12_numbers 0 = .ok (.aload_n 0, 1) := by decide +kernel
theorem dX12_numbers_1 : decode cX12_numbers 1 = .ok (.iconst 0, 1) := by decide +kernel
theorem dX12_numbers_2 : decode cX12_numbers 2 = .ok (.putfield 1, 3) := by decide +kernel
theorem dX12_numbers_5 : decode cX12_numbers 5 = .ok (.iload_n 1, 1) := by decide +kernel
theorem dX12_numbers_6 : decode cX12_numbers 6 = .ok (.i2l, 1) := by decide +kernel
theorem dX12_numbers_7 : decode cX12_numbers 7 = .ok (.lconst 0, 1) := by decide +kernel
theorem dX12_numbers_8 : decode cX12_numbers 8 = .ok (.ldc2_w 334, 3) := by decide +kernel
theorem dX12_numbers_11 : decode cX12_numbers 11 = .ok (.invokestatic 169, 3) := by decide +kernel
theorem dX12_numbers_14 : decode cX12_numbers 14 = .ok (.ifCond .eq 15, 3) := by decide +kernel
theorem dX12_numbers_17 : decode cX12_numbers 17 = .ok (.iload_n 2, 1) := by decide +kernel
theorem dX12_numbers_18 : decode cX12_numbers 18 = .ok (.i2l, 1) := by decide +kernel
theorem dX12_numbers_19 : decode cX12_numbers 19 = .ok (.lconst 0, 1) := by decide +kernel
theorem dX12_numbers_20 : decode cX12_numbers 20 = .ok (.ldc2_w 334, 3) := by decide +kernel
theorem dX12_numbers_23 : decode cX12_numbers 23 = .ok (.invokestatic 169, 3) := by decide +kernel
theorem dX12_numbers_26 : decode cX12_numbers 26 = .ok (.ifCond .ne 6, 3) := by decide +kernel
theorem dX12_numbers_29 : decode cX12_numbers 29 = .ok (.bipush (-2), 2) := by decide +kernel
theorem dX12_numbers_31 : decode cX12_numbers 31 = .ok (.ireturn, 1) := by decide +kernel
theorem dX12_numbers_32 : decode cX12_numbers 32 = .ok (.iload_n 3, 1) := by decide +kernel
theorem dX12_numbers_33 : decode cX12_numbers 33 = .ok (.i2l, 1) := by decide +kernel
theorem dX12_numbers_34 : decode cX12_numbers 34 = .ok (.lconst 0, 1) := by decide +kernel
theorem dX12_numbers_35 : decode cX12_numbers 35 = .ok (.ldc2_w 487, 3) := by decide +kernel
theorem dX12_numbers_38 : decode cX12_numbers 38 = .ok (.invokestatic 169, 3) := by decide +kernel
theorem dX12_numbers_41 : decode cX12_numbers 41 = .ok (.ifCond .ne 6, 3) := by decide +kernel
theorem dX12_numbers_44 : decode cX12_numbers 44 = .ok (.bipush (-3), 2) := by decide +kernel
theorem dX12_numbers_46 : decode cX12_numbers 46 = .ok (.ireturn, 1) := by decide +kernel
theorem dX12_numbers_47 : decode cX12_numbers 47 = .ok (.aload_n 0, 1) := by decide +kernel
theorem dX12_numbers_48 : decode cX12_numbers 48 = .ok (.getfield 94, 3) := by decide +kernel
theorem dX12_numbers_51 : decode cX12_numbers 51 = .ok (.iload_n 1, 1) := by decide +kernel
theorem dX12_numbers_52 : decode cX12_numbers 52 = .ok (.iload_n 2, 1) := by decide +kernel
theorem dX12_numbers_53 : decode cX12_numbers 53 = .ok (.iastore, 1) := by decide +kernel
theorem dX12_numbers_54 : decode cX12_numbers 54 = .ok (.aload_n 0, 1) := by decide +kernel
theorem dX12_numbers_55 : decode cX12_numbers 55 = .ok (.getfield 97, 3) := by decide +kernel
theorem dX12_numbers_58 : decode cX12_numbers 58 = .ok (.iload_n 1, 1) := by decide +kernel
theorem dX12_numbers_59 : decode cX12_numbers 59 = .ok (.iload_n 3, 1) := by decide +kernel
theorem dX12_numbers_60 : decode cX12_numbers 60 = .ok (.iastore, 1) := by decide +kernel
theorem dX12_numbers_61 : decode cX12_numbers 61 = .ok (.iconst 0, 1) := by decide +kernel
theorem dX12_numbers_62 : decode cX12_numbers 62 = .ok (.istore 4, 2) := by decide +kernel
theorem dX12_numbers_64 : decode cX12_numbers 64 = .ok (.iload 4, 2) := by decide +kernel
theorem dX12_numbers_66 : decode cX12_numbers 66 = .ok (.iload_n 3, 1) := by decide +kernel
theorem dX12_numbers_67 : decode cX12_numbers 67 = .ok (.if_icmp .ge 22, 3) := by decide +kernel
theorem dX12_numbers_70 : decode cX12_numbers 70 = .ok (.aload_n 0, 1) := by decide +kernel
theorem dX12_numbers_71 : decode cX12_numbers 71 = .ok (.getfield 100, 3) := by decide +kernel
theorem dX12_numbers_74 : decode cX12_numbers 74 = .ok (.bipush 40, 2) := by decide +kernel
theorem dX12_numbers_76 : decode cX12_numbers 76 = .ok (.iload_n 1, 1) := by decide +kernel
theorem dX12_numbers_77 : decode cX12_numbers 77 = .ok (.imul, 1) := by decide +kernel
theorem dX12_numbers_78 : decode cX12_numbers 78 = .ok (.iload 4, 2) := by decide +kernel
theorem dX12_numbers_80 : decode cX12_numbers 80 = .ok (.iadd, 1) := by decide +kernel
theorem dX12_numbers_81 : decode cX12_numbers 81 = .ok (.lconst 0, 1) := by decide +kernel
theorem dX12_numbers_82 : decode cX12_numbers 82 = .ok (.lastore, 1) := by decide +kernel
theorem dX12_numbers_83 : decode cX12_numbers 83 = .ok (.iinc 4 1, 3) := by decide +kernel
theorem dX12_numbers_86 : decode cX12_numbers 86 = .ok (.goto (-22), 3) := by decide +kernel
theorem dX12_numbers_89 : decode cX12_numbers 89 = .ok (.iconst 0, 1) := by decide +kernel
theorem dX12_numbers_90 : decode cX12_numbers 90 = .ok (.ireturn, 1) := by decide +kernel
theorem dX12_write_0 : decode cX12_write 0 = .ok (.aload_n 0, 1) := by decide +kernel
theorem dX12_write_1 : decode cX12_write 1 = .ok (.iconst 0, 1) := by decide +kernel
theorem dX12_write_2 : decode cX12_write 2 = .ok (.putfield 1, 3) := by decide +kernel
theorem dX12_write_5 : decode cX12_write 5 = .ok (.aload_n 0, 1) := by decide +kernel
theorem dX12_write_6 : decode cX12_write 6 = .ok (.iload_n 1, 1) := by decide +kernel
theorem dX12_write_7 : decode cX12_write 7 = .ok (.invokevirtual 347, 3) := by decide +kernel
theorem dX12_write_10 : decode cX12_write 10 = .ok (.istore 5, 2) := by decide +kernel
theorem dX12_write_12 : decode cX12_write 12 = .ok (.iload 5, 2) := by decide +kernel
theorem dX12_write_14 : decode cX12_write 14 = .ok (.ifCond .eq 7, 3) := by decide +kernel
theorem dX12_write_17 : decode cX12_write 17 = .ok (.iload 5, 2) := by decide +kernel
theorem dX12_write_19 : decode cX12_write 19 = .ok (.i2l, 1) := by decide +kernel
theorem dX12_write_20 : decode cX12_write 20 = .ok (.lreturn, 1) := by decide +kernel
theorem dX12_write_21 : decode cX12_write 21 = .ok (.iload_n 2, 1) := by decide +kernel
theorem dX12_write_22 : decode cX12_write 22 = .ok (.i2l, 1) := by decide +kernel
theorem dX12_write_23 : decode cX12_write 23 = .ok (.lconst 0, 1) := by decide +kernel
theorem dX12_write_24 : decode cX12_write 24 = .ok (.aload_n 0, 1) := by decide +kernel
theorem dX12_write_25 : decode cX12_write 25 = .ok (.getfield 97, 3) := by decide +kernel
theorem dX12_write_28 : decode cX12_write 28 = .ok (.iload_n 1, 1) := by decide +kernel
theorem dX12_write_29 : decode cX12_write 29 = .ok (.iaload, 1) := by decide +kernel
theorem dX12_write_30 : decode cX12_write 30 = .ok (.iconst 1, 1) := by decide +kernel
theorem dX12_write_31 : decode cX12_write 31 = .ok (.isub, 1) := by decide +kernel
theorem dX12_write_32 : decode cX12_write 32 = .ok (.i2l, 1) := by decide +kernel
theorem dX12_write_33 : decode cX12_write 33 = .ok (.invokestatic 169, 3) := by decide +kernel
theorem dX12_write_36 : decode cX12_write 36 = .ok (.ifCond .ne 7, 3) := by decide +kernel
theorem dX12_write_39 : decode cX12_write 39 = .ok (.ldc2_w 489, 3) := by decide +kernel
theorem dX12_write_42 : decode cX12_write 42 = .ok (.lreturn, 1) := by decide +kernel
theorem dX12_write_43 : decode cX12_write 43 = .ok (.aload_n 0, 1) := by decide +kernel
theorem dX12_write_44 : decode cX12_write 44 = .ok (.getfield 100, 3) := by decide +kernel
theorem dX12_write_47 : decode cX12_write 47 = .ok (.bipush 40, 2) := by decide +kernel
theorem dX12_write_49 : decode cX12_write 49 = .ok (.iload_n 1, 1) := by decide +kernel
theorem dX12_write_50 : decode cX12_write 50 = .ok (.imul, 1) := by decide +kernel
theorem dX12_write_51 : decode cX12_write 51 = .ok (.iload_n 2, 1) := by decide +kernel
theorem dX12_write_52 : decode cX12_write 52 = .ok (.iadd, 1) := by decide +kernel
theorem dX12_write_53 : decode cX12_write 53 = .ok (.lload_n 3, 1) := by decide +kernel
theorem dX12_write_54 : decode cX12_write 54 = .ok (.aload_n 0, 1) := by decide +kernel
theorem dX12_write_55 : decode cX12_write 55 = .ok (.getfield 94, 3) := by decide +kernel
theorem dX12_write_58 : decode cX12_write 58 = .ok (.iload_n 1, 1) := by decide +kernel
theorem dX12_write_59 : decode cX12_write 59 = .ok (.iaload, 1) := by decide +kernel
theorem dX12_write_60 : decode cX12_write 60 = .ok (.invokestatic 491, 3) := by decide +kernel
theorem dX12_write_63 : decode cX12_write 63 = .ok (.lastore, 1) := by decide +kernel
theorem dX12_write_64 : decode cX12_write 64 = .ok (.aload_n 0, 1) := by decide +kernel
theorem dX12_write_65 : decode cX12_write 65 = .ok (.getfield 100, 3) := by decide +kernel
theorem dX12_write_68 : decode cX12_write 68 = .ok (.bipush 40, 2) := by decide +kernel
theorem dX12_write_70 : decode cX12_write 70 = .ok (.iload_n 1, 1) := by decide +kernel
theorem dX12_write_71 : decode cX12_write 71 = .ok (.imul, 1) := by decide +kernel
theorem dX12_write_72 : decode cX12_write 72 = .ok (.iload_n 2, 1) := by decide +kernel
theorem dX12_write_73 : decode cX12_write 73 = .ok (.iadd, 1) := by decide +kernel
theorem dX12_write_74 : decode cX12_write 74 = .ok (.laload, 1) := by decide +kernel
theorem dX12_write_75 : decode cX12_write 75 = .ok (.lreturn, 1) := by decide +kernel
theorem dX12_lists_0 : decode cX12_lists 0 = .ok (.aload_n 0, 1) := by decide +kernel
theorem dX12_lists_1 : decode cX12_lists 1 = .ok (.iconst 0, 1) := by decide +kernel
theorem dX12_lists_2 : decode cX12_lists 2 = .ok (.putfield 1, 3) := by decide +kernel
theorem dX12_lists_5 : decode cX12_lists 5 = .ok (.aload_n 0, 1) := by decide +kernel
theorem dX12_lists_6 : decode cX12_lists 6 = .ok (.iload_n 1, 1) := by decide +kernel
theorem dX12_lists_7 : decode cX12_lists 7 = .ok (.invokevirtual 347, 3) := by decide +kernel
theorem dX12_lists_10 : decode cX12_lists 10 = .ok (.istore 4, 2) := by decide +kernel
theorem dX12_lists_12 : decode cX12_lists 12 = .ok (.iload 4, 2) := by decide +kernel
theorem dX12_lists_14 : decode cX12_lists 14 = .ok (.ifCond .eq 6, 3) := by decide +kernel
theorem dX12_lists_17 : decode cX12_lists 17 = .ok (.iload 4, 2) := by decide +kernel
theorem dX12_lists_19 : decode cX12_lists 19 = .ok (.ireturn, 1) := by decide +kernel
theorem dX12_lists_20 : decode cX12_lists 20 = .ok (.aload_n 0, 1) := by decide +kernel
theorem dX12_lists_21 : decode cX12_lists 21 = .ok (.invokevirtual 278, 3) := by decide +kernel
theorem dX12_lists_24 : decode cX12_lists 24 = .ok (.lstore 5, 2) := by decide +kernel
theorem dX12_lists_26 : decode cX12_lists 26 = .ok (.lload_n 2, 1) := by decide +kernel
theorem dX12_lists_27 : decode cX12_lists 27 = .ok (.lconst 0, 1) := by decide +kernel
theorem dX12_lists_28 : decode cX12_lists 28 = .ok (.lload 5, 2) := by decide +kernel
theorem dX12_lists_30 : decode cX12_lists 30 = .ok (.invokestatic 169, 3) := by decide +kernel
theorem dX12_lists_33 : decode cX12_lists 33 = .ok (.ifCond .ne 6, 3) := by decide +kernel
theorem dX12_lists_36 : decode cX12_lists 36 = .ok (.bipush (-3), 2) := by decide +kernel
theorem dX12_lists_38 : decode cX12_lists 38 = .ok (.ireturn, 1) := by decide +kernel
theorem dX12_lists_39 : decode cX12_lists 39 = .ok (.lload 5, 2) := by decide +kernel
theorem dX12_lists_41 : decode cX12_lists 41 = .ok (.lload_n 2, 1) := by decide +kernel
theorem dX12_lists_42 : decode cX12_lists 42 = .ok (.lsub, 1) := by decide +kernel
theorem dX12_lists_43 : decode cX12_lists 43 = .ok (.aload_n 0, 1) := by decide +kernel
theorem dX12_lists_44 : decode cX12_lists 44 = .ok (.getfield 97, 3) := by decide +kernel
theorem dX12_lists_47 : decode cX12_lists 47 = .ok (.iload_n 1, 1) := by decide +kernel
theorem dX12_lists_48 : decode cX12_lists 48 = .ok (.iaload, 1) := by decide +kernel
theorem dX12_lists_49 : decode cX12_lists 49 = .ok (.i2l, 1) := by decide +kernel
theorem dX12_lists_50 : decode cX12_lists 50 = .ok (.lcmp, 1) := by decide +kernel
theorem dX12_lists_51 : decode cX12_lists 51 = .ok (.ifCond .ge 11, 3) := by decide +kernel
theorem dX12_lists_54 : decode cX12_lists 54 = .ok (.lload 5, 2) := by decide +kernel
theorem dX12_lists_56 : decode cX12_lists 56 = .ok (.lload_n 2, 1) := by decide +kernel
theorem dX12_lists_57 : decode cX12_lists 57 = .ok (.lsub, 1) := by decide +kernel
theorem dX12_lists_58 : decode cX12_lists 58 = .ok (.l2i, 1) := by decide +kernel
theorem dX12_lists_59 : decode cX12_lists 59 = .ok (.goto 9, 3) := by decide +kernel
theorem dX12_lists_62 : decode cX12_lists 62 = .ok (.aload_n 0, 1) := by decide +kernel
theorem dX12_lists_63 : decode cX12_lists 63 = .ok (.getfield 97, 3) := by decide +kernel
theorem dX12_lists_66 : decode cX12_lists 66 = .ok (.iload_n 1, 1) := by decide +kernel
theorem dX12_lists_67 : decode cX12_lists 67 = .ok (.iaload, 1) := by decide +kernel
theorem dX12_lists_68 : decode cX12_lists 68 = .ok (.istore 7, 2) := by decide +kernel
theorem dX12_lists_70 : decode cX12_lists 70 = .ok (.iconst 0, 1) := by decide +kernel
theorem dX12_lists_71 : decode cX12_lists 71 = .ok (.istore 8, 2) := by decide +kernel
theorem dX12_lists_73 : decode cX12_lists 73 = .ok (.iload 8, 2) := by decide +kernel
theorem dX12_lists_75 : decode cX12_lists 75 = .ok (.iload 7, 2) := by decide +kernel
theorem dX12_lists_77 : decode cX12_lists 77 = .ok (.if_icmp .ge 31, 3) := by decide +kernel
theorem dX12_lists_80 : decode cX12_lists 80 = .ok (.aload_n 0, 1) := by decide +kernel
theorem dX12_lists_81 : decode cX12_lists 81 = .ok (.getfield 100, 3) := by decide +kernel
theorem dX12_lists_84 : decode cX12_lists 84 = .ok (.bipush 40, 2) := by decide +kernel
theorem dX12_lists_86 : decode cX12_lists 86 = .ok (.iload_n 1, 1) := by decide +kernel
theorem dX12_lists_87 : decode cX12_lists 87 = .ok (.imul, 1) := by decide +kernel
theorem dX12_lists_88 : decode cX12_lists 88 = .ok (.iload 8, 2) := by decide +kernel
theorem dX12_lists_90 : decode cX12_lists 90 = .ok (.iadd, 1) := by decide +kernel
theorem dX12_lists_91 : decode cX12_lists 91 = .ok (.aload_n 0, 1) := by decide +kernel
theorem dX12_lists_92 : decode cX12_lists 92 = .ok (.lload_n 2, 1) := by decide +kernel
theorem dX12_lists_93 : decode cX12_lists 93 = .ok (.iload 8, 2) := by decide +kernel
theorem dX12_lists_95 : decode cX12_lists 95 = .ok (.i2l, 1) := by decide +kernel
theorem dX12_lists_96 : decode cX12_lists 96 = .ok (.ladd, 1) := by decide +kernel
theorem dX12_lists_97 : decode cX12_lists 97 = .ok (.invokevirtual 267, 3) := by decide +kernel
theorem dX12_lists_100 : decode cX12_lists 100 = .ok (.i2l, 1) := by decide +kernel
theorem dX12_lists_101 : decode cX12_lists 101 = .ok (.lastore, 1) := by decide +kernel
theorem dX12_lists_102 : decode cX12_lists 102 = .ok (.iinc 8 1, 3) := by decide +kernel
theorem dX12_lists_105 : decode cX12_lists 105 = .ok (.goto (-32), 3) := by decide +kernel
theorem dX12_lists_108 : decode cX12_lists 108 = .ok (.iload 7, 2) := by decide +kernel
theorem dX12_lists_110 : decode cX12_lists 110 = .ok (.ireturn, 1) := by decide +kernel
theorem dX12_image_0 : decode cX12_image 0 = .ok (.aload_n 0, 1) := by decide +kernel
theorem dX12_image_1 : decode cX12_image 1 = .ok (.iconst 0, 1) := by decide +kernel
theorem dX12_image_2 : decode cX12_image 2 = .ok (.putfield 1, 3) := by decide +kernel
theorem dX12_image_5 : decode cX12_image 5 = .ok (.iload_n 1, 1) := by decide +kernel
theorem dX12_image_6 : decode cX12_image 6 = .ok (.i2l, 1) := by decide +kernel
theorem dX12_image_7 : decode cX12_image 7 = .ok (.lconst 0, 1) := by decide +kernel
theorem dX12_image_8 : decode cX12_image 8 = .ok (.lconst 1, 1) := by decide +kernel
theorem dX12_image_9 : decode cX12_image 9 = .ok (.invokestatic 169, 3) := by decide +kernel
theorem dX12_image_12 : decode cX12_image 12 = .ok (.ifCond .ne 6, 3) := by decide +kernel
theorem dX12_image_15 : decode cX12_image 15 = .ok (.bipush (-2), 2) := by decide +kernel
theorem dX12_image_17 : decode cX12_image 17 = .ok (.ireturn, 1) := by decide +kernel
theorem dX12_image_18 : decode cX12_image 18 = .ok (.iconst 0, 1) := by decide +kernel
theorem dX12_image_19 : decode cX12_image 19 = .ok (.istore_n 2, 1) := by decide +kernel
theorem dX12_image_20 : decode cX12_image 20 = .ok (.iload_n 2, 1) := by decide +kernel
theorem dX12_image_21 : decode cX12_image 21 = .ok (.sipush 1106, 3) := by decide +kernel
theorem dX12_image_24 : decode cX12_image 24 = .ok (.if_icmp .ge 29, 3) := by decide +kernel
theorem dX12_image_27 : decode cX12_image 27 = .ok (.aload_n 0, 1) := by decide +kernel
theorem dX12_image_28 : decode cX12_image 28 = .ok (.getfield 13, 3) := by decide +kernel
theorem dX12_image_31 : decode cX12_image 31 = .ok (.sipush 1106, 3) := by decide +kernel
theorem dX12_image_34 : decode cX12_image 34 = .ok (.iload_n 1, 1) := by decide +kernel
theorem dX12_image_35 : decode cX12_image 35 = .ok (.iconst 1, 1) := by decide +kernel
theorem dX12_image_36 : decode cX12_image 36 = .ok (.iadd, 1) := by decide +kernel
theorem dX12_image_37 : decode cX12_image 37 = .ok (.imul, 1) := by decide +kernel
theorem dX12_image_38 : decode cX12_image 38 = .ok (.iload_n 2, 1) := by decide +kernel
theorem dX12_image_39 : decode cX12_image 39 = .ok (.iadd, 1) := by decide +kernel
theorem dX12_image_40 : decode cX12_image 40 = .ok (.aload_n 0, 1) := by decide +kernel
theorem dX12_image_41 : decode cX12_image 41 = .ok (.getfield 13, 3) := by decide +kernel
theorem dX12_image_44 : decode cX12_image 44 = .ok (.iload_n 2, 1) := by decide +kernel
theorem dX12_image_45 : decode cX12_image 45 = .ok (.iaload, 1) := by decide +kernel
theorem dX12_image_46 : decode cX12_image 46 = .ok (.iastore, 1) := by decide +kernel
theorem dX12_image_47 : decode cX12_image 47 = .ok (.iinc 2 1, 3) := by decide +kernel
theorem dX12_image_50 : decode cX12_image 50 = .ok (.goto (-30), 3) := by decide +kernel
theorem dX12_image_53 : decode cX12_image 53 = .ok (.aload_n 0, 1) := by decide +kernel
theorem dX12_image_54 : decode cX12_image 54 = .ok (.getfield 17, 3) := by decide +kernel
theorem dX12_image_57 : decode cX12_image 57 = .ok (.iload_n 1, 1) := by decide +kernel
theorem dX12_image_58 : decode cX12_image 58 = .ok (.iconst 1, 1) := by decide +kernel
theorem dX12_image_59 : decode cX12_image 59 = .ok (.bastore, 1) := by decide +kernel
theorem dX12_image_60 : decode cX12_image 60 = .ok (.iconst 0, 1) := by decide +kernel
theorem dX12_image_61 : decode cX12_image 61 = .ok (.ireturn, 1) := by decide +kernel
theorem dX12_restore_0 : decode cX12_restore 0 = .ok (.aload_n 0, 1) := by decide +kernel
theorem dX12_restore_1 : decode cX12_restore 1 = .ok (.iconst 0, 1) := by decide +kernel
theorem dX12_restore_2 : decode cX12_restore 2 = .ok (.putfield 1, 3) := by decide +kernel
theorem dX12_restore_5 : decode cX12_restore 5 = .ok (.iload_n 1, 1) := by decide +kernel
theorem dX12_restore_6 : decode cX12_restore 6 = .ok (.i2l, 1) := by decide +kernel
theorem dX12_restore_7 : decode cX12_restore 7 = .ok (.lconst 0, 1) := by decide +kernel
theorem dX12_restore_8 : decode cX12_restore 8 = .ok (.lconst 1, 1) := by decide +kernel
theorem dX12_restore_9 : decode cX12_restore 9 = .ok (.invokestatic 169, 3) := by decide +kernel
theorem dX12_restore_12 : decode cX12_restore 12 = .ok (.ifCond .ne 6, 3) := by decide +kernel
theorem dX12_restore_15 : decode cX12_restore 15 = .ok (.bipush (-2), 2) := by decide +kernel
theorem dX12_restore_17 : decode cX12_restore 17 = .ok (.ireturn, 1) := by decide +kernel
theorem dX12_restore_18 : decode cX12_restore 18 = .ok (.aload_n 0, 1) := by decide +kernel
theorem dX12_restore_19 : decode cX12_restore 19 = .ok (.getfield 17, 3) := by decide +kernel
theorem dX12_restore_22 : decode cX12_restore 22 = .ok (.iload_n 1, 1) := by decide +kernel
theorem dX12_restore_23 : decode cX12_restore 23 = .ok (.baload, 1) := by decide +kernel
theorem dX12_restore_24 : decode cX12_restore 24 = .ok (.ifCond .ne 6, 3) := by decide +kernel
theorem dX12_restore_27 : decode cX12_restore 27 = .ok (.bipush (-5), 2) := by decide +kernel
theorem dX12_restore_29 : decode cX12_restore 29 = .ok (.ireturn, 1) := by decide +kernel
theorem dX12_restore_30 : decode cX12_restore 30 = .ok (.iconst 0, 1) := by decide +kernel
theorem dX12_restore_31 : decode cX12_restore 31 = .ok (.istore_n 2, 1) := by decide +kernel
theorem dX12_restore_32 : decode cX12_restore 32 = .ok (.iload_n 2, 1) := by decide +kernel
theorem dX12_restore_33 : decode cX12_restore 33 = .ok (.sipush 1106, 3) := by decide +kernel
theorem dX12_restore_36 : decode cX12_restore 36 = .ok (.if_icmp .ge 29, 3) := by decide +kernel
theorem dX12_restore_39 : decode cX12_restore 39 = .ok (.aload_n 0, 1) := by decide +kernel
theorem dX12_restore_40 : decode cX12_restore 40 = .ok (.getfield 13, 3) := by decide +kernel
theorem dX12_restore_43 : decode cX12_restore 43 = .ok (.iload_n 2, 1) := by decide +kernel
theorem dX12_restore_44 : decode cX12_restore 44 = .ok (.aload_n 0, 1) := by decide +kernel
theorem dX12_restore_45 : decode cX12_restore 45 = .ok (.getfield 13, 3) := by decide +kernel
theorem dX12_restore_48 : decode cX12_restore 48 = .ok (.sipush 1106, 3) := by decide +kernel
theorem dX12_restore_51 : decode cX12_restore 51 = .ok (.iload_n 1, 1) := by decide +kernel
theorem dX12_restore_52 : decode cX12_restore 52 = .ok (.iconst 1, 1) := by decide +kernel
theorem dX12_restore_53 : decode cX12_restore 53 = .ok (.iadd, 1) := by decide +kernel
theorem dX12_restore_54 : decode cX12_restore 54 = .ok (.imul, 1) := by decide +kernel
theorem dX12_restore_55 : decode cX12_restore 55 = .ok (.iload_n 2, 1) := by decide +kernel
theorem dX12_restore_56 : decode cX12_restore 56 = .ok (.iadd, 1) := by decide +kernel
theorem dX12_restore_57 : decode cX12_restore 57 = .ok (.iaload, 1) := by decide +kernel
theorem dX12_restore_58 : decode cX12_restore 58 = .ok (.iastore, 1) := by decide +kernel
theorem dX12_restore_59 : decode cX12_restore 59 = .ok (.iinc 2 1, 3) := by decide +kernel
theorem dX12_restore_62 : decode cX12_restore 62 = .ok (.goto (-30), 3) := by decide +kernel
theorem dX12_restore_65 : decode cX12_restore 65 = .ok (.aload_n 0, 1) := by decide +kernel
theorem dX12_restore_66 : decode cX12_restore 66 = .ok (.getfield 13, 3) := by decide +kernel
theorem dX12_restore_69 : decode cX12_restore 69 = .ok (.bipush 114, 2) := by decide +kernel
theorem dX12_restore_71 : decode cX12_restore 71 = .ok (.iconst 0, 1) := by decide +kernel
theorem dX12_restore_72 : decode cX12_restore 72 = .ok (.iastore, 1) := by decide +kernel
theorem dX12_restore_73 : decode cX12_restore 73 = .ok (.iconst 0, 1) := by decide +kernel
theorem dX12_restore_74 : decode cX12_restore 74 = .ok (.ireturn, 1) := by decide +kernel
theorem dX12_told_0 : decode cX12_told 0 = .ok (.aload_n 0, 1) := by decide +kernel
theorem dX12_told_1 : decode cX12_told 1 = .ok (.iconst 0, 1) := by decide +kernel
theorem dX12_told_2 : decode cX12_told 2 = .ok (.putfield 1, 3) := by decide +kernel
theorem dX12_told_5 : decode cX12_told 5 = .ok (.aload_n 0, 1) := by decide +kernel
theorem dX12_told_6 : decode cX12_told 6 = .ok (.invokevirtual 278, 3) := by decide +kernel
theorem dX12_told_9 : decode cX12_told 9 = .ok (.lstore_n 2, 1) := by decide +kernel
theorem dX12_told_10 : decode cX12_told 10 = .ok (.iload_n 1, 1) := by decide +kernel
theorem dX12_told_11 : decode cX12_told 11 = .ok (.tableswitch 177 0 9 #[53, 60, 68, 76, 84, 90, 109, 157, 165, 170], 53) := by decide +kernel
theorem dX12_told_64 : decode cX12_told 64 = .ok (.aload_n 0, 1) := by decide +kernel
theorem dX12_told_65 : decode cX12_told 65 = .ok (.getfield 13, 3) := by decide +kernel
theorem dX12_told_68 : decode cX12_told 68 = .ok (.iconst 1, 1) := by decide +kernel
theorem dX12_told_69 : decode cX12_told 69 = .ok (.iaload, 1) := by decide +kernel
theorem dX12_told_70 : decode cX12_told 70 = .ok (.ireturn, 1) := by decide +kernel
theorem dX12_told_71 : decode cX12_told 71 = .ok (.aload_n 0, 1) := by decide +kernel
theorem dX12_told_72 : decode cX12_told 72 = .ok (.getfield 13, 3) := by decide +kernel
theorem dX12_told_75 : decode cX12_told 75 = .ok (.bipush 111, 2) := by decide +kernel
theorem dX12_told_77 : decode cX12_told 77 = .ok (.iaload, 1) := by decide +kernel
theorem dX12_told_78 : decode cX12_told 78 = .ok (.ireturn, 1) := by decide +kernel
theorem dX12_told_79 : decode cX12_told 79 = .ok (.aload_n 0, 1) := by decide +kernel
theorem dX12_told_80 : decode cX12_told 80 = .ok (.getfield 13, 3) := by decide +kernel
theorem dX12_told_83 : decode cX12_told 83 = .ok (.bipush 112, 2) := by decide +kernel
theorem dX12_told_85 : decode cX12_told 85 = .ok (.iaload, 1) := by decide +kernel
theorem dX12_told_86 : decode cX12_told 86 = .ok (.ireturn, 1) := by decide +kernel
theorem dX12_told_87 : decode cX12_told 87 = .ok (.aload_n 0, 1) := by decide +kernel
theorem dX12_told_88 : decode cX12_told 88 = .ok (.getfield 13, 3) := by decide +kernel
theorem dX12_told_91 : decode cX12_told 91 = .ok (.bipush 113, 2) := by decide +kernel
theorem dX12_told_93 : decode cX12_told 93 = .ok (.iaload, 1) := by decide +kernel
theorem dX12_told_94 : decode cX12_told 94 = .ok (.ireturn, 1) := by decide +kernel
theorem dX12_told_95 : decode cX12_told 95 = .ok (.aload_n 0, 1) := by decide +kernel
theorem dX12_told_96 : decode cX12_told 96 = .ok (.lconst 0, 1) := by decide +kernel
theorem dX12_told_97 : decode cX12_told 97 = .ok (.invokevirtual 282, 3) := by decide +kernel
theorem dX12_told_100 : decode cX12_told 100 = .ok (.ireturn, 1) := by decide +kernel
theorem dX12_told_101 : decode cX12_told 101 = .ok (.lload_n 2, 1) := by decide +kernel
theorem dX12_told_102 : decode cX12_told 102 = .ok (.lconst 0, 1) := by decide +kernel
theorem dX12_told_103 : decode cX12_told 103 = .ok (.lcmp, 1) := by decide +kernel
theorem dX12_told_104 : decode cX12_told 104 = .ok (.ifCond .ne 8, 3) := by decide +kernel
theorem dX12_told_107 : decode cX12_told 107 = .ok (.bipush 6, 2) := by decide +kernel
theorem dX12_told_109 : decode cX12_told 109 = .ok (.goto 10, 3) := by decide +kernel
theorem dX12_told_112 : decode cX12_told 112 = .ok (.aload_n 0, 1) := by decide +kernel
theorem dX12_told_113 : decode cX12_told 113 = .ok (.lload_n 2, 1) := by decide +kernel
theorem dX12_told_114 : decode cX12_told 114 = .ok (.lconst 1, 1) := by decide +kernel
theorem dX12_told_115 : decode cX12_told 115 = .ok (.lsub, 1) := by decide +kernel
theorem dX12_told_116 : decode cX12_told 116 = .ok (.invokevirtual 282, 3) := by decide +kernel
theorem dX12_told_119 : decode cX12_told 119 = .ok (.ireturn, 1) := by decide +kernel
theorem dX12_told_120 : decode cX12_told 120 = .ok (.aload_n 0, 1) := by decide +kernel
theorem dX12_told_121 : decode cX12_told 121 = .ok (.invokevirtual 424, 3) := by decide +kernel
theorem dX12_told_124 : decode cX12_told 124 = .ok (.iconst 0, 1) := by decide +kernel
theorem dX12_told_125 : decode cX12_told 125 = .ok (.istore 4, 2) := by decide +kernel
theorem dX12_told_127 : decode cX12_told 127 = .ok (.iconst 0, 1) := by decide +kernel
theorem dX12_told_128 : decode cX12_told 128 = .ok (.istore 5, 2) := by decide +kernel
theorem dX12_told_130 : decode cX12_told 130 = .ok (.iload 5, 2) := by decide +kernel
theorem dX12_told_132 : decode cX12_told 132 = .ok (.bipush 6, 2) := by decide +kernel
theorem dX12_told_134 : decode cX12_told 134 = .ok (.if_icmp .ge 31, 3) := by decide +kernel
theorem dX12_told_137 : decode cX12_told 137 = .ok (.iload 4, 2) := by decide +kernel
theorem dX12_told_139 : decode cX12_told 139 = .ok (.aload_n 0, 1) := by decide +kernel
theorem dX12_told_140 : decode cX12_told 140 = .ok (.getfield 67, 3) := by decide +kernel
theorem dX12_told_143 : decode cX12_told 143 = .ok (.iload 5, 2) := by decide +kernel
theorem dX12_told_145 : decode cX12_told 145 = .ok (.laload, 1) := by decide +kernel
theorem dX12_told_146 : decode cX12_told 146 = .ok (.lconst 0, 1) := by decide +kernel
theorem dX12_told_147 : decode cX12_told 147 = .ok (.lcmp, 1) := by decide +kernel
theorem dX12_told_148 : decode cX12_told 148 = .ok (.ifCond .le 7, 3) := by decide +kernel
theorem dX12_told_151 : decode cX12_told 151 = .ok (.iconst 1, 1) := by decide +kernel
theorem dX12_told_152 : decode cX12_told 152 = .ok (.goto 4, 3) := by decide +kernel
theorem dX12_told_155 : decode cX12_told 155 = .ok (.iconst 0, 1) := by decide +kernel
theorem dX12_told_156 : decode cX12_told 156 = .ok (.iadd, 1) := by decide +kernel
theorem dX12_told_157 : decode cX12_told 157 = .ok (.istore 4, 2) := by decide +kernel
theorem dX12_told_159 : decode cX12_told 159 = .ok (.iinc 5 1, 3) := by decide +kernel
theorem dX12_told_162 : decode cX12_told 162 = .ok (.goto (-32), 3) := by decide +kernel
theorem dX12_told_165 : decode cX12_told 165 = .ok (.iload 4, 2) := by decide +kernel
theorem dX12_told_167 : decode cX12_told 167 = .ok (.ireturn, 1) := by decide +kernel
theorem dX12_told_168 : decode cX12_told 168 = .ok (.aload_n 0, 1) := by decide +kernel
theorem dX12_told_169 : decode cX12_told 169 = .ok (.getfield 13, 3) := by decide +kernel
theorem dX12_told_172 : decode cX12_told 172 = .ok (.bipush 114, 2) := by decide +kernel
theorem dX12_told_174 : decode cX12_told 174 = .ok (.iaload, 1) := by decide +kernel
theorem dX12_told_175 : decode cX12_told 175 = .ok (.ireturn, 1) := by decide +kernel
theorem dX12_told_176 : decode cX12_told 176 = .ok (.aload_n 0, 1) := by decide +kernel
theorem dX12_told_177 : decode cX12_told 177 = .ok (.getfield 107, 3) := by decide +kernel
theorem dX12_told_180 : decode cX12_told 180 = .ok (.ireturn, 1) := by decide +kernel
theorem dX12_told_181 : decode cX12_told 181 = .ok (.aload_n 0, 1) := by decide +kernel
theorem dX12_told_182 : decode cX12_told 182 = .ok (.getfield 13, 3) := by decide +kernel
theorem dX12_told_185 : decode cX12_told 185 = .ok (.iconst 0, 1) := by decide +kernel
theorem dX12_told_186 : decode cX12_told 186 = .ok (.iaload, 1) := by decide +kernel
theorem dX12_told_187 : decode cX12_told 187 = .ok (.ireturn, 1) := by decide +kernel
theorem dX12_told_188 : decode cX12_told 188 = .ok (.iconst (-1), 1) := by decide +kernel
theorem dX12_told_189 : decode cX12_told 189 = .ok (.ireturn, 1) := by decide +kernel
