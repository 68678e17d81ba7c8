theorem dX0_init_0 : decode cX0_init 0 = .ok (.aload_n 0, 1) := by decide +kernel
theorem dX0_init_1 : decode cX0_init 1 = .ok (.invokespecial 3, 3) := by decide +kernel
theorem dX0_init_4 : decode cX0_init 4 = .ok (.aload_n 0, 1) := by decide +kernel
theorem dX0_init_5 : decode cX0_init 5 = .ok (.bipush 6, 2) := by decide +kernel
theorem dX0_init_7 : decode cX0_init 7 = .ok (.newarray .int, 2) := by decide +kernel
theorem dX0_init_9 : decode cX0_init 9 = .ok (.putfield 9, 3) := by decide +kernel
theorem dX0_init_12 : decode cX0_init 12 = .ok (.aload_n 0, 1) := by decide +kernel
theorem dX0_init_13 : decode cX0_init 13 = .ok (.bipush 7, 2) := by decide +kernel
theorem dX0_init_15 : decode cX0_init 15 = .ok (.newarray .int, 2) := by decide +kernel
theorem dX0_init_17 : decode cX0_init 17 = .ok (.putfield 15, 3) := by decide +kernel
theorem dX0_init_20 : decode cX0_init 20 = .ok (.aload_n 0, 1) := by decide +kernel
theorem dX0_init_21 : decode cX0_init 21 = .ok (.sipush 2196, 3) := by decide +kernel
theorem dX0_init_24 : decode cX0_init 24 = .ok (.newarray .byte, 2) := by decide +kernel
theorem dX0_init_26 : decode cX0_init 26 = .ok (.putfield 18, 3) := by decide +kernel
theorem dX0_init_29 : decode cX0_init 29 = .ok (.aload_n 0, 1) := by decide +kernel
theorem dX0_init_30 : decode cX0_init 30 = .ok (.sipush 2196, 3) := by decide +kernel
theorem dX0_init_33 : decode cX0_init 33 = .ok (.newarray .long, 2) := by decide +kernel
theorem dX0_init_35 : decode cX0_init 35 = .ok (.putfield 22, 3) := by decide +kernel
theorem dX0_init_38 : decode cX0_init 38 = .ok (.aload_n 0, 1) := by decide +kernel
theorem dX0_init_39 : decode cX0_init 39 = .ok (.bipush 7, 2) := by decide +kernel
theorem dX0_init_41 : decode cX0_init 41 = .ok (.newarray .int, 2) := by decide +kernel
theorem dX0_init_43 : decode cX0_init 43 = .ok (.putfield 26, 3) := by decide +kernel
theorem dX0_init_46 : decode cX0_init 46 = .ok (.return_, 1) := by decide +kernel
theorem dX0_cellOf_0 : decode cX0_cellOf 0 = .ok (.iload_n 0, 1) := by decide +kernel
theorem dX0_cellOf_1 : decode cX0_cellOf 1 = .ok (.bipush 6, 2) := by decide +kernel
theorem dX0_cellOf_3 : decode cX0_cellOf 3 = .ok (.imul, 1) := by decide +kernel
theorem dX0_cellOf_4 : decode cX0_cellOf 4 = .ok (.iload_n 1, 1) := by decide +kernel
theorem dX0_cellOf_5 : decode cX0_cellOf 5 = .ok (.iadd, 1) := by decide +kernel
theorem dX0_cellOf_6 : decode cX0_cellOf 6 = .ok (.bipush 6, 2) := by decide +kernel
theorem dX0_cellOf_8 : decode cX0_cellOf 8 = .ok (.imul, 1) := by decide +kernel
theorem dX0_cellOf_9 : decode cX0_cellOf 9 = .ok (.iload_n 2, 1) := by decide +kernel
theorem dX0_cellOf_10 : decode cX0_cellOf 10 = .ok (.iadd, 1) := by decide +kernel
theorem dX0_cellOf_11 : decode cX0_cellOf 11 = .ok (.ireturn, 1) := by decide +kernel
theorem dX0_learn_0 : decode cX0_learn 0 = .ok (.aload_n 0, 1) := by decide +kernel
theorem dX0_learn_1 : decode cX0_learn 1 = .ok (.aload_n 1, 1) := by decide +kernel
theorem dX0_learn_2 : decode cX0_learn 2 = .ok (.getfield 29, 3) := by decide +kernel
theorem dX0_learn_5 : decode cX0_learn 5 = .ok (.bipush 6, 2) := by decide +kernel
theorem dX0_learn_7 : decode cX0_learn 7 = .ok (.invokestatic 35, 3) := by decide +kernel
theorem dX0_learn_10 : decode cX0_learn 10 = .ok (.putfield 41, 3) := by decide +kernel
theorem dX0_learn_13 : decode cX0_learn 13 = .ok (.iconst 0, 1) := by decide +kernel
theorem dX0_learn_14 : decode cX0_learn 14 = .ok (.istore_n 2, 1) := by decide +kernel
theorem dX0_learn_15 : decode cX0_learn 15 = .ok (.iload_n 2, 1) := by decide +kernel
theorem dX0_learn_16 : decode cX0_learn 16 = .ok (.aload_n 0, 1) := by decide +kernel
theorem dX0_learn_17 : decode cX0_learn 17 = .ok (.getfield 41, 3) := by decide +kernel
theorem dX0_learn_20 : decode cX0_learn 20 = .ok (.if_icmp .ge 21, 3) := by decide +kernel
theorem dX0_learn_23 : decode cX0_learn 23 = .ok (.aload_n 0, 1) := by decide +kernel
theorem dX0_learn_24 : decode cX0_learn 24 = .ok (.getfield 9, 3) := by decide +kernel
theorem dX0_learn_27 : decode cX0_learn 27 = .ok (.iload_n 2, 1) := by decide +kernel
theorem dX0_learn_28 : decode cX0_learn 28 = .ok (.aload_n 1, 1) := by decide +kernel
theorem dX0_learn_29 : decode cX0_learn 29 = .ok (.iload_n 2, 1) := by decide +kernel
theorem dX0_learn_30 : decode cX0_learn 30 = .ok (.invokevirtual 42, 3) := by decide +kernel
theorem dX0_learn_33 : decode cX0_learn 33 = .ok (.l2i, 1) := by decide +kernel
theorem dX0_learn_34 : decode cX0_learn 34 = .ok (.iastore, 1) := by decide +kernel
theorem dX0_learn_35 : decode cX0_learn 35 = .ok (.iinc 2 1, 3) := by decide +kernel
theorem dX0_learn_38 : decode cX0_learn 38 = .ok (.goto (-23), 3) := by decide +kernel
theorem dX0_learn_41 : decode cX0_learn 41 = .ok (.aload_n 0, 1) := by decide +kernel
theorem dX0_learn_42 : decode cX0_learn 42 = .ok (.getfield 15, 3) := by decide +kernel
theorem dX0_learn_45 : decode cX0_learn 45 = .ok (.iconst 0, 1) := by decide +kernel
theorem dX0_learn_46 : decode cX0_learn 46 = .ok (.iconst 0, 1) := by decide +kernel
theorem dX0_learn_47 : decode cX0_learn 47 = .ok (.iastore, 1) := by decide +kernel
theorem dX0_learn_48 : decode cX0_learn 48 = .ok (.aload_n 0, 1) := by decide +kernel
theorem dX0_learn_49 : decode cX0_learn 49 = .ok (.getfield 15, 3) := by decide +kernel
theorem dX0_learn_52 : decode cX0_learn 52 = .ok (.iconst 1, 1) := by decide +kernel
theorem dX0_learn_53 : decode cX0_learn 53 = .ok (.iconst 0, 1) := by decide +kernel
theorem dX0_learn_54 : decode cX0_learn 54 = .ok (.iastore, 1) := by decide +kernel
theorem dX0_learn_55 : decode cX0_learn 55 = .ok (.iconst 1, 1) := by decide +kernel
theorem dX0_learn_56 : decode cX0_learn 56 = .ok (.istore_n 2, 1) := by decide +kernel
theorem dX0_learn_57 : decode cX0_learn 57 = .ok (.iload_n 2, 1) := by decide +kernel
theorem dX0_learn_58 : decode cX0_learn 58 = .ok (.aload_n 0, 1) := by decide +kernel
theorem dX0_learn_59 : decode cX0_learn 59 = .ok (.getfield 41, 3) := by decide +kernel
theorem dX0_learn_62 : decode cX0_learn 62 = .ok (.if_icmp .ge 33, 3) := by decide +kernel
theorem dX0_learn_65 : decode cX0_learn 65 = .ok (.aload_n 0, 1) := by decide +kernel
theorem dX0_learn_66 : decode cX0_learn 66 = .ok (.getfield 15, 3) := by decide +kernel
theorem dX0_learn_69 : decode cX0_learn 69 = .ok (.iload_n 2, 1) := by decide +kernel
theorem dX0_learn_70 : decode cX0_learn 70 = .ok (.iconst 1, 1) := by decide +kernel
theorem dX0_learn_71 : decode cX0_learn 71 = .ok (.iadd, 1) := by decide +kernel
theorem dX0_learn_72 : decode cX0_learn 72 = .ok (.aload_n 0, 1) := by decide +kernel
theorem dX0_learn_73 : decode cX0_learn 73 = .ok (.aload_n 0, 1) := by decide +kernel
theorem dX0_learn_74 : decode cX0_learn 74 = .ok (.getfield 15, 3) := by decide +kernel
theorem dX0_learn_77 : decode cX0_learn 77 = .ok (.iload_n 2, 1) := by decide +kernel
theorem dX0_learn_78 : decode cX0_learn 78 = .ok (.iaload, 1) := by decide +kernel
theorem dX0_learn_79 : decode cX0_learn 79 = .ok (.aload_n 0, 1) := by decide +kernel
theorem dX0_learn_80 : decode cX0_learn 80 = .ok (.getfield 9, 3) := by decide +kernel
theorem dX0_learn_83 : decode cX0_learn 83 = .ok (.iload_n 2, 1) := by decide +kernel
theorem dX0_learn_84 : decode cX0_learn 84 = .ok (.iaload, 1) := by decide +kernel
theorem dX0_learn_85 : decode cX0_learn 85 = .ok (.invokevirtual 46, 3) := by decide +kernel
theorem dX0_learn_88 : decode cX0_learn 88 = .ok (.iastore, 1) := by decide +kernel
theorem dX0_learn_89 : decode cX0_learn 89 = .ok (.iinc 2 1, 3) := by decide +kernel
theorem dX0_learn_92 : decode cX0_learn 92 = .ok (.goto (-35), 3) := by decide +kernel
theorem dX0_learn_95 : decode cX0_learn 95 = .ok (.return_, 1) := by decide +kernel
theorem dX0_behind_0 : decode cX0_behind 0 = .ok (.iload_n 1, 1) := by decide +kernel
theorem dX0_behind_1 : decode cX0_behind 1 = .ok (.iconst 5, 1) := by decide +kernel
theorem dX0_behind_2 : decode cX0_behind 2 = .ok (.invokestatic 35, 3) := by decide +kernel
theorem dX0_behind_5 : decode cX0_behind 5 = .ok (.istore_n 3, 1) := by decide +kernel
theorem dX0_behind_6 : decode cX0_behind 6 = .ok (.iconst 0, 1) := by decide +kernel
theorem dX0_behind_7 : decode cX0_behind 7 = .ok (.istore 4, 2) := by decide +kernel
theorem dX0_behind_9 : decode cX0_behind 9 = .ok (.iload 4, 2) := by decide +kernel
theorem dX0_behind_11 : decode cX0_behind 11 = .ok (.bipush 6, 2) := by decide +kernel
theorem dX0_behind_13 : decode cX0_behind 13 = .ok (.if_icmp .ge 30, 3) := by decide +kernel
theorem dX0_behind_16 : decode cX0_behind 16 = .ok (.iload_n 3, 1) := by decide +kernel
theorem dX0_behind_17 : decode cX0_behind 17 = .ok (.ifCond .le 26, 3) := by decide +kernel
theorem dX0_behind_20 : decode cX0_behind 20 = .ok (.aload_n 0, 1) := by decide +kernel
theorem dX0_behind_21 : decode cX0_behind 21 = .ok (.getfield 9, 3) := by decide +kernel
theorem dX0_behind_24 : decode cX0_behind 24 = .ok (.iload_n 3, 1) := by decide +kernel
theorem dX0_behind_25 : decode cX0_behind 25 = .ok (.iaload, 1) := by decide +kernel
theorem dX0_behind_26 : decode cX0_behind 26 = .ok (.iload_n 2, 1) := by decide +kernel
theorem dX0_behind_27 : decode cX0_behind 27 = .ok (.if_icmp .eq 16, 3) := by decide +kernel
theorem dX0_behind_30 : decode cX0_behind 30 = .ok (.aload_n 0, 1) := by decide +kernel
theorem dX0_behind_31 : decode cX0_behind 31 = .ok (.getfield 15, 3) := by decide +kernel
theorem dX0_behind_34 : decode cX0_behind 34 = .ok (.iload_n 3, 1) := by decide +kernel
theorem dX0_behind_35 : decode cX0_behind 35 = .ok (.iaload, 1) := by decide +kernel
theorem dX0_behind_36 : decode cX0_behind 36 = .ok (.istore_n 3, 1) := by decide +kernel
theorem dX0_behind_37 : decode cX0_behind 37 = .ok (.iinc 4 1, 3) := by decide +kernel
theorem dX0_behind_40 : decode cX0_behind 40 = .ok (.goto (-31), 3) := by decide +kernel
theorem dX0_behind_43 : decode cX0_behind 43 = .ok (.aload_n 0, 1) := by decide +kernel
theorem dX0_behind_44 : decode cX0_behind 44 = .ok (.getfield 9, 3) := by decide +kernel
theorem dX0_behind_47 : decode cX0_behind 47 = .ok (.iload_n 3, 1) := by decide +kernel
theorem dX0_behind_48 : decode cX0_behind 48 = .ok (.iaload, 1) := by decide +kernel
theorem dX0_behind_49 : decode cX0_behind 49 = .ok (.iload_n 2, 1) := by decide +kernel
theorem dX0_behind_50 : decode cX0_behind 50 = .ok (.if_icmp .ne 9, 3) := by decide +kernel
theorem dX0_behind_53 : decode cX0_behind 53 = .ok (.iload_n 3, 1) := by decide +kernel
theorem dX0_behind_54 : decode cX0_behind 54 = .ok (.iconst 1, 1) := by decide +kernel
theorem dX0_behind_55 : decode cX0_behind 55 = .ok (.iadd, 1) := by decide +kernel
theorem dX0_behind_56 : decode cX0_behind 56 = .ok (.goto 4, 3) := by decide +kernel
theorem dX0_behind_59 : decode cX0_behind 59 = .ok (.iconst 0, 1) := by decide +kernel
theorem dX0_behind_60 : decode cX0_behind 60 = .ok (.ireturn, 1) := by decide +kernel
theorem dX0_search_0 : decode cX0_search 0 = .ok (.iconst 0, 1) := by decide +kernel
theorem dX0_search_1 : decode cX0_search 1 = .ok (.istore_n 2, 1) := by decide +kernel
theorem dX0_search_2 : decode cX0_search 2 = .ok (.iload_n 2, 1) := by decide +kernel
theorem dX0_search_3 : decode cX0_search 3 = .ok (.bipush 6, 2) := by decide +kernel
theorem dX0_search_5 : decode cX0_search 5 = .ok (.if_icmp .ge 96, 3) := by decide +kernel
theorem dX0_search_8 : decode cX0_search 8 = .ok (.iconst 0, 1) := by decide +kernel
theorem dX0_search_9 : decode cX0_search 9 = .ok (.istore_n 3, 1) := by decide +kernel
theorem dX0_search_10 : decode cX0_search 10 = .ok (.iload_n 3, 1) := by decide +kernel
theorem dX0_search_11 : decode cX0_search 11 = .ok (.aload_n 0, 1) := by decide +kernel
theorem dX0_search_12 : decode cX0_search 12 = .ok (.getfield 41, 3) := by decide +kernel
theorem dX0_search_15 : decode cX0_search 15 = .ok (.if_icmp .ge 80, 3) := by decide +kernel
theorem dX0_search_18 : decode cX0_search 18 = .ok (.aload_n 0, 1) := by decide +kernel
theorem dX0_search_19 : decode cX0_search 19 = .ok (.iload_n 3, 1) := by decide +kernel
theorem dX0_search_20 : decode cX0_search 20 = .ok (.iload_n 2, 1) := by decide +kernel
theorem dX0_search_21 : decode cX0_search 21 = .ok (.invokevirtual 46, 3) := by decide +kernel
theorem dX0_search_24 : decode cX0_search 24 = .ok (.istore 4, 2) := by decide +kernel
theorem dX0_search_26 : decode cX0_search 26 = .ok (.aload_n 1, 1) := by decide +kernel
theorem dX0_search_27 : decode cX0_search 27 = .ok (.getfield 49, 3) := by decide +kernel
theorem dX0_search_30 : decode cX0_search 30 = .ok (.iload_n 2, 1) := by decide +kernel
theorem dX0_search_31 : decode cX0_search 31 = .ok (.iload_n 3, 1) := by decide +kernel
theorem dX0_search_32 : decode cX0_search 32 = .ok (.invokestatic 54, 3) := by decide +kernel
theorem dX0_search_35 : decode cX0_search 35 = .ok (.istore 5, 2) := by decide +kernel
theorem dX0_search_37 : decode cX0_search 37 = .ok (.aload_n 0, 1) := by decide +kernel
theorem dX0_search_38 : decode cX0_search 38 = .ok (.getfield 18, 3) := by decide +kernel
theorem dX0_search_41 : decode cX0_search 41 = .ok (.iload 5, 2) := by decide +kernel
theorem dX0_search_43 : decode cX0_search 43 = .ok (.iload 4, 2) := by decide +kernel
theorem dX0_search_45 : decode cX0_search 45 = .ok (.aload_n 0, 1) := by decide +kernel
theorem dX0_search_46 : decode cX0_search 46 = .ok (.getfield 41, 3) := by decide +kernel
theorem dX0_search_49 : decode cX0_search 49 = .ok (.if_icmp .ne 15, 3) := by decide +kernel
theorem dX0_search_52 : decode cX0_search 52 = .ok (.aload_n 0, 1) := by decide +kernel
theorem dX0_search_53 : decode cX0_search 53 = .ok (.getfield 15, 3) := by decide +kernel
theorem dX0_search_56 : decode cX0_search 56 = .ok (.aload_n 0, 1) := by decide +kernel
theorem dX0_search_57 : decode cX0_search 57 = .ok (.getfield 41, 3) := by decide +kernel
theorem dX0_search_60 : decode cX0_search 60 = .ok (.iaload, 1) := by decide +kernel
theorem dX0_search_61 : decode cX0_search 61 = .ok (.goto 5, 3) := by decide +kernel
theorem dX0_search_64 : decode cX0_search 64 = .ok (.iload 4, 2) := by decide +kernel
theorem dX0_search_66 : decode cX0_search 66 = .ok (.i2b, 1) := by decide +kernel
theorem dX0_search_67 : decode cX0_search 67 = .ok (.bastore, 1) := by decide +kernel
theorem dX0_search_68 : decode cX0_search 68 = .ok (.aload_n 0, 1) := by decide +kernel
theorem dX0_search_69 : decode cX0_search 69 = .ok (.getfield 22, 3) := by decide +kernel
theorem dX0_search_72 : decode cX0_search 72 = .ok (.iload 5, 2) := by decide +kernel
theorem dX0_search_74 : decode cX0_search 74 = .ok (.iload 4, 2) := by decide +kernel
theorem dX0_search_76 : decode cX0_search 76 = .ok (.aload_n 0, 1) := by decide +kernel
theorem dX0_search_77 : decode cX0_search 77 = .ok (.getfield 41, 3) := by decide +kernel
theorem dX0_search_80 : decode cX0_search 80 = .ok (.if_icmp .ne 7, 3) := by decide +kernel
theorem dX0_search_83 : decode cX0_search 83 = .ok (.lconst 1, 1) := by decide +kernel
theorem dX0_search_84 : decode cX0_search 84 = .ok (.goto 4, 3) := by decide +kernel
theorem dX0_search_87 : decode cX0_search 87 = .ok (.lconst 0, 1) := by decide +kernel
theorem dX0_search_88 : decode cX0_search 88 = .ok (.lastore, 1) := by decide +kernel
theorem dX0_search_89 : decode cX0_search 89 = .ok (.iinc 3 1, 3) := by decide +kernel
theorem dX0_search_92 : decode cX0_search 92 = .ok (.goto (-82), 3) := by decide +kernel
theorem dX0_search_95 : decode cX0_search 95 = .ok (.iinc 2 1, 3) := by decide +kernel
theorem dX0_search_98 : decode cX0_search 98 = .ok (.goto (-96), 3) := by decide +kernel
theorem dX0_search_101 : decode cX0_search 101 = .ok (.aload_n 1, 1) := by decide +kernel
theorem dX0_search_102 : decode cX0_search 102 = .ok (.getfield 49, 3) := by decide +kernel
theorem dX0_search_105 : decode cX0_search 105 = .ok (.iconst 1, 1) := by decide +kernel
theorem dX0_search_106 : decode cX0_search 106 = .ok (.isub, 1) := by decide +kernel
theorem dX0_search_107 : decode cX0_search 107 = .ok (.istore_n 2, 1) := by decide +kernel
theorem dX0_search_108 : decode cX0_search 108 = .ok (.iload_n 2, 1) := by decide +kernel
theorem dX0_search_109 : decode cX0_search 109 = .ok (.ifCond .lt 30, 3) := by decide +kernel
theorem dX0_search_112 : decode cX0_search 112 = .ok (.iconst 0, 1) := by decide +kernel
theorem dX0_search_113 : decode cX0_search 113 = .ok (.istore_n 3, 1) := by decide +kernel
theorem dX0_search_114 : decode cX0_search 114 = .ok (.iload_n 3, 1) := by decide +kernel
theorem dX0_search_115 : decode cX0_search 115 = .ok (.bipush 6, 2) := by decide +kernel
theorem dX0_search_117 : decode cX0_search 117 = .ok (.if_icmp .ge 16, 3) := by decide +kernel
theorem dX0_search_120 : decode cX0_search 120 = .ok (.aload_n 0, 1) := by decide +kernel
theorem dX0_search_121 : decode cX0_search 121 = .ok (.aload_n 1, 1) := by decide +kernel
theorem dX0_search_122 : decode cX0_search 122 = .ok (.iload_n 2, 1) := by decide +kernel
theorem dX0_search_123 : decode cX0_search 123 = .ok (.iload_n 3, 1) := by decide +kernel
theorem dX0_search_124 : decode cX0_search 124 = .ok (.invokevirtual 58, 3) := by decide +kernel
theorem dX0_search_127 : decode cX0_search 127 = .ok (.iinc 3 1, 3) := by decide +kernel
theorem dX0_search_130 : decode cX0_search 130 = .ok (.goto (-16), 3) := by decide +kernel
theorem dX0_search_133 : decode cX0_search 133 = .ok (.iinc 2 (-1), 3) := by decide +kernel
theorem dX0_search_136 : decode cX0_search 136 = .ok (.goto (-28), 3) := by decide +kernel
theorem dX0_search_139 : decode cX0_search 139 = .ok (.return_, 1) := by decide +kernel
theorem dX0_searchLetter_0 : decode cX0_searchLetter 0 = .ok (.aload_n 1, 1) := by decide +kernel
theorem dX0_searchLetter_1 : decode cX0_searchLetter 1 = .ok (.getfield 62, 3) := by decide +kernel
theorem dX0_searchLetter_4 : decode cX0_searchLetter 4 = .ok (.iload_n 2, 1) := by decide +kernel
theorem dX0_searchLetter_5 : decode cX0_searchLetter 5 = .ok (.iaload, 1) := by decide +kernel
theorem dX0_searchLetter_6 : decode cX0_searchLetter 6 = .ok (.istore 4, 2) := by decide +kernel
theorem dX0_searchLetter_8 : decode cX0_searchLetter 8 = .ok (.aload_n 1, 1) := by decide +kernel
theorem dX0_searchLetter_9 : decode cX0_searchLetter 9 = .ok (.getfield 65, 3) := by decide +kernel
theorem dX0_searchLetter_12 : decode cX0_searchLetter 12 = .ok (.iload 4, 2) := by decide +kernel
theorem dX0_searchLetter_14 : decode cX0_searchLetter 14 = .ok (.iload_n 3, 1) := by decide +kernel
theorem dX0_searchLetter_15 : decode cX0_searchLetter 15 = .ok (.invokevirtual 69, 3) := by decide +kernel
theorem dX0_searchLetter_18 : decode cX0_searchLetter 18 = .ok (.istore 5, 2) := by decide +kernel
theorem dX0_searchLetter_20 : decode cX0_searchLetter 20 = .ok (.iconst 0, 1) := by decide +kernel
theorem dX0_searchLetter_21 : decode cX0_searchLetter 21 = .ok (.istore 6, 2) := by decide +kernel
theorem dX0_searchLetter_23 : decode cX0_searchLetter 23 = .ok (.iload 6, 2) := by decide +kernel
theorem dX0_searchLetter_25 : decode cX0_searchLetter 25 = .ok (.aload_n 0, 1) := by decide +kernel
theorem dX0_searchLetter_26 : decode cX0_searchLetter 26 = .ok (.getfield 41, 3) := by decide +kernel
theorem dX0_searchLetter_29 : decode cX0_searchLetter 29 = .ok (.if_icmp .ge 109, 3) := by decide +kernel
theorem dX0_searchLetter_32 : decode cX0_searchLetter 32 = .ok (.iload 6, 2) := by decide +kernel
theorem dX0_searchLetter_34 : decode cX0_searchLetter 34 = .ok (.istore 7, 2) := by decide +kernel
theorem dX0_searchLetter_36 : decode cX0_searchLetter 36 = .ok (.lconst 0, 1) := by decide +kernel
theorem dX0_searchLetter_37 : decode cX0_searchLetter 37 = .ok (.lstore 8, 2) := by decide +kernel
theorem dX0_searchLetter_39 : decode cX0_searchLetter 39 = .ok (.iconst 0, 1) := by decide +kernel
theorem dX0_searchLetter_40 : decode cX0_searchLetter 40 = .ok (.istore 10, 2) := by decide +kernel
theorem dX0_searchLetter_42 : decode cX0_searchLetter 42 = .ok (.iload 10, 2) := by decide +kernel
theorem dX0_searchLetter_44 : decode cX0_searchLetter 44 = .ok (.iload 5, 2) := by decide +kernel
theorem dX0_searchLetter_46 : decode cX0_searchLetter 46 = .ok (.if_icmp .ge 52, 3) := by decide +kernel
theorem dX0_searchLetter_49 : decode cX0_searchLetter 49 = .ok (.iload_n 2, 1) := by decide +kernel
theorem dX0_searchLetter_50 : decode cX0_searchLetter 50 = .ok (.iconst 1, 1) := by decide +kernel
theorem dX0_searchLetter_51 : decode cX0_searchLetter 51 = .ok (.iadd, 1) := by decide +kernel
theorem dX0_searchLetter_52 : decode cX0_searchLetter 52 = .ok (.aload_n 1, 1) := by decide +kernel
theorem dX0_searchLetter_53 : decode cX0_searchLetter 53 = .ok (.getfield 65, 3) := by decide +kernel
theorem dX0_searchLetter_56 : decode cX0_searchLetter 56 = .ok (.iload 4, 2) := by decide +kernel
theorem dX0_searchLetter_58 : decode cX0_searchLetter 58 = .ok (.iload_n 3, 1) := by decide +kernel
theorem dX0_searchLetter_59 : decode cX0_searchLetter 59 = .ok (.iload 10, 2) := by decide +kernel
theorem dX0_searchLetter_61 : decode cX0_searchLetter 61 = .ok (.invokevirtual 74, 3) := by decide +kernel
theorem dX0_searchLetter_64 : decode cX0_searchLetter 64 = .ok (.iload 7, 2) := by decide +kernel
theorem dX0_searchLetter_66 : decode cX0_searchLetter 66 = .ok (.invokestatic 54, 3) := by decide +kernel
theorem dX0_searchLetter_69 : decode cX0_searchLetter 69 = .ok (.istore 11, 2) := by decide +kernel
theorem dX0_searchLetter_71 : decode cX0_searchLetter 71 = .ok (.lload 8, 2) := by decide +kernel
theorem dX0_searchLetter_73 : decode cX0_searchLetter 73 = .ok (.aload_n 0, 1) := by decide +kernel
theorem dX0_searchLetter_74 : decode cX0_searchLetter 74 = .ok (.getfield 22, 3) := by decide +kernel
theorem dX0_searchLetter_77 : decode cX0_searchLetter 77 = .ok (.iload 11, 2) := by decide +kernel
theorem dX0_searchLetter_79 : decode cX0_searchLetter 79 = .ok (.laload, 1) := by decide +kernel
theorem dX0_searchLetter_80 : decode cX0_searchLetter 80 = .ok (.ladd, 1) := by decide +kernel
theorem dX0_searchLetter_81 : decode cX0_searchLetter 81 = .ok (.lstore 8, 2) := by decide +kernel
theorem dX0_searchLetter_83 : decode cX0_searchLetter 83 = .ok (.aload_n 0, 1) := by decide +kernel
theorem dX0_searchLetter_84 : decode cX0_searchLetter 84 = .ok (.getfield 18, 3) := by decide +kernel
theorem dX0_searchLetter_87 : decode cX0_searchLetter 87 = .ok (.iload 11, 2) := by decide +kernel
theorem dX0_searchLetter_89 : decode cX0_searchLetter 89 = .ok (.baload, 1) := by decide +kernel
theorem dX0_searchLetter_90 : decode cX0_searchLetter 90 = .ok (.istore 7, 2) := by decide +kernel
theorem dX0_searchLetter_92 : decode cX0_searchLetter 92 = .ok (.iinc 10 1, 3) := by decide +kernel
theorem dX0_searchLetter_95 : decode cX0_searchLetter 95 = .ok (.goto (-53), 3) := by decide +kernel
theorem dX0_searchLetter_98 : decode cX0_searchLetter 98 = .ok (.iload_n 2, 1) := by decide +kernel
theorem dX0_searchLetter_99 : decode cX0_searchLetter 99 = .ok (.iload_n 3, 1) := by decide +kernel
theorem dX0_searchLetter_100 : decode cX0_searchLetter 100 = .ok (.iload 6, 2) := by decide +kernel
theorem dX0_searchLetter_102 : decode cX0_searchLetter 102 = .ok (.invokestatic 54, 3) := by decide +kernel
theorem dX0_searchLetter_105 : decode cX0_searchLetter 105 = .ok (.istore 10, 2) := by decide +kernel
theorem dX0_searchLetter_107 : decode cX0_searchLetter 107 = .ok (.aload_n 0, 1) := by decide +kernel
theorem dX0_searchLetter_108 : decode cX0_searchLetter 108 = .ok (.getfield 18, 3) := by decide +kernel
theorem dX0_searchLetter_111 : decode cX0_searchLetter 111 = .ok (.iload 10, 2) := by decide +kernel
theorem dX0_searchLetter_113 : decode cX0_searchLetter 113 = .ok (.iload 7, 2) := by decide +kernel
theorem dX0_searchLetter_115 : decode cX0_searchLetter 115 = .ok (.i2b, 1) := by decide +kernel
theorem dX0_searchLetter_116 : decode cX0_searchLetter 116 = .ok (.bastore, 1) := by decide +kernel
theorem dX0_searchLetter_117 : decode cX0_searchLetter 117 = .ok (.aload_n 0, 1) := by decide +kernel
theorem dX0_searchLetter_118 : decode cX0_searchLetter 118 = .ok (.getfield 22, 3) := by decide +kernel
theorem dX0_searchLetter_121 : decode cX0_searchLetter 121 = .ok (.iload 10, 2) := by decide +kernel
theorem dX0_searchLetter_123 : decode cX0_searchLetter 123 = .ok (.lload 8, 2) := by decide +kernel
theorem dX0_searchLetter_125 : decode cX0_searchLetter 125 = .ok (.ldc2_w 77, 3) := by decide +kernel
theorem dX0_searchLetter_128 : decode cX0_searchLetter 128 = .ok (.invokestatic 79, 3) := by decide +kernel
theorem dX0_searchLetter_131 : decode cX0_searchLetter 131 = .ok (.lastore, 1) := by decide +kernel
theorem dX0_searchLetter_132 : decode cX0_searchLetter 132 = .ok (.iinc 6 1, 3) := by decide +kernel
theorem dX0_searchLetter_135 : decode cX0_searchLetter 135 = .ok (.goto (-112), 3) := by decide +kernel
theorem dX0_searchLetter_138 : decode cX0_searchLetter 138 = .ok (.return_, 1) := by decide +kernel
theorem dX0_hitsInAll_0 : decode cX0_hitsInAll 0 = .ok (.lconst 0, 1) := by decide +kernel
theorem dX0_hitsInAll_1 : decode cX0_hitsInAll 1 = .ok (.lstore_n 2, 1) := by decide +kernel
theorem dX0_hitsInAll_2 : decode cX0_hitsInAll 2 = .ok (.iconst 0, 1) := by decide +kernel
theorem dX0_hitsInAll_3 : decode cX0_hitsInAll 3 = .ok (.istore 4, 2) := by decide +kernel
theorem dX0_hitsInAll_5 : decode cX0_hitsInAll 5 = .ok (.iconst 0, 1) := by decide +kernel
theorem dX0_hitsInAll_6 : decode cX0_hitsInAll 6 = .ok (.istore 5, 2) := by decide +kernel
theorem dX0_hitsInAll_8 : decode cX0_hitsInAll 8 = .ok (.iload 5, 2) := by decide +kernel
theorem dX0_hitsInAll_10 : decode cX0_hitsInAll 10 = .ok (.aload_n 1, 1) := by decide +kernel
theorem dX0_hitsInAll_11 : decode cX0_hitsInAll 11 = .ok (.getfield 65, 3) := by decide +kernel
theorem dX0_hitsInAll_14 : decode cX0_hitsInAll 14 = .ok (.getfield 82, 3) := by decide +kernel
theorem dX0_hitsInAll_17 : decode cX0_hitsInAll 17 = .ok (.if_icmp .ge 46, 3) := by decide +kernel
theorem dX0_hitsInAll_20 : decode cX0_hitsInAll 20 = .ok (.iconst 0, 1) := by decide +kernel
theorem dX0_hitsInAll_21 : decode cX0_hitsInAll 21 = .ok (.aload_n 1, 1) := by decide +kernel
theorem dX0_hitsInAll_22 : decode cX0_hitsInAll 22 = .ok (.getfield 65, 3) := by decide +kernel
theorem dX0_hitsInAll_25 : decode cX0_hitsInAll 25 = .ok (.getfield 85, 3) := by decide +kernel
theorem dX0_hitsInAll_28 : decode cX0_hitsInAll 28 = .ok (.iload 5, 2) := by decide +kernel
theorem dX0_hitsInAll_30 : decode cX0_hitsInAll 30 = .ok (.iaload, 1) := by decide +kernel
theorem dX0_hitsInAll_31 : decode cX0_hitsInAll 31 = .ok (.iload 4, 2) := by decide +kernel
theorem dX0_hitsInAll_33 : decode cX0_hitsInAll 33 = .ok (.invokestatic 54, 3) := by decide +kernel
theorem dX0_hitsInAll_36 : decode cX0_hitsInAll 36 = .ok (.istore 6, 2) := by decide +kernel
theorem dX0_hitsInAll_38 : decode cX0_hitsInAll 38 = .ok (.lload_n 2, 1) := by decide +kernel
theorem dX0_hitsInAll_39 : decode cX0_hitsInAll 39 = .ok (.aload_n 0, 1) := by decide +kernel
theorem dX0_hitsInAll_40 : decode cX0_hitsInAll 40 = .ok (.getfield 22, 3) := by decide +kernel
theorem dX0_hitsInAll_43 : decode cX0_hitsInAll 43 = .ok (.iload 6, 2) := by decide +kernel
theorem dX0_hitsInAll_45 : decode cX0_hitsInAll 45 = .ok (.laload, 1) := by decide +kernel
theorem dX0_hitsInAll_46 : decode cX0_hitsInAll 46 = .ok (.ladd, 1) := by decide +kernel
theorem dX0_hitsInAll_47 : decode cX0_hitsInAll 47 = .ok (.lstore_n 2, 1) := by decide +kernel
theorem dX0_hitsInAll_48 : decode cX0_hitsInAll 48 = .ok (.aload_n 0, 1) := by decide +kernel
theorem dX0_hitsInAll_49 : decode cX0_hitsInAll 49 = .ok (.getfield 18, 3) := by decide +kernel
theorem dX0_hitsInAll_52 : decode cX0_hitsInAll 52 = .ok (.iload 6, 2) := by decide +kernel
theorem dX0_hitsInAll_54 : decode cX0_hitsInAll 54 = .ok (.baload, 1) := by decide +kernel
theorem dX0_hitsInAll_55 : decode cX0_hitsInAll 55 = .ok (.istore 4, 2) := by decide +kernel
theorem dX0_hitsInAll_57 : decode cX0_hitsInAll 57 = .ok (.iinc 5 1, 3) := by decide +kernel
theorem dX0_hitsInAll_60 : decode cX0_hitsInAll 60 = .ok (.goto (-52), 3) := by decide +kernel
theorem dX0_hitsInAll_63 : decode cX0_hitsInAll 63 = .ok (.lload_n 2, 1) := by decide +kernel
theorem dX0_hitsInAll_64 : decode cX0_hitsInAll 64 = .ok (.lreturn, 1) := by decide +kernel
theorem dX0_firstPlace_0 : decode cX0_firstPlace 0 = .ok (.aload_n 0, 1) := by decide +kernel
theorem dX0_firstPlace_1 : decode cX0_firstPlace 1 = .ok (.iconst 0, 1) := by decide +kernel
theorem dX0_firstPlace_2 : decode cX0_firstPlace 2 = .ok (.putfield 88, 3) := by decide +kernel
theorem dX0_firstPlace_5 : decode cX0_firstPlace 5 = .ok (.aload_n 0, 1) := by decide +kernel
theorem dX0_firstPlace_6 : decode cX0_firstPlace 6 = .ok (.lconst 0, 1) := by decide +kernel
theorem dX0_firstPlace_7 : decode cX0_firstPlace 7 = .ok (.putfield 91, 3) := by decide +kernel
theorem dX0_firstPlace_10 : decode cX0_firstPlace 10 = .ok (.iconst (-1), 1) := by decide +kernel
theorem dX0_firstPlace_11 : decode cX0_firstPlace 11 = .ok (.istore_n 3, 1) := by decide +kernel
theorem dX0_firstPlace_12 : decode cX0_firstPlace 12 = .ok (.iconst 0, 1) := by decide +kernel
theorem dX0_firstPlace_13 : decode cX0_firstPlace 13 = .ok (.istore 4, 2) := by decide +kernel
theorem dX0_firstPlace_15 : decode cX0_firstPlace 15 = .ok (.iload 4, 2) := by decide +kernel
theorem dX0_firstPlace_17 : decode cX0_firstPlace 17 = .ok (.aload_n 1, 1) := by decide +kernel
theorem dX0_firstPlace_18 : decode cX0_firstPlace 18 = .ok (.getfield 65, 3) := by decide +kernel
theorem dX0_firstPlace_21 : decode cX0_firstPlace 21 = .ok (.getfield 82, 3) := by decide +kernel
theorem dX0_firstPlace_24 : decode cX0_firstPlace 24 = .ok (.if_icmp .ge 44, 3) := by decide +kernel
theorem dX0_firstPlace_27 : decode cX0_firstPlace 27 = .ok (.iload_n 3, 1) := by decide +kernel
theorem dX0_firstPlace_28 : decode cX0_firstPlace 28 = .ok (.iconst (-1), 1) := by decide +kernel
theorem dX0_firstPlace_29 : decode cX0_firstPlace 29 = .ok (.if_icmp .ne 39, 3) := by decide +kernel
theorem dX0_firstPlace_32 : decode cX0_firstPlace 32 = .ok (.aload_n 1, 1) := by decide +kernel
theorem dX0_firstPlace_33 : decode cX0_firstPlace 33 = .ok (.getfield 65, 3) := by decide +kernel
theorem dX0_firstPlace_36 : decode cX0_firstPlace 36 = .ok (.getfield 85, 3) := by decide +kernel
theorem dX0_firstPlace_39 : decode cX0_firstPlace 39 = .ok (.iload 4, 2) := by decide +kernel
theorem dX0_firstPlace_41 : decode cX0_firstPlace 41 = .ok (.iaload, 1) := by decide +kernel
theorem dX0_firstPlace_42 : decode cX0_firstPlace 42 = .ok (.istore 5, 2) := by decide +kernel
theorem dX0_firstPlace_44 : decode cX0_firstPlace 44 = .ok (.aload_n 0, 1) := by decide +kernel
theorem dX0_firstPlace_45 : decode cX0_firstPlace 45 = .ok (.iconst 0, 1) := by decide +kernel
theorem dX0_firstPlace_46 : decode cX0_firstPlace 46 = .ok (.iload 5, 2) := by decide +kernel
theorem dX0_firstPlace_48 : decode cX0_firstPlace 48 = .ok (.aload_n 2, 1) := by decide +kernel
theorem dX0_firstPlace_49 : decode cX0_firstPlace 49 = .ok (.invokevirtual 95, 3) := by decide +kernel
theorem dX0_firstPlace_52 : decode cX0_firstPlace 52 = .ok (.ifCond .eq 8, 3) := by decide +kernel
theorem dX0_firstPlace_55 : decode cX0_firstPlace 55 = .ok (.iload 5, 2) := by decide +kernel
theorem dX0_firstPlace_57 : decode cX0_firstPlace 57 = .ok (.goto 4, 3) := by decide +kernel
theorem dX0_firstPlace_60 : decode cX0_firstPlace 60 = .ok (.iconst (-1), 1) := by decide +kernel
theorem dX0_firstPlace_61 : decode cX0_firstPlace 61 = .ok (.istore_n 3, 1) := by decide +kernel
theorem dX0_firstPlace_62 : decode cX0_firstPlace 62 = .ok (.iinc 4 1, 3) := by decide +kernel
theorem dX0_firstPlace_65 : decode cX0_firstPlace 65 = .ok (.goto (-50), 3) := by decide +kernel
theorem dX0_firstPlace_68 : decode cX0_firstPlace 68 = .ok (.iconst 0, 1) := by decide +kernel
theorem dX0_firstPlace_69 : decode cX0_firstPlace 69 = .ok (.istore 4, 2) := by decide +kernel
theorem dX0_firstPlace_71 : decode cX0_firstPlace 71 = .ok (.iload 4, 2) := by decide +kernel
theorem dX0_firstPlace_73 : decode cX0_firstPlace 73 = .ok (.aload_n 1, 1) := by decide +kernel
theorem dX0_firstPlace_74 : decode cX0_firstPlace 74 = .ok (.getfield 49, 3) := by decide +kernel
theorem dX0_firstPlace_77 : decode cX0_firstPlace 77 = .ok (.if_icmp .ge 24, 3) := by decide +kernel
theorem dX0_firstPlace_80 : decode cX0_firstPlace 80 = .ok (.iload_n 3, 1) := by decide +kernel
theorem dX0_firstPlace_81 : decode cX0_firstPlace 81 = .ok (.iconst (-1), 1) := by decide +kernel
theorem dX0_firstPlace_82 : decode cX0_firstPlace 82 = .ok (.if_icmp .eq 19, 3) := by decide +kernel
theorem dX0_firstPlace_85 : decode cX0_firstPlace 85 = .ok (.aload_n 0, 1) := by decide +kernel
theorem dX0_firstPlace_86 : decode cX0_firstPlace 86 = .ok (.aload_n 1, 1) := by decide +kernel
theorem dX0_firstPlace_87 : decode cX0_firstPlace 87 = .ok (.iload 4, 2) := by decide +kernel
theorem dX0_firstPlace_89 : decode cX0_firstPlace 89 = .ok (.iload_n 3, 1) := by decide +kernel
theorem dX0_firstPlace_90 : decode cX0_firstPlace 90 = .ok (.aload_n 2, 1) := by decide +kernel
theorem dX0_firstPlace_91 : decode cX0_firstPlace 91 = .ok (.invokevirtual 99, 3) := by decide +kernel
theorem dX0_firstPlace_94 : decode cX0_firstPlace 94 = .ok (.istore_n 3, 1) := by decide +kernel
theorem dX0_firstPlace_95 : decode cX0_firstPlace 95 = .ok (.iinc 4 1, 3) := by decide +kernel
theorem dX0_firstPlace_98 : decode cX0_firstPlace 98 = .ok (.goto (-27), 3) := by decide +kernel
theorem dX0_firstPlace_101 : decode cX0_firstPlace 101 = .ok (.iload_n 3, 1) := by decide +kernel
theorem dX0_firstPlace_102 : decode cX0_firstPlace 102 = .ok (.iconst (-1), 1) := by decide +kernel
theorem dX0_firstPlace_103 : decode cX0_firstPlace 103 = .ok (.if_icmp .ne 9, 3) := by decide +kernel
theorem dX0_firstPlace_106 : decode cX0_firstPlace 106 = .ok (.ldc2_w 103, 3) := by decide +kernel
theorem dX0_firstPlace_109 : decode cX0_firstPlace 109 = .ok (.goto 15, 3) := by decide +kernel
theorem dX0_firstPlace_112 : decode cX0_firstPlace 112 = .ok (.aload_n 0, 1) := by decide +kernel
theorem dX0_firstPlace_113 : decode cX0_firstPlace 113 = .ok (.getfield 91, 3) := by decide +kernel
theorem dX0_firstPlace_116 : decode cX0_firstPlace 116 = .ok (.lconst 1, 1) := by decide +kernel
theorem dX0_firstPlace_117 : decode cX0_firstPlace 117 = .ok (.ladd, 1) := by decide +kernel
theorem dX0_firstPlace_118 : decode cX0_firstPlace 118 = .ok (.aload_n 0, 1) := by decide +kernel
theorem dX0_firstPlace_119 : decode cX0_firstPlace 119 = .ok (.getfield 41, 3) := by decide +kernel
theorem dX0_firstPlace_122 : decode cX0_firstPlace 122 = .ok (.i2l, 1) := by decide +kernel
theorem dX0_firstPlace_123 : decode cX0_firstPlace 123 = .ok (.lsub, 1) := by decide +kernel
theorem dX0_firstPlace_124 : decode cX0_firstPlace 124 = .ok (.lreturn, 1) := by decide +kernel
theorem dX0_childHit_0 : decode cX0_childHit 0 = .ok (.aload_n 1, 1) := by decide +kernel
theorem dX0_childHit_1 : decode cX0_childHit 1 = .ok (.getfield 62, 3) := by decide +kernel
theorem dX0_childHit_4 : decode cX0_childHit 4 = .ok (.iload_n 2, 1) := by decide +kernel
theorem dX0_childHit_5 : decode cX0_childHit 5 = .ok (.iaload, 1) := by decide +kernel
theorem dX0_childHit_6 : decode cX0_childHit 6 = .ok (.istore 5, 2) := by decide +kernel
theorem dX0_childHit_8 : decode cX0_childHit 8 = .ok (.aload_n 1, 1) := by decide +kernel
theorem dX0_childHit_9 : decode cX0_childHit 9 = .ok (.getfield 65, 3) := by decide +kernel
theorem dX0_childHit_12 : decode cX0_childHit 12 = .ok (.iload 5, 2) := by decide +kernel
theorem dX0_childHit_14 : decode cX0_childHit 14 = .ok (.iload_n 3, 1) := by decide +kernel
theorem dX0_childHit_15 : decode cX0_childHit 15 = .ok (.invokevirtual 69, 3) := by decide +kernel
theorem dX0_childHit_18 : decode cX0_childHit 18 = .ok (.istore 6, 2) := by decide +kernel
theorem dX0_childHit_20 : decode cX0_childHit 20 = .ok (.iconst 0, 1) := by decide +kernel
theorem dX0_childHit_21 : decode cX0_childHit 21 = .ok (.istore 7, 2) := by decide +kernel
theorem dX0_childHit_23 : decode cX0_childHit 23 = .ok (.iload 7, 2) := by decide +kernel
theorem dX0_childHit_25 : decode cX0_childHit 25 = .ok (.iload 6, 2) := by decide +kernel
theorem dX0_childHit_27 : decode cX0_childHit 27 = .ok (.if_icmp .ge 40, 3) := by decide +kernel
theorem dX0_childHit_30 : decode cX0_childHit 30 = .ok (.aload_n 1, 1) := by decide +kernel
theorem dX0_childHit_31 : decode cX0_childHit 31 = .ok (.getfield 65, 3) := by decide +kernel
theorem dX0_childHit_34 : decode cX0_childHit 34 = .ok (.iload 5, 2) := by decide +kernel
theorem dX0_childHit_36 : decode cX0_childHit 36 = .ok (.iload_n 3, 1) := by decide +kernel
theorem dX0_childHit_37 : decode cX0_childHit 37 = .ok (.iload 7, 2) := by decide +kernel
theorem dX0_childHit_39 : decode cX0_childHit 39 = .ok (.invokevirtual 74, 3) := by decide +kernel
theorem dX0_childHit_42 : decode cX0_childHit 42 = .ok (.istore 8, 2) := by decide +kernel
theorem dX0_childHit_44 : decode cX0_childHit 44 = .ok (.aload_n 0, 1) := by decide +kernel
theorem dX0_childHit_45 : decode cX0_childHit 45 = .ok (.iload_n 2, 1) := by decide +kernel
theorem dX0_childHit_46 : decode cX0_childHit 46 = .ok (.iconst 1, 1) := by decide +kernel
theorem dX0_childHit_47 : decode cX0_childHit 47 = .ok (.iadd, 1) := by decide +kernel
theorem dX0_childHit_48 : decode cX0_childHit 48 = .ok (.iload 8, 2) := by decide +kernel
theorem dX0_childHit_50 : decode cX0_childHit 50 = .ok (.aload 4, 2) := by decide +kernel
theorem dX0_childHit_52 : decode cX0_childHit 52 = .ok (.invokevirtual 95, 3) := by decide +kernel
theorem dX0_childHit_55 : decode cX0_childHit 55 = .ok (.ifCond .eq 6, 3) := by decide +kernel
theorem dX0_childHit_58 : decode cX0_childHit 58 = .ok (.iload 8, 2) := by decide +kernel
theorem dX0_childHit_60 : decode cX0_childHit 60 = .ok (.ireturn, 1) := by decide +kernel
theorem dX0_childHit_61 : decode cX0_childHit 61 = .ok (.iinc 7 1, 3) := by decide +kernel
theorem dX0_childHit_64 : decode cX0_childHit 64 = .ok (.goto (-41), 3) := by decide +kernel
theorem dX0_childHit_67 : decode cX0_childHit 67 = .ok (.iconst (-1), 1) := by decide +kernel
theorem dX0_childHit_68 : decode cX0_childHit 68 = .ok (.ireturn, 1) := by decide +kernel
theorem dX0_isHit_0 : decode cX0_isHit 0 = .ok (.iload_n 1, 1) := by decide +kernel
theorem dX0_isHit_1 : decode cX0_isHit 1 = .ok (.iload_n 2, 1) := by decide +kernel
theorem dX0_isHit_2 : decode cX0_isHit 2 = .ok (.aload_n 0, 1) := by decide +kernel
theorem dX0_isHit_3 : decode cX0_isHit 3 = .ok (.getfield 88, 3) := by decide +kernel
theorem dX0_isHit_6 : decode cX0_isHit 6 = .ok (.invokestatic 54, 3) := by decide +kernel
theorem dX0_isHit_9 : decode cX0_isHit 9 = .ok (.istore 4, 2) := by decide +kernel
theorem dX0_isHit_11 : decode cX0_isHit 11 = .ok (.aload_n 0, 1) := by decide +kernel
theorem dX0_isHit_12 : decode cX0_isHit 12 = .ok (.getfield 22, 3) := by decide +kernel
theorem dX0_isHit_15 : decode cX0_isHit 15 = .ok (.iload 4, 2) := by decide +kernel
theorem dX0_isHit_17 : decode cX0_isHit 17 = .ok (.laload, 1) := by decide +kernel
theorem dX0_isHit_18 : decode cX0_isHit 18 = .ok (.lconst 0, 1) := by decide +kernel
theorem dX0_isHit_19 : decode cX0_isHit 19 = .ok (.lcmp, 1) := by decide +kernel
theorem dX0_isHit_20 : decode cX0_isHit 20 = .ok (.ifCond .le 5, 3) := by decide +kernel
theorem dX0_isHit_23 : decode cX0_isHit 23 = .ok (.iconst 1, 1) := by decide +kernel
theorem dX0_isHit_24 : decode cX0_isHit 24 = .ok (.ireturn, 1) := by decide +kernel
theorem dX0_isHit_25 : decode cX0_isHit 25 = .ok (.aload_n 0, 1) := by decide +kernel
theorem dX0_isHit_26 : decode cX0_isHit 26 = .ok (.aload_n 0, 1) := by decide +kernel
theorem dX0_isHit_27 : decode cX0_isHit 27 = .ok (.getfield 18, 3) := by decide +kernel
theorem dX0_isHit_30 : decode cX0_isHit 30 = .ok (.iload 4, 2) := by decide +kernel
theorem dX0_isHit_32 : decode cX0_isHit 32 = .ok (.baload, 1) := by decide +kernel
theorem dX0_isHit_33 : decode cX0_isHit 33 = .ok (.putfield 88, 3) := by decide +kernel
theorem dX0_isHit_36 : decode cX0_isHit 36 = .ok (.aload_n 0, 1) := by decide +kernel
theorem dX0_isHit_37 : decode cX0_isHit 37 = .ok (.dup, 1) := by decide +kernel
theorem dX0_isHit_38 : decode cX0_isHit 38 = .ok (.getfield 91, 3) := by decide +kernel
theorem dX0_isHit_41 : decode cX0_isHit 41 = .ok (.aload_n 3, 1) := by decide +kernel
theorem dX0_isHit_42 : decode cX0_isHit 42 = .ok (.iload_n 1, 1) := by decide +kernel
theorem dX0_isHit_43 : decode cX0_isHit 43 = .ok (.bipush 6, 2) := by decide +kernel
theorem dX0_isHit_45 : decode cX0_isHit 45 = .ok (.imul, 1) := by decide +kernel
theorem dX0_isHit_46 : decode cX0_isHit 46 = .ok (.iload_n 2, 1) := by decide +kernel
theorem dX0_isHit_47 : decode cX0_isHit 47 = .ok (.iadd, 1) := by decide +kernel
theorem dX0_isHit_48 : decode cX0_isHit 48 = .ok (.laload, 1) := by decide +kernel
theorem dX0_isHit_49 : decode cX0_isHit 49 = .ok (.ladd, 1) := by decide +kernel
theorem dX0_isHit_50 : decode cX0_isHit 50 = .ok (.putfield 91, 3) := by decide +kernel
theorem dX0_isHit_53 : decode cX0_isHit 53 = .ok (.iconst 0, 1) := by decide +kernel
theorem dX0_isHit_54 : decode cX0_isHit 54 = .ok (.ireturn, 1) := by decide +kernel
theorem dX0_readBack_0 : decode cX0_readBack 0 = .ok (.aload_n 1, 1) := by decide +kernel
theorem dX0_readBack_1 : decode cX0_readBack 1 = .ok (.getfield 29, 3) := by decide +kernel
theorem dX0_readBack_4 : decode cX0_readBack 4 = .ok (.bipush 6, 2) := by decide +kernel
theorem dX0_readBack_6 : decode cX0_readBack 6 = .ok (.invokestatic 35, 3) := by decide +kernel
theorem dX0_readBack_9 : decode cX0_readBack 9 = .ok (.istore 4, 2) := by decide +kernel
theorem dX0_readBack_11 : decode cX0_readBack 11 = .ok (.aload_n 0, 1) := by decide +kernel
theorem dX0_readBack_12 : decode cX0_readBack 12 = .ok (.getfield 26, 3) := by decide +kernel
theorem dX0_readBack_15 : decode cX0_readBack 15 = .ok (.iload 4, 2) := by decide +kernel
theorem dX0_readBack_17 : decode cX0_readBack 17 = .ok (.iconst 1, 1) := by decide +kernel
theorem dX0_readBack_18 : decode cX0_readBack 18 = .ok (.iastore, 1) := by decide +kernel
theorem dX0_readBack_19 : decode cX0_readBack 19 = .ok (.iload 4, 2) := by decide +kernel
theorem dX0_readBack_21 : decode cX0_readBack 21 = .ok (.iconst 1, 1) := by decide +kernel
theorem dX0_readBack_22 : decode cX0_readBack 22 = .ok (.isub, 1) := by decide +kernel
theorem dX0_readBack_23 : decode cX0_readBack 23 = .ok (.istore 5, 2) := by decide +kernel
theorem dX0_readBack_25 : decode cX0_readBack 25 = .ok (.iload 5, 2) := by decide +kernel
theorem dX0_readBack_27 : decode cX0_readBack 27 = .ok (.ifCond .lt 70, 3) := by decide +kernel
theorem dX0_readBack_30 : decode cX0_readBack 30 = .ok (.iconst 0, 1) := by decide +kernel
theorem dX0_readBack_31 : decode cX0_readBack 31 = .ok (.istore 6, 2) := by decide +kernel
theorem dX0_readBack_33 : decode cX0_readBack 33 = .ok (.iconst 0, 1) := by decide +kernel
theorem dX0_readBack_34 : decode cX0_readBack 34 = .ok (.istore 7, 2) := by decide +kernel
theorem dX0_readBack_36 : decode cX0_readBack 36 = .ok (.iload 7, 2) := by decide +kernel
theorem dX0_readBack_38 : decode cX0_readBack 38 = .ok (.bipush 6, 2) := by decide +kernel
theorem dX0_readBack_40 : decode cX0_readBack 40 = .ok (.if_icmp .ge 42, 3) := by decide +kernel
theorem dX0_readBack_43 : decode cX0_readBack 43 = .ok (.aload_n 1, 1) := by decide +kernel
theorem dX0_readBack_44 : decode cX0_readBack 44 = .ok (.iload 5, 2) := by decide +kernel
theorem dX0_readBack_46 : decode cX0_readBack 46 = .ok (.aload_n 2, 1) := by decide +kernel
theorem dX0_readBack_47 : decode cX0_readBack 47 = .ok (.iload_n 3, 1) := by decide +kernel
theorem dX0_readBack_48 : decode cX0_readBack 48 = .ok (.iload 7, 2) := by decide +kernel
theorem dX0_readBack_50 : decode cX0_readBack 50 = .ok (.invokestatic 105, 3) := by decide +kernel
theorem dX0_readBack_53 : decode cX0_readBack 53 = .ok (.ifCond .eq 23, 3) := by decide +kernel
theorem dX0_readBack_56 : decode cX0_readBack 56 = .ok (.iload 6, 2) := by decide +kernel
theorem dX0_readBack_58 : decode cX0_readBack 58 = .ok (.aload_n 0, 1) := by decide +kernel
theorem dX0_readBack_59 : decode cX0_readBack 59 = .ok (.getfield 26, 3) := by decide +kernel
theorem dX0_readBack_62 : decode cX0_readBack 62 = .ok (.iload 5, 2) := by decide +kernel
theorem dX0_readBack_64 : decode cX0_readBack 64 = .ok (.aload_n 2, 1) := by decide +kernel
theorem dX0_readBack_65 : decode cX0_readBack 65 = .ok (.iload_n 3, 1) := by decide +kernel
theorem dX0_readBack_66 : decode cX0_readBack 66 = .ok (.iload 7, 2) := by decide +kernel
theorem dX0_readBack_68 : decode cX0_readBack 68 = .ok (.invokevirtual 69, 3) := by decide +kernel
theorem dX0_readBack_71 : decode cX0_readBack 71 = .ok (.iadd, 1) := by decide +kernel
theorem dX0_readBack_72 : decode cX0_readBack 72 = .ok (.iaload, 1) := by decide +kernel
theorem dX0_readBack_73 : decode cX0_readBack 73 = .ok (.iadd, 1) := by decide +kernel
theorem dX0_readBack_74 : decode cX0_readBack 74 = .ok (.istore 6, 2) := by decide +kernel
theorem dX0_readBack_76 : decode cX0_readBack 76 = .ok (.iinc 7 1, 3) := by decide +kernel
theorem dX0_readBack_79 : decode cX0_readBack 79 = .ok (.goto (-43), 3) := by decide +kernel
theorem dX0_readBack_82 : decode cX0_readBack 82 = .ok (.aload_n 0, 1) := by decide +kernel
theorem dX0_readBack_83 : decode cX0_readBack 83 = .ok (.getfield 26, 3) := by decide +kernel
theorem dX0_readBack_86 : decode cX0_readBack 86 = .ok (.iload 5, 2) := by decide +kernel
theorem dX0_readBack_88 : decode cX0_readBack 88 = .ok (.iload 6, 2) := by decide +kernel
theorem dX0_readBack_90 : decode cX0_readBack 90 = .ok (.iastore, 1) := by decide +kernel
theorem dX0_readBack_91 : decode cX0_readBack 91 = .ok (.iinc 5 (-1), 3) := by decide +kernel
theorem dX0_readBack_94 : decode cX0_readBack 94 = .ok (.goto (-69), 3) := by decide +kernel
theorem dX0_readBack_97 : decode cX0_readBack 97 = .ok (.return_, 1) := by decide +kernel
theorem dX0_letterBack_0 : decode cX0_letterBack 0 = .ok (.iconst 0, 1) := by decide +kernel
theorem dX0_letterBack_1 : decode cX0_letterBack 1 = .ok (.istore 5, 2) := by decide +kernel
theorem dX0_letterBack_3 : decode cX0_letterBack 3 = .ok (.iconst 0, 1) := by decide +kernel
theorem dX0_letterBack_4 : decode cX0_letterBack 4 = .ok (.istore 6, 2) := by decide +kernel
theorem dX0_letterBack_6 : decode cX0_letterBack 6 = .ok (.iload 6, 2) := by decide +kernel
theorem dX0_letterBack_8 : decode cX0_letterBack 8 = .ok (.bipush 6, 2) := by decide +kernel
theorem dX0_letterBack_10 : decode cX0_letterBack 10 = .ok (.if_icmp .gt 114, 3) := by decide +kernel
theorem dX0_letterBack_13 : decode cX0_letterBack 13 = .ok (.iload 5, 2) := by decide +kernel
theorem dX0_letterBack_15 : decode cX0_letterBack 15 = .ok (.aload_n 1, 1) := by decide +kernel
theorem dX0_letterBack_16 : decode cX0_letterBack 16 = .ok (.getfield 29, 3) := by decide +kernel
theorem dX0_letterBack_19 : decode cX0_letterBack 19 = .ok (.if_icmp .ge 105, 3) := by decide +kernel
theorem dX0_letterBack_22 : decode cX0_letterBack 22 = .ok (.iconst (-1), 1) := by decide +kernel
theorem dX0_letterBack_23 : decode cX0_letterBack 23 = .ok (.istore 7, 2) := by decide +kernel
theorem dX0_letterBack_25 : decode cX0_letterBack 25 = .ok (.iconst 0, 1) := by decide +kernel
theorem dX0_letterBack_26 : decode cX0_letterBack 26 = .ok (.istore 8, 2) := by decide +kernel
theorem dX0_letterBack_28 : decode cX0_letterBack 28 = .ok (.iload 8, 2) := by decide +kernel
theorem dX0_letterBack_30 : decode cX0_letterBack 30 = .ok (.bipush 6, 2) := by decide +kernel
theorem dX0_letterBack_32 : decode cX0_letterBack 32 = .ok (.if_icmp .ge 58, 3) := by decide +kernel
theorem dX0_letterBack_35 : decode cX0_letterBack 35 = .ok (.iload 7, 2) := by decide +kernel
theorem dX0_letterBack_37 : decode cX0_letterBack 37 = .ok (.iconst (-1), 1) := by decide +kernel
theorem dX0_letterBack_38 : decode cX0_letterBack 38 = .ok (.if_icmp .ne 52, 3) := by decide +kernel
theorem dX0_letterBack_41 : decode cX0_letterBack 41 = .ok (.aload_n 1, 1) := by decide +kernel
theorem dX0_letterBack_42 : decode cX0_letterBack 42 = .ok (.iload 5, 2) := by decide +kernel
theorem dX0_letterBack_44 : decode cX0_letterBack 44 = .ok (.aload_n 2, 1) := by decide +kernel
theorem dX0_letterBack_45 : decode cX0_letterBack 45 = .ok (.iload_n 3, 1) := by decide +kernel
theorem dX0_letterBack_46 : decode cX0_letterBack 46 = .ok (.iload 8, 2) := by decide +kernel
theorem dX0_letterBack_48 : decode cX0_letterBack 48 = .ok (.invokestatic 105, 3) := by decide +kernel
theorem dX0_letterBack_51 : decode cX0_letterBack 51 = .ok (.istore 9, 2) := by decide +kernel
theorem dX0_letterBack_53 : decode cX0_letterBack 53 = .ok (.iload 9, 2) := by decide +kernel
theorem dX0_letterBack_55 : decode cX0_letterBack 55 = .ok (.ifCond .eq 26, 3) := by decide +kernel
theorem dX0_letterBack_58 : decode cX0_letterBack 58 = .ok (.aload_n 0, 1) := by decide +kernel
theorem dX0_letterBack_59 : decode cX0_letterBack 59 = .ok (.getfield 26, 3) := by decide +kernel
theorem dX0_letterBack_62 : decode cX0_letterBack 62 = .ok (.iload 5, 2) := by decide +kernel
theorem dX0_letterBack_64 : decode cX0_letterBack 64 = .ok (.aload_n 2, 1) := by decide +kernel
theorem dX0_letterBack_65 : decode cX0_letterBack 65 = .ok (.iload_n 3, 1) := by decide +kernel
theorem dX0_letterBack_66 : decode cX0_letterBack 66 = .ok (.iload 8, 2) := by decide +kernel
theorem dX0_letterBack_68 : decode cX0_letterBack 68 = .ok (.invokevirtual 69, 3) := by decide +kernel
theorem dX0_letterBack_71 : decode cX0_letterBack 71 = .ok (.iadd, 1) := by decide +kernel
theorem dX0_letterBack_72 : decode cX0_letterBack 72 = .ok (.iaload, 1) := by decide +kernel
theorem dX0_letterBack_73 : decode cX0_letterBack 73 = .ok (.ifCond .le 8, 3) := by decide +kernel
theorem dX0_letterBack_76 : decode cX0_letterBack 76 = .ok (.iload 8, 2) := by decide +kernel
theorem dX0_letterBack_78 : decode cX0_letterBack 78 = .ok (.goto 4, 3) := by decide +kernel
theorem dX0_letterBack_81 : decode cX0_letterBack 81 = .ok (.iconst (-1), 1) := by decide +kernel
theorem dX0_letterBack_82 : decode cX0_letterBack 82 = .ok (.istore 7, 2) := by decide +kernel
theorem dX0_letterBack_84 : decode cX0_letterBack 84 = .ok (.iinc 8 1, 3) := by decide +kernel
theorem dX0_letterBack_87 : decode cX0_letterBack 87 = .ok (.goto (-59), 3) := by decide +kernel
theorem dX0_letterBack_90 : decode cX0_letterBack 90 = .ok (.iload 7, 2) := by decide +kernel
theorem dX0_letterBack_92 : decode cX0_letterBack 92 = .ok (.iconst (-1), 1) := by decide +kernel
theorem dX0_letterBack_93 : decode cX0_letterBack 93 = .ok (.if_icmp .eq 10, 3) := by decide +kernel
theorem dX0_letterBack_96 : decode cX0_letterBack 96 = .ok (.iload 6, 2) := by decide +kernel
theorem dX0_letterBack_98 : decode cX0_letterBack 98 = .ok (.iload 4, 2) := by decide +kernel
theorem dX0_letterBack_100 : decode cX0_letterBack 100 = .ok (.if_icmp .ne 6, 3) := by decide +kernel
theorem dX0_letterBack_103 : decode cX0_letterBack 103 = .ok (.iload 7, 2) := by decide +kernel
theorem dX0_letterBack_105 : decode cX0_letterBack 105 = .ok (.ireturn, 1) := by decide +kernel
theorem dX0_letterBack_106 : decode cX0_letterBack 106 = .ok (.iload 5, 2) := by decide +kernel
theorem dX0_letterBack_108 : decode cX0_letterBack 108 = .ok (.aload_n 2, 1) := by decide +kernel
theorem dX0_letterBack_109 : decode cX0_letterBack 109 = .ok (.iload_n 3, 1) := by decide +kernel
theorem dX0_letterBack_110 : decode cX0_letterBack 110 = .ok (.iload 7, 2) := by decide +kernel
theorem dX0_letterBack_112 : decode cX0_letterBack 112 = .ok (.invokevirtual 69, 3) := by decide +kernel
theorem dX0_letterBack_115 : decode cX0_letterBack 115 = .ok (.iadd, 1) := by decide +kernel
theorem dX0_letterBack_116 : decode cX0_letterBack 116 = .ok (.istore 5, 2) := by decide +kernel
theorem dX0_letterBack_118 : decode cX0_letterBack 118 = .ok (.iinc 6 1, 3) := by decide +kernel
theorem dX0_letterBack_121 : decode cX0_letterBack 121 = .ok (.goto (-115), 3) := by decide +kernel
theorem dX0_letterBack_124 : decode cX0_letterBack 124 = .ok (.iconst (-1), 1) := by decide +kernel
theorem dX0_letterBack_125 : decode cX0_letterBack 125 = .ok (.ireturn, 1) := by decide +kernel
theorem dX0_standsAt_0 : decode cX0_standsAt 0 = .ok (.aload_n 2, 1) := by decide +kernel
theorem dX0_standsAt_1 : decode cX0_standsAt 1 = .ok (.iload_n 3, 1) := by decide +kernel
theorem dX0_standsAt_2 : decode cX0_standsAt 2 = .ok (.iload 4, 2) := by decide +kernel
theorem dX0_standsAt_4 : decode cX0_standsAt 4 = .ok (.invokevirtual 69, 3) := by decide +kernel
theorem dX0_standsAt_7 : decode cX0_standsAt 7 = .ok (.istore 5, 2) := by decide +kernel
theorem dX0_standsAt_9 : decode cX0_standsAt 9 = .ok (.iload 5, 2) := by decide +kernel
theorem dX0_standsAt_11 : decode cX0_standsAt 11 = .ok (.ifCond .eq 14, 3) := by decide +kernel
theorem dX0_standsAt_14 : decode cX0_standsAt 14 = .ok (.iload_n 1, 1) := by decide +kernel
theorem dX0_standsAt_15 : decode cX0_standsAt 15 = .ok (.iload 5, 2) := by decide +kernel
theorem dX0_standsAt_17 : decode cX0_standsAt 17 = .ok (.iadd, 1) := by decide +kernel
theorem dX0_standsAt_18 : decode cX0_standsAt 18 = .ok (.aload_n 0, 1) := by decide +kernel
theorem dX0_standsAt_19 : decode cX0_standsAt 19 = .ok (.getfield 29, 3) := by decide +kernel
theorem dX0_standsAt_22 : decode cX0_standsAt 22 = .ok (.if_icmp .le 5, 3) := by decide +kernel
theorem dX0_standsAt_25 : decode cX0_standsAt 25 = .ok (.iconst 0, 1) := by decide +kernel
theorem dX0_standsAt_26 : decode cX0_standsAt 26 = .ok (.ireturn, 1) := by decide +kernel
theorem dX0_standsAt_27 : decode cX0_standsAt 27 = .ok (.iconst 0, 1) := by decide +kernel
theorem dX0_standsAt_28 : decode cX0_standsAt 28 = .ok (.istore 6, 2) := by decide +kernel
theorem dX0_standsAt_30 : decode cX0_standsAt 30 = .ok (.iload 6, 2) := by decide +kernel
theorem dX0_standsAt_32 : decode cX0_standsAt 32 = .ok (.iload 5, 2) := by decide +kernel
theorem dX0_standsAt_34 : decode cX0_standsAt 34 = .ok (.if_icmp .ge 33, 3) := by decide +kernel
theorem dX0_standsAt_37 : decode cX0_standsAt 37 = .ok (.aload_n 0, 1) := by decide +kernel
theorem dX0_standsAt_38 : decode cX0_standsAt 38 = .ok (.iload_n 1, 1) := by decide +kernel
theorem dX0_standsAt_39 : decode cX0_standsAt 39 = .ok (.iload 6, 2) := by decide +kernel
theorem dX0_standsAt_41 : decode cX0_standsAt 41 = .ok (.iadd, 1) := by decide +kernel
theorem dX0_standsAt_42 : decode cX0_standsAt 42 = .ok (.invokevirtual 42, 3) := by decide +kernel
theorem dX0_standsAt_45 : decode cX0_standsAt 45 = .ok (.aload_n 2, 1) := by decide +kernel
theorem dX0_standsAt_46 : decode cX0_standsAt 46 = .ok (.iload_n 3, 1) := by decide +kernel
theorem dX0_standsAt_47 : decode cX0_standsAt 47 = .ok (.iload 4, 2) := by decide +kernel
theorem dX0_standsAt_49 : decode cX0_standsAt 49 = .ok (.iload 6, 2) := by decide +kernel
theorem dX0_standsAt_51 : decode cX0_standsAt 51 = .ok (.invokevirtual 74, 3) := by decide +kernel
theorem dX0_standsAt_54 : decode cX0_standsAt 54 = .ok (.i2l, 1) := by decide +kernel
theorem dX0_standsAt_55 : decode cX0_standsAt 55 = .ok (.lcmp, 1) := by decide +kernel
theorem dX0_standsAt_56 : decode cX0_standsAt 56 = .ok (.ifCond .eq 5, 3) := by decide +kernel
theorem dX0_standsAt_59 : decode cX0_standsAt 59 = .ok (.iconst 0, 1) := by decide +kernel
theorem dX0_standsAt_60 : decode cX0_standsAt 60 = .ok (.ireturn, 1) := by decide +kernel
theorem dX0_standsAt_61 : decode cX0_standsAt 61 = .ok (.iinc 6 1, 3) := by decide +kernel
theorem dX0_standsAt_64 : decode cX0_standsAt 64 = .ok (.goto (-34), 3) := by decide +kernel
theorem dX0_standsAt_67 : decode cX0_standsAt 67 = .ok (.iconst 1, 1) := by decide +kernel
theorem dX0_standsAt_68 : decode cX0_standsAt 68 = .ok (.ireturn, 1) := by decide +kernel
theorem dX1_init_0 : decode cX1_init 0 = .ok (.aload_n 0, 1) := by decide +kernel
theorem dX1_init_1 : decode cX1_init 1 = .ok (.invokespecial 3, 3) := by decide +kernel
theorem dX1_init_4 : decode cX1_init 4 = .ok (.aload_n 0, 1) := by decide +kernel
theorem dX1_init_5 : decode cX1_init 5 = .ok (.bipush 54, 2) := by decide +kernel
theorem dX1_init_7 : decode cX1_init 7 = .ok (.newarray .long, 2) := by decide +kernel
theorem dX1_init_9 : decode cX1_init 9 = .ok (.putfield 11, 3) := by decide +kernel
theorem dX1_init_12 : decode cX1_init 12 = .ok (.aload_n 0, 1) := by decide +kernel
theorem dX1_init_13 : decode cX1_init 13 = .ok (.bipush 8, 2) := by decide +kernel
theorem dX1_init_15 : decode cX1_init 15 = .ok (.newarray .int, 2) := by decide +kernel
theorem dX1_init_17 : decode cX1_init 17 = .ok (.putfield 15, 3) := by decide +kernel
theorem dX1_init_20 : decode cX1_init 20 = .ok (.aload_n 0, 1) := by decide +kernel
theorem dX1_init_21 : decode cX1_init 21 = .ok (.bipush 8, 2) := by decide +kernel
theorem dX1_init_23 : decode cX1_init 23 = .ok (.newarray .int, 2) := by decide +kernel
theorem dX1_init_25 : decode cX1_init 25 = .ok (.putfield 19, 3) := by decide +kernel
theorem dX1_init_28 : decode cX1_init 28 = .ok (.aload_n 0, 1) := by decide +kernel
theorem dX1_init_29 : decode cX1_init 29 = .ok (.new 22, 3) := by decide +kernel
theorem dX1_init_32 : decode cX1_init 32 = .ok (.dup, 1) := by decide +kernel
theorem dX1_init_33 : decode cX1_init 33 = .ok (.invokespecial 24, 3) := by decide +kernel
theorem dX1_init_36 : decode cX1_init 36 = .ok (.putfield 25, 3) := by decide +kernel
theorem dX1_init_39 : decode cX1_init 39 = .ok (.aload_n 0, 1) := by decide +kernel
theorem dX1_init_40 : decode cX1_init 40 = .ok (.bipush 64, 2) := by decide +kernel
theorem dX1_init_42 : decode cX1_init 42 = .ok (.newarray .int, 2) := by decide +kernel
theorem dX1_init_44 : decode cX1_init 44 = .ok (.putfield 29, 3) := by decide +kernel
theorem dX1_init_47 : decode cX1_init 47 = .ok (.aload_n 0, 1) := by decide +kernel
theorem dX1_init_48 : decode cX1_init 48 = .ok (.bipush 64, 2) := by decide +kernel
theorem dX1_init_50 : decode cX1_init 50 = .ok (.newarray .int, 2) := by decide +kernel
theorem dX1_init_52 : decode cX1_init 52 = .ok (.putfield 32, 3) := by decide +kernel
theorem dX1_init_55 : decode cX1_init 55 = .ok (.aload_n 0, 1) := by decide +kernel
theorem dX1_init_56 : decode cX1_init 56 = .ok (.aload_n 1, 1) := by decide +kernel
theorem dX1_init_57 : decode cX1_init 57 = .ok (.putfield 35, 3) := by decide +kernel
theorem dX1_init_60 : decode cX1_init 60 = .ok (.return_, 1) := by decide +kernel
theorem dX1_begin_0 : decode cX1_begin 0 = .ok (.aload_n 0, 1) := by decide +kernel
theorem dX1_begin_1 : decode cX1_begin 1 = .ok (.aload_n 1, 1) := by decide +kernel
theorem dX1_begin_2 : decode cX1_begin 2 = .ok (.getfield 39, 3) := by decide +kernel
theorem dX1_begin_5 : decode cX1_begin 5 = .ok (.putfield 35, 3) := by decide +kernel
theorem dX1_begin_8 : decode cX1_begin 8 = .ok (.aload_n 1, 1) := by decide +kernel
theorem dX1_begin_9 : decode cX1_begin 9 = .ok (.getfield 42, 3) := by decide +kernel
theorem dX1_begin_12 : decode cX1_begin 12 = .ok (.iconst 0, 1) := by decide +kernel
theorem dX1_begin_13 : decode cX1_begin 13 = .ok (.aload_n 0, 1) := by decide +kernel
theorem dX1_begin_14 : decode cX1_begin 14 = .ok (.getfield 11, 3) := by decide +kernel
theorem dX1_begin_17 : decode cX1_begin 17 = .ok (.iconst 0, 1) := by decide +kernel
theorem dX1_begin_18 : decode cX1_begin 18 = .ok (.bipush 6, 2) := by decide +kernel
theorem dX1_begin_20 : decode cX1_begin 20 = .ok (.invokestatic 43, 3) := by decide +kernel
theorem dX1_begin_23 : decode cX1_begin 23 = .ok (.return_, 1) := by decide +kernel
theorem dX1_tableInRow_0 : decode cX1_tableInRow 0 = .ok (.iload_n 1, 1) := by decide +kernel
theorem dX1_tableInRow_1 : decode cX1_tableInRow 1 = .ok (.ifCond .lt 21, 3) := by decide +kernel
theorem dX1_tableInRow_4 : decode cX1_tableInRow 4 = .ok (.iload_n 1, 1) := by decide +kernel
theorem dX1_tableInRow_5 : decode cX1_tableInRow 5 = .ok (.aload_n 0, 1) := by decide +kernel
theorem dX1_tableInRow_6 : decode cX1_tableInRow 6 = .ok (.getfield 15, 3) := by decide +kernel
theorem dX1_tableInRow_9 : decode cX1_tableInRow 9 = .ok (.arraylength, 1) := by decide +kernel
theorem dX1_tableInRow_10 : decode cX1_tableInRow 10 = .ok (.if_icmp .ge 12, 3) := by decide +kernel
theorem dX1_tableInRow_13 : decode cX1_tableInRow 13 = .ok (.aload_n 0, 1) := by decide +kernel
theorem dX1_tableInRow_14 : decode cX1_tableInRow 14 = .ok (.getfield 15, 3) := by decide +kernel
theorem dX1_tableInRow_17 : decode cX1_tableInRow 17 = .ok (.iload_n 1, 1) := by decide +kernel
theorem dX1_tableInRow_18 : decode cX1_tableInRow 18 = .ok (.iaload, 1) := by decide +kernel
theorem dX1_tableInRow_19 : decode cX1_tableInRow 19 = .ok (.goto 4, 3) := by decide +kernel
theorem dX1_tableInRow_22 : decode cX1_tableInRow 22 = .ok (.iconst (-1), 1) := by decide +kernel
theorem dX1_tableInRow_23 : decode cX1_tableInRow 23 = .ok (.ireturn, 1) := by decide +kernel
theorem dX1_tablesSeen_0 : decode cX1_tablesSeen 0 = .ok (.iload_n 1, 1) := by decide +kernel
theorem dX1_tablesSeen_1 : decode cX1_tablesSeen 1 = .ok (.ifCond .lt 21, 3) := by decide +kernel
theorem dX1_tablesSeen_4 : decode cX1_tablesSeen 4 = .ok (.iload_n 1, 1) := by decide +kernel
theorem dX1_tablesSeen_5 : decode cX1_tablesSeen 5 = .ok (.aload_n 0, 1) := by decide +kernel
theorem dX1_tablesSeen_6 : decode cX1_tablesSeen 6 = .ok (.getfield 19, 3) := by decide +kernel
theorem dX1_tablesSeen_9 : decode cX1_tablesSeen 9 = .ok (.arraylength, 1) := by decide +kernel
theorem dX1_tablesSeen_10 : decode cX1_tablesSeen 10 = .ok (.if_icmp .ge 12, 3) := by decide +kernel
theorem dX1_tablesSeen_13 : decode cX1_tablesSeen 13 = .ok (.aload_n 0, 1) := by decide +kernel
theorem dX1_tablesSeen_14 : decode cX1_tablesSeen 14 = .ok (.getfield 19, 3) := by decide +kernel
theorem dX1_tablesSeen_17 : decode cX1_tablesSeen 17 = .ok (.iload_n 1, 1) := by decide +kernel
theorem dX1_tablesSeen_18 : decode cX1_tablesSeen 18 = .ok (.iaload, 1) := by decide +kernel
theorem dX1_tablesSeen_19 : decode cX1_tablesSeen 19 = .ok (.goto 4, 3) := by decide +kernel
theorem dX1_tablesSeen_22 : decode cX1_tablesSeen 22 = .ok (.iconst 0, 1) := by decide +kernel
theorem dX1_tablesSeen_23 : decode cX1_tablesSeen 23 = .ok (.ireturn, 1) := by decide +kernel
theorem dX1_spanAt_0 : decode cX1_spanAt 0 = .ok (.lconst 0, 1) := by decide +kernel
theorem dX1_spanAt_1 : decode cX1_spanAt 1 = .ok (.lstore_n 2, 1) := by decide +kernel
theorem dX1_spanAt_2 : decode cX1_spanAt 2 = .ok (.iconst 0, 1) := by decide +kernel
theorem dX1_spanAt_3 : decode cX1_spanAt 3 = .ok (.istore 4, 2) := by decide +kernel
theorem dX1_spanAt_5 : decode cX1_spanAt 5 = .ok (.iload 4, 2) := by decide +kernel
theorem dX1_spanAt_7 : decode cX1_spanAt 7 = .ok (.bipush 6, 2) := by decide +kernel
theorem dX1_spanAt_9 : decode cX1_spanAt 9 = .ok (.if_icmp .ge 24, 3) := by decide +kernel
theorem dX1_spanAt_12 : decode cX1_spanAt 12 = .ok (.lload_n 2, 1) := by decide +kernel
theorem dX1_spanAt_13 : decode cX1_spanAt 13 = .ok (.aload_n 0, 1) := by decide +kernel
theorem dX1_spanAt_14 : decode cX1_spanAt 14 = .ok (.getfield 11, 3) := by decide +kernel
theorem dX1_spanAt_17 : decode cX1_spanAt 17 = .ok (.iload_n 1, 1) := by decide +kernel
theorem dX1_spanAt_18 : decode cX1_spanAt 18 = .ok (.bipush 6, 2) := by decide +kernel
theorem dX1_spanAt_20 : decode cX1_spanAt 20 = .ok (.imul, 1) := by decide +kernel
theorem dX1_spanAt_21 : decode cX1_spanAt 21 = .ok (.iload 4, 2) := by decide +kernel
theorem dX1_spanAt_23 : decode cX1_spanAt 23 = .ok (.iadd, 1) := by decide +kernel
theorem dX1_spanAt_24 : decode cX1_spanAt 24 = .ok (.laload, 1) := by decide +kernel
theorem dX1_spanAt_25 : decode cX1_spanAt 25 = .ok (.ladd, 1) := by decide +kernel
theorem dX1_spanAt_26 : decode cX1_spanAt 26 = .ok (.lstore_n 2, 1) := by decide +kernel
theorem dX1_spanAt_27 : decode cX1_spanAt 27 = .ok (.iinc 4 1, 3) := by decide +kernel
theorem dX1_spanAt_30 : decode cX1_spanAt 30 = .ok (.goto (-25), 3) := by decide +kernel
theorem dX1_spanAt_33 : decode cX1_spanAt 33 = .ok (.lload_n 2, 1) := by decide +kernel
theorem dX1_spanAt_34 : decode cX1_spanAt 34 = .ok (.lreturn, 1) := by decide +kernel
theorem dX1_spanBy_0 : decode cX1_spanBy 0 = .ok (.iload_n 1, 1) := by decide +kernel
theorem dX1_spanBy_1 : decode cX1_spanBy 1 = .ok (.bipush 6, 2) := by decide +kernel
theorem dX1_spanBy_3 : decode cX1_spanBy 3 = .ok (.imul, 1) := by decide +kernel
theorem dX1_spanBy_4 : decode cX1_spanBy 4 = .ok (.istore_n 3, 1) := by decide +kernel
theorem dX1_spanBy_5 : decode cX1_spanBy 5 = .ok (.iload_n 2, 1) := by decide +kernel
theorem dX1_spanBy_6 : decode cX1_spanBy 6 = .ok (.bipush 6, 2) := by decide +kernel
theorem dX1_spanBy_8 : decode cX1_spanBy 8 = .ok (.imul, 1) := by decide +kernel
theorem dX1_spanBy_9 : decode cX1_spanBy 9 = .ok (.istore 4, 2) := by decide +kernel
theorem dX1_spanBy_11 : decode cX1_spanBy 11 = .ok (.lconst 0, 1) := by decide +kernel
theorem dX1_spanBy_12 : decode cX1_spanBy 12 = .ok (.lstore 5, 2) := by decide +kernel
theorem dX1_spanBy_14 : decode cX1_spanBy 14 = .ok (.iconst 0, 1) := by decide +kernel
theorem dX1_spanBy_15 : decode cX1_spanBy 15 = .ok (.istore 7, 2) := by decide +kernel
theorem dX1_spanBy_17 : decode cX1_spanBy 17 = .ok (.iload 7, 2) := by decide +kernel
theorem dX1_spanBy_19 : decode cX1_spanBy 19 = .ok (.bipush 6, 2) := by decide +kernel
theorem dX1_spanBy_21 : decode cX1_spanBy 21 = .ok (.if_icmp .ge 38, 3) := by decide +kernel
theorem dX1_spanBy_24 : decode cX1_spanBy 24 = .ok (.lload 5, 2) := by decide +kernel
theorem dX1_spanBy_26 : decode cX1_spanBy 26 = .ok (.aload_n 0, 1) := by decide +kernel
theorem dX1_spanBy_27 : decode cX1_spanBy 27 = .ok (.getfield 11, 3) := by decide +kernel
theorem dX1_spanBy_30 : decode cX1_spanBy 30 = .ok (.iload_n 3, 1) := by decide +kernel
theorem dX1_spanBy_31 : decode cX1_spanBy 31 = .ok (.iload 7, 2) := by decide +kernel
theorem dX1_spanBy_33 : decode cX1_spanBy 33 = .ok (.iadd, 1) := by decide +kernel
theorem dX1_spanBy_34 : decode cX1_spanBy 34 = .ok (.laload, 1) := by decide +kernel
theorem dX1_spanBy_35 : decode cX1_spanBy 35 = .ok (.aload_n 0, 1) := by decide +kernel
theorem dX1_spanBy_36 : decode cX1_spanBy 36 = .ok (.getfield 35, 3) := by decide +kernel
theorem dX1_spanBy_39 : decode cX1_spanBy 39 = .ok (.getfield 49, 3) := by decide +kernel
theorem dX1_spanBy_42 : decode cX1_spanBy 42 = .ok (.iload 4, 2) := by decide +kernel
theorem dX1_spanBy_44 : decode cX1_spanBy 44 = .ok (.iload 7, 2) := by decide +kernel
theorem dX1_spanBy_46 : decode cX1_spanBy 46 = .ok (.iadd, 1) := by decide +kernel
theorem dX1_spanBy_47 : decode cX1_spanBy 47 = .ok (.iaload, 1) := by decide +kernel
theorem dX1_spanBy_48 : decode cX1_spanBy 48 = .ok (.i2l, 1) := by decide +kernel
theorem dX1_spanBy_49 : decode cX1_spanBy 49 = .ok (.lmul, 1) := by decide +kernel
theorem dX1_spanBy_50 : decode cX1_spanBy 50 = .ok (.ladd, 1) := by decide +kernel
theorem dX1_spanBy_51 : decode cX1_spanBy 51 = .ok (.lstore 5, 2) := by decide +kernel
theorem dX1_spanBy_53 : decode cX1_spanBy 53 = .ok (.iinc 7 1, 3) := by decide +kernel
theorem dX1_spanBy_56 : decode cX1_spanBy 56 = .ok (.goto (-39), 3) := by decide +kernel
theorem dX1_spanBy_59 : decode cX1_spanBy 59 = .ok (.lload 5, 2) := by decide +kernel
theorem dX1_spanBy_61 : decode cX1_spanBy 61 = .ok (.lreturn, 1) := by decide +kernel
theorem dX1_clear_0 : decode cX1_clear 0 = .ok (.aload_n 0, 1) := by decide +kernel
theorem dX1_clear_1 : decode cX1_clear 1 = .ok (.getfield 11, 3) := by decide +kernel
theorem dX1_clear_4 : decode cX1_clear 4 = .ok (.iload_n 1, 1) := by decide +kernel
theorem dX1_clear_5 : decode cX1_clear 5 = .ok (.bipush 6, 2) := by decide +kernel
theorem dX1_clear_7 : decode cX1_clear 7 = .ok (.imul, 1) := by decide +kernel
theorem dX1_clear_8 : decode cX1_clear 8 = .ok (.iload_n 1, 1) := by decide +kernel
theorem dX1_clear_9 : decode cX1_clear 9 = .ok (.iconst 1, 1) := by decide +kernel
theorem dX1_clear_10 : decode cX1_clear 10 = .ok (.iadd, 1) := by decide +kernel
theorem dX1_clear_11 : decode cX1_clear 11 = .ok (.bipush 6, 2) := by decide +kernel
theorem dX1_clear_13 : decode cX1_clear 13 = .ok (.imul, 1) := by decide +kernel
theorem dX1_clear_14 : decode cX1_clear 14 = .ok (.lconst 0, 1) := by decide +kernel
theorem dX1_clear_15 : decode cX1_clear 15 = .ok (.invokestatic 54, 3) := by decide +kernel
theorem dX1_clear_18 : decode cX1_clear 18 = .ok (.return_, 1) := by decide +kernel
theorem dX1_addNight_0 : decode cX1_addNight 0 = .ok (.iload_n 1, 1) := by decide +kernel
theorem dX1_addNight_1 : decode cX1_addNight 1 = .ok (.bipush 6, 2) := by decide +kernel
theorem dX1_addNight_3 : decode cX1_addNight 3 = .ok (.imul, 1) := by decide +kernel
theorem dX1_addNight_4 : decode cX1_addNight 4 = .ok (.istore_n 3, 1) := by decide +kernel
theorem dX1_addNight_5 : decode cX1_addNight 5 = .ok (.iload_n 3, 1) := by decide +kernel
theorem dX1_addNight_6 : decode cX1_addNight 6 = .ok (.bipush 6, 2) := by decide +kernel
theorem dX1_addNight_8 : decode cX1_addNight 8 = .ok (.iadd, 1) := by decide +kernel
theorem dX1_addNight_9 : decode cX1_addNight 9 = .ok (.istore 4, 2) := by decide +kernel
theorem dX1_addNight_11 : decode cX1_addNight 11 = .ok (.iconst 0, 1) := by decide +kernel
theorem dX1_addNight_12 : decode cX1_addNight 12 = .ok (.istore 5, 2) := by decide +kernel
theorem dX1_addNight_14 : decode cX1_addNight 14 = .ok (.iload 5, 2) := by decide +kernel
theorem dX1_addNight_16 : decode cX1_addNight 16 = .ok (.bipush 6, 2) := by decide +kernel
theorem dX1_addNight_18 : decode cX1_addNight 18 = .ok (.if_icmp .ge 96, 3) := by decide +kernel
theorem dX1_addNight_21 : decode cX1_addNight 21 = .ok (.iload_n 2, 1) := by decide +kernel
theorem dX1_addNight_22 : decode cX1_addNight 22 = .ok (.bipush 6, 2) := by decide +kernel
theorem dX1_addNight_24 : decode cX1_addNight 24 = .ok (.imul, 1) := by decide +kernel
theorem dX1_addNight_25 : decode cX1_addNight 25 = .ok (.iload 5, 2) := by decide +kernel
theorem dX1_addNight_27 : decode cX1_addNight 27 = .ok (.iadd, 1) := by decide +kernel
theorem dX1_addNight_28 : decode cX1_addNight 28 = .ok (.istore 6, 2) := by decide +kernel
theorem dX1_addNight_30 : decode cX1_addNight 30 = .ok (.aload_n 0, 1) := by decide +kernel
theorem dX1_addNight_31 : decode cX1_addNight 31 = .ok (.getfield 11, 3) := by decide +kernel
theorem dX1_addNight_34 : decode cX1_addNight 34 = .ok (.iload_n 3, 1) := by decide +kernel
theorem dX1_addNight_35 : decode cX1_addNight 35 = .ok (.iload 5, 2) := by decide +kernel
theorem dX1_addNight_37 : decode cX1_addNight 37 = .ok (.iadd, 1) := by decide +kernel
theorem dX1_addNight_38 : decode cX1_addNight 38 = .ok (.laload, 1) := by decide +kernel
theorem dX1_addNight_39 : decode cX1_addNight 39 = .ok (.lstore 7, 2) := by decide +kernel
theorem dX1_addNight_41 : decode cX1_addNight 41 = .ok (.lload 7, 2) := by decide +kernel
theorem dX1_addNight_43 : decode cX1_addNight 43 = .ok (.lconst 0, 1) := by decide +kernel
theorem dX1_addNight_44 : decode cX1_addNight 44 = .ok (.lcmp, 1) := by decide +kernel
theorem dX1_addNight_45 : decode cX1_addNight 45 = .ok (.ifCond .ne 7, 3) := by decide +kernel
theorem dX1_addNight_48 : decode cX1_addNight 48 = .ok (.iconst 0, 1) := by decide +kernel
theorem dX1_addNight_49 : decode cX1_addNight 49 = .ok (.goto 13, 3) := by decide +kernel
theorem dX1_addNight_52 : decode cX1_addNight 52 = .ok (.aload_n 0, 1) := by decide +kernel
theorem dX1_addNight_53 : decode cX1_addNight 53 = .ok (.getfield 35, 3) := by decide +kernel
theorem dX1_addNight_56 : decode cX1_addNight 56 = .ok (.getfield 49, 3) := by decide +kernel
theorem dX1_addNight_59 : decode cX1_addNight 59 = .ok (.iload 6, 2) := by decide +kernel
theorem dX1_addNight_61 : decode cX1_addNight 61 = .ok (.iaload, 1) := by decide +kernel
theorem dX1_addNight_62 : decode cX1_addNight 62 = .ok (.istore 9, 2) := by decide +kernel
theorem dX1_addNight_64 : decode cX1_addNight 64 = .ok (.iconst 0, 1) := by decide +kernel
theorem dX1_addNight_65 : decode cX1_addNight 65 = .ok (.istore 10, 2) := by decide +kernel
theorem dX1_addNight_67 : decode cX1_addNight 67 = .ok (.iload 10, 2) := by decide +kernel
theorem dX1_addNight_69 : decode cX1_addNight 69 = .ok (.iload 9, 2) := by decide +kernel
theorem dX1_addNight_71 : decode cX1_addNight 71 = .ok (.if_icmp .ge 37, 3) := by decide +kernel
theorem dX1_addNight_74 : decode cX1_addNight 74 = .ok (.aload_n 0, 1) := by decide +kernel
theorem dX1_addNight_75 : decode cX1_addNight 75 = .ok (.getfield 11, 3) := by decide +kernel
theorem dX1_addNight_78 : decode cX1_addNight 78 = .ok (.iload 4, 2) := by decide +kernel
theorem dX1_addNight_80 : decode cX1_addNight 80 = .ok (.aload_n 0, 1) := by decide +kernel
theorem dX1_addNight_81 : decode cX1_addNight 81 = .ok (.getfield 35, 3) := by decide +kernel
theorem dX1_addNight_84 : decode cX1_addNight 84 = .ok (.getfield 60, 3) := by decide +kernel
theorem dX1_addNight_87 : decode cX1_addNight 87 = .ok (.iload 6, 2) := by decide +kernel
theorem dX1_addNight_89 : decode cX1_addNight 89 = .ok (.iconst 4, 1) := by decide +kernel
theorem dX1_addNight_90 : decode cX1_addNight 90 = .ok (.imul, 1) := by decide +kernel
theorem dX1_addNight_91 : decode cX1_addNight 91 = .ok (.iload 10, 2) := by decide +kernel
theorem dX1_addNight_93 : decode cX1_addNight 93 = .ok (.iadd, 1) := by decide +kernel
theorem dX1_addNight_94 : decode cX1_addNight 94 = .ok (.iaload, 1) := by decide +kernel
theorem dX1_addNight_95 : decode cX1_addNight 95 = .ok (.iadd, 1) := by decide +kernel
theorem dX1_addNight_96 : decode cX1_addNight 96 = .ok (.dup2, 1) := by decide +kernel
theorem dX1_addNight_97 : decode cX1_addNight 97 = .ok (.laload, 1) := by decide +kernel
theorem dX1_addNight_98 : decode cX1_addNight 98 = .ok (.lload 7, 2) := by decide +kernel
theorem dX1_addNight_100 : decode cX1_addNight 100 = .ok (.ladd, 1) := by decide +kernel
theorem dX1_addNight_101 : decode cX1_addNight 101 = .ok (.lastore, 1) := by decide +kernel
theorem dX1_addNight_102 : decode cX1_addNight 102 = .ok (.iinc 10 1, 3) := by decide +kernel
theorem dX1_addNight_105 : decode cX1_addNight 105 = .ok (.goto (-38), 3) := by decide +kernel
theorem dX1_addNight_108 : decode cX1_addNight 108 = .ok (.iinc 5 1, 3) := by decide +kernel
theorem dX1_addNight_111 : decode cX1_addNight 111 = .ok (.goto (-97), 3) := by decide +kernel
theorem dX1_addNight_114 : decode cX1_addNight 114 = .ok (.return_, 1) := by decide +kernel
theorem dX1_passNight_0 : decode cX1_passNight 0 = .ok (.aload_n 0, 1) := by decide +kernel
theorem dX1_passNight_1 : decode cX1_passNight 1 = .ok (.iload_n 1, 1) := by decide +kernel
theorem dX1_passNight_2 : decode cX1_passNight 2 = .ok (.iconst 1, 1) := by decide +kernel
theorem dX1_passNight_3 : decode cX1_passNight 3 = .ok (.iadd, 1) := by decide +kernel
theorem dX1_passNight_4 : decode cX1_passNight 4 = .ok (.invokevirtual 63, 3) := by decide +kernel
theorem dX1_passNight_7 : decode cX1_passNight 7 = .ok (.aload_n 0, 1) := by decide +kernel
theorem dX1_passNight_8 : decode cX1_passNight 8 = .ok (.iload_n 1, 1) := by decide +kernel
theorem dX1_passNight_9 : decode cX1_passNight 9 = .ok (.iload_n 2, 1) := by decide +kernel
theorem dX1_passNight_10 : decode cX1_passNight 10 = .ok (.invokevirtual 67, 3) := by decide +kernel
theorem dX1_passNight_13 : decode cX1_passNight 13 = .ok (.return_, 1) := by decide +kernel
theorem dX1_soonestRow_0 : decode cX1_soonestRow 0 = .ok (.aload_n 0, 1) := by decide +kernel
theorem dX1_soonestRow_1 : decode cX1_soonestRow 1 = .ok (.aload_n 1, 1) := by decide +kernel
theorem dX1_soonestRow_2 : decode cX1_soonestRow 2 = .ok (.invokevirtual 71, 3) := by decide +kernel
theorem dX1_soonestRow_5 : decode cX1_soonestRow 5 = .ok (.iconst 0, 1) := by decide +kernel
theorem dX1_soonestRow_6 : decode cX1_soonestRow 6 = .ok (.istore 4, 2) := by decide +kernel
theorem dX1_soonestRow_8 : decode cX1_soonestRow 8 = .ok (.iload 4, 2) := by decide +kernel
theorem dX1_soonestRow_10 : decode cX1_soonestRow 10 = .ok (.bipush 6, 2) := by decide +kernel
theorem dX1_soonestRow_12 : decode cX1_soonestRow 12 = .ok (.if_icmp .gt 23, 3) := by decide +kernel
theorem dX1_soonestRow_15 : decode cX1_soonestRow 15 = .ok (.aload_n 0, 1) := by decide +kernel
theorem dX1_soonestRow_16 : decode cX1_soonestRow 16 = .ok (.lload_n 2, 1) := by decide +kernel
theorem dX1_soonestRow_17 : decode cX1_soonestRow 17 = .ok (.iload 4, 2) := by decide +kernel
theorem dX1_soonestRow_19 : decode cX1_soonestRow 19 = .ok (.iconst 0, 1) := by decide +kernel
theorem dX1_soonestRow_20 : decode cX1_soonestRow 20 = .ok (.invokevirtual 75, 3) := by decide +kernel
theorem dX1_soonestRow_23 : decode cX1_soonestRow 23 = .ok (.ifCond .eq 6, 3) := by decide +kernel
theorem dX1_soonestRow_26 : decode cX1_soonestRow 26 = .ok (.iload 4, 2) := by decide +kernel
theorem dX1_soonestRow_28 : decode cX1_soonestRow 28 = .ok (.ireturn, 1) := by decide +kernel
theorem dX1_soonestRow_29 : decode cX1_soonestRow 29 = .ok (.iinc 4 1, 3) := by decide +kernel
theorem dX1_soonestRow_32 : decode cX1_soonestRow 32 = .ok (.goto (-24), 3) := by decide +kernel
theorem dX1_soonestRow_35 : decode cX1_soonestRow 35 = .ok (.iconst (-1), 1) := by decide +kernel
theorem dX1_soonestRow_36 : decode cX1_soonestRow 36 = .ok (.ireturn, 1) := by decide +kernel
theorem dX1_findRow_0 : decode cX1_findRow 0 = .ok (.iload 4, 2) := by decide +kernel
theorem dX1_findRow_2 : decode cX1_findRow 2 = .ok (.iload_n 3, 1) := by decide +kernel
theorem dX1_findRow_3 : decode cX1_findRow 3 = .ok (.if_icmp .ge 10, 3) := by decide +kernel
theorem dX1_findRow_6 : decode cX1_findRow 6 = .ok (.iload 4, 2) := by decide +kernel
theorem dX1_findRow_8 : decode cX1_findRow 8 = .ok (.bipush 8, 2) := by decide +kernel
theorem dX1_findRow_10 : decode cX1_findRow 10 = .ok (.if_icmp .lt 20, 3) := by decide +kernel
theorem dX1_findRow_13 : decode cX1_findRow 13 = .ok (.aload_n 0, 1) := by decide +kernel
theorem dX1_findRow_14 : decode cX1_findRow 14 = .ok (.iload 4, 2) := by decide +kernel
theorem dX1_findRow_16 : decode cX1_findRow 16 = .ok (.invokevirtual 79, 3) := by decide +kernel
theorem dX1_findRow_19 : decode cX1_findRow 19 = .ok (.lload_n 1, 1) := by decide +kernel
theorem dX1_findRow_20 : decode cX1_findRow 20 = .ok (.lcmp, 1) := by decide +kernel
theorem dX1_findRow_21 : decode cX1_findRow 21 = .ok (.ifCond .ne 7, 3) := by decide +kernel
theorem dX1_findRow_24 : decode cX1_findRow 24 = .ok (.iconst 1, 1) := by decide +kernel
theorem dX1_findRow_25 : decode cX1_findRow 25 = .ok (.goto 4, 3) := by decide +kernel
theorem dX1_findRow_28 : decode cX1_findRow 28 = .ok (.iconst 0, 1) := by decide +kernel
theorem dX1_findRow_29 : decode cX1_findRow 29 = .ok (.ireturn, 1) := by decide +kernel
theorem dX1_findRow_30 : decode cX1_findRow 30 = .ok (.iconst 0, 1) := by decide +kernel
theorem dX1_findRow_31 : decode cX1_findRow 31 = .ok (.istore 5, 2) := by decide +kernel
theorem dX1_findRow_33 : decode cX1_findRow 33 = .ok (.iload 5, 2) := by decide +kernel
theorem dX1_findRow_35 : decode cX1_findRow 35 = .ok (.aload_n 0, 1) := by decide +kernel
theorem dX1_findRow_36 : decode cX1_findRow 36 = .ok (.getfield 35, 3) := by decide +kernel
theorem dX1_findRow_39 : decode cX1_findRow 39 = .ok (.getfield 83, 3) := by decide +kernel
theorem dX1_findRow_42 : decode cX1_findRow 42 = .ok (.if_icmp .ge 64, 3) := by decide +kernel
theorem dX1_findRow_45 : decode cX1_findRow 45 = .ok (.aload_n 0, 1) := by decide +kernel
theorem dX1_findRow_46 : decode cX1_findRow 46 = .ok (.getfield 15, 3) := by decide +kernel
theorem dX1_findRow_49 : decode cX1_findRow 49 = .ok (.iload 4, 2) := by decide +kernel
theorem dX1_findRow_51 : decode cX1_findRow 51 = .ok (.iload 5, 2) := by decide +kernel
theorem dX1_findRow_53 : decode cX1_findRow 53 = .ok (.iastore, 1) := by decide +kernel
theorem dX1_findRow_54 : decode cX1_findRow 54 = .ok (.iload 4, 2) := by decide +kernel
theorem dX1_findRow_56 : decode cX1_findRow 56 = .ok (.iload_n 3, 1) := by decide +kernel
theorem dX1_findRow_57 : decode cX1_findRow 57 = .ok (.iconst 1, 1) := by decide +kernel
theorem dX1_findRow_58 : decode cX1_findRow 58 = .ok (.isub, 1) := by decide +kernel
theorem dX1_findRow_59 : decode cX1_findRow 59 = .ok (.if_icmp .ne 18, 3) := by decide +kernel
theorem dX1_findRow_62 : decode cX1_findRow 62 = .ok (.aload_n 0, 1) := by decide +kernel
theorem dX1_findRow_63 : decode cX1_findRow 63 = .ok (.iload 4, 2) := by decide +kernel
theorem dX1_findRow_65 : decode cX1_findRow 65 = .ok (.iload 5, 2) := by decide +kernel
theorem dX1_findRow_67 : decode cX1_findRow 67 = .ok (.invokevirtual 87, 3) := by decide +kernel
theorem dX1_findRow_70 : decode cX1_findRow 70 = .ok (.lload_n 1, 1) := by decide +kernel
theorem dX1_findRow_71 : decode cX1_findRow 71 = .ok (.lcmp, 1) := by decide +kernel
theorem dX1_findRow_72 : decode cX1_findRow 72 = .ok (.ifCond .ne 28, 3) := by decide +kernel
theorem dX1_findRow_75 : decode cX1_findRow 75 = .ok (.iconst 1, 1) := by decide +kernel
theorem dX1_findRow_76 : decode cX1_findRow 76 = .ok (.ireturn, 1) := by decide +kernel
theorem dX1_findRow_77 : decode cX1_findRow 77 = .ok (.aload_n 0, 1) := by decide +kernel
theorem dX1_findRow_78 : decode cX1_findRow 78 = .ok (.iload 4, 2) := by decide +kernel
theorem dX1_findRow_80 : decode cX1_findRow 80 = .ok (.iload 5, 2) := by decide +kernel
theorem dX1_findRow_82 : decode cX1_findRow 82 = .ok (.invokevirtual 91, 3) := by decide +kernel
theorem dX1_findRow_85 : decode cX1_findRow 85 = .ok (.aload_n 0, 1) := by decide +kernel
theorem dX1_findRow_86 : decode cX1_findRow 86 = .ok (.lload_n 1, 1) := by decide +kernel
theorem dX1_findRow_87 : decode cX1_findRow 87 = .ok (.iload_n 3, 1) := by decide +kernel
theorem dX1_findRow_88 : decode cX1_findRow 88 = .ok (.iload 4, 2) := by decide +kernel
theorem dX1_findRow_90 : decode cX1_findRow 90 = .ok (.iconst 1, 1) := by decide +kernel
theorem dX1_findRow_91 : decode cX1_findRow 91 = .ok (.iadd, 1) := by decide +kernel
theorem dX1_findRow_92 : decode cX1_findRow 92 = .ok (.invokevirtual 75, 3) := by decide +kernel
theorem dX1_findRow_95 : decode cX1_findRow 95 = .ok (.ifCond .eq 5, 3) := by decide +kernel
theorem dX1_findRow_98 : decode cX1_findRow 98 = .ok (.iconst 1, 1) := by decide +kernel
theorem dX1_findRow_99 : decode cX1_findRow 99 = .ok (.ireturn, 1) := by decide +kernel
theorem dX1_findRow_100 : decode cX1_findRow 100 = .ok (.iinc 5 1, 3) := by decide +kernel
theorem dX1_findRow_103 : decode cX1_findRow 103 = .ok (.goto (-70), 3) := by decide +kernel
theorem dX1_findRow_106 : decode cX1_findRow 106 = .ok (.iconst 0, 1) := by decide +kernel
theorem dX1_findRow_107 : decode cX1_findRow 107 = .ok (.ireturn, 1) := by decide +kernel
theorem dX1_rowsOf_0 : decode cX1_rowsOf 0 = .ok (.aload_n 0, 1) := by decide +kernel
theorem dX1_rowsOf_1 : decode cX1_rowsOf 1 = .ok (.aload_n 1, 1) := by decide +kernel
theorem dX1_rowsOf_2 : decode cX1_rowsOf 2 = .ok (.invokevirtual 71, 3) := by decide +kernel
theorem dX1_rowsOf_5 : decode cX1_rowsOf 5 = .ok (.aload_n 0, 1) := by decide +kernel
theorem dX1_rowsOf_6 : decode cX1_rowsOf 6 = .ok (.lload_n 2, 1) := by decide +kernel
theorem dX1_rowsOf_7 : decode cX1_rowsOf 7 = .ok (.iload 4, 2) := by decide +kernel
theorem dX1_rowsOf_9 : decode cX1_rowsOf 9 = .ok (.iconst 0, 1) := by decide +kernel
theorem dX1_rowsOf_10 : decode cX1_rowsOf 10 = .ok (.invokevirtual 94, 3) := by decide +kernel
theorem dX1_rowsOf_13 : decode cX1_rowsOf 13 = .ok (.ireturn, 1) := by decide +kernel
theorem dX1_rowsFrom_0 : decode cX1_rowsFrom 0 = .ok (.iload 4, 2) := by decide +kernel
theorem dX1_rowsFrom_2 : decode cX1_rowsFrom 2 = .ok (.iload_n 3, 1) := by decide +kernel
theorem dX1_rowsFrom_3 : decode cX1_rowsFrom 3 = .ok (.if_icmp .ge 10, 3) := by decide +kernel
theorem dX1_rowsFrom_6 : decode cX1_rowsFrom 6 = .ok (.iload 4, 2) := by decide +kernel
theorem dX1_rowsFrom_8 : decode cX1_rowsFrom 8 = .ok (.bipush 8, 2) := by decide +kernel
theorem dX1_rowsFrom_10 : decode cX1_rowsFrom 10 = .ok (.if_icmp .lt 20, 3) := by decide +kernel
theorem dX1_rowsFrom_13 : decode cX1_rowsFrom 13 = .ok (.aload_n 0, 1) := by decide +kernel
theorem dX1_rowsFrom_14 : decode cX1_rowsFrom 14 = .ok (.iload 4, 2) := by decide +kernel
theorem dX1_rowsFrom_16 : decode cX1_rowsFrom 16 = .ok (.invokevirtual 79, 3) := by decide +kernel
theorem dX1_rowsFrom_19 : decode cX1_rowsFrom 19 = .ok (.lload_n 1, 1) := by decide +kernel
theorem dX1_rowsFrom_20 : decode cX1_rowsFrom 20 = .ok (.lcmp, 1) := by decide +kernel
theorem dX1_rowsFrom_21 : decode cX1_rowsFrom 21 = .ok (.ifCond .ne 7, 3) := by decide +kernel
theorem dX1_rowsFrom_24 : decode cX1_rowsFrom 24 = .ok (.iconst 1, 1) := by decide +kernel
theorem dX1_rowsFrom_25 : decode cX1_rowsFrom 25 = .ok (.goto 4, 3) := by decide +kernel
theorem dX1_rowsFrom_28 : decode cX1_rowsFrom 28 = .ok (.iconst 0, 1) := by decide +kernel
theorem dX1_rowsFrom_29 : decode cX1_rowsFrom 29 = .ok (.ireturn, 1) := by decide +kernel
theorem dX1_rowsFrom_30 : decode cX1_rowsFrom 30 = .ok (.iconst 0, 1) := by decide +kernel
theorem dX1_rowsFrom_31 : decode cX1_rowsFrom 31 = .ok (.istore 5, 2) := by decide +kernel
theorem dX1_rowsFrom_33 : decode cX1_rowsFrom 33 = .ok (.iconst 0, 1) := by decide +kernel
theorem dX1_rowsFrom_34 : decode cX1_rowsFrom 34 = .ok (.istore 6, 2) := by decide +kernel
theorem dX1_rowsFrom_36 : decode cX1_rowsFrom 36 = .ok (.iload 6, 2) := by decide +kernel
theorem dX1_rowsFrom_38 : decode cX1_rowsFrom 38 = .ok (.aload_n 0, 1) := by decide +kernel
theorem dX1_rowsFrom_39 : decode cX1_rowsFrom 39 = .ok (.getfield 35, 3) := by decide +kernel
theorem dX1_rowsFrom_42 : decode cX1_rowsFrom 42 = .ok (.getfield 83, 3) := by decide +kernel
theorem dX1_rowsFrom_45 : decode cX1_rowsFrom 45 = .ok (.if_icmp .ge 66, 3) := by decide +kernel
theorem dX1_rowsFrom_48 : decode cX1_rowsFrom 48 = .ok (.iload 4, 2) := by decide +kernel
theorem dX1_rowsFrom_50 : decode cX1_rowsFrom 50 = .ok (.iload_n 3, 1) := by decide +kernel
theorem dX1_rowsFrom_51 : decode cX1_rowsFrom 51 = .ok (.iconst 1, 1) := by decide +kernel
theorem dX1_rowsFrom_52 : decode cX1_rowsFrom 52 = .ok (.isub, 1) := by decide +kernel
theorem dX1_rowsFrom_53 : decode cX1_rowsFrom 53 = .ok (.if_icmp .ne 29, 3) := by decide +kernel
theorem dX1_rowsFrom_56 : decode cX1_rowsFrom 56 = .ok (.iload 5, 2) := by decide +kernel
theorem dX1_rowsFrom_58 : decode cX1_rowsFrom 58 = .ok (.aload_n 0, 1) := by decide +kernel
theorem dX1_rowsFrom_59 : decode cX1_rowsFrom 59 = .ok (.iload 4, 2) := by decide +kernel
theorem dX1_rowsFrom_61 : decode cX1_rowsFrom 61 = .ok (.iload 6, 2) := by decide +kernel
theorem dX1_rowsFrom_63 : decode cX1_rowsFrom 63 = .ok (.invokevirtual 87, 3) := by decide +kernel
theorem dX1_rowsFrom_66 : decode cX1_rowsFrom 66 = .ok (.lload_n 1, 1) := by decide +kernel
theorem dX1_rowsFrom_67 : decode cX1_rowsFrom 67 = .ok (.lcmp, 1) := by decide +kernel
theorem dX1_rowsFrom_68 : decode cX1_rowsFrom 68 = .ok (.ifCond .ne 7, 3) := by decide +kernel
theorem dX1_rowsFrom_71 : decode cX1_rowsFrom 71 = .ok (.iconst 1, 1) := by decide +kernel
theorem dX1_rowsFrom_72 : decode cX1_rowsFrom 72 = .ok (.goto 4, 3) := by decide +kernel
theorem dX1_rowsFrom_75 : decode cX1_rowsFrom 75 = .ok (.iconst 0, 1) := by decide +kernel
theorem dX1_rowsFrom_76 : decode cX1_rowsFrom 76 = .ok (.iadd, 1) := by decide +kernel
theorem dX1_rowsFrom_77 : decode cX1_rowsFrom 77 = .ok (.istore 5, 2) := by decide +kernel
theorem dX1_rowsFrom_79 : decode cX1_rowsFrom 79 = .ok (.goto 26, 3) := by decide +kernel
theorem dX1_rowsFrom_82 : decode cX1_rowsFrom 82 = .ok (.aload_n 0, 1) := by decide +kernel
theorem dX1_rowsFrom_83 : decode cX1_rowsFrom 83 = .ok (.iload 4, 2) := by decide +kernel
theorem dX1_rowsFrom_85 : decode cX1_rowsFrom 85 = .ok (.iload 6, 2) := by decide +kernel
theorem dX1_rowsFrom_87 : decode cX1_rowsFrom 87 = .ok (.invokevirtual 91, 3) := by decide +kernel
theorem dX1_rowsFrom_90 : decode cX1_rowsFrom 90 = .ok (.iload 5, 2) := by decide +kernel
theorem dX1_rowsFrom_92 : decode cX1_rowsFrom 92 = .ok (.aload_n 0, 1) := by decide +kernel
theorem dX1_rowsFrom_93 : decode cX1_rowsFrom 93 = .ok (.lload_n 1, 1) := by decide +kernel
theorem dX1_rowsFrom_94 : decode cX1_rowsFrom 94 = .ok (.iload_n 3, 1) := by decide +kernel
theorem dX1_rowsFrom_95 : decode cX1_rowsFrom 95 = .ok (.iload 4, 2) := by decide +kernel
theorem dX1_rowsFrom_97 : decode cX1_rowsFrom 97 = .ok (.iconst 1, 1) := by decide +kernel
theorem dX1_rowsFrom_98 : decode cX1_rowsFrom 98 = .ok (.iadd, 1) := by decide +kernel
theorem dX1_rowsFrom_99 : decode cX1_rowsFrom 99 = .ok (.invokevirtual 94, 3) := by decide +kernel
theorem dX1_rowsFrom_102 : decode cX1_rowsFrom 102 = .ok (.iadd, 1) := by decide +kernel
theorem dX1_rowsFrom_103 : decode cX1_rowsFrom 103 = .ok (.istore 5, 2) := by decide +kernel
theorem dX1_rowsFrom_105 : decode cX1_rowsFrom 105 = .ok (.iinc 6 1, 3) := by decide +kernel
theorem dX1_rowsFrom_108 : decode cX1_rowsFrom 108 = .ok (.goto (-72), 3) := by decide +kernel
theorem dX1_rowsFrom_111 : decode cX1_rowsFrom 111 = .ok (.iload 5, 2) := by decide +kernel
theorem dX1_rowsFrom_113 : decode cX1_rowsFrom 113 = .ok (.ireturn, 1) := by decide +kernel
theorem dX1_rowsOfLong_0 : decode cX1_rowsOfLong 0 = .ok (.aload_n 0, 1) := by decide +kernel
theorem dX1_rowsOfLong_1 : decode cX1_rowsOfLong 1 = .ok (.aload_n 1, 1) := by decide +kernel
theorem dX1_rowsOfLong_2 : decode cX1_rowsOfLong 2 = .ok (.invokevirtual 71, 3) := by decide +kernel
theorem dX1_rowsOfLong_5 : decode cX1_rowsOfLong 5 = .ok (.aload_n 0, 1) := by decide +kernel
theorem dX1_rowsOfLong_6 : decode cX1_rowsOfLong 6 = .ok (.iconst 0, 1) := by decide +kernel
theorem dX1_rowsOfLong_7 : decode cX1_rowsOfLong 7 = .ok (.putfield 98, 3) := by decide +kernel
theorem dX1_rowsOfLong_10 : decode cX1_rowsOfLong 10 = .ok (.aload_n 0, 1) := by decide +kernel
theorem dX1_rowsOfLong_11 : decode cX1_rowsOfLong 11 = .ok (.getfield 19, 3) := by decide +kernel
theorem dX1_rowsOfLong_14 : decode cX1_rowsOfLong 14 = .ok (.iconst 0, 1) := by decide +kernel
theorem dX1_rowsOfLong_15 : decode cX1_rowsOfLong 15 = .ok (.invokestatic 102, 3) := by decide +kernel
theorem dX1_rowsOfLong_18 : decode cX1_rowsOfLong 18 = .ok (.aload_n 0, 1) := by decide +kernel
theorem dX1_rowsOfLong_19 : decode cX1_rowsOfLong 19 = .ok (.aload_n 2, 1) := by decide +kernel
theorem dX1_rowsOfLong_20 : decode cX1_rowsOfLong 20 = .ok (.iconst 0, 1) := by decide +kernel
theorem dX1_rowsOfLong_21 : decode cX1_rowsOfLong 21 = .ok (.invokevirtual 105, 3) := by decide +kernel
theorem dX1_rowsOfLong_24 : decode cX1_rowsOfLong 24 = .ok (.ireturn, 1) := by decide +kernel
theorem dX1_longFrom_0 : decode cX1_longFrom 0 = .ok (.iload_n 2, 1) := by decide +kernel
theorem dX1_longFrom_1 : decode cX1_longFrom 1 = .ok (.aload_n 1, 1) := by decide +kernel
theorem dX1_longFrom_2 : decode cX1_longFrom 2 = .ok (.getfield 109, 3) := by decide +kernel
theorem dX1_longFrom_5 : decode cX1_longFrom 5 = .ok (.if_icmp .ge 9, 3) := by decide +kernel
theorem dX1_longFrom_8 : decode cX1_longFrom 8 = .ok (.iload_n 2, 1) := by decide +kernel
theorem dX1_longFrom_9 : decode cX1_longFrom 9 = .ok (.bipush 8, 2) := by decide +kernel
theorem dX1_longFrom_11 : decode cX1_longFrom 11 = .ok (.if_icmp .lt 5, 3) := by decide +kernel
theorem dX1_longFrom_14 : decode cX1_longFrom 14 = .ok (.iconst 1, 1) := by decide +kernel
theorem dX1_longFrom_15 : decode cX1_longFrom 15 = .ok (.ireturn, 1) := by decide +kernel
theorem dX1_longFrom_16 : decode cX1_longFrom 16 = .ok (.aload_n 1, 1) := by decide +kernel
theorem dX1_longFrom_17 : decode cX1_longFrom 17 = .ok (.iload_n 2, 1) := by decide +kernel
theorem dX1_longFrom_18 : decode cX1_longFrom 18 = .ok (.invokevirtual 114, 3) := by decide +kernel
theorem dX1_longFrom_21 : decode cX1_longFrom 21 = .ok (.lstore_n 3, 1) := by decide +kernel
theorem dX1_longFrom_22 : decode cX1_longFrom 22 = .ok (.iload_n 2, 1) := by decide +kernel
theorem dX1_longFrom_23 : decode cX1_longFrom 23 = .ok (.aload_n 1, 1) := by decide +kernel
theorem dX1_longFrom_24 : decode cX1_longFrom 24 = .ok (.getfield 109, 3) := by decide +kernel
theorem dX1_longFrom_27 : decode cX1_longFrom 27 = .ok (.iconst 1, 1) := by decide +kernel
theorem dX1_longFrom_28 : decode cX1_longFrom 28 = .ok (.isub, 1) := by decide +kernel
theorem dX1_longFrom_29 : decode cX1_longFrom 29 = .ok (.if_icmp .ne 7, 3) := by decide +kernel
theorem dX1_longFrom_32 : decode cX1_longFrom 32 = .ok (.iconst 1, 1) := by decide +kernel
theorem dX1_longFrom_33 : decode cX1_longFrom 33 = .ok (.goto 4, 3) := by decide +kernel
theorem dX1_longFrom_36 : decode cX1_longFrom 36 = .ok (.iconst 0, 1) := by decide +kernel
theorem dX1_longFrom_37 : decode cX1_longFrom 37 = .ok (.istore 5, 2) := by decide +kernel
theorem dX1_longFrom_39 : decode cX1_longFrom 39 = .ok (.iconst 0, 1) := by decide +kernel
theorem dX1_longFrom_40 : decode cX1_longFrom 40 = .ok (.istore 6, 2) := by decide +kernel
theorem dX1_longFrom_42 : decode cX1_longFrom 42 = .ok (.iconst 0, 1) := by decide +kernel
theorem dX1_longFrom_43 : decode cX1_longFrom 43 = .ok (.istore 7, 2) := by decide +kernel
theorem dX1_longFrom_45 : decode cX1_longFrom 45 = .ok (.iload 7, 2) := by decide +kernel
theorem dX1_longFrom_47 : decode cX1_longFrom 47 = .ok (.aload_n 0, 1) := by decide +kernel
theorem dX1_longFrom_48 : decode cX1_longFrom 48 = .ok (.getfield 35, 3) := by decide +kernel
theorem dX1_longFrom_51 : decode cX1_longFrom 51 = .ok (.getfield 83, 3) := by decide +kernel
theorem dX1_longFrom_54 : decode cX1_longFrom 54 = .ok (.if_icmp .ge 118, 3) := by decide +kernel
theorem dX1_longFrom_57 : decode cX1_longFrom 57 = .ok (.lload_n 3, 1) := by decide +kernel
theorem dX1_longFrom_58 : decode cX1_longFrom 58 = .ok (.ldc2_w 117, 3) := by decide +kernel
theorem dX1_longFrom_61 : decode cX1_longFrom 61 = .ok (.lcmp, 1) := by decide +kernel
theorem dX1_longFrom_62 : decode cX1_longFrom 62 = .ok (.ifCond .eq 18, 3) := by decide +kernel
theorem dX1_longFrom_65 : decode cX1_longFrom 65 = .ok (.lload_n 3, 1) := by decide +kernel
theorem dX1_longFrom_66 : decode cX1_longFrom 66 = .ok (.aload_n 0, 1) := by decide +kernel
theorem dX1_longFrom_67 : decode cX1_longFrom 67 = .ok (.iload_n 2, 1) := by decide +kernel
theorem dX1_longFrom_68 : decode cX1_longFrom 68 = .ok (.iload 7, 2) := by decide +kernel
theorem dX1_longFrom_70 : decode cX1_longFrom 70 = .ok (.invokevirtual 87, 3) := by decide +kernel
theorem dX1_longFrom_73 : decode cX1_longFrom 73 = .ok (.lcmp, 1) := by decide +kernel
theorem dX1_longFrom_74 : decode cX1_longFrom 74 = .ok (.ifCond .eq 6, 3) := by decide +kernel
theorem dX1_longFrom_77 : decode cX1_longFrom 77 = .ok (.goto 89, 3) := by decide +kernel
theorem dX1_longFrom_80 : decode cX1_longFrom 80 = .ok (.iload 5, 2) := by decide +kernel
theorem dX1_longFrom_82 : decode cX1_longFrom 82 = .ok (.ifCond .eq 10, 3) := by decide +kernel
theorem dX1_longFrom_85 : decode cX1_longFrom 85 = .ok (.aload_n 0, 1) := by decide +kernel
theorem dX1_longFrom_86 : decode cX1_longFrom 86 = .ok (.getfield 98, 3) := by decide +kernel
theorem dX1_longFrom_89 : decode cX1_longFrom 89 = .ok (.ifCond .eq 10, 3) := by decide +kernel
theorem dX1_longFrom_92 : decode cX1_longFrom 92 = .ok (.aload_n 0, 1) := by decide +kernel
theorem dX1_longFrom_93 : decode cX1_longFrom 93 = .ok (.iload_n 2, 1) := by decide +kernel
theorem dX1_longFrom_94 : decode cX1_longFrom 94 = .ok (.iload 7, 2) := by decide +kernel
theorem dX1_longFrom_96 : decode cX1_longFrom 96 = .ok (.invokevirtual 91, 3) := by decide +kernel
theorem dX1_longFrom_99 : decode cX1_longFrom 99 = .ok (.iload 5, 2) := by decide +kernel
theorem dX1_longFrom_101 : decode cX1_longFrom 101 = .ok (.ifCond .eq 17, 3) := by decide +kernel
theorem dX1_longFrom_104 : decode cX1_longFrom 104 = .ok (.aload_n 0, 1) := by decide +kernel
theorem dX1_longFrom_105 : decode cX1_longFrom 105 = .ok (.getfield 98, 3) := by decide +kernel
theorem dX1_longFrom_108 : decode cX1_longFrom 108 = .ok (.ifCond .eq 10, 3) := by decide +kernel
theorem dX1_longFrom_111 : decode cX1_longFrom 111 = .ok (.aload_n 0, 1) := by decide +kernel
theorem dX1_longFrom_112 : decode cX1_longFrom 112 = .ok (.iload_n 2, 1) := by decide +kernel
theorem dX1_longFrom_113 : decode cX1_longFrom 113 = .ok (.iconst 1, 1) := by decide +kernel
theorem dX1_longFrom_114 : decode cX1_longFrom 114 = .ok (.iadd, 1) := by decide +kernel
theorem dX1_longFrom_115 : decode cX1_longFrom 115 = .ok (.invokevirtual 119, 3) := by decide +kernel
theorem dX1_longFrom_118 : decode cX1_longFrom 118 = .ok (.iload 5, 2) := by decide +kernel
theorem dX1_longFrom_120 : decode cX1_longFrom 120 = .ok (.ifCond .eq 7, 3) := by decide +kernel
theorem dX1_longFrom_123 : decode cX1_longFrom 123 = .ok (.iconst 1, 1) := by decide +kernel
theorem dX1_longFrom_124 : decode cX1_longFrom 124 = .ok (.goto 11, 3) := by decide +kernel
theorem dX1_longFrom_127 : decode cX1_longFrom 127 = .ok (.aload_n 0, 1) := by decide +kernel
theorem dX1_longFrom_128 : decode cX1_longFrom 128 = .ok (.aload_n 1, 1) := by decide +kernel
theorem dX1_longFrom_129 : decode cX1_longFrom 129 = .ok (.iload_n 2, 1) := by decide +kernel
theorem dX1_longFrom_130 : decode cX1_longFrom 130 = .ok (.iconst 1, 1) := by decide +kernel
theorem dX1_longFrom_131 : decode cX1_longFrom 131 = .ok (.iadd, 1) := by decide +kernel
theorem dX1_longFrom_132 : decode cX1_longFrom 132 = .ok (.invokevirtual 105, 3) := by decide +kernel
theorem dX1_longFrom_135 : decode cX1_longFrom 135 = .ok (.istore 8, 2) := by decide +kernel
theorem dX1_longFrom_137 : decode cX1_longFrom 137 = .ok (.aload_n 0, 1) := by decide +kernel
theorem dX1_longFrom_138 : decode cX1_longFrom 138 = .ok (.getfield 19, 3) := by decide +kernel
theorem dX1_longFrom_141 : decode cX1_longFrom 141 = .ok (.iload_n 2, 1) := by decide +kernel
theorem dX1_longFrom_142 : decode cX1_longFrom 142 = .ok (.dup2, 1) := by decide +kernel
theorem dX1_longFrom_143 : decode cX1_longFrom 143 = .ok (.iaload, 1) := by decide +kernel
theorem dX1_longFrom_144 : decode cX1_longFrom 144 = .ok (.iload 8, 2) := by decide +kernel
theorem dX1_longFrom_146 : decode cX1_longFrom 146 = .ok (.ifCond .le 10, 3) := by decide +kernel
theorem dX1_longFrom_149 : decode cX1_longFrom 149 = .ok (.iconst 1, 1) := by decide +kernel
theorem dX1_longFrom_150 : decode cX1_longFrom 150 = .ok (.iload 7, 2) := by decide +kernel
theorem dX1_longFrom_152 : decode cX1_longFrom 152 = .ok (.ishl, 1) := by decide +kernel
theorem dX1_longFrom_153 : decode cX1_longFrom 153 = .ok (.goto 4, 3) := by decide +kernel
theorem dX1_longFrom_156 : decode cX1_longFrom 156 = .ok (.iconst 0, 1) := by decide +kernel
theorem dX1_longFrom_157 : decode cX1_longFrom 157 = .ok (.ior, 1) := by decide +kernel
theorem dX1_longFrom_158 : decode cX1_longFrom 158 = .ok (.iastore, 1) := by decide +kernel
theorem dX1_longFrom_159 : decode cX1_longFrom 159 = .ok (.iload 6, 2) := by decide +kernel
theorem dX1_longFrom_161 : decode cX1_longFrom 161 = .ok (.iload 8, 2) := by decide +kernel
theorem dX1_longFrom_163 : decode cX1_longFrom 163 = .ok (.iadd, 1) := by decide +kernel
theorem dX1_longFrom_164 : decode cX1_longFrom 164 = .ok (.istore 6, 2) := by decide +kernel
theorem dX1_longFrom_166 : decode cX1_longFrom 166 = .ok (.iinc 7 1, 3) := by decide +kernel
theorem dX1_longFrom_169 : decode cX1_longFrom 169 = .ok (.goto (-124), 3) := by decide +kernel
theorem dX1_longFrom_172 : decode cX1_longFrom 172 = .ok (.iload 6, 2) := by decide +kernel
theorem dX1_longFrom_174 : decode cX1_longFrom 174 = .ok (.ireturn, 1) := by decide +kernel
theorem dX1_tallyNext_0 : decode cX1_tallyNext 0 = .ok (.iconst 0, 1) := by decide +kernel
theorem dX1_tallyNext_1 : decode cX1_tallyNext 1 = .ok (.istore_n 2, 1) := by decide +kernel
theorem dX1_tallyNext_2 : decode cX1_tallyNext 2 = .ok (.iload_n 2, 1) := by decide +kernel
theorem dX1_tallyNext_3 : decode cX1_tallyNext 3 = .ok (.aload_n 0, 1) := by decide +kernel
theorem dX1_tallyNext_4 : decode cX1_tallyNext 4 = .ok (.getfield 35, 3) := by decide +kernel
theorem dX1_tallyNext_7 : decode cX1_tallyNext 7 = .ok (.getfield 83, 3) := by decide +kernel
theorem dX1_tallyNext_10 : decode cX1_tallyNext 10 = .ok (.if_icmp .ge 23, 3) := by decide +kernel
theorem dX1_tallyNext_13 : decode cX1_tallyNext 13 = .ok (.aload_n 0, 1) := by decide +kernel
theorem dX1_tallyNext_14 : decode cX1_tallyNext 14 = .ok (.getfield 25, 3) := by decide +kernel
theorem dX1_tallyNext_17 : decode cX1_tallyNext 17 = .ok (.aload_n 0, 1) := by decide +kernel
theorem dX1_tallyNext_18 : decode cX1_tallyNext 18 = .ok (.iload_n 1, 1) := by decide +kernel
theorem dX1_tallyNext_19 : decode cX1_tallyNext 19 = .ok (.iload_n 2, 1) := by decide +kernel
theorem dX1_tallyNext_20 : decode cX1_tallyNext 20 = .ok (.invokevirtual 87, 3) := by decide +kernel
theorem dX1_tallyNext_23 : decode cX1_tallyNext 23 = .ok (.iload_n 2, 1) := by decide +kernel
theorem dX1_tallyNext_24 : decode cX1_tallyNext 24 = .ok (.invokevirtual 122, 3) := by decide +kernel
theorem dX1_tallyNext_27 : decode cX1_tallyNext 27 = .ok (.iinc 2 1, 3) := by decide +kernel
theorem dX1_tallyNext_30 : decode cX1_tallyNext 30 = .ok (.goto (-28), 3) := by decide +kernel
theorem dX1_tallyNext_33 : decode cX1_tallyNext 33 = .ok (.return_, 1) := by decide +kernel
theorem dX1_tableToTry_0 : decode cX1_tableToTry 0 = .ok (.aload_n 0, 1) := by decide +kernel
theorem dX1_tableToTry_1 : decode cX1_tableToTry 1 = .ok (.aload_n 1, 1) := by decide +kernel
theorem dX1_tableToTry_2 : decode cX1_tableToTry 2 = .ok (.aload_n 2, 1) := by decide +kernel
theorem dX1_tableToTry_3 : decode cX1_tableToTry 3 = .ok (.invokevirtual 126, 3) := by decide +kernel
theorem dX1_tableToTry_6 : decode cX1_tableToTry 6 = .ok (.istore_n 3, 1) := by decide +kernel
theorem dX1_tableToTry_7 : decode cX1_tableToTry 7 = .ok (.iload_n 3, 1) := by decide +kernel
theorem dX1_tableToTry_8 : decode cX1_tableToTry 8 = .ok (.ifCond .ne 5, 3) := by decide +kernel
theorem dX1_tableToTry_11 : decode cX1_tableToTry 11 = .ok (.iconst (-1), 1) := by decide +kernel
theorem dX1_tableToTry_12 : decode cX1_tableToTry 12 = .ok (.ireturn, 1) := by decide +kernel
theorem dX1_tableToTry_13 : decode cX1_tableToTry 13 = .ok (.aload_n 0, 1) := by decide +kernel
theorem dX1_tableToTry_14 : decode cX1_tableToTry 14 = .ok (.getfield 25, 3) := by decide +kernel
theorem dX1_tableToTry_17 : decode cX1_tableToTry 17 = .ok (.iload_n 3, 1) := by decide +kernel
theorem dX1_tableToTry_18 : decode cX1_tableToTry 18 = .ok (.aload_n 0, 1) := by decide +kernel
theorem dX1_tableToTry_19 : decode cX1_tableToTry 19 = .ok (.getfield 35, 3) := by decide +kernel
theorem dX1_tableToTry_22 : decode cX1_tableToTry 22 = .ok (.getfield 83, 3) := by decide +kernel
theorem dX1_tableToTry_25 : decode cX1_tableToTry 25 = .ok (.imul, 1) := by decide +kernel
theorem dX1_tableToTry_26 : decode cX1_tableToTry 26 = .ok (.invokevirtual 130, 3) := by decide +kernel
theorem dX1_tableToTry_29 : decode cX1_tableToTry 29 = .ok (.aload_n 0, 1) := by decide +kernel
theorem dX1_tableToTry_30 : decode cX1_tableToTry 30 = .ok (.iconst 1, 1) := by decide +kernel
theorem dX1_tableToTry_31 : decode cX1_tableToTry 31 = .ok (.putfield 98, 3) := by decide +kernel
theorem dX1_tableToTry_34 : decode cX1_tableToTry 34 = .ok (.aload_n 0, 1) := by decide +kernel
theorem dX1_tableToTry_35 : decode cX1_tableToTry 35 = .ok (.aload_n 2, 1) := by decide +kernel
theorem dX1_tableToTry_36 : decode cX1_tableToTry 36 = .ok (.iconst 0, 1) := by decide +kernel
theorem dX1_tableToTry_37 : decode cX1_tableToTry 37 = .ok (.invokevirtual 105, 3) := by decide +kernel
theorem dX1_tableToTry_40 : decode cX1_tableToTry 40 = .ok (.pop, 1) := by decide +kernel
theorem dX1_tableToTry_41 : decode cX1_tableToTry 41 = .ok (.iconst 0, 1) := by decide +kernel
theorem dX1_tableToTry_42 : decode cX1_tableToTry 42 = .ok (.istore 4, 2) := by decide +kernel
theorem dX1_tableToTry_44 : decode cX1_tableToTry 44 = .ok (.iconst 1, 1) := by decide +kernel
theorem dX1_tableToTry_45 : decode cX1_tableToTry 45 = .ok (.istore 5, 2) := by decide +kernel
theorem dX1_tableToTry_47 : decode cX1_tableToTry 47 = .ok (.iload 5, 2) := by decide +kernel
theorem dX1_tableToTry_49 : decode cX1_tableToTry 49 = .ok (.aload_n 0, 1) := by decide +kernel
theorem dX1_tableToTry_50 : decode cX1_tableToTry 50 = .ok (.getfield 35, 3) := by decide +kernel
theorem dX1_tableToTry_53 : decode cX1_tableToTry 53 = .ok (.getfield 83, 3) := by decide +kernel
theorem dX1_tableToTry_56 : decode cX1_tableToTry 56 = .ok (.if_icmp .ge 34, 3) := by decide +kernel
theorem dX1_tableToTry_59 : decode cX1_tableToTry 59 = .ok (.aload_n 0, 1) := by decide +kernel
theorem dX1_tableToTry_60 : decode cX1_tableToTry 60 = .ok (.getfield 25, 3) := by decide +kernel
theorem dX1_tableToTry_63 : decode cX1_tableToTry 63 = .ok (.iload 5, 2) := by decide +kernel
theorem dX1_tableToTry_65 : decode cX1_tableToTry 65 = .ok (.invokevirtual 131, 3) := by decide +kernel
theorem dX1_tableToTry_68 : decode cX1_tableToTry 68 = .ok (.aload_n 0, 1) := by decide +kernel
theorem dX1_tableToTry_69 : decode cX1_tableToTry 69 = .ok (.getfield 25, 3) := by decide +kernel
theorem dX1_tableToTry_72 : decode cX1_tableToTry 72 = .ok (.iload 4, 2) := by decide +kernel
theorem dX1_tableToTry_74 : decode cX1_tableToTry 74 = .ok (.invokevirtual 131, 3) := by decide +kernel
theorem dX1_tableToTry_77 : decode cX1_tableToTry 77 = .ok (.if_icmp .ge 7, 3) := by decide +kernel
theorem dX1_tableToTry_80 : decode cX1_tableToTry 80 = .ok (.iload 5, 2) := by decide +kernel
theorem dX1_tableToTry_82 : decode cX1_tableToTry 82 = .ok (.istore 4, 2) := by decide +kernel
theorem dX1_tableToTry_84 : decode cX1_tableToTry 84 = .ok (.iinc 5 1, 3) := by decide +kernel
theorem dX1_tableToTry_87 : decode cX1_tableToTry 87 = .ok (.goto (-40), 3) := by decide +kernel
theorem dX1_tableToTry_90 : decode cX1_tableToTry 90 = .ok (.iload 4, 2) := by decide +kernel
theorem dX1_tableToTry_92 : decode cX1_tableToTry 92 = .ok (.ireturn, 1) := by decide +kernel
theorem dX1_spanOfTurns_0 : decode cX1_spanOfTurns 0 = .ok (.aload_n 0, 1) := by decide +kernel
theorem dX1_spanOfTurns_1 : decode cX1_spanOfTurns 1 = .ok (.aload_n 1, 1) := by decide +kernel
theorem dX1_spanOfTurns_2 : decode cX1_spanOfTurns 2 = .ok (.invokevirtual 71, 3) := by decide +kernel
theorem dX1_spanOfTurns_5 : decode cX1_spanOfTurns 5 = .ok (.aload_n 0, 1) := by decide +kernel
theorem dX1_spanOfTurns_6 : decode cX1_spanOfTurns 6 = .ok (.iload_n 2, 1) := by decide +kernel
theorem dX1_spanOfTurns_7 : decode cX1_spanOfTurns 7 = .ok (.iconst 0, 1) := by decide +kernel
theorem dX1_spanOfTurns_8 : decode cX1_spanOfTurns 8 = .ok (.invokevirtual 135, 3) := by decide +kernel
theorem dX1_spanOfTurns_11 : decode cX1_spanOfTurns 11 = .ok (.lreturn, 1) := by decide +kernel
theorem dX1_spanByTurns_0 : decode cX1_spanByTurns 0 = .ok (.iload_n 2, 1) := by decide +kernel
theorem dX1_spanByTurns_1 : decode cX1_spanByTurns 1 = .ok (.iload_n 1, 1) := by decide +kernel
theorem dX1_spanByTurns_2 : decode cX1_spanByTurns 2 = .ok (.if_icmp .ge 9, 3) := by decide +kernel
theorem dX1_spanByTurns_5 : decode cX1_spanByTurns 5 = .ok (.iload_n 2, 1) := by decide +kernel
theorem dX1_spanByTurns_6 : decode cX1_spanByTurns 6 = .ok (.bipush 8, 2) := by decide +kernel
theorem dX1_spanByTurns_8 : decode cX1_spanByTurns 8 = .ok (.if_icmp .lt 9, 3) := by decide +kernel
theorem dX1_spanByTurns_11 : decode cX1_spanByTurns 11 = .ok (.aload_n 0, 1) := by decide +kernel
theorem dX1_spanByTurns_12 : decode cX1_spanByTurns 12 = .ok (.iload_n 2, 1) := by decide +kernel
theorem dX1_spanByTurns_13 : decode cX1_spanByTurns 13 = .ok (.invokevirtual 79, 3) := by decide +kernel
theorem dX1_spanByTurns_16 : decode cX1_spanByTurns 16 = .ok (.lreturn, 1) := by decide +kernel
theorem dX1_spanByTurns_17 : decode cX1_spanByTurns 17 = .ok (.iload_n 2, 1) := by decide +kernel
theorem dX1_spanByTurns_18 : decode cX1_spanByTurns 18 = .ok (.iconst 2, 1) := by decide +kernel
theorem dX1_spanByTurns_19 : decode cX1_spanByTurns 19 = .ok (.irem, 1) := by decide +kernel
theorem dX1_spanByTurns_20 : decode cX1_spanByTurns 20 = .ok (.ifCond .ne 7, 3) := by decide +kernel
theorem dX1_spanByTurns_23 : decode cX1_spanByTurns 23 = .ok (.iconst 1, 1) := by decide +kernel
theorem dX1_spanByTurns_24 : decode cX1_spanByTurns 24 = .ok (.goto 4, 3) := by decide +kernel
theorem dX1_spanByTurns_27 : decode cX1_spanByTurns 27 = .ok (.iconst 0, 1) := by decide +kernel
theorem dX1_spanByTurns_28 : decode cX1_spanByTurns 28 = .ok (.istore_n 3, 1) := by decide +kernel
theorem dX1_spanByTurns_29 : decode cX1_spanByTurns 29 = .ok (.lconst 0, 1) := by decide +kernel
theorem dX1_spanByTurns_30 : decode cX1_spanByTurns 30 = .ok (.lstore 4, 2) := by decide +kernel
theorem dX1_spanByTurns_32 : decode cX1_spanByTurns 32 = .ok (.iconst 0, 1) := by decide +kernel
theorem dX1_spanByTurns_33 : decode cX1_spanByTurns 33 = .ok (.istore 6, 2) := by decide +kernel
theorem dX1_spanByTurns_35 : decode cX1_spanByTurns 35 = .ok (.iconst 0, 1) := by decide +kernel
theorem dX1_spanByTurns_36 : decode cX1_spanByTurns 36 = .ok (.istore 7, 2) := by decide +kernel
theorem dX1_spanByTurns_38 : decode cX1_spanByTurns 38 = .ok (.iload 7, 2) := by decide +kernel
theorem dX1_spanByTurns_40 : decode cX1_spanByTurns 40 = .ok (.aload_n 0, 1) := by decide +kernel
theorem dX1_spanByTurns_41 : decode cX1_spanByTurns 41 = .ok (.getfield 35, 3) := by decide +kernel
theorem dX1_spanByTurns_44 : decode cX1_spanByTurns 44 = .ok (.getfield 83, 3) := by decide +kernel
theorem dX1_spanByTurns_47 : decode cX1_spanByTurns 47 = .ok (.if_icmp .ge 81, 3) := by decide +kernel
theorem dX1_spanByTurns_50 : decode cX1_spanByTurns 50 = .ok (.iload_n 2, 1) := by decide +kernel
theorem dX1_spanByTurns_51 : decode cX1_spanByTurns 51 = .ok (.iload_n 1, 1) := by decide +kernel
theorem dX1_spanByTurns_52 : decode cX1_spanByTurns 52 = .ok (.iconst 1, 1) := by decide +kernel
theorem dX1_spanByTurns_53 : decode cX1_spanByTurns 53 = .ok (.isub, 1) := by decide +kernel
theorem dX1_spanByTurns_54 : decode cX1_spanByTurns 54 = .ok (.if_icmp .ne 15, 3) := by decide +kernel
theorem dX1_spanByTurns_57 : decode cX1_spanByTurns 57 = .ok (.aload_n 0, 1) := by decide +kernel
theorem dX1_spanByTurns_58 : decode cX1_spanByTurns 58 = .ok (.iload_n 2, 1) := by decide +kernel
theorem dX1_spanByTurns_59 : decode cX1_spanByTurns 59 = .ok (.iload 7, 2) := by decide +kernel
theorem dX1_spanByTurns_61 : decode cX1_spanByTurns 61 = .ok (.invokevirtual 87, 3) := by decide +kernel
theorem dX1_spanByTurns_64 : decode cX1_spanByTurns 64 = .ok (.lstore 8, 2) := by decide +kernel
theorem dX1_spanByTurns_66 : decode cX1_spanByTurns 66 = .ok (.goto 20, 3) := by decide +kernel
theorem dX1_spanByTurns_69 : decode cX1_spanByTurns 69 = .ok (.aload_n 0, 1) := by decide +kernel
theorem dX1_spanByTurns_70 : decode cX1_spanByTurns 70 = .ok (.iload_n 2, 1) := by decide +kernel
theorem dX1_spanByTurns_71 : decode cX1_spanByTurns 71 = .ok (.iload 7, 2) := by decide +kernel
theorem dX1_spanByTurns_73 : decode cX1_spanByTurns 73 = .ok (.invokevirtual 91, 3) := by decide +kernel
theorem dX1_spanByTurns_76 : decode cX1_spanByTurns 76 = .ok (.aload_n 0, 1) := by decide +kernel
theorem dX1_spanByTurns_77 : decode cX1_spanByTurns 77 = .ok (.iload_n 1, 1) := by decide +kernel
theorem dX1_spanByTurns_78 : decode cX1_spanByTurns 78 = .ok (.iload_n 2, 1) := by decide +kernel
theorem dX1_spanByTurns_79 : decode cX1_spanByTurns 79 = .ok (.iconst 1, 1) := by decide +kernel
theorem dX1_spanByTurns_80 : decode cX1_spanByTurns 80 = .ok (.iadd, 1) := by decide +kernel
theorem dX1_spanByTurns_81 : decode cX1_spanByTurns 81 = .ok (.invokevirtual 135, 3) := by decide +kernel
theorem dX1_spanByTurns_84 : decode cX1_spanByTurns 84 = .ok (.lstore 8, 2) := by decide +kernel
theorem dX1_spanByTurns_86 : decode cX1_spanByTurns 86 = .ok (.iload 7, 2) := by decide +kernel
theorem dX1_spanByTurns_88 : decode cX1_spanByTurns 88 = .ok (.ifCond .eq 26, 3) := by decide +kernel
theorem dX1_spanByTurns_91 : decode cX1_spanByTurns 91 = .ok (.iload_n 3, 1) := by decide +kernel
theorem dX1_spanByTurns_92 : decode cX1_spanByTurns 92 = .ok (.ifCond .eq 14, 3) := by decide +kernel
theorem dX1_spanByTurns_95 : decode cX1_spanByTurns 95 = .ok (.lload 8, 2) := by decide +kernel
theorem dX1_spanByTurns_97 : decode cX1_spanByTurns 97 = .ok (.lload 4, 2) := by decide +kernel
theorem dX1_spanByTurns_99 : decode cX1_spanByTurns 99 = .ok (.lcmp, 1) := by decide +kernel
theorem dX1_spanByTurns_100 : decode cX1_spanByTurns 100 = .ok (.ifCond .le 22, 3) := by decide +kernel
theorem dX1_spanByTurns_103 : decode cX1_spanByTurns 103 = .ok (.goto 11, 3) := by decide +kernel
theorem dX1_spanByTurns_106 : decode cX1_spanByTurns 106 = .ok (.lload 8, 2) := by decide +kernel
theorem dX1_spanByTurns_108 : decode cX1_spanByTurns 108 = .ok (.lload 4, 2) := by decide +kernel
theorem dX1_spanByTurns_110 : decode cX1_spanByTurns 110 = .ok (.lcmp, 1) := by decide +kernel
theorem dX1_spanByTurns_111 : decode cX1_spanByTurns 111 = .ok (.ifCond .ge 11, 3) := by decide +kernel
theorem dX1_spanByTurns_114 : decode cX1_spanByTurns 114 = .ok (.lload 8, 2) := by decide +kernel
theorem dX1_spanByTurns_116 : decode cX1_spanByTurns 116 = .ok (.lstore 4, 2) := by decide +kernel
theorem dX1_spanByTurns_118 : decode cX1_spanByTurns 118 = .ok (.iload 7, 2) := by decide +kernel
theorem dX1_spanByTurns_120 : decode cX1_spanByTurns 120 = .ok (.istore 6, 2) := by decide +kernel
theorem dX1_spanByTurns_122 : decode cX1_spanByTurns 122 = .ok (.iinc 7 1, 3) := by decide +kernel
theorem dX1_spanByTurns_125 : decode cX1_spanByTurns 125 = .ok (.goto (-87), 3) := by decide +kernel
theorem dX1_spanByTurns_128 : decode cX1_spanByTurns 128 = .ok (.aload_n 0, 1) := by decide +kernel
theorem dX1_spanByTurns_129 : decode cX1_spanByTurns 129 = .ok (.getfield 15, 3) := by decide +kernel
theorem dX1_spanByTurns_132 : decode cX1_spanByTurns 132 = .ok (.iload_n 2, 1) := by decide +kernel
theorem dX1_spanByTurns_133 : decode cX1_spanByTurns 133 = .ok (.iload 6, 2) := by decide +kernel
theorem dX1_spanByTurns_135 : decode cX1_spanByTurns 135 = .ok (.iastore, 1) := by decide +kernel
theorem dX1_spanByTurns_136 : decode cX1_spanByTurns 136 = .ok (.lload 4, 2) := by decide +kernel
theorem dX1_spanByTurns_138 : decode cX1_spanByTurns 138 = .ok (.lreturn, 1) := by decide +kernel
theorem dX1_rowsInAll_0 : decode cX1_rowsInAll 0 = .ok (.lconst 1, 1) := by decide +kernel
theorem dX1_rowsInAll_1 : decode cX1_rowsInAll 1 = .ok (.lstore_n 3, 1) := by decide +kernel
theorem dX1_rowsInAll_2 : decode cX1_rowsInAll 2 = .ok (.iconst 0, 1) := by decide +kernel
theorem dX1_rowsInAll_3 : decode cX1_rowsInAll 3 = .ok (.istore 5, 2) := by decide +kernel
theorem dX1_rowsInAll_5 : decode cX1_rowsInAll 5 = .ok (.iload 5, 2) := by decide +kernel
theorem dX1_rowsInAll_7 : decode cX1_rowsInAll 7 = .ok (.iload_n 2, 1) := by decide +kernel
theorem dX1_rowsInAll_8 : decode cX1_rowsInAll 8 = .ok (.if_icmp .ge 20, 3) := by decide +kernel
theorem dX1_rowsInAll_11 : decode cX1_rowsInAll 11 = .ok (.lload_n 3, 1) := by decide +kernel
theorem dX1_rowsInAll_12 : decode cX1_rowsInAll 12 = .ok (.aload_n 1, 1) := by decide +kernel
theorem dX1_rowsInAll_13 : decode cX1_rowsInAll 13 = .ok (.getfield 39, 3) := by decide +kernel
theorem dX1_rowsInAll_16 : decode cX1_rowsInAll 16 = .ok (.getfield 83, 3) := by decide +kernel
theorem dX1_rowsInAll_19 : decode cX1_rowsInAll 19 = .ok (.i2l, 1) := by decide +kernel
theorem dX1_rowsInAll_20 : decode cX1_rowsInAll 20 = .ok (.lmul, 1) := by decide +kernel
theorem dX1_rowsInAll_21 : decode cX1_rowsInAll 21 = .ok (.lstore_n 3, 1) := by decide +kernel
theorem dX1_rowsInAll_22 : decode cX1_rowsInAll 22 = .ok (.iinc 5 1, 3) := by decide +kernel
theorem dX1_rowsInAll_25 : decode cX1_rowsInAll 25 = .ok (.goto (-20), 3) := by decide +kernel
theorem dX1_rowsInAll_28 : decode cX1_rowsInAll 28 = .ok (.lload_n 3, 1) := by decide +kernel
theorem dX1_rowsInAll_29 : decode cX1_rowsInAll 29 = .ok (.lreturn, 1) := by decide +kernel
theorem dX1_rowsOfNothing_0 : decode cX1_rowsOfNothing 0 = .ok (.aload_n 0, 1) := by decide +kernel
theorem dX1_rowsOfNothing_1 : decode cX1_rowsOfNothing 1 = .ok (.getfield 29, 3) := by decide +kernel
theorem dX1_rowsOfNothing_4 : decode cX1_rowsOfNothing 4 = .ok (.iconst 0, 1) := by decide +kernel
theorem dX1_rowsOfNothing_5 : decode cX1_rowsOfNothing 5 = .ok (.invokestatic 102, 3) := by decide +kernel
theorem dX1_rowsOfNothing_8 : decode cX1_rowsOfNothing 8 = .ok (.aload_n 0, 1) := by decide +kernel
theorem dX1_rowsOfNothing_9 : decode cX1_rowsOfNothing 9 = .ok (.getfield 29, 3) := by decide +kernel
theorem dX1_rowsOfNothing_12 : decode cX1_rowsOfNothing 12 = .ok (.aload_n 1, 1) := by decide +kernel
theorem dX1_rowsOfNothing_13 : decode cX1_rowsOfNothing 13 = .ok (.invokevirtual 138, 3) := by decide +kernel
theorem dX1_rowsOfNothing_16 : decode cX1_rowsOfNothing 16 = .ok (.iconst 1, 1) := by decide +kernel
theorem dX1_rowsOfNothing_17 : decode cX1_rowsOfNothing 17 = .ok (.iastore, 1) := by decide +kernel
theorem dX1_rowsOfNothing_18 : decode cX1_rowsOfNothing 18 = .ok (.iconst 0, 1) := by decide +kernel
theorem dX1_rowsOfNothing_19 : decode cX1_rowsOfNothing 19 = .ok (.istore_n 3, 1) := by decide +kernel
theorem dX1_rowsOfNothing_20 : decode cX1_rowsOfNothing 20 = .ok (.iload_n 3, 1) := by decide +kernel
theorem dX1_rowsOfNothing_21 : decode cX1_rowsOfNothing 21 = .ok (.iload_n 2, 1) := by decide +kernel
theorem dX1_rowsOfNothing_22 : decode cX1_rowsOfNothing 22 = .ok (.if_icmp .ge 76, 3) := by decide +kernel
theorem dX1_rowsOfNothing_25 : decode cX1_rowsOfNothing 25 = .ok (.aload_n 0, 1) := by decide +kernel
theorem dX1_rowsOfNothing_26 : decode cX1_rowsOfNothing 26 = .ok (.getfield 32, 3) := by decide +kernel
theorem dX1_rowsOfNothing_29 : decode cX1_rowsOfNothing 29 = .ok (.iconst 0, 1) := by decide +kernel
theorem dX1_rowsOfNothing_30 : decode cX1_rowsOfNothing 30 = .ok (.invokestatic 102, 3) := by decide +kernel
theorem dX1_rowsOfNothing_33 : decode cX1_rowsOfNothing 33 = .ok (.iconst 0, 1) := by decide +kernel
theorem dX1_rowsOfNothing_34 : decode cX1_rowsOfNothing 34 = .ok (.istore 4, 2) := by decide +kernel
theorem dX1_rowsOfNothing_36 : decode cX1_rowsOfNothing 36 = .ok (.iload 4, 2) := by decide +kernel
theorem dX1_rowsOfNothing_38 : decode cX1_rowsOfNothing 38 = .ok (.aload_n 0, 1) := by decide +kernel
theorem dX1_rowsOfNothing_39 : decode cX1_rowsOfNothing 39 = .ok (.getfield 29, 3) := by decide +kernel
theorem dX1_rowsOfNothing_42 : decode cX1_rowsOfNothing 42 = .ok (.arraylength, 1) := by decide +kernel
theorem dX1_rowsOfNothing_43 : decode cX1_rowsOfNothing 43 = .ok (.if_icmp .ge 29, 3) := by decide +kernel
theorem dX1_rowsOfNothing_46 : decode cX1_rowsOfNothing 46 = .ok (.aload_n 0, 1) := by decide +kernel
theorem dX1_rowsOfNothing_47 : decode cX1_rowsOfNothing 47 = .ok (.getfield 29, 3) := by decide +kernel
theorem dX1_rowsOfNothing_50 : decode cX1_rowsOfNothing 50 = .ok (.iload 4, 2) := by decide +kernel
theorem dX1_rowsOfNothing_52 : decode cX1_rowsOfNothing 52 = .ok (.iaload, 1) := by decide +kernel
theorem dX1_rowsOfNothing_53 : decode cX1_rowsOfNothing 53 = .ok (.ifCond .eq 13, 3) := by decide +kernel
theorem dX1_rowsOfNothing_56 : decode cX1_rowsOfNothing 56 = .ok (.aload_n 0, 1) := by decide +kernel
theorem dX1_rowsOfNothing_57 : decode cX1_rowsOfNothing 57 = .ok (.aload_n 1, 1) := by decide +kernel
theorem dX1_rowsOfNothing_58 : decode cX1_rowsOfNothing 58 = .ok (.getfield 39, 3) := by decide +kernel
theorem dX1_rowsOfNothing_61 : decode cX1_rowsOfNothing 61 = .ok (.iload 4, 2) := by decide +kernel
theorem dX1_rowsOfNothing_63 : decode cX1_rowsOfNothing 63 = .ok (.invokevirtual 142, 3) := by decide +kernel
theorem dX1_rowsOfNothing_66 : decode cX1_rowsOfNothing 66 = .ok (.iinc 4 1, 3) := by decide +kernel
theorem dX1_rowsOfNothing_69 : decode cX1_rowsOfNothing 69 = .ok (.goto (-33), 3) := by decide +kernel
theorem dX1_rowsOfNothing_72 : decode cX1_rowsOfNothing 72 = .ok (.aload_n 0, 1) := by decide +kernel
theorem dX1_rowsOfNothing_73 : decode cX1_rowsOfNothing 73 = .ok (.getfield 29, 3) := by decide +kernel
theorem dX1_rowsOfNothing_76 : decode cX1_rowsOfNothing 76 = .ok (.astore 4, 2) := by decide +kernel
theorem dX1_rowsOfNothing_78 : decode cX1_rowsOfNothing 78 = .ok (.aload_n 0, 1) := by decide +kernel
theorem dX1_rowsOfNothing_79 : decode cX1_rowsOfNothing 79 = .ok (.aload_n 0, 1) := by decide +kernel
theorem dX1_rowsOfNothing_80 : decode cX1_rowsOfNothing 80 = .ok (.getfield 32, 3) := by decide +kernel
theorem dX1_rowsOfNothing_83 : decode cX1_rowsOfNothing 83 = .ok (.putfield 29, 3) := by decide +kernel
theorem dX1_rowsOfNothing_86 : decode cX1_rowsOfNothing 86 = .ok (.aload_n 0, 1) := by decide +kernel
theorem dX1_rowsOfNothing_87 : decode cX1_rowsOfNothing 87 = .ok (.aload 4, 2) := by decide +kernel
theorem dX1_rowsOfNothing_89 : decode cX1_rowsOfNothing 89 = .ok (.putfield 32, 3) := by decide +kernel
theorem dX1_rowsOfNothing_92 : decode cX1_rowsOfNothing 92 = .ok (.iinc 3 1, 3) := by decide +kernel
theorem dX1_rowsOfNothing_95 : decode cX1_rowsOfNothing 95 = .ok (.goto (-75), 3) := by decide +kernel
theorem dX1_rowsOfNothing_98 : decode cX1_rowsOfNothing 98 = .ok (.aload_n 0, 1) := by decide +kernel
theorem dX1_rowsOfNothing_99 : decode cX1_rowsOfNothing 99 = .ok (.getfield 29, 3) := by decide +kernel
theorem dX1_rowsOfNothing_102 : decode cX1_rowsOfNothing 102 = .ok (.iconst 0, 1) := by decide +kernel
theorem dX1_rowsOfNothing_103 : decode cX1_rowsOfNothing 103 = .ok (.iaload, 1) := by decide +kernel
theorem dX1_rowsOfNothing_104 : decode cX1_rowsOfNothing 104 = .ok (.i2l, 1) := by decide +kernel
theorem dX1_rowsOfNothing_105 : decode cX1_rowsOfNothing 105 = .ok (.lreturn, 1) := by decide +kernel
theorem dX1_spreadWays_0 : decode cX1_spreadWays 0 = .ok (.iconst 0, 1) := by decide +kernel
theorem dX1_spreadWays_1 : decode cX1_spreadWays 1 = .ok (.istore_n 3, 1) := by decide +kernel
theorem dX1_spreadWays_2 : decode cX1_spreadWays 2 = .ok (.iload_n 3, 1) := by decide +kernel
theorem dX1_spreadWays_3 : decode cX1_spreadWays 3 = .ok (.aload_n 1, 1) := by decide +kernel
theorem dX1_spreadWays_4 : decode cX1_spreadWays 4 = .ok (.getfield 83, 3) := by decide +kernel
theorem dX1_spreadWays_7 : decode cX1_spreadWays 7 = .ok (.if_icmp .ge 29, 3) := by decide +kernel
theorem dX1_spreadWays_10 : decode cX1_spreadWays 10 = .ok (.aload_n 0, 1) := by decide +kernel
theorem dX1_spreadWays_11 : decode cX1_spreadWays 11 = .ok (.getfield 32, 3) := by decide +kernel
theorem dX1_spreadWays_14 : decode cX1_spreadWays 14 = .ok (.aload_n 1, 1) := by decide +kernel
theorem dX1_spreadWays_15 : decode cX1_spreadWays 15 = .ok (.iload_n 3, 1) := by decide +kernel
theorem dX1_spreadWays_16 : decode cX1_spreadWays 16 = .ok (.iload_n 2, 1) := by decide +kernel
theorem dX1_spreadWays_17 : decode cX1_spreadWays 17 = .ok (.invokevirtual 146, 3) := by decide +kernel
theorem dX1_spreadWays_20 : decode cX1_spreadWays 20 = .ok (.dup2, 1) := by decide +kernel
theorem dX1_spreadWays_21 : decode cX1_spreadWays 21 = .ok (.iaload, 1) := by decide +kernel
theorem dX1_spreadWays_22 : decode cX1_spreadWays 22 = .ok (.aload_n 0, 1) := by decide +kernel
theorem dX1_spreadWays_23 : decode cX1_spreadWays 23 = .ok (.getfield 29, 3) := by decide +kernel
theorem dX1_spreadWays_26 : decode cX1_spreadWays 26 = .ok (.iload_n 2, 1) := by decide +kernel
theorem dX1_spreadWays_27 : decode cX1_spreadWays 27 = .ok (.iaload, 1) := by decide +kernel
theorem dX1_spreadWays_28 : decode cX1_spreadWays 28 = .ok (.iadd, 1) := by decide +kernel
theorem dX1_spreadWays_29 : decode cX1_spreadWays 29 = .ok (.iastore, 1) := by decide +kernel
theorem dX1_spreadWays_30 : decode cX1_spreadWays 30 = .ok (.iinc 3 1, 3) := by decide +kernel
theorem dX1_spreadWays_33 : decode cX1_spreadWays 33 = .ok (.goto (-31), 3) := by decide +kernel
theorem dX1_spreadWays_36 : decode cX1_spreadWays 36 = .ok (.return_, 1) := by decide +kernel
theorem dX1_spanOfAllRows_0 : decode cX1_spanOfAllRows 0 = .ok (.aload_n 0, 1) := by decide +kernel
theorem dX1_spanOfAllRows_1 : decode cX1_spanOfAllRows 1 = .ok (.aload_n 1, 1) := by decide +kernel
theorem dX1_spanOfAllRows_2 : decode cX1_spanOfAllRows 2 = .ok (.invokevirtual 71, 3) := by decide +kernel
theorem dX1_spanOfAllRows_5 : decode cX1_spanOfAllRows 5 = .ok (.iload_n 2, 1) := by decide +kernel
theorem dX1_spanOfAllRows_6 : decode cX1_spanOfAllRows 6 = .ok (.bipush 8, 2) := by decide +kernel
theorem dX1_spanOfAllRows_8 : decode cX1_spanOfAllRows 8 = .ok (.invokestatic 150, 3) := by decide +kernel
theorem dX1_spanOfAllRows_11 : decode cX1_spanOfAllRows 11 = .ok (.istore_n 3, 1) := by decide +kernel
theorem dX1_spanOfAllRows_12 : decode cX1_spanOfAllRows 12 = .ok (.iconst 0, 1) := by decide +kernel
theorem dX1_spanOfAllRows_13 : decode cX1_spanOfAllRows 13 = .ok (.istore 4, 2) := by decide +kernel
theorem dX1_spanOfAllRows_15 : decode cX1_spanOfAllRows 15 = .ok (.iload 4, 2) := by decide +kernel
theorem dX1_spanOfAllRows_17 : decode cX1_spanOfAllRows 17 = .ok (.iload_n 3, 1) := by decide +kernel
theorem dX1_spanOfAllRows_18 : decode cX1_spanOfAllRows 18 = .ok (.if_icmp .ge 46, 3) := by decide +kernel
theorem dX1_spanOfAllRows_21 : decode cX1_spanOfAllRows 21 = .ok (.aload_n 0, 1) := by decide +kernel
theorem dX1_spanOfAllRows_22 : decode cX1_spanOfAllRows 22 = .ok (.iload 4, 2) := by decide +kernel
theorem dX1_spanOfAllRows_24 : decode cX1_spanOfAllRows 24 = .ok (.iconst 1, 1) := by decide +kernel
theorem dX1_spanOfAllRows_25 : decode cX1_spanOfAllRows 25 = .ok (.iadd, 1) := by decide +kernel
theorem dX1_spanOfAllRows_26 : decode cX1_spanOfAllRows 26 = .ok (.invokevirtual 63, 3) := by decide +kernel
theorem dX1_spanOfAllRows_29 : decode cX1_spanOfAllRows 29 = .ok (.iconst 0, 1) := by decide +kernel
theorem dX1_spanOfAllRows_30 : decode cX1_spanOfAllRows 30 = .ok (.istore 5, 2) := by decide +kernel
theorem dX1_spanOfAllRows_32 : decode cX1_spanOfAllRows 32 = .ok (.iload 5, 2) := by decide +kernel
theorem dX1_spanOfAllRows_34 : decode cX1_spanOfAllRows 34 = .ok (.aload_n 0, 1) := by decide +kernel
theorem dX1_spanOfAllRows_35 : decode cX1_spanOfAllRows 35 = .ok (.getfield 35, 3) := by decide +kernel
theorem dX1_spanOfAllRows_38 : decode cX1_spanOfAllRows 38 = .ok (.getfield 83, 3) := by decide +kernel
theorem dX1_spanOfAllRows_41 : decode cX1_spanOfAllRows 41 = .ok (.if_icmp .ge 17, 3) := by decide +kernel
theorem dX1_spanOfAllRows_44 : decode cX1_spanOfAllRows 44 = .ok (.aload_n 0, 1) := by decide +kernel
theorem dX1_spanOfAllRows_45 : decode cX1_spanOfAllRows 45 = .ok (.iload 4, 2) := by decide +kernel
theorem dX1_spanOfAllRows_47 : decode cX1_spanOfAllRows 47 = .ok (.iload 5, 2) := by decide +kernel
theorem dX1_spanOfAllRows_49 : decode cX1_spanOfAllRows 49 = .ok (.invokevirtual 67, 3) := by decide +kernel
theorem dX1_spanOfAllRows_52 : decode cX1_spanOfAllRows 52 = .ok (.iinc 5 1, 3) := by decide +kernel
theorem dX1_spanOfAllRows_55 : decode cX1_spanOfAllRows 55 = .ok (.goto (-23), 3) := by decide +kernel
theorem dX1_spanOfAllRows_58 : decode cX1_spanOfAllRows 58 = .ok (.iinc 4 1, 3) := by decide +kernel
theorem dX1_spanOfAllRows_61 : decode cX1_spanOfAllRows 61 = .ok (.goto (-46), 3) := by decide +kernel
theorem dX1_spanOfAllRows_64 : decode cX1_spanOfAllRows 64 = .ok (.aload_n 0, 1) := by decide +kernel
theorem dX1_spanOfAllRows_65 : decode cX1_spanOfAllRows 65 = .ok (.iload_n 3, 1) := by decide +kernel
theorem dX1_spanOfAllRows_66 : decode cX1_spanOfAllRows 66 = .ok (.invokevirtual 79, 3) := by decide +kernel
theorem dX1_spanOfAllRows_69 : decode cX1_spanOfAllRows 69 = .ok (.lreturn, 1) := by decide +kernel
theorem dX5_init_0 : decode cX5_init 0 = .ok (.aload_n 0, 1) := by decide +kernel
theorem dX5_init_1 : decode cX5_init 1 = .ok (.invokespecial 3, 3) := by decide +kernel
theorem dX5_init_4 : decode cX5_init 4 = .ok (.aload_n 0, 1) := by decide +kernel
theorem dX5_init_5 : decode cX5_init 5 = .ok (.iconst 0, 1) := by decide +kernel
theorem dX5_init_6 : decode cX5_init 6 = .ok (.putfield 9, 3) := by decide +kernel
theorem dX5_init_9 : decode cX5_init 9 = .ok (.aload_n 0, 1) := by decide +kernel
theorem dX5_init_10 : decode cX5_init 10 = .ok (.iconst (-1), 1) := by decide +kernel
theorem dX5_init_11 : decode cX5_init 11 = .ok (.putfield 15, 3) := by decide +kernel
theorem dX5_init_14 : decode cX5_init 14 = .ok (.aload_n 0, 1) := by decide +kernel
theorem dX5_init_15 : decode cX5_init 15 = .ok (.iconst 0, 1) := by decide +kernel
theorem dX5_init_16 : decode cX5_init 16 = .ok (.newarray .byte, 2) := by decide +kernel
theorem dX5_init_18 : decode cX5_init 18 = .ok (.putfield 18, 3) := by decide +kernel
theorem dX5_init_21 : decode cX5_init 21 = .ok (.aload_n 0, 1) := by decide +kernel
theorem dX5_init_22 : decode cX5_init 22 = .ok (.iconst 1, 1) := by decide +kernel
theorem dX5_init_23 : decode cX5_init 23 = .ok (.newarray .int, 2) := by decide +kernel
theorem dX5_init_25 : decode cX5_init 25 = .ok (.putfield 22, 3) := by decide +kernel
theorem dX5_init_28 : decode cX5_init 28 = .ok (.aload_n 0, 1) := by decide +kernel
theorem dX5_init_29 : decode cX5_init 29 = .ok (.sipush 900, 3) := by decide +kernel
theorem dX5_init_32 : decode cX5_init 32 = .ok (.newarray .int, 2) := by decide +kernel
theorem dX5_init_34 : decode cX5_init 34 = .ok (.putfield 26, 3) := by decide +kernel
theorem dX5_init_37 : decode cX5_init 37 = .ok (.return_, 1) := by decide +kernel
theorem dX5_readTown_0 : decode cX5_readTown 0 = .ok (.aload_n 0, 1) := by decide +kernel
theorem dX5_readTown_1 : decode cX5_readTown 1 = .ok (.aload_n 1, 1) := by decide +kernel
theorem dX5_readTown_2 : decode cX5_readTown 2 = .ok (.putfield 18, 3) := by decide +kernel
theorem dX5_readTown_5 : decode cX5_readTown 5 = .ok (.aload_n 0, 1) := by decide +kernel
theorem dX5_readTown_6 : decode cX5_readTown 6 = .ok (.iload_n 2, 1) := by decide +kernel
theorem dX5_readTown_7 : decode cX5_readTown 7 = .ok (.aload_n 1, 1) := by decide +kernel
theorem dX5_readTown_8 : decode cX5_readTown 8 = .ok (.arraylength, 1) := by decide +kernel
theorem dX5_readTown_9 : decode cX5_readTown 9 = .ok (.invokestatic 29, 3) := by decide +kernel
theorem dX5_readTown_12 : decode cX5_readTown 12 = .ok (.putfield 35, 3) := by decide +kernel
theorem dX5_readTown_15 : decode cX5_readTown 15 = .ok (.aload_n 0, 1) := by decide +kernel
theorem dX5_readTown_16 : decode cX5_readTown 16 = .ok (.iconst 0, 1) := by decide +kernel
theorem dX5_readTown_17 : decode cX5_readTown 17 = .ok (.putfield 9, 3) := by decide +kernel
theorem dX5_readTown_20 : decode cX5_readTown 20 = .ok (.aload_n 0, 1) := by decide +kernel
theorem dX5_readTown_21 : decode cX5_readTown 21 = .ok (.iconst (-1), 1) := by decide +kernel
theorem dX5_readTown_22 : decode cX5_readTown 22 = .ok (.putfield 15, 3) := by decide +kernel
theorem dX5_readTown_25 : decode cX5_readTown 25 = .ok (.aload_n 0, 1) := by decide +kernel
theorem dX5_readTown_26 : decode cX5_readTown 26 = .ok (.iconst 0, 1) := by decide +kernel
theorem dX5_readTown_27 : decode cX5_readTown 27 = .ok (.putfield 38, 3) := by decide +kernel
theorem dX5_readTown_30 : decode cX5_readTown 30 = .ok (.aload_n 0, 1) := by decide +kernel
theorem dX5_readTown_31 : decode cX5_readTown 31 = .ok (.invokevirtual 41, 3) := by decide +kernel
theorem dX5_readTown_34 : decode cX5_readTown 34 = .ok (.new 44, 3) := by decide +kernel
theorem dX5_readTown_37 : decode cX5_readTown 37 = .ok (.dup, 1) := by decide +kernel
theorem dX5_readTown_38 : decode cX5_readTown 38 = .ok (.invokespecial 46, 3) := by decide +kernel
theorem dX5_readTown_41 : decode cX5_readTown 41 = .ok (.astore_n 3, 1) := by decide +kernel
theorem dX5_readTown_42 : decode cX5_readTown 42 = .ok (.aload_n 0, 1) := by decide +kernel
theorem dX5_readTown_43 : decode cX5_readTown 43 = .ok (.aload_n 3, 1) := by decide +kernel
theorem dX5_readTown_44 : decode cX5_readTown 44 = .ok (.invokevirtual 47, 3) := by decide +kernel
theorem dX5_readTown_47 : decode cX5_readTown 47 = .ok (.istore 4, 2) := by decide +kernel
theorem dX5_readTown_49 : decode cX5_readTown 49 = .ok (.iconst 0, 1) := by decide +kernel
theorem dX5_readTown_50 : decode cX5_readTown 50 = .ok (.istore 5, 2) := by decide +kernel
theorem dX5_readTown_52 : decode cX5_readTown 52 = .ok (.iload 5, 2) := by decide +kernel
theorem dX5_readTown_54 : decode cX5_readTown 54 = .ok (.aload_n 0, 1) := by decide +kernel
theorem dX5_readTown_55 : decode cX5_readTown 55 = .ok (.getfield 35, 3) := by decide +kernel
theorem dX5_readTown_58 : decode cX5_readTown 58 = .ok (.if_icmp .gt 28, 3) := by decide +kernel
theorem dX5_readTown_61 : decode cX5_readTown 61 = .ok (.iload 4, 2) := by decide +kernel
theorem dX5_readTown_63 : decode cX5_readTown 63 = .ok (.ifCond .eq 23, 3) := by decide +kernel
theorem dX5_readTown_66 : decode cX5_readTown 66 = .ok (.aload_n 0, 1) := by decide +kernel
theorem dX5_readTown_67 : decode cX5_readTown 67 = .ok (.getfield 51, 3) := by decide +kernel
theorem dX5_readTown_70 : decode cX5_readTown 70 = .ok (.ifCond .eq 16, 3) := by decide +kernel
theorem dX5_readTown_73 : decode cX5_readTown 73 = .ok (.aload_n 0, 1) := by decide +kernel
theorem dX5_readTown_74 : decode cX5_readTown 74 = .ok (.aload_n 3, 1) := by decide +kernel
theorem dX5_readTown_75 : decode cX5_readTown 75 = .ok (.invokevirtual 54, 3) := by decide +kernel
theorem dX5_readTown_78 : decode cX5_readTown 78 = .ok (.istore 4, 2) := by decide +kernel
theorem dX5_readTown_80 : decode cX5_readTown 80 = .ok (.iinc 5 1, 3) := by decide +kernel
theorem dX5_readTown_83 : decode cX5_readTown 83 = .ok (.goto (-31), 3) := by decide +kernel
theorem dX5_readTown_86 : decode cX5_readTown 86 = .ok (.iload 4, 2) := by decide +kernel
theorem dX5_readTown_88 : decode cX5_readTown 88 = .ok (.ifCond .eq 7, 3) := by decide +kernel
theorem dX5_readTown_91 : decode cX5_readTown 91 = .ok (.aload_n 3, 1) := by decide +kernel
theorem dX5_readTown_92 : decode cX5_readTown 92 = .ok (.goto 4, 3) := by decide +kernel
theorem dX5_readTown_95 : decode cX5_readTown 95 = .ok (.aconst_null, 1) := by decide +kernel
theorem dX5_readTown_96 : decode cX5_readTown 96 = .ok (.areturn, 1) := by decide +kernel
theorem dX5_readHead_0 : decode cX5_readHead 0 = .ok (.aload_n 0, 1) := by decide +kernel
theorem dX5_readHead_1 : decode cX5_readHead 1 = .ok (.ldc 57, 2) := by decide +kernel
theorem dX5_readHead_3 : decode cX5_readHead 3 = .ok (.invokevirtual 59, 3) := by decide +kernel
theorem dX5_readHead_6 : decode cX5_readHead 6 = .ok (.ifCond .eq 21, 3) := by decide +kernel
theorem dX5_readHead_9 : decode cX5_readHead 9 = .ok (.aload_n 0, 1) := by decide +kernel
theorem dX5_readHead_10 : decode cX5_readHead 10 = .ok (.ldc 63, 2) := by decide +kernel
theorem dX5_readHead_12 : decode cX5_readHead 12 = .ok (.invokevirtual 59, 3) := by decide +kernel
theorem dX5_readHead_15 : decode cX5_readHead 15 = .ok (.ifCond .eq 12, 3) := by decide +kernel
theorem dX5_readHead_18 : decode cX5_readHead 18 = .ok (.aload_n 0, 1) := by decide +kernel
theorem dX5_readHead_19 : decode cX5_readHead 19 = .ok (.iconst 1, 1) := by decide +kernel
theorem dX5_readHead_20 : decode cX5_readHead 20 = .ok (.iconst 3, 1) := by decide +kernel
theorem dX5_readHead_21 : decode cX5_readHead 21 = .ok (.invokevirtual 65, 3) := by decide +kernel
theorem dX5_readHead_24 : decode cX5_readHead 24 = .ok (.ifCond .ne 5, 3) := by decide +kernel
theorem dX5_readHead_27 : decode cX5_readHead 27 = .ok (.iconst 0, 1) := by decide +kernel
theorem dX5_readHead_28 : decode cX5_readHead 28 = .ok (.ireturn, 1) := by decide +kernel
theorem dX5_readHead_29 : decode cX5_readHead 29 = .ok (.aload_n 1, 1) := by decide +kernel
theorem dX5_readHead_30 : decode cX5_readHead 30 = .ok (.aload_n 0, 1) := by decide +kernel
theorem dX5_readHead_31 : decode cX5_readHead 31 = .ok (.getfield 69, 3) := by decide +kernel
theorem dX5_readHead_34 : decode cX5_readHead 34 = .ok (.putfield 72, 3) := by decide +kernel
theorem dX5_readHead_37 : decode cX5_readHead 37 = .ok (.aload_n 0, 1) := by decide +kernel
theorem dX5_readHead_38 : decode cX5_readHead 38 = .ok (.ldc 74, 2) := by decide +kernel
theorem dX5_readHead_40 : decode cX5_readHead 40 = .ok (.invokevirtual 59, 3) := by decide +kernel
theorem dX5_readHead_43 : decode cX5_readHead 43 = .ok (.ifCond .eq 13, 3) := by decide +kernel
theorem dX5_readHead_46 : decode cX5_readHead 46 = .ok (.aload_n 0, 1) := by decide +kernel
theorem dX5_readHead_47 : decode cX5_readHead 47 = .ok (.iconst 0, 1) := by decide +kernel
theorem dX5_readHead_48 : decode cX5_readHead 48 = .ok (.bipush 9, 2) := by decide +kernel
theorem dX5_readHead_50 : decode cX5_readHead 50 = .ok (.invokevirtual 65, 3) := by decide +kernel
theorem dX5_readHead_53 : decode cX5_readHead 53 = .ok (.ifCond .ne 5, 3) := by decide +kernel
theorem dX5_readHead_56 : decode cX5_readHead 56 = .ok (.iconst 0, 1) := by decide +kernel
theorem dX5_readHead_57 : decode cX5_readHead 57 = .ok (.ireturn, 1) := by decide +kernel
theorem dX5_readHead_58 : decode cX5_readHead 58 = .ok (.aload_n 1, 1) := by decide +kernel
theorem dX5_readHead_59 : decode cX5_readHead 59 = .ok (.aload_n 0, 1) := by decide +kernel
theorem dX5_readHead_60 : decode cX5_readHead 60 = .ok (.getfield 69, 3) := by decide +kernel
theorem dX5_readHead_63 : decode cX5_readHead 63 = .ok (.putfield 76, 3) := by decide +kernel
theorem dX5_readHead_66 : decode cX5_readHead 66 = .ok (.aload_n 1, 1) := by decide +kernel
theorem dX5_readHead_67 : decode cX5_readHead 67 = .ok (.iconst 1, 1) := by decide +kernel
theorem dX5_readHead_68 : decode cX5_readHead 68 = .ok (.putfield 78, 3) := by decide +kernel
theorem dX5_readHead_71 : decode cX5_readHead 71 = .ok (.aload_n 0, 1) := by decide +kernel
theorem dX5_readHead_72 : decode cX5_readHead 72 = .ok (.bipush 59, 2) := by decide +kernel
theorem dX5_readHead_74 : decode cX5_readHead 74 = .ok (.invokevirtual 81, 3) := by decide +kernel
theorem dX5_readHead_77 : decode cX5_readHead 77 = .ok (.ireturn, 1) := by decide +kernel
theorem dX5_readLine_0 : decode cX5_readLine 0 = .ok (.aload_n 0, 1) := by decide +kernel
theorem dX5_readLine_1 : decode cX5_readLine 1 = .ok (.ldc 85, 2) := by decide +kernel
theorem dX5_readLine_3 : decode cX5_readLine 3 = .ok (.invokevirtual 87, 3) := by decide +kernel
theorem dX5_readLine_6 : decode cX5_readLine 6 = .ok (.ifCond .eq 12, 3) := by decide +kernel
theorem dX5_readLine_9 : decode cX5_readLine 9 = .ok (.aload_n 0, 1) := by decide +kernel
theorem dX5_readLine_10 : decode cX5_readLine 10 = .ok (.aload_n 1, 1) := by decide +kernel
theorem dX5_readLine_11 : decode cX5_readLine 11 = .ok (.invokevirtual 90, 3) := by decide +kernel
theorem dX5_readLine_14 : decode cX5_readLine 14 = .ok (.istore_n 2, 1) := by decide +kernel
theorem dX5_readLine_15 : decode cX5_readLine 15 = .ok (.goto 123, 3) := by decide +kernel
theorem dX5_readLine_18 : decode cX5_readLine 18 = .ok (.aload_n 0, 1) := by decide +kernel
theorem dX5_readLine_19 : decode cX5_readLine 19 = .ok (.ldc 93, 2) := by decide +kernel
theorem dX5_readLine_21 : decode cX5_readLine 21 = .ok (.invokevirtual 87, 3) := by decide +kernel
theorem dX5_readLine_24 : decode cX5_readLine 24 = .ok (.ifCond .eq 12, 3) := by decide +kernel
theorem dX5_readLine_27 : decode cX5_readLine 27 = .ok (.aload_n 0, 1) := by decide +kernel
theorem dX5_readLine_28 : decode cX5_readLine 28 = .ok (.aload_n 1, 1) := by decide +kernel
theorem dX5_readLine_29 : decode cX5_readLine 29 = .ok (.invokevirtual 95, 3) := by decide +kernel
theorem dX5_readLine_32 : decode cX5_readLine 32 = .ok (.istore_n 2, 1) := by decide +kernel
theorem dX5_readLine_33 : decode cX5_readLine 33 = .ok (.goto 105, 3) := by decide +kernel
theorem dX5_readLine_36 : decode cX5_readLine 36 = .ok (.aload_n 0, 1) := by decide +kernel
theorem dX5_readLine_37 : decode cX5_readLine 37 = .ok (.ldc 98, 2) := by decide +kernel
theorem dX5_readLine_39 : decode cX5_readLine 39 = .ok (.invokevirtual 87, 3) := by decide +kernel
theorem dX5_readLine_42 : decode cX5_readLine 42 = .ok (.ifCond .eq 42, 3) := by decide +kernel
theorem dX5_readLine_45 : decode cX5_readLine 45 = .ok (.aload_n 0, 1) := by decide +kernel
theorem dX5_readLine_46 : decode cX5_readLine 46 = .ok (.invokevirtual 100, 3) := by decide +kernel
theorem dX5_readLine_49 : decode cX5_readLine 49 = .ok (.ifCond .eq 15, 3) := by decide +kernel
theorem dX5_readLine_52 : decode cX5_readLine 52 = .ok (.aload_n 0, 1) := by decide +kernel
theorem dX5_readLine_53 : decode cX5_readLine 53 = .ok (.iconst 0, 1) := by decide +kernel
theorem dX5_readLine_54 : decode cX5_readLine 54 = .ok (.invokevirtual 104, 3) := by decide +kernel
theorem dX5_readLine_57 : decode cX5_readLine 57 = .ok (.ifCond .eq 7, 3) := by decide +kernel
theorem dX5_readLine_60 : decode cX5_readLine 60 = .ok (.iconst 1, 1) := by decide +kernel
theorem dX5_readLine_61 : decode cX5_readLine 61 = .ok (.goto 4, 3) := by decide +kernel
theorem dX5_readLine_64 : decode cX5_readLine 64 = .ok (.iconst 0, 1) := by decide +kernel
theorem dX5_readLine_65 : decode cX5_readLine 65 = .ok (.istore_n 2, 1) := by decide +kernel
theorem dX5_readLine_66 : decode cX5_readLine 66 = .ok (.aload_n 1, 1) := by decide +kernel
theorem dX5_readLine_67 : decode cX5_readLine 67 = .ok (.aload_n 0, 1) := by decide +kernel
theorem dX5_readLine_68 : decode cX5_readLine 68 = .ok (.getfield 26, 3) := by decide +kernel
theorem dX5_readLine_71 : decode cX5_readLine 71 = .ok (.aload_n 0, 1) := by decide +kernel
theorem dX5_readLine_72 : decode cX5_readLine 72 = .ok (.getfield 108, 3) := by decide +kernel
theorem dX5_readLine_75 : decode cX5_readLine 75 = .ok (.invokestatic 111, 3) := by decide +kernel
theorem dX5_readLine_78 : decode cX5_readLine 78 = .ok (.putfield 117, 3) := by decide +kernel
theorem dX5_readLine_81 : decode cX5_readLine 81 = .ok (.goto 57, 3) := by decide +kernel
theorem dX5_readLine_84 : decode cX5_readLine 84 = .ok (.aload_n 0, 1) := by decide +kernel
theorem dX5_readLine_85 : decode cX5_readLine 85 = .ok (.ldc 120, 2) := by decide +kernel
theorem dX5_readLine_87 : decode cX5_readLine 87 = .ok (.invokevirtual 87, 3) := by decide +kernel
theorem dX5_readLine_90 : decode cX5_readLine 90 = .ok (.ifCond .eq 42, 3) := by decide +kernel
theorem dX5_readLine_93 : decode cX5_readLine 93 = .ok (.aload_n 0, 1) := by decide +kernel
theorem dX5_readLine_94 : decode cX5_readLine 94 = .ok (.invokevirtual 100, 3) := by decide +kernel
theorem dX5_readLine_97 : decode cX5_readLine 97 = .ok (.ifCond .eq 15, 3) := by decide +kernel
theorem dX5_readLine_100 : decode cX5_readLine 100 = .ok (.aload_n 0, 1) := by decide +kernel
theorem dX5_readLine_101 : decode cX5_readLine 101 = .ok (.iconst 0, 1) := by decide +kernel
theorem dX5_readLine_102 : decode cX5_readLine 102 = .ok (.invokevirtual 122, 3) := by decide +kernel
theorem dX5_readLine_105 : decode cX5_readLine 105 = .ok (.ifCond .eq 7, 3) := by decide +kernel
theorem dX5_readLine_108 : decode cX5_readLine 108 = .ok (.iconst 1, 1) := by decide +kernel
theorem dX5_readLine_109 : decode cX5_readLine 109 = .ok (.goto 4, 3) := by decide +kernel
theorem dX5_readLine_112 : decode cX5_readLine 112 = .ok (.iconst 0, 1) := by decide +kernel
theorem dX5_readLine_113 : decode cX5_readLine 113 = .ok (.istore_n 2, 1) := by decide +kernel
theorem dX5_readLine_114 : decode cX5_readLine 114 = .ok (.aload_n 1, 1) := by decide +kernel
theorem dX5_readLine_115 : decode cX5_readLine 115 = .ok (.aload_n 0, 1) := by decide +kernel
theorem dX5_readLine_116 : decode cX5_readLine 116 = .ok (.getfield 26, 3) := by decide +kernel
theorem dX5_readLine_119 : decode cX5_readLine 119 = .ok (.aload_n 0, 1) := by decide +kernel
theorem dX5_readLine_120 : decode cX5_readLine 120 = .ok (.getfield 108, 3) := by decide +kernel
theorem dX5_readLine_123 : decode cX5_readLine 123 = .ok (.invokestatic 111, 3) := by decide +kernel
theorem dX5_readLine_126 : decode cX5_readLine 126 = .ok (.putfield 125, 3) := by decide +kernel
theorem dX5_readLine_129 : decode cX5_readLine 129 = .ok (.goto 9, 3) := by decide +kernel
theorem dX5_readLine_132 : decode cX5_readLine 132 = .ok (.aload_n 0, 1) := by decide +kernel
theorem dX5_readLine_133 : decode cX5_readLine 133 = .ok (.iconst 2, 1) := by decide +kernel
theorem dX5_readLine_134 : decode cX5_readLine 134 = .ok (.invokevirtual 128, 3) := by decide +kernel
theorem dX5_readLine_137 : decode cX5_readLine 137 = .ok (.istore_n 2, 1) := by decide +kernel
theorem dX5_readLine_138 : decode cX5_readLine 138 = .ok (.aload_n 1, 1) := by decide +kernel
theorem dX5_readLine_139 : decode cX5_readLine 139 = .ok (.dup, 1) := by decide +kernel
theorem dX5_readLine_140 : decode cX5_readLine 140 = .ok (.getfield 78, 3) := by decide +kernel
theorem dX5_readLine_143 : decode cX5_readLine 143 = .ok (.iconst 1, 1) := by decide +kernel
theorem dX5_readLine_144 : decode cX5_readLine 144 = .ok (.iadd, 1) := by decide +kernel
theorem dX5_readLine_145 : decode cX5_readLine 145 = .ok (.putfield 78, 3) := by decide +kernel
theorem dX5_readLine_148 : decode cX5_readLine 148 = .ok (.iload_n 2, 1) := by decide +kernel
theorem dX5_readLine_149 : decode cX5_readLine 149 = .ok (.ifCond .eq 16, 3) := by decide +kernel
theorem dX5_readLine_152 : decode cX5_readLine 152 = .ok (.aload_n 0, 1) := by decide +kernel
theorem dX5_readLine_153 : decode cX5_readLine 153 = .ok (.bipush 59, 2) := by decide +kernel
theorem dX5_readLine_155 : decode cX5_readLine 155 = .ok (.invokevirtual 81, 3) := by decide +kernel
theorem dX5_readLine_158 : decode cX5_readLine 158 = .ok (.ifCond .eq 7, 3) := by decide +kernel
theorem dX5_readLine_161 : decode cX5_readLine 161 = .ok (.iconst 1, 1) := by decide +kernel
theorem dX5_readLine_162 : decode cX5_readLine 162 = .ok (.goto 4, 3) := by decide +kernel
theorem dX5_readLine_165 : decode cX5_readLine 165 = .ok (.iconst 0, 1) := by decide +kernel
theorem dX5_readLine_166 : decode cX5_readLine 166 = .ok (.ireturn, 1) := by decide +kernel
theorem dX5_readStands_0 : decode cX5_readStands 0 = .ok (.aload_n 0, 1) := by decide +kernel
theorem dX5_readStands_1 : decode cX5_readStands 1 = .ok (.invokevirtual 41, 3) := by decide +kernel
theorem dX5_readStands_4 : decode cX5_readStands 4 = .ok (.aload_n 0, 1) := by decide +kernel
theorem dX5_readStands_5 : decode cX5_readStands 5 = .ok (.bipush 12, 2) := by decide +kernel
theorem dX5_readStands_7 : decode cX5_readStands 7 = .ok (.aload_n 1, 1) := by decide +kernel
theorem dX5_readStands_8 : decode cX5_readStands 8 = .ok (.getfield 131, 3) := by decide +kernel
theorem dX5_readStands_11 : decode cX5_readStands 11 = .ok (.iconst 0, 1) := by decide +kernel
theorem dX5_readStands_12 : decode cX5_readStands 12 = .ok (.invokevirtual 133, 3) := by decide +kernel
theorem dX5_readStands_15 : decode cX5_readStands 15 = .ok (.ifCond .ne 5, 3) := by decide +kernel
theorem dX5_readStands_18 : decode cX5_readStands 18 = .ok (.iconst 0, 1) := by decide +kernel
theorem dX5_readStands_19 : decode cX5_readStands 19 = .ok (.ireturn, 1) := by decide +kernel
theorem dX5_readStands_20 : decode cX5_readStands 20 = .ok (.aload_n 1, 1) := by decide +kernel
theorem dX5_readStands_21 : decode cX5_readStands 21 = .ok (.aload_n 0, 1) := by decide +kernel
theorem dX5_readStands_22 : decode cX5_readStands 22 = .ok (.getfield 69, 3) := by decide +kernel
theorem dX5_readStands_25 : decode cX5_readStands 25 = .ok (.putfield 137, 3) := by decide +kernel
theorem dX5_readStands_28 : decode cX5_readStands 28 = .ok (.iconst 1, 1) := by decide +kernel
theorem dX5_readStands_29 : decode cX5_readStands 29 = .ok (.ireturn, 1) := by decide +kernel
theorem dX5_readRule_0 : decode cX5_readRule 0 = .ok (.aload_n 0, 1) := by decide +kernel
theorem dX5_readRule_1 : decode cX5_readRule 1 = .ok (.invokevirtual 41, 3) := by decide +kernel
theorem dX5_readRule_4 : decode cX5_readRule 4 = .ok (.aload_n 0, 1) := by decide +kernel
theorem dX5_readRule_5 : decode cX5_readRule 5 = .ok (.iconst 0, 1) := by decide +kernel
theorem dX5_readRule_6 : decode cX5_readRule 6 = .ok (.aload_n 1, 1) := by decide +kernel
theorem dX5_readRule_7 : decode cX5_readRule 7 = .ok (.getfield 72, 3) := by decide +kernel
theorem dX5_readRule_10 : decode cX5_readRule 10 = .ok (.iconst 1, 1) := by decide +kernel
theorem dX5_readRule_11 : decode cX5_readRule 11 = .ok (.isub, 1) := by decide +kernel
theorem dX5_readRule_12 : decode cX5_readRule 12 = .ok (.invokevirtual 65, 3) := by decide +kernel
theorem dX5_readRule_15 : decode cX5_readRule 15 = .ok (.ifCond .ne 5, 3) := by decide +kernel
theorem dX5_readRule_18 : decode cX5_readRule 18 = .ok (.iconst 0, 1) := by decide +kernel
theorem dX5_readRule_19 : decode cX5_readRule 19 = .ok (.ireturn, 1) := by decide +kernel
theorem dX5_readRule_20 : decode cX5_readRule 20 = .ok (.aload_n 0, 1) := by decide +kernel
theorem dX5_readRule_21 : decode cX5_readRule 21 = .ok (.getfield 69, 3) := by decide +kernel
theorem dX5_readRule_24 : decode cX5_readRule 24 = .ok (.istore_n 2, 1) := by decide +kernel
theorem dX5_readRule_25 : decode cX5_readRule 25 = .ok (.aload_n 0, 1) := by decide +kernel
theorem dX5_readRule_26 : decode cX5_readRule 26 = .ok (.iconst 1, 1) := by decide +kernel
theorem dX5_readRule_27 : decode cX5_readRule 27 = .ok (.aload_n 0, 1) := by decide +kernel
theorem dX5_readRule_28 : decode cX5_readRule 28 = .ok (.getfield 22, 3) := by decide +kernel
theorem dX5_readRule_31 : decode cX5_readRule 31 = .ok (.iconst 0, 1) := by decide +kernel
theorem dX5_readRule_32 : decode cX5_readRule 32 = .ok (.invokevirtual 133, 3) := by decide +kernel
theorem dX5_readRule_35 : decode cX5_readRule 35 = .ok (.ifCond .eq 12, 3) := by decide +kernel
theorem dX5_readRule_38 : decode cX5_readRule 38 = .ok (.aload_n 0, 1) := by decide +kernel
theorem dX5_readRule_39 : decode cX5_readRule 39 = .ok (.bipush 58, 2) := by decide +kernel
theorem dX5_readRule_41 : decode cX5_readRule 41 = .ok (.invokevirtual 81, 3) := by decide +kernel
theorem dX5_readRule_44 : decode cX5_readRule 44 = .ok (.ifCond .ne 5, 3) := by decide +kernel
theorem dX5_readRule_47 : decode cX5_readRule 47 = .ok (.iconst 0, 1) := by decide +kernel
theorem dX5_readRule_48 : decode cX5_readRule 48 = .ok (.ireturn, 1) := by decide +kernel
theorem dX5_readRule_49 : decode cX5_readRule 49 = .ok (.iload_n 2, 1) := by decide +kernel
theorem dX5_readRule_50 : decode cX5_readRule 50 = .ok (.bipush 6, 2) := by decide +kernel
theorem dX5_readRule_52 : decode cX5_readRule 52 = .ok (.imul, 1) := by decide +kernel
theorem dX5_readRule_53 : decode cX5_readRule 53 = .ok (.aload_n 0, 1) := by decide +kernel
theorem dX5_readRule_54 : decode cX5_readRule 54 = .ok (.getfield 22, 3) := by decide +kernel
theorem dX5_readRule_57 : decode cX5_readRule 57 = .ok (.iconst 0, 1) := by decide +kernel
theorem dX5_readRule_58 : decode cX5_readRule 58 = .ok (.iaload, 1) := by decide +kernel
theorem dX5_readRule_59 : decode cX5_readRule 59 = .ok (.iadd, 1) := by decide +kernel
theorem dX5_readRule_60 : decode cX5_readRule 60 = .ok (.istore_n 3, 1) := by decide +kernel
theorem dX5_readRule_61 : decode cX5_readRule 61 = .ok (.iload_n 3, 1) := by decide +kernel
theorem dX5_readRule_62 : decode cX5_readRule 62 = .ok (.ifCond .lt 12, 3) := by decide +kernel
theorem dX5_readRule_65 : decode cX5_readRule 65 = .ok (.iload_n 3, 1) := by decide +kernel
theorem dX5_readRule_66 : decode cX5_readRule 66 = .ok (.aload_n 1, 1) := by decide +kernel
theorem dX5_readRule_67 : decode cX5_readRule 67 = .ok (.getfield 140, 3) := by decide +kernel
theorem dX5_readRule_70 : decode cX5_readRule 70 = .ok (.arraylength, 1) := by decide +kernel
theorem dX5_readRule_71 : decode cX5_readRule 71 = .ok (.if_icmp .lt 9, 3) := by decide +kernel
theorem dX5_readRule_74 : decode cX5_readRule 74 = .ok (.aload_n 0, 1) := by decide +kernel
theorem dX5_readRule_75 : decode cX5_readRule 75 = .ok (.iconst 3, 1) := by decide +kernel
theorem dX5_readRule_76 : decode cX5_readRule 76 = .ok (.invokevirtual 128, 3) := by decide +kernel
theorem dX5_readRule_79 : decode cX5_readRule 79 = .ok (.ireturn, 1) := by decide +kernel
theorem dX5_readRule_80 : decode cX5_readRule 80 = .ok (.aload_n 0, 1) := by decide +kernel
theorem dX5_readRule_81 : decode cX5_readRule 81 = .ok (.ldc 143, 2) := by decide +kernel
theorem dX5_readRule_83 : decode cX5_readRule 83 = .ok (.invokevirtual 87, 3) := by decide +kernel
theorem dX5_readRule_86 : decode cX5_readRule 86 = .ok (.ifCond .eq 15, 3) := by decide +kernel
theorem dX5_readRule_89 : decode cX5_readRule 89 = .ok (.aload_n 0, 1) := by decide +kernel
theorem dX5_readRule_90 : decode cX5_readRule 90 = .ok (.invokevirtual 41, 3) := by decide +kernel
theorem dX5_readRule_93 : decode cX5_readRule 93 = .ok (.aload_n 0, 1) := by decide +kernel
theorem dX5_readRule_94 : decode cX5_readRule 94 = .ok (.iconst 0, 1) := by decide +kernel
theorem dX5_readRule_95 : decode cX5_readRule 95 = .ok (.putfield 69, 3) := by decide +kernel
theorem dX5_readRule_98 : decode cX5_readRule 98 = .ok (.goto 20, 3) := by decide +kernel
theorem dX5_readRule_101 : decode cX5_readRule 101 = .ok (.aload_n 0, 1) := by decide +kernel
theorem dX5_readRule_102 : decode cX5_readRule 102 = .ok (.iconst 4, 1) := by decide +kernel
theorem dX5_readRule_103 : decode cX5_readRule 103 = .ok (.aload_n 1, 1) := by decide +kernel
theorem dX5_readRule_104 : decode cX5_readRule 104 = .ok (.getfield 145, 3) := by decide +kernel
theorem dX5_readRule_107 : decode cX5_readRule 107 = .ok (.iload_n 3, 1) := by decide +kernel
theorem dX5_readRule_108 : decode cX5_readRule 108 = .ok (.iconst 4, 1) := by decide +kernel
theorem dX5_readRule_109 : decode cX5_readRule 109 = .ok (.imul, 1) := by decide +kernel
theorem dX5_readRule_110 : decode cX5_readRule 110 = .ok (.invokevirtual 133, 3) := by decide +kernel
theorem dX5_readRule_113 : decode cX5_readRule 113 = .ok (.ifCond .ne 5, 3) := by decide +kernel
theorem dX5_readRule_116 : decode cX5_readRule 116 = .ok (.iconst 0, 1) := by decide +kernel
theorem dX5_readRule_117 : decode cX5_readRule 117 = .ok (.ireturn, 1) := by decide +kernel
theorem dX5_readRule_118 : decode cX5_readRule 118 = .ok (.aload_n 1, 1) := by decide +kernel
theorem dX5_readRule_119 : decode cX5_readRule 119 = .ok (.getfield 140, 3) := by decide +kernel
theorem dX5_readRule_122 : decode cX5_readRule 122 = .ok (.iload_n 3, 1) := by decide +kernel
theorem dX5_readRule_123 : decode cX5_readRule 123 = .ok (.aload_n 0, 1) := by decide +kernel
theorem dX5_readRule_124 : decode cX5_readRule 124 = .ok (.getfield 69, 3) := by decide +kernel
theorem dX5_readRule_127 : decode cX5_readRule 127 = .ok (.iastore, 1) := by decide +kernel
theorem dX5_readRule_128 : decode cX5_readRule 128 = .ok (.iconst 1, 1) := by decide +kernel
theorem dX5_readRule_129 : decode cX5_readRule 129 = .ok (.ireturn, 1) := by decide +kernel
theorem dX5_openLaw_0 : decode cX5_openLaw 0 = .ok (.aload_n 0, 1) := by decide +kernel
theorem dX5_openLaw_1 : decode cX5_openLaw 1 = .ok (.invokevirtual 41, 3) := by decide +kernel
theorem dX5_openLaw_4 : decode cX5_openLaw 4 = .ok (.aload_n 0, 1) := by decide +kernel
theorem dX5_openLaw_5 : decode cX5_openLaw 5 = .ok (.iconst 0, 1) := by decide +kernel
theorem dX5_openLaw_6 : decode cX5_openLaw 6 = .ok (.putfield 108, 3) := by decide +kernel
theorem dX5_openLaw_9 : decode cX5_openLaw 9 = .ok (.aload_n 0, 1) := by decide +kernel
theorem dX5_openLaw_10 : decode cX5_openLaw 10 = .ok (.bipush 58, 2) := by decide +kernel
theorem dX5_openLaw_12 : decode cX5_openLaw 12 = .ok (.invokevirtual 81, 3) := by decide +kernel
theorem dX5_openLaw_15 : decode cX5_openLaw 15 = .ok (.ireturn, 1) := by decide +kernel
theorem dX5_readTruth_0 : decode cX5_readTruth 0 = .ok (.aload_n 0, 1) := by decide +kernel
theorem dX5_readTruth_1 : decode cX5_readTruth 1 = .ok (.iload_n 1, 1) := by decide +kernel
theorem dX5_readTruth_2 : decode cX5_readTruth 2 = .ok (.invokevirtual 148, 3) := by decide +kernel
theorem dX5_readTruth_5 : decode cX5_readTruth 5 = .ok (.istore_n 2, 1) := by decide +kernel
theorem dX5_readTruth_6 : decode cX5_readTruth 6 = .ok (.iconst 0, 1) := by decide +kernel
theorem dX5_readTruth_7 : decode cX5_readTruth 7 = .ok (.istore_n 3, 1) := by decide +kernel
theorem dX5_readTruth_8 : decode cX5_readTruth 8 = .ok (.iload_n 3, 1) := by decide +kernel
theorem dX5_readTruth_9 : decode cX5_readTruth 9 = .ok (.aload_n 0, 1) := by decide +kernel
theorem dX5_readTruth_10 : decode cX5_readTruth 10 = .ok (.getfield 35, 3) := by decide +kernel
theorem dX5_readTruth_13 : decode cX5_readTruth 13 = .ok (.if_icmp .ge 38, 3) := by decide +kernel
theorem dX5_readTruth_16 : decode cX5_readTruth 16 = .ok (.iload_n 2, 1) := by decide +kernel
theorem dX5_readTruth_17 : decode cX5_readTruth 17 = .ok (.ifCond .eq 34, 3) := by decide +kernel
theorem dX5_readTruth_20 : decode cX5_readTruth 20 = .ok (.aload_n 0, 1) := by decide +kernel
theorem dX5_readTruth_21 : decode cX5_readTruth 21 = .ok (.ldc 151, 2) := by decide +kernel
theorem dX5_readTruth_23 : decode cX5_readTruth 23 = .ok (.invokevirtual 87, 3) := by decide +kernel
theorem dX5_readTruth_26 : decode cX5_readTruth 26 = .ok (.ifCond .eq 25, 3) := by decide +kernel
theorem dX5_readTruth_29 : decode cX5_readTruth 29 = .ok (.aload_n 0, 1) := by decide +kernel
theorem dX5_readTruth_30 : decode cX5_readTruth 30 = .ok (.invokevirtual 41, 3) := by decide +kernel
theorem dX5_readTruth_33 : decode cX5_readTruth 33 = .ok (.aload_n 0, 1) := by decide +kernel
theorem dX5_readTruth_34 : decode cX5_readTruth 34 = .ok (.iload_n 1, 1) := by decide +kernel
theorem dX5_readTruth_35 : decode cX5_readTruth 35 = .ok (.invokevirtual 148, 3) := by decide +kernel
theorem dX5_readTruth_38 : decode cX5_readTruth 38 = .ok (.istore_n 2, 1) := by decide +kernel
theorem dX5_readTruth_39 : decode cX5_readTruth 39 = .ok (.aload_n 0, 1) := by decide +kernel
theorem dX5_readTruth_40 : decode cX5_readTruth 40 = .ok (.bipush (-19), 2) := by decide +kernel
theorem dX5_readTruth_42 : decode cX5_readTruth 42 = .ok (.invokevirtual 155, 3) := by decide +kernel
theorem dX5_readTruth_45 : decode cX5_readTruth 45 = .ok (.iinc 3 1, 3) := by decide +kernel
theorem dX5_readTruth_48 : decode cX5_readTruth 48 = .ok (.goto (-40), 3) := by decide +kernel
theorem dX5_readTruth_51 : decode cX5_readTruth 51 = .ok (.iload_n 2, 1) := by decide +kernel
theorem dX5_readTruth_52 : decode cX5_readTruth 52 = .ok (.ireturn, 1) := by decide +kernel
theorem dX5_readBoth_0 : decode cX5_readBoth 0 = .ok (.aload_n 0, 1) := by decide +kernel
theorem dX5_readBoth_1 : decode cX5_readBoth 1 = .ok (.iload_n 1, 1) := by decide +kernel
theorem dX5_readBoth_2 : decode cX5_readBoth 2 = .ok (.invokevirtual 159, 3) := by decide +kernel
theorem dX5_readBoth_5 : decode cX5_readBoth 5 = .ok (.istore_n 2, 1) := by decide +kernel
theorem dX5_readBoth_6 : decode cX5_readBoth 6 = .ok (.iconst 0, 1) := by decide +kernel
theorem dX5_readBoth_7 : decode cX5_readBoth 7 = .ok (.istore_n 3, 1) := by decide +kernel
theorem dX5_readBoth_8 : decode cX5_readBoth 8 = .ok (.iload_n 3, 1) := by decide +kernel
theorem dX5_readBoth_9 : decode cX5_readBoth 9 = .ok (.aload_n 0, 1) := by decide +kernel
theorem dX5_readBoth_10 : decode cX5_readBoth 10 = .ok (.getfield 35, 3) := by decide +kernel
theorem dX5_readBoth_13 : decode cX5_readBoth 13 = .ok (.if_icmp .ge 38, 3) := by decide +kernel
theorem dX5_readBoth_16 : decode cX5_readBoth 16 = .ok (.iload_n 2, 1) := by decide +kernel
theorem dX5_readBoth_17 : decode cX5_readBoth 17 = .ok (.ifCond .eq 34, 3) := by decide +kernel
theorem dX5_readBoth_20 : decode cX5_readBoth 20 = .ok (.aload_n 0, 1) := by decide +kernel
theorem dX5_readBoth_21 : decode cX5_readBoth 21 = .ok (.ldc 162, 2) := by decide +kernel
theorem dX5_readBoth_23 : decode cX5_readBoth 23 = .ok (.invokevirtual 87, 3) := by decide +kernel
theorem dX5_readBoth_26 : decode cX5_readBoth 26 = .ok (.ifCond .eq 25, 3) := by decide +kernel
theorem dX5_readBoth_29 : decode cX5_readBoth 29 = .ok (.aload_n 0, 1) := by decide +kernel
theorem dX5_readBoth_30 : decode cX5_readBoth 30 = .ok (.invokevirtual 41, 3) := by decide +kernel
theorem dX5_readBoth_33 : decode cX5_readBoth 33 = .ok (.aload_n 0, 1) := by decide +kernel
theorem dX5_readBoth_34 : decode cX5_readBoth 34 = .ok (.iload_n 1, 1) := by decide +kernel
theorem dX5_readBoth_35 : decode cX5_readBoth 35 = .ok (.invokevirtual 159, 3) := by decide +kernel
theorem dX5_readBoth_38 : decode cX5_readBoth 38 = .ok (.istore_n 2, 1) := by decide +kernel
theorem dX5_readBoth_39 : decode cX5_readBoth 39 = .ok (.aload_n 0, 1) := by decide +kernel
theorem dX5_readBoth_40 : decode cX5_readBoth 40 = .ok (.bipush (-18), 2) := by decide +kernel
theorem dX5_readBoth_42 : decode cX5_readBoth 42 = .ok (.invokevirtual 155, 3) := by decide +kernel
theorem dX5_readBoth_45 : decode cX5_readBoth 45 = .ok (.iinc 3 1, 3) := by decide +kernel
theorem dX5_readBoth_48 : decode cX5_readBoth 48 = .ok (.goto (-40), 3) := by decide +kernel
theorem dX5_readBoth_51 : decode cX5_readBoth 51 = .ok (.iload_n 2, 1) := by decide +kernel
theorem dX5_readBoth_52 : decode cX5_readBoth 52 = .ok (.ireturn, 1) := by decide +kernel
theorem dX5_readUnit_0 : decode cX5_readUnit 0 = .ok (.aload_n 0, 1) := by decide +kernel
theorem dX5_readUnit_1 : decode cX5_readUnit 1 = .ok (.ldc 164, 2) := by decide +kernel
theorem dX5_readUnit_3 : decode cX5_readUnit 3 = .ok (.invokevirtual 87, 3) := by decide +kernel
theorem dX5_readUnit_6 : decode cX5_readUnit 6 = .ok (.ifCond .eq 31, 3) := by decide +kernel
theorem dX5_readUnit_9 : decode cX5_readUnit 9 = .ok (.aload_n 0, 1) := by decide +kernel
theorem dX5_readUnit_10 : decode cX5_readUnit 10 = .ok (.iload_n 1, 1) := by decide +kernel
theorem dX5_readUnit_11 : decode cX5_readUnit 11 = .ok (.invokevirtual 166, 3) := by decide +kernel
theorem dX5_readUnit_14 : decode cX5_readUnit 14 = .ok (.ifCond .eq 13, 3) := by decide +kernel
theorem dX5_readUnit_17 : decode cX5_readUnit 17 = .ok (.aload_n 0, 1) := by decide +kernel
theorem dX5_readUnit_18 : decode cX5_readUnit 18 = .ok (.iload_n 1, 1) := by decide +kernel
theorem dX5_readUnit_19 : decode cX5_readUnit 19 = .ok (.iconst 1, 1) := by decide +kernel
theorem dX5_readUnit_20 : decode cX5_readUnit 20 = .ok (.iadd, 1) := by decide +kernel
theorem dX5_readUnit_21 : decode cX5_readUnit 21 = .ok (.invokevirtual 159, 3) := by decide +kernel
theorem dX5_readUnit_24 : decode cX5_readUnit 24 = .ok (.ifCond .ne 5, 3) := by decide +kernel
theorem dX5_readUnit_27 : decode cX5_readUnit 27 = .ok (.iconst 0, 1) := by decide +kernel
theorem dX5_readUnit_28 : decode cX5_readUnit 28 = .ok (.ireturn, 1) := by decide +kernel
theorem dX5_readUnit_29 : decode cX5_readUnit 29 = .ok (.aload_n 0, 1) := by decide +kernel
theorem dX5_readUnit_30 : decode cX5_readUnit 30 = .ok (.bipush (-10), 2) := by decide +kernel
theorem dX5_readUnit_32 : decode cX5_readUnit 32 = .ok (.invokevirtual 155, 3) := by decide +kernel
theorem dX5_readUnit_35 : decode cX5_readUnit 35 = .ok (.iconst 1, 1) := by decide +kernel
theorem dX5_readUnit_36 : decode cX5_readUnit 36 = .ok (.ireturn, 1) := by decide +kernel
theorem dX5_readUnit_37 : decode cX5_readUnit 37 = .ok (.aload_n 0, 1) := by decide +kernel
theorem dX5_readUnit_38 : decode cX5_readUnit 38 = .ok (.bipush 91, 2) := by decide +kernel
theorem dX5_readUnit_40 : decode cX5_readUnit 40 = .ok (.invokevirtual 169, 3) := by decide +kernel
theorem dX5_readUnit_43 : decode cX5_readUnit 43 = .ok (.ifCond .eq 36, 3) := by decide +kernel
theorem dX5_readUnit_46 : decode cX5_readUnit 46 = .ok (.aload_n 0, 1) := by decide +kernel
theorem dX5_readUnit_47 : decode cX5_readUnit 47 = .ok (.iload_n 1, 1) := by decide +kernel
theorem dX5_readUnit_48 : decode cX5_readUnit 48 = .ok (.invokevirtual 166, 3) := by decide +kernel
theorem dX5_readUnit_51 : decode cX5_readUnit 51 = .ok (.ifCond .eq 26, 3) := by decide +kernel
theorem dX5_readUnit_54 : decode cX5_readUnit 54 = .ok (.aload_n 0, 1) := by decide +kernel
theorem dX5_readUnit_55 : decode cX5_readUnit 55 = .ok (.iload_n 1, 1) := by decide +kernel
theorem dX5_readUnit_56 : decode cX5_readUnit 56 = .ok (.iconst 1, 1) := by decide +kernel
theorem dX5_readUnit_57 : decode cX5_readUnit 57 = .ok (.iadd, 1) := by decide +kernel
theorem dX5_readUnit_58 : decode cX5_readUnit 58 = .ok (.invokevirtual 122, 3) := by decide +kernel
theorem dX5_readUnit_61 : decode cX5_readUnit 61 = .ok (.ifCond .eq 16, 3) := by decide +kernel
theorem dX5_readUnit_64 : decode cX5_readUnit 64 = .ok (.aload_n 0, 1) := by decide +kernel
theorem dX5_readUnit_65 : decode cX5_readUnit 65 = .ok (.bipush 93, 2) := by decide +kernel
theorem dX5_readUnit_67 : decode cX5_readUnit 67 = .ok (.invokevirtual 81, 3) := by decide +kernel
theorem dX5_readUnit_70 : decode cX5_readUnit 70 = .ok (.ifCond .eq 7, 3) := by decide +kernel
theorem dX5_readUnit_73 : decode cX5_readUnit 73 = .ok (.iconst 1, 1) := by decide +kernel
theorem dX5_readUnit_74 : decode cX5_readUnit 74 = .ok (.goto 4, 3) := by decide +kernel
theorem dX5_readUnit_77 : decode cX5_readUnit 77 = .ok (.iconst 0, 1) := by decide +kernel
theorem dX5_readUnit_78 : decode cX5_readUnit 78 = .ok (.ireturn, 1) := by decide +kernel
theorem dX5_readUnit_79 : decode cX5_readUnit 79 = .ok (.aload_n 0, 1) := by decide +kernel
theorem dX5_readUnit_80 : decode cX5_readUnit 80 = .ok (.iload_n 1, 1) := by decide +kernel
theorem dX5_readUnit_81 : decode cX5_readUnit 81 = .ok (.invokevirtual 104, 3) := by decide +kernel
theorem dX5_readUnit_84 : decode cX5_readUnit 84 = .ok (.ifCond .ne 5, 3) := by decide +kernel
theorem dX5_readUnit_87 : decode cX5_readUnit 87 = .ok (.iconst 0, 1) := by decide +kernel
theorem dX5_readUnit_88 : decode cX5_readUnit 88 = .ok (.ireturn, 1) := by decide +kernel
theorem dX5_readUnit_89 : decode cX5_readUnit 89 = .ok (.aload_n 0, 1) := by decide +kernel
theorem dX5_readUnit_90 : decode cX5_readUnit 90 = .ok (.invokevirtual 172, 3) := by decide +kernel
theorem dX5_readUnit_93 : decode cX5_readUnit 93 = .ok (.istore_n 2, 1) := by decide +kernel
theorem dX5_readUnit_94 : decode cX5_readUnit 94 = .ok (.iload_n 2, 1) := by decide +kernel
theorem dX5_readUnit_95 : decode cX5_readUnit 95 = .ok (.ifCond .ne 9, 3) := by decide +kernel
theorem dX5_readUnit_98 : decode cX5_readUnit 98 = .ok (.aload_n 0, 1) := by decide +kernel
theorem dX5_readUnit_99 : decode cX5_readUnit 99 = .ok (.iconst 2, 1) := by decide +kernel
theorem dX5_readUnit_100 : decode cX5_readUnit 100 = .ok (.invokevirtual 128, 3) := by decide +kernel
theorem dX5_readUnit_103 : decode cX5_readUnit 103 = .ok (.ireturn, 1) := by decide +kernel
theorem dX5_readUnit_104 : decode cX5_readUnit 104 = .ok (.aload_n 0, 1) := by decide +kernel
theorem dX5_readUnit_105 : decode cX5_readUnit 105 = .ok (.invokevirtual 41, 3) := by decide +kernel
theorem dX5_readUnit_108 : decode cX5_readUnit 108 = .ok (.aload_n 0, 1) := by decide +kernel
theorem dX5_readUnit_109 : decode cX5_readUnit 109 = .ok (.iload_n 1, 1) := by decide +kernel
theorem dX5_readUnit_110 : decode cX5_readUnit 110 = .ok (.invokevirtual 104, 3) := by decide +kernel
theorem dX5_readUnit_113 : decode cX5_readUnit 113 = .ok (.ifCond .ne 5, 3) := by decide +kernel
theorem dX5_readUnit_116 : decode cX5_readUnit 116 = .ok (.iconst 0, 1) := by decide +kernel
theorem dX5_readUnit_117 : decode cX5_readUnit 117 = .ok (.ireturn, 1) := by decide +kernel
theorem dX5_readUnit_118 : decode cX5_readUnit 118 = .ok (.aload_n 0, 1) := by decide +kernel
theorem dX5_readUnit_119 : decode cX5_readUnit 119 = .ok (.iload_n 2, 1) := by decide +kernel
theorem dX5_readUnit_120 : decode cX5_readUnit 120 = .ok (.invokevirtual 155, 3) := by decide +kernel
theorem dX5_readUnit_123 : decode cX5_readUnit 123 = .ok (.iconst 1, 1) := by decide +kernel
theorem dX5_readUnit_124 : decode cX5_readUnit 124 = .ok (.ireturn, 1) := by decide +kernel
theorem dX5_lawOfComparison_0 : decode cX5_lawOfComparison 0 = .ok (.aload_n 0, 1) := by decide +kernel
theorem dX5_lawOfComparison_1 : decode cX5_lawOfComparison 1 = .ok (.bipush 61, 2) := by decide +kernel
theorem dX5_lawOfComparison_3 : decode cX5_lawOfComparison 3 = .ok (.invokevirtual 169, 3) := by decide +kernel
theorem dX5_lawOfComparison_6 : decode cX5_lawOfComparison 6 = .ok (.ifCond .eq 6, 3) := by decide +kernel
theorem dX5_lawOfComparison_9 : decode cX5_lawOfComparison 9 = .ok (.bipush (-15), 2) := by decide +kernel
theorem dX5_lawOfComparison_11 : decode cX5_lawOfComparison 11 = .ok (.ireturn, 1) := by decide +kernel
theorem dX5_lawOfComparison_12 : decode cX5_lawOfComparison 12 = .ok (.aload_n 0, 1) := by decide +kernel
theorem dX5_lawOfComparison_13 : decode cX5_lawOfComparison 13 = .ok (.bipush 60, 2) := by decide +kernel
theorem dX5_lawOfComparison_15 : decode cX5_lawOfComparison 15 = .ok (.invokevirtual 169, 3) := by decide +kernel
theorem dX5_lawOfComparison_18 : decode cX5_lawOfComparison 18 = .ok (.ifCond .eq 6, 3) := by decide +kernel
theorem dX5_lawOfComparison_21 : decode cX5_lawOfComparison 21 = .ok (.bipush (-16), 2) := by decide +kernel
theorem dX5_lawOfComparison_23 : decode cX5_lawOfComparison 23 = .ok (.ireturn, 1) := by decide +kernel
theorem dX5_lawOfComparison_24 : decode cX5_lawOfComparison 24 = .ok (.aload_n 0, 1) := by decide +kernel
theorem dX5_lawOfComparison_25 : decode cX5_lawOfComparison 25 = .ok (.bipush 62, 2) := by decide +kernel
theorem dX5_lawOfComparison_27 : decode cX5_lawOfComparison 27 = .ok (.invokevirtual 169, 3) := by decide +kernel
theorem dX5_lawOfComparison_30 : decode cX5_lawOfComparison 30 = .ok (.ifCond .eq 8, 3) := by decide +kernel
theorem dX5_lawOfComparison_33 : decode cX5_lawOfComparison 33 = .ok (.bipush (-17), 2) := by decide +kernel
theorem dX5_lawOfComparison_35 : decode cX5_lawOfComparison 35 = .ok (.goto 4, 3) := by decide +kernel
theorem dX5_lawOfComparison_38 : decode cX5_lawOfComparison 38 = .ok (.iconst 0, 1) := by decide +kernel
theorem dX5_lawOfComparison_39 : decode cX5_lawOfComparison 39 = .ok (.ireturn, 1) := by decide +kernel
theorem dX5_readSum_0 : decode cX5_readSum 0 = .ok (.aload_n 0, 1) := by decide +kernel
theorem dX5_readSum_1 : decode cX5_readSum 1 = .ok (.iload_n 1, 1) := by decide +kernel
theorem dX5_readSum_2 : decode cX5_readSum 2 = .ok (.invokevirtual 176, 3) := by decide +kernel
theorem dX5_readSum_5 : decode cX5_readSum 5 = .ok (.istore_n 2, 1) := by decide +kernel
theorem dX5_readSum_6 : decode cX5_readSum 6 = .ok (.iconst 0, 1) := by decide +kernel
theorem dX5_readSum_7 : decode cX5_readSum 7 = .ok (.istore_n 3, 1) := by decide +kernel
theorem dX5_readSum_8 : decode cX5_readSum 8 = .ok (.iload_n 3, 1) := by decide +kernel
theorem dX5_readSum_9 : decode cX5_readSum 9 = .ok (.aload_n 0, 1) := by decide +kernel
theorem dX5_readSum_10 : decode cX5_readSum 10 = .ok (.getfield 35, 3) := by decide +kernel
theorem dX5_readSum_13 : decode cX5_readSum 13 = .ok (.if_icmp .ge 65, 3) := by decide +kernel
theorem dX5_readSum_16 : decode cX5_readSum 16 = .ok (.iload_n 2, 1) := by decide +kernel
theorem dX5_readSum_17 : decode cX5_readSum 17 = .ok (.ifCond .eq 61, 3) := by decide +kernel
theorem dX5_readSum_20 : decode cX5_readSum 20 = .ok (.aload_n 0, 1) := by decide +kernel
theorem dX5_readSum_21 : decode cX5_readSum 21 = .ok (.bipush 43, 2) := by decide +kernel
theorem dX5_readSum_23 : decode cX5_readSum 23 = .ok (.invokevirtual 169, 3) := by decide +kernel
theorem dX5_readSum_26 : decode cX5_readSum 26 = .ok (.ifCond .ne 12, 3) := by decide +kernel
theorem dX5_readSum_29 : decode cX5_readSum 29 = .ok (.aload_n 0, 1) := by decide +kernel
theorem dX5_readSum_30 : decode cX5_readSum 30 = .ok (.bipush 45, 2) := by decide +kernel
theorem dX5_readSum_32 : decode cX5_readSum 32 = .ok (.invokevirtual 169, 3) := by decide +kernel
theorem dX5_readSum_35 : decode cX5_readSum 35 = .ok (.ifCond .eq 43, 3) := by decide +kernel
theorem dX5_readSum_38 : decode cX5_readSum 38 = .ok (.aload_n 0, 1) := by decide +kernel
theorem dX5_readSum_39 : decode cX5_readSum 39 = .ok (.bipush 43, 2) := by decide +kernel
theorem dX5_readSum_41 : decode cX5_readSum 41 = .ok (.invokevirtual 169, 3) := by decide +kernel
theorem dX5_readSum_44 : decode cX5_readSum 44 = .ok (.ifCond .eq 8, 3) := by decide +kernel
theorem dX5_readSum_47 : decode cX5_readSum 47 = .ok (.bipush (-12), 2) := by decide +kernel
theorem dX5_readSum_49 : decode cX5_readSum 49 = .ok (.goto 5, 3) := by decide +kernel
theorem dX5_readSum_52 : decode cX5_readSum 52 = .ok (.bipush (-13), 2) := by decide +kernel
theorem dX5_readSum_54 : decode cX5_readSum 54 = .ok (.istore 4, 2) := by decide +kernel
theorem dX5_readSum_56 : decode cX5_readSum 56 = .ok (.aload_n 0, 1) := by decide +kernel
theorem dX5_readSum_57 : decode cX5_readSum 57 = .ok (.invokevirtual 41, 3) := by decide +kernel
theorem dX5_readSum_60 : decode cX5_readSum 60 = .ok (.aload_n 0, 1) := by decide +kernel
theorem dX5_readSum_61 : decode cX5_readSum 61 = .ok (.iload_n 1, 1) := by decide +kernel
theorem dX5_readSum_62 : decode cX5_readSum 62 = .ok (.invokevirtual 176, 3) := by decide +kernel
theorem dX5_readSum_65 : decode cX5_readSum 65 = .ok (.istore_n 2, 1) := by decide +kernel
theorem dX5_readSum_66 : decode cX5_readSum 66 = .ok (.aload_n 0, 1) := by decide +kernel
theorem dX5_readSum_67 : decode cX5_readSum 67 = .ok (.iload 4, 2) := by decide +kernel
theorem dX5_readSum_69 : decode cX5_readSum 69 = .ok (.invokevirtual 155, 3) := by decide +kernel
theorem dX5_readSum_72 : decode cX5_readSum 72 = .ok (.iinc 3 1, 3) := by decide +kernel
theorem dX5_readSum_75 : decode cX5_readSum 75 = .ok (.goto (-67), 3) := by decide +kernel
theorem dX5_readSum_78 : decode cX5_readSum 78 = .ok (.iload_n 2, 1) := by decide +kernel
theorem dX5_readSum_79 : decode cX5_readSum 79 = .ok (.ireturn, 1) := by decide +kernel
theorem dX5_readTerm_0 : decode cX5_readTerm 0 = .ok (.aload_n 0, 1) := by decide +kernel
theorem dX5_readTerm_1 : decode cX5_readTerm 1 = .ok (.iload_n 1, 1) := by decide +kernel
theorem dX5_readTerm_2 : decode cX5_readTerm 2 = .ok (.invokevirtual 179, 3) := by decide +kernel
theorem dX5_readTerm_5 : decode cX5_readTerm 5 = .ok (.istore_n 2, 1) := by decide +kernel
theorem dX5_readTerm_6 : decode cX5_readTerm 6 = .ok (.iconst 0, 1) := by decide +kernel
theorem dX5_readTerm_7 : decode cX5_readTerm 7 = .ok (.istore_n 3, 1) := by decide +kernel
theorem dX5_readTerm_8 : decode cX5_readTerm 8 = .ok (.iload_n 3, 1) := by decide +kernel
theorem dX5_readTerm_9 : decode cX5_readTerm 9 = .ok (.aload_n 0, 1) := by decide +kernel
theorem dX5_readTerm_10 : decode cX5_readTerm 10 = .ok (.getfield 35, 3) := by decide +kernel
theorem dX5_readTerm_13 : decode cX5_readTerm 13 = .ok (.if_icmp .ge 38, 3) := by decide +kernel
theorem dX5_readTerm_16 : decode cX5_readTerm 16 = .ok (.iload_n 2, 1) := by decide +kernel
theorem dX5_readTerm_17 : decode cX5_readTerm 17 = .ok (.ifCond .eq 34, 3) := by decide +kernel
theorem dX5_readTerm_20 : decode cX5_readTerm 20 = .ok (.aload_n 0, 1) := by decide +kernel
theorem dX5_readTerm_21 : decode cX5_readTerm 21 = .ok (.bipush 42, 2) := by decide +kernel
theorem dX5_readTerm_23 : decode cX5_readTerm 23 = .ok (.invokevirtual 169, 3) := by decide +kernel
theorem dX5_readTerm_26 : decode cX5_readTerm 26 = .ok (.ifCond .eq 25, 3) := by decide +kernel
theorem dX5_readTerm_29 : decode cX5_readTerm 29 = .ok (.aload_n 0, 1) := by decide +kernel
theorem dX5_readTerm_30 : decode cX5_readTerm 30 = .ok (.invokevirtual 41, 3) := by decide +kernel
theorem dX5_readTerm_33 : decode cX5_readTerm 33 = .ok (.aload_n 0, 1) := by decide +kernel
theorem dX5_readTerm_34 : decode cX5_readTerm 34 = .ok (.iload_n 1, 1) := by decide +kernel
theorem dX5_readTerm_35 : decode cX5_readTerm 35 = .ok (.invokevirtual 179, 3) := by decide +kernel
theorem dX5_readTerm_38 : decode cX5_readTerm 38 = .ok (.istore_n 2, 1) := by decide +kernel
theorem dX5_readTerm_39 : decode cX5_readTerm 39 = .ok (.aload_n 0, 1) := by decide +kernel
theorem dX5_readTerm_40 : decode cX5_readTerm 40 = .ok (.bipush (-14), 2) := by decide +kernel
theorem dX5_readTerm_42 : decode cX5_readTerm 42 = .ok (.invokevirtual 155, 3) := by decide +kernel
theorem dX5_readTerm_45 : decode cX5_readTerm 45 = .ok (.iinc 3 1, 3) := by decide +kernel
theorem dX5_readTerm_48 : decode cX5_readTerm 48 = .ok (.goto (-40), 3) := by decide +kernel
theorem dX5_readTerm_51 : decode cX5_readTerm 51 = .ok (.iload_n 2, 1) := by decide +kernel
theorem dX5_readTerm_52 : decode cX5_readTerm 52 = .ok (.ireturn, 1) := by decide +kernel
theorem dX5_readAtom_0 : decode cX5_readAtom 0 = .ok (.aload_n 0, 1) := by decide +kernel
theorem dX5_readAtom_1 : decode cX5_readAtom 1 = .ok (.bipush 40, 2) := by decide +kernel
theorem dX5_readAtom_3 : decode cX5_readAtom 3 = .ok (.invokevirtual 169, 3) := by decide +kernel
theorem dX5_readAtom_6 : decode cX5_readAtom 6 = .ok (.ifCond .eq 36, 3) := by decide +kernel
theorem dX5_readAtom_9 : decode cX5_readAtom 9 = .ok (.aload_n 0, 1) := by decide +kernel
theorem dX5_readAtom_10 : decode cX5_readAtom 10 = .ok (.iload_n 1, 1) := by decide +kernel
theorem dX5_readAtom_11 : decode cX5_readAtom 11 = .ok (.invokevirtual 166, 3) := by decide +kernel
theorem dX5_readAtom_14 : decode cX5_readAtom 14 = .ok (.ifCond .eq 26, 3) := by decide +kernel
theorem dX5_readAtom_17 : decode cX5_readAtom 17 = .ok (.aload_n 0, 1) := by decide +kernel
theorem dX5_readAtom_18 : decode cX5_readAtom 18 = .ok (.iload_n 1, 1) := by decide +kernel
theorem dX5_readAtom_19 : decode cX5_readAtom 19 = .ok (.iconst 1, 1) := by decide +kernel
theorem dX5_readAtom_20 : decode cX5_readAtom 20 = .ok (.iadd, 1) := by decide +kernel
theorem dX5_readAtom_21 : decode cX5_readAtom 21 = .ok (.invokevirtual 104, 3) := by decide +kernel
theorem dX5_readAtom_24 : decode cX5_readAtom 24 = .ok (.ifCond .eq 16, 3) := by decide +kernel
theorem dX5_readAtom_27 : decode cX5_readAtom 27 = .ok (.aload_n 0, 1) := by decide +kernel
theorem dX5_readAtom_28 : decode cX5_readAtom 28 = .ok (.bipush 41, 2) := by decide +kernel
theorem dX5_readAtom_30 : decode cX5_readAtom 30 = .ok (.invokevirtual 81, 3) := by decide +kernel
theorem dX5_readAtom_33 : decode cX5_readAtom 33 = .ok (.ifCond .eq 7, 3) := by decide +kernel
theorem dX5_readAtom_36 : decode cX5_readAtom 36 = .ok (.iconst 1, 1) := by decide +kernel
theorem dX5_readAtom_37 : decode cX5_readAtom 37 = .ok (.goto 4, 3) := by decide +kernel
theorem dX5_readAtom_40 : decode cX5_readAtom 40 = .ok (.iconst 0, 1) := by decide +kernel
theorem dX5_readAtom_41 : decode cX5_readAtom 41 = .ok (.ireturn, 1) := by decide +kernel
theorem dX5_readAtom_42 : decode cX5_readAtom 42 = .ok (.aload_n 0, 1) := by decide +kernel
theorem dX5_readAtom_43 : decode cX5_readAtom 43 = .ok (.ldc 182, 2) := by decide +kernel
theorem dX5_readAtom_45 : decode cX5_readAtom 45 = .ok (.invokevirtual 87, 3) := by decide +kernel
theorem dX5_readAtom_48 : decode cX5_readAtom 48 = .ok (.ifCond .eq 27, 3) := by decide +kernel
theorem dX5_readAtom_51 : decode cX5_readAtom 51 = .ok (.aload_n 0, 1) := by decide +kernel
theorem dX5_readAtom_52 : decode cX5_readAtom 52 = .ok (.iload_n 1, 1) := by decide +kernel
theorem dX5_readAtom_53 : decode cX5_readAtom 53 = .ok (.invokevirtual 166, 3) := by decide +kernel
theorem dX5_readAtom_56 : decode cX5_readAtom 56 = .ok (.ifCond .eq 17, 3) := by decide +kernel
theorem dX5_readAtom_59 : decode cX5_readAtom 59 = .ok (.aload_n 0, 1) := by decide +kernel
theorem dX5_readAtom_60 : decode cX5_readAtom 60 = .ok (.iload_n 1, 1) := by decide +kernel
theorem dX5_readAtom_61 : decode cX5_readAtom 61 = .ok (.iconst 1, 1) := by decide +kernel
theorem dX5_readAtom_62 : decode cX5_readAtom 62 = .ok (.iadd, 1) := by decide +kernel
theorem dX5_readAtom_63 : decode cX5_readAtom 63 = .ok (.invokevirtual 184, 3) := by decide +kernel
theorem dX5_readAtom_66 : decode cX5_readAtom 66 = .ok (.ifCond .eq 7, 3) := by decide +kernel
theorem dX5_readAtom_69 : decode cX5_readAtom 69 = .ok (.iconst 1, 1) := by decide +kernel
theorem dX5_readAtom_70 : decode cX5_readAtom 70 = .ok (.goto 4, 3) := by decide +kernel
theorem dX5_readAtom_73 : decode cX5_readAtom 73 = .ok (.iconst 0, 1) := by decide +kernel
theorem dX5_readAtom_74 : decode cX5_readAtom 74 = .ok (.ireturn, 1) := by decide +kernel
theorem dX5_readAtom_75 : decode cX5_readAtom 75 = .ok (.aload_n 0, 1) := by decide +kernel
theorem dX5_readAtom_76 : decode cX5_readAtom 76 = .ok (.getfield 51, 3) := by decide +kernel
theorem dX5_readAtom_79 : decode cX5_readAtom 79 = .ok (.iconst 2, 1) := by decide +kernel
theorem dX5_readAtom_80 : decode cX5_readAtom 80 = .ok (.if_icmp .ne 10, 3) := by decide +kernel
theorem dX5_readAtom_83 : decode cX5_readAtom 83 = .ok (.aload_n 0, 1) := by decide +kernel
theorem dX5_readAtom_84 : decode cX5_readAtom 84 = .ok (.getfield 69, 3) := by decide +kernel
theorem dX5_readAtom_87 : decode cX5_readAtom 87 = .ok (.goto 7, 3) := by decide +kernel
theorem dX5_readAtom_90 : decode cX5_readAtom 90 = .ok (.aload_n 0, 1) := by decide +kernel
theorem dX5_readAtom_91 : decode cX5_readAtom 91 = .ok (.invokevirtual 187, 3) := by decide +kernel
theorem dX5_readAtom_94 : decode cX5_readAtom 94 = .ok (.istore_n 2, 1) := by decide +kernel
theorem dX5_readAtom_95 : decode cX5_readAtom 95 = .ok (.iload_n 2, 1) := by decide +kernel
theorem dX5_readAtom_96 : decode cX5_readAtom 96 = .ok (.ifCond .ne 17, 3) := by decide +kernel
theorem dX5_readAtom_99 : decode cX5_readAtom 99 = .ok (.aload_n 0, 1) := by decide +kernel
theorem dX5_readAtom_100 : decode cX5_readAtom 100 = .ok (.getfield 51, 3) := by decide +kernel
theorem dX5_readAtom_103 : decode cX5_readAtom 103 = .ok (.iconst 2, 1) := by decide +kernel
theorem dX5_readAtom_104 : decode cX5_readAtom 104 = .ok (.if_icmp .eq 9, 3) := by decide +kernel
theorem dX5_readAtom_107 : decode cX5_readAtom 107 = .ok (.aload_n 0, 1) := by decide +kernel
theorem dX5_readAtom_108 : decode cX5_readAtom 108 = .ok (.iconst 2, 1) := by decide +kernel
theorem dX5_readAtom_109 : decode cX5_readAtom 109 = .ok (.invokevirtual 128, 3) := by decide +kernel
theorem dX5_readAtom_112 : decode cX5_readAtom 112 = .ok (.ireturn, 1) := by decide +kernel
theorem dX5_readAtom_113 : decode cX5_readAtom 113 = .ok (.aload_n 0, 1) := by decide +kernel
theorem dX5_readAtom_114 : decode cX5_readAtom 114 = .ok (.iload_n 2, 1) := by decide +kernel
theorem dX5_readAtom_115 : decode cX5_readAtom 115 = .ok (.invokevirtual 155, 3) := by decide +kernel
theorem dX5_readAtom_118 : decode cX5_readAtom 118 = .ok (.aload_n 0, 1) := by decide +kernel
theorem dX5_readAtom_119 : decode cX5_readAtom 119 = .ok (.invokevirtual 41, 3) := by decide +kernel
theorem dX5_readAtom_122 : decode cX5_readAtom 122 = .ok (.iconst 1, 1) := by decide +kernel
theorem dX5_readAtom_123 : decode cX5_readAtom 123 = .ok (.ireturn, 1) := by decide +kernel
theorem dX5_readChoice_0 : decode cX5_readChoice 0 = .ok (.aload_n 0, 1) := by decide +kernel
theorem dX5_readChoice_1 : decode cX5_readChoice 1 = .ok (.iload_n 1, 1) := by decide +kernel
theorem dX5_readChoice_2 : decode cX5_readChoice 2 = .ok (.invokevirtual 122, 3) := by decide +kernel
theorem dX5_readChoice_5 : decode cX5_readChoice 5 = .ok (.ifCond .eq 50, 3) := by decide +kernel
theorem dX5_readChoice_8 : decode cX5_readChoice 8 = .ok (.aload_n 0, 1) := by decide +kernel
theorem dX5_readChoice_9 : decode cX5_readChoice 9 = .ok (.ldc 190, 2) := by decide +kernel
theorem dX5_readChoice_11 : decode cX5_readChoice 11 = .ok (.invokevirtual 59, 3) := by decide +kernel
theorem dX5_readChoice_14 : decode cX5_readChoice 14 = .ok (.ifCond .eq 41, 3) := by decide +kernel
theorem dX5_readChoice_17 : decode cX5_readChoice 17 = .ok (.aload_n 0, 1) := by decide +kernel
theorem dX5_readChoice_18 : decode cX5_readChoice 18 = .ok (.iload_n 1, 1) := by decide +kernel
theorem dX5_readChoice_19 : decode cX5_readChoice 19 = .ok (.invokevirtual 104, 3) := by decide +kernel
theorem dX5_readChoice_22 : decode cX5_readChoice 22 = .ok (.ifCond .eq 33, 3) := by decide +kernel
theorem dX5_readChoice_25 : decode cX5_readChoice 25 = .ok (.aload_n 0, 1) := by decide +kernel
theorem dX5_readChoice_26 : decode cX5_readChoice 26 = .ok (.ldc 192, 2) := by decide +kernel
theorem dX5_readChoice_28 : decode cX5_readChoice 28 = .ok (.invokevirtual 59, 3) := by decide +kernel
theorem dX5_readChoice_31 : decode cX5_readChoice 31 = .ok (.ifCond .eq 24, 3) := by decide +kernel
theorem dX5_readChoice_34 : decode cX5_readChoice 34 = .ok (.aload_n 0, 1) := by decide +kernel
theorem dX5_readChoice_35 : decode cX5_readChoice 35 = .ok (.iload_n 1, 1) := by decide +kernel
theorem dX5_readChoice_36 : decode cX5_readChoice 36 = .ok (.invokevirtual 104, 3) := by decide +kernel
theorem dX5_readChoice_39 : decode cX5_readChoice 39 = .ok (.ifCond .eq 16, 3) := by decide +kernel
theorem dX5_readChoice_42 : decode cX5_readChoice 42 = .ok (.aload_n 0, 1) := by decide +kernel
theorem dX5_readChoice_43 : decode cX5_readChoice 43 = .ok (.ldc 194, 2) := by decide +kernel
theorem dX5_readChoice_45 : decode cX5_readChoice 45 = .ok (.invokevirtual 59, 3) := by decide +kernel
theorem dX5_readChoice_48 : decode cX5_readChoice 48 = .ok (.ifCond .eq 7, 3) := by decide +kernel
theorem dX5_readChoice_51 : decode cX5_readChoice 51 = .ok (.iconst 1, 1) := by decide +kernel
theorem dX5_readChoice_52 : decode cX5_readChoice 52 = .ok (.goto 4, 3) := by decide +kernel
theorem dX5_readChoice_55 : decode cX5_readChoice 55 = .ok (.iconst 0, 1) := by decide +kernel
theorem dX5_readChoice_56 : decode cX5_readChoice 56 = .ok (.istore_n 2, 1) := by decide +kernel
theorem dX5_readChoice_57 : decode cX5_readChoice 57 = .ok (.aload_n 0, 1) := by decide +kernel
theorem dX5_readChoice_58 : decode cX5_readChoice 58 = .ok (.bipush (-11), 2) := by decide +kernel
theorem dX5_readChoice_60 : decode cX5_readChoice 60 = .ok (.invokevirtual 155, 3) := by decide +kernel
theorem dX5_readChoice_63 : decode cX5_readChoice 63 = .ok (.iload_n 2, 1) := by decide +kernel
theorem dX5_readChoice_64 : decode cX5_readChoice 64 = .ok (.ireturn, 1) := by decide +kernel
theorem dX5_lawOfName_0 : decode cX5_lawOfName 0 = .ok (.aload_n 0, 1) := by decide +kernel
theorem dX5_lawOfName_1 : decode cX5_lawOfName 1 = .ok (.ldc 196, 2) := by decide +kernel
theorem dX5_lawOfName_3 : decode cX5_lawOfName 3 = .ok (.invokevirtual 87, 3) := by decide +kernel
theorem dX5_lawOfName_6 : decode cX5_lawOfName 6 = .ok (.ifCond .eq 5, 3) := by decide +kernel
theorem dX5_lawOfName_9 : decode cX5_lawOfName 9 = .ok (.iconst (-1), 1) := by decide +kernel
theorem dX5_lawOfName_10 : decode cX5_lawOfName 10 = .ok (.ireturn, 1) := by decide +kernel
theorem dX5_lawOfName_11 : decode cX5_lawOfName 11 = .ok (.aload_n 0, 1) := by decide +kernel
theorem dX5_lawOfName_12 : decode cX5_lawOfName 12 = .ok (.ldc 74, 2) := by decide +kernel
theorem dX5_lawOfName_14 : decode cX5_lawOfName 14 = .ok (.invokevirtual 87, 3) := by decide +kernel
theorem dX5_lawOfName_17 : decode cX5_lawOfName 17 = .ok (.ifCond .eq 6, 3) := by decide +kernel
theorem dX5_lawOfName_20 : decode cX5_lawOfName 20 = .ok (.bipush (-2), 2) := by decide +kernel
theorem dX5_lawOfName_22 : decode cX5_lawOfName 22 = .ok (.ireturn, 1) := by decide +kernel
theorem dX5_lawOfName_23 : decode cX5_lawOfName 23 = .ok (.aload_n 0, 1) := by decide +kernel
theorem dX5_lawOfName_24 : decode cX5_lawOfName 24 = .ok (.ldc 198, 2) := by decide +kernel
theorem dX5_lawOfName_26 : decode cX5_lawOfName 26 = .ok (.invokevirtual 87, 3) := by decide +kernel
theorem dX5_lawOfName_29 : decode cX5_lawOfName 29 = .ok (.ifCond .eq 6, 3) := by decide +kernel
theorem dX5_lawOfName_32 : decode cX5_lawOfName 32 = .ok (.bipush (-3), 2) := by decide +kernel
theorem dX5_lawOfName_34 : decode cX5_lawOfName 34 = .ok (.ireturn, 1) := by decide +kernel
theorem dX5_lawOfName_35 : decode cX5_lawOfName 35 = .ok (.aload_n 0, 1) := by decide +kernel
theorem dX5_lawOfName_36 : decode cX5_lawOfName 36 = .ok (.ldc 200, 2) := by decide +kernel
theorem dX5_lawOfName_38 : decode cX5_lawOfName 38 = .ok (.invokevirtual 87, 3) := by decide +kernel
theorem dX5_lawOfName_41 : decode cX5_lawOfName 41 = .ok (.ifCond .eq 6, 3) := by decide +kernel
theorem dX5_lawOfName_44 : decode cX5_lawOfName 44 = .ok (.bipush (-4), 2) := by decide +kernel
theorem dX5_lawOfName_46 : decode cX5_lawOfName 46 = .ok (.ireturn, 1) := by decide +kernel
theorem dX5_lawOfName_47 : decode cX5_lawOfName 47 = .ok (.aload_n 0, 1) := by decide +kernel
theorem dX5_lawOfName_48 : decode cX5_lawOfName 48 = .ok (.ldc 202, 2) := by decide +kernel
theorem dX5_lawOfName_50 : decode cX5_lawOfName 50 = .ok (.invokevirtual 87, 3) := by decide +kernel
theorem dX5_lawOfName_53 : decode cX5_lawOfName 53 = .ok (.ifCond .eq 8, 3) := by decide +kernel
theorem dX5_lawOfName_56 : decode cX5_lawOfName 56 = .ok (.bipush (-5), 2) := by decide +kernel
theorem dX5_lawOfName_58 : decode cX5_lawOfName 58 = .ok (.goto 4, 3) := by decide +kernel
theorem dX5_lawOfName_61 : decode cX5_lawOfName 61 = .ok (.iconst 0, 1) := by decide +kernel
theorem dX5_lawOfName_62 : decode cX5_lawOfName 62 = .ok (.ireturn, 1) := by decide +kernel
theorem dX5_goDeeper_0 : decode cX5_goDeeper 0 = .ok (.iload_n 1, 1) := by decide +kernel
theorem dX5_goDeeper_1 : decode cX5_goDeeper 1 = .ok (.bipush 6, 2) := by decide +kernel
theorem dX5_goDeeper_3 : decode cX5_goDeeper 3 = .ok (.if_icmp .lt 9, 3) := by decide +kernel
theorem dX5_goDeeper_6 : decode cX5_goDeeper 6 = .ok (.aload_n 0, 1) := by decide +kernel
theorem dX5_goDeeper_7 : decode cX5_goDeeper 7 = .ok (.iconst 4, 1) := by decide +kernel
theorem dX5_goDeeper_8 : decode cX5_goDeeper 8 = .ok (.invokevirtual 128, 3) := by decide +kernel
theorem dX5_goDeeper_11 : decode cX5_goDeeper 11 = .ok (.ireturn, 1) := by decide +kernel
theorem dX5_goDeeper_12 : decode cX5_goDeeper 12 = .ok (.aload_n 0, 1) := by decide +kernel
theorem dX5_goDeeper_13 : decode cX5_goDeeper 13 = .ok (.invokevirtual 41, 3) := by decide +kernel
theorem dX5_goDeeper_16 : decode cX5_goDeeper 16 = .ok (.iconst 1, 1) := by decide +kernel
theorem dX5_goDeeper_17 : decode cX5_goDeeper 17 = .ok (.ireturn, 1) := by decide +kernel
theorem dX5_encode_0 : decode cX5_encode 0 = .ok (.aload_n 0, 1) := by decide +kernel
theorem dX5_encode_1 : decode cX5_encode 1 = .ok (.getfield 108, 3) := by decide +kernel
theorem dX5_encode_4 : decode cX5_encode 4 = .ok (.aload_n 0, 1) := by decide +kernel
theorem dX5_encode_5 : decode cX5_encode 5 = .ok (.getfield 26, 3) := by decide +kernel
theorem dX5_encode_8 : decode cX5_encode 8 = .ok (.arraylength, 1) := by decide +kernel
theorem dX5_encode_9 : decode cX5_encode 9 = .ok (.if_icmp .ge 23, 3) := by decide +kernel
theorem dX5_encode_12 : decode cX5_encode 12 = .ok (.aload_n 0, 1) := by decide +kernel
theorem dX5_encode_13 : decode cX5_encode 13 = .ok (.getfield 26, 3) := by decide +kernel
theorem dX5_encode_16 : decode cX5_encode 16 = .ok (.aload_n 0, 1) := by decide +kernel
theorem dX5_encode_17 : decode cX5_encode 17 = .ok (.getfield 108, 3) := by decide +kernel
theorem dX5_encode_20 : decode cX5_encode 20 = .ok (.iload_n 1, 1) := by decide +kernel
theorem dX5_encode_21 : decode cX5_encode 21 = .ok (.iastore, 1) := by decide +kernel
theorem dX5_encode_22 : decode cX5_encode 22 = .ok (.aload_n 0, 1) := by decide +kernel
theorem dX5_encode_23 : decode cX5_encode 23 = .ok (.dup, 1) := by decide +kernel
theorem dX5_encode_24 : decode cX5_encode 24 = .ok (.getfield 108, 3) := by decide +kernel
theorem dX5_encode_27 : decode cX5_encode 27 = .ok (.iconst 1, 1) := by decide +kernel
theorem dX5_encode_28 : decode cX5_encode 28 = .ok (.iadd, 1) := by decide +kernel
theorem dX5_encode_29 : decode cX5_encode 29 = .ok (.putfield 108, 3) := by decide +kernel
theorem dX5_encode_32 : decode cX5_encode 32 = .ok (.return_, 1) := by decide +kernel
theorem dX5_fail_0 : decode cX5_fail 0 = .ok (.aload_n 0, 1) := by decide +kernel
theorem dX5_fail_1 : decode cX5_fail 1 = .ok (.aload_n 0, 1) := by decide +kernel
theorem dX5_fail_2 : decode cX5_fail 2 = .ok (.getfield 51, 3) := by decide +kernel
theorem dX5_fail_5 : decode cX5_fail 5 = .ok (.iconst 4, 1) := by decide +kernel
theorem dX5_fail_6 : decode cX5_fail 6 = .ok (.if_icmp .ne 7, 3) := by decide +kernel
theorem dX5_fail_9 : decode cX5_fail 9 = .ok (.iconst 1, 1) := by decide +kernel
theorem dX5_fail_10 : decode cX5_fail 10 = .ok (.goto 4, 3) := by decide +kernel
theorem dX5_fail_13 : decode cX5_fail 13 = .ok (.iload_n 1, 1) := by decide +kernel
theorem dX5_fail_14 : decode cX5_fail 14 = .ok (.putfield 9, 3) := by decide +kernel
theorem dX5_fail_17 : decode cX5_fail 17 = .ok (.aload_n 0, 1) := by decide +kernel
theorem dX5_fail_18 : decode cX5_fail 18 = .ok (.aload_n 0, 1) := by decide +kernel
theorem dX5_fail_19 : decode cX5_fail 19 = .ok (.getfield 204, 3) := by decide +kernel
theorem dX5_fail_22 : decode cX5_fail 22 = .ok (.putfield 15, 3) := by decide +kernel
theorem dX5_fail_25 : decode cX5_fail 25 = .ok (.iconst 0, 1) := by decide +kernel
theorem dX5_fail_26 : decode cX5_fail 26 = .ok (.ireturn, 1) := by decide +kernel
theorem dX5_takeWord_0 : decode cX5_takeWord 0 = .ok (.aload_n 0, 1) := by decide +kernel
theorem dX5_takeWord_1 : decode cX5_takeWord 1 = .ok (.aload_n 1, 1) := by decide +kernel
theorem dX5_takeWord_2 : decode cX5_takeWord 2 = .ok (.invokevirtual 87, 3) := by decide +kernel
theorem dX5_takeWord_5 : decode cX5_takeWord 5 = .ok (.ifCond .ne 9, 3) := by decide +kernel
theorem dX5_takeWord_8 : decode cX5_takeWord 8 = .ok (.aload_n 0, 1) := by decide +kernel
theorem dX5_takeWord_9 : decode cX5_takeWord 9 = .ok (.iconst 2, 1) := by decide +kernel
theorem dX5_takeWord_10 : decode cX5_takeWord 10 = .ok (.invokevirtual 128, 3) := by decide +kernel
theorem dX5_takeWord_13 : decode cX5_takeWord 13 = .ok (.ireturn, 1) := by decide +kernel
theorem dX5_takeWord_14 : decode cX5_takeWord 14 = .ok (.aload_n 0, 1) := by decide +kernel
theorem dX5_takeWord_15 : decode cX5_takeWord 15 = .ok (.invokevirtual 41, 3) := by decide +kernel
theorem dX5_takeWord_18 : decode cX5_takeWord 18 = .ok (.iconst 1, 1) := by decide +kernel
theorem dX5_takeWord_19 : decode cX5_takeWord 19 = .ok (.ireturn, 1) := by decide +kernel
theorem dX5_takeSign_0 : decode cX5_takeSign 0 = .ok (.aload_n 0, 1) := by decide +kernel
theorem dX5_takeSign_1 : decode cX5_takeSign 1 = .ok (.iload_n 1, 1) := by decide +kernel
theorem dX5_takeSign_2 : decode cX5_takeSign 2 = .ok (.invokevirtual 169, 3) := by decide +kernel
theorem dX5_takeSign_5 : decode cX5_takeSign 5 = .ok (.ifCond .ne 9, 3) := by decide +kernel
theorem dX5_takeSign_8 : decode cX5_takeSign 8 = .ok (.aload_n 0, 1) := by decide +kernel
theorem dX5_takeSign_9 : decode cX5_takeSign 9 = .ok (.iconst 2, 1) := by decide +kernel
theorem dX5_takeSign_10 : decode cX5_takeSign 10 = .ok (.invokevirtual 128, 3) := by decide +kernel
theorem dX5_takeSign_13 : decode cX5_takeSign 13 = .ok (.ireturn, 1) := by decide +kernel
theorem dX5_takeSign_14 : decode cX5_takeSign 14 = .ok (.aload_n 0, 1) := by decide +kernel
theorem dX5_takeSign_15 : decode cX5_takeSign 15 = .ok (.invokevirtual 41, 3) := by decide +kernel
theorem dX5_takeSign_18 : decode cX5_takeSign 18 = .ok (.iconst 1, 1) := by decide +kernel
theorem dX5_takeSign_19 : decode cX5_takeSign 19 = .ok (.ireturn, 1) := by decide +kernel
theorem dX5_takeNumber_0 : decode cX5_takeNumber 0 = .ok (.aload_n 0, 1) := by decide +kernel
theorem dX5_takeNumber_1 : decode cX5_takeNumber 1 = .ok (.getfield 51, 3) := by decide +kernel
theorem dX5_takeNumber_4 : decode cX5_takeNumber 4 = .ok (.iconst 2, 1) := by decide +kernel
theorem dX5_takeNumber_5 : decode cX5_takeNumber 5 = .ok (.if_icmp .eq 9, 3) := by decide +kernel
theorem dX5_takeNumber_8 : decode cX5_takeNumber 8 = .ok (.aload_n 0, 1) := by decide +kernel
theorem dX5_takeNumber_9 : decode cX5_takeNumber 9 = .ok (.iconst 2, 1) := by decide +kernel
theorem dX5_takeNumber_10 : decode cX5_takeNumber 10 = .ok (.invokevirtual 128, 3) := by decide +kernel
theorem dX5_takeNumber_13 : decode cX5_takeNumber 13 = .ok (.ireturn, 1) := by decide +kernel
theorem dX5_takeNumber_14 : decode cX5_takeNumber 14 = .ok (.aload_n 0, 1) := by decide +kernel
theorem dX5_takeNumber_15 : decode cX5_takeNumber 15 = .ok (.getfield 69, 3) := by decide +kernel
theorem dX5_takeNumber_18 : decode cX5_takeNumber 18 = .ok (.iload_n 1, 1) := by decide +kernel
theorem dX5_takeNumber_19 : decode cX5_takeNumber 19 = .ok (.if_icmp .lt 11, 3) := by decide +kernel
theorem dX5_takeNumber_22 : decode cX5_takeNumber 22 = .ok (.aload_n 0, 1) := by decide +kernel
theorem dX5_takeNumber_23 : decode cX5_takeNumber 23 = .ok (.getfield 69, 3) := by decide +kernel
theorem dX5_takeNumber_26 : decode cX5_takeNumber 26 = .ok (.iload_n 2, 1) := by decide +kernel
theorem dX5_takeNumber_27 : decode cX5_takeNumber 27 = .ok (.if_icmp .le 9, 3) := by decide +kernel
theorem dX5_takeNumber_30 : decode cX5_takeNumber 30 = .ok (.aload_n 0, 1) := by decide +kernel
theorem dX5_takeNumber_31 : decode cX5_takeNumber 31 = .ok (.iconst 3, 1) := by decide +kernel
theorem dX5_takeNumber_32 : decode cX5_takeNumber 32 = .ok (.invokevirtual 128, 3) := by decide +kernel
theorem dX5_takeNumber_35 : decode cX5_takeNumber 35 = .ok (.ireturn, 1) := by decide +kernel
theorem dX5_takeNumber_36 : decode cX5_takeNumber 36 = .ok (.aload_n 0, 1) := by decide +kernel
theorem dX5_takeNumber_37 : decode cX5_takeNumber 37 = .ok (.getfield 69, 3) := by decide +kernel
theorem dX5_takeNumber_40 : decode cX5_takeNumber 40 = .ok (.istore_n 3, 1) := by decide +kernel
theorem dX5_takeNumber_41 : decode cX5_takeNumber 41 = .ok (.aload_n 0, 1) := by decide +kernel
theorem dX5_takeNumber_42 : decode cX5_takeNumber 42 = .ok (.invokevirtual 41, 3) := by decide +kernel
theorem dX5_takeNumber_45 : decode cX5_takeNumber 45 = .ok (.aload_n 0, 1) := by decide +kernel
theorem dX5_takeNumber_46 : decode cX5_takeNumber 46 = .ok (.iload_n 3, 1) := by decide +kernel
theorem dX5_takeNumber_47 : decode cX5_takeNumber 47 = .ok (.putfield 69, 3) := by decide +kernel
theorem dX5_takeNumber_50 : decode cX5_takeNumber 50 = .ok (.iconst 1, 1) := by decide +kernel
theorem dX5_takeNumber_51 : decode cX5_takeNumber 51 = .ok (.ireturn, 1) := by decide +kernel
theorem dX5_takeLetters_0 : decode cX5_takeLetters 0 = .ok (.aload_n 0, 1) := by decide +kernel
theorem dX5_takeLetters_1 : decode cX5_takeLetters 1 = .ok (.getfield 51, 3) := by decide +kernel
theorem dX5_takeLetters_4 : decode cX5_takeLetters 4 = .ok (.iconst 1, 1) := by decide +kernel
theorem dX5_takeLetters_5 : decode cX5_takeLetters 5 = .ok (.if_icmp .eq 9, 3) := by decide +kernel
theorem dX5_takeLetters_8 : decode cX5_takeLetters 8 = .ok (.aload_n 0, 1) := by decide +kernel
theorem dX5_takeLetters_9 : decode cX5_takeLetters 9 = .ok (.iconst 2, 1) := by decide +kernel
theorem dX5_takeLetters_10 : decode cX5_takeLetters 10 = .ok (.invokevirtual 128, 3) := by decide +kernel
theorem dX5_takeLetters_13 : decode cX5_takeLetters 13 = .ok (.ireturn, 1) := by decide +kernel
theorem dX5_takeLetters_14 : decode cX5_takeLetters 14 = .ok (.aload_n 0, 1) := by decide +kernel
theorem dX5_takeLetters_15 : decode cX5_takeLetters 15 = .ok (.getfield 204, 3) := by decide +kernel
theorem dX5_takeLetters_18 : decode cX5_takeLetters 18 = .ok (.istore 4, 2) := by decide +kernel
theorem dX5_takeLetters_20 : decode cX5_takeLetters 20 = .ok (.iload 4, 2) := by decide +kernel
theorem dX5_takeLetters_22 : decode cX5_takeLetters 22 = .ok (.aload_n 0, 1) := by decide +kernel
theorem dX5_takeLetters_23 : decode cX5_takeLetters 23 = .ok (.getfield 38, 3) := by decide +kernel
theorem dX5_takeLetters_26 : decode cX5_takeLetters 26 = .ok (.if_icmp .ge 27, 3) := by decide +kernel
theorem dX5_takeLetters_29 : decode cX5_takeLetters 29 = .ok (.aload_n 0, 1) := by decide +kernel
theorem dX5_takeLetters_30 : decode cX5_takeLetters 30 = .ok (.getfield 18, 3) := by decide +kernel
theorem dX5_takeLetters_33 : decode cX5_takeLetters 33 = .ok (.iload 4, 2) := by decide +kernel
theorem dX5_takeLetters_35 : decode cX5_takeLetters 35 = .ok (.baload, 1) := by decide +kernel
theorem dX5_takeLetters_36 : decode cX5_takeLetters 36 = .ok (.bipush 102, 2) := by decide +kernel
theorem dX5_takeLetters_38 : decode cX5_takeLetters 38 = .ok (.if_icmp .le 9, 3) := by decide +kernel
theorem dX5_takeLetters_41 : decode cX5_takeLetters 41 = .ok (.aload_n 0, 1) := by decide +kernel
theorem dX5_takeLetters_42 : decode cX5_takeLetters 42 = .ok (.iconst 2, 1) := by decide +kernel
theorem dX5_takeLetters_43 : decode cX5_takeLetters 43 = .ok (.invokevirtual 128, 3) := by decide +kernel
theorem dX5_takeLetters_46 : decode cX5_takeLetters 46 = .ok (.ireturn, 1) := by decide +kernel
theorem dX5_takeLetters_47 : decode cX5_takeLetters 47 = .ok (.iinc 4 1, 3) := by decide +kernel
theorem dX5_takeLetters_50 : decode cX5_takeLetters 50 = .ok (.goto (-30), 3) := by decide +kernel
theorem dX5_takeLetters_53 : decode cX5_takeLetters 53 = .ok (.aload_n 0, 1) := by decide +kernel
theorem dX5_takeLetters_54 : decode cX5_takeLetters 54 = .ok (.getfield 38, 3) := by decide +kernel
theorem dX5_takeLetters_57 : decode cX5_takeLetters 57 = .ok (.aload_n 0, 1) := by decide +kernel
theorem dX5_takeLetters_58 : decode cX5_takeLetters 58 = .ok (.getfield 204, 3) := by decide +kernel
theorem dX5_takeLetters_61 : decode cX5_takeLetters 61 = .ok (.isub, 1) := by decide +kernel
theorem dX5_takeLetters_62 : decode cX5_takeLetters 62 = .ok (.istore 4, 2) := by decide +kernel
theorem dX5_takeLetters_64 : decode cX5_takeLetters 64 = .ok (.iload 4, 2) := by decide +kernel
theorem dX5_takeLetters_66 : decode cX5_takeLetters 66 = .ok (.iload_n 1, 1) := by decide +kernel
theorem dX5_takeLetters_67 : decode cX5_takeLetters 67 = .ok (.if_icmp .gt 16, 3) := by decide +kernel
theorem dX5_takeLetters_70 : decode cX5_takeLetters 70 = .ok (.iload_n 3, 1) := by decide +kernel
theorem dX5_takeLetters_71 : decode cX5_takeLetters 71 = .ok (.ifCond .lt 12, 3) := by decide +kernel
theorem dX5_takeLetters_74 : decode cX5_takeLetters 74 = .ok (.iload_n 3, 1) := by decide +kernel
theorem dX5_takeLetters_75 : decode cX5_takeLetters 75 = .ok (.iload 4, 2) := by decide +kernel
theorem dX5_takeLetters_77 : decode cX5_takeLetters 77 = .ok (.iadd, 1) := by decide +kernel
theorem dX5_takeLetters_78 : decode cX5_takeLetters 78 = .ok (.aload_n 2, 1) := by decide +kernel
theorem dX5_takeLetters_79 : decode cX5_takeLetters 79 = .ok (.arraylength, 1) := by decide +kernel
theorem dX5_takeLetters_80 : decode cX5_takeLetters 80 = .ok (.if_icmp .le 9, 3) := by decide +kernel
theorem dX5_takeLetters_83 : decode cX5_takeLetters 83 = .ok (.aload_n 0, 1) := by decide +kernel
theorem dX5_takeLetters_84 : decode cX5_takeLetters 84 = .ok (.iconst 3, 1) := by decide +kernel
theorem dX5_takeLetters_85 : decode cX5_takeLetters 85 = .ok (.invokevirtual 128, 3) := by decide +kernel
theorem dX5_takeLetters_88 : decode cX5_takeLetters 88 = .ok (.ireturn, 1) := by decide +kernel
theorem dX5_takeLetters_89 : decode cX5_takeLetters 89 = .ok (.iconst 0, 1) := by decide +kernel
theorem dX5_takeLetters_90 : decode cX5_takeLetters 90 = .ok (.istore 5, 2) := by decide +kernel
theorem dX5_takeLetters_92 : decode cX5_takeLetters 92 = .ok (.iload 5, 2) := by decide +kernel
theorem dX5_takeLetters_94 : decode cX5_takeLetters 94 = .ok (.iload 4, 2) := by decide +kernel
theorem dX5_takeLetters_96 : decode cX5_takeLetters 96 = .ok (.if_icmp .ge 30, 3) := by decide +kernel
theorem dX5_takeLetters_99 : decode cX5_takeLetters 99 = .ok (.aload_n 2, 1) := by decide +kernel
theorem dX5_takeLetters_100 : decode cX5_takeLetters 100 = .ok (.iload_n 3, 1) := by decide +kernel
theorem dX5_takeLetters_101 : decode cX5_takeLetters 101 = .ok (.iload 5, 2) := by decide +kernel
theorem dX5_takeLetters_103 : decode cX5_takeLetters 103 = .ok (.iadd, 1) := by decide +kernel
theorem dX5_takeLetters_104 : decode cX5_takeLetters 104 = .ok (.aload_n 0, 1) := by decide +kernel
theorem dX5_takeLetters_105 : decode cX5_takeLetters 105 = .ok (.getfield 18, 3) := by decide +kernel
theorem dX5_takeLetters_108 : decode cX5_takeLetters 108 = .ok (.aload_n 0, 1) := by decide +kernel
theorem dX5_takeLetters_109 : decode cX5_takeLetters 109 = .ok (.getfield 204, 3) := by decide +kernel
theorem dX5_takeLetters_112 : decode cX5_takeLetters 112 = .ok (.iload 5, 2) := by decide +kernel
theorem dX5_takeLetters_114 : decode cX5_takeLetters 114 = .ok (.iadd, 1) := by decide +kernel
theorem dX5_takeLetters_115 : decode cX5_takeLetters 115 = .ok (.baload, 1) := by decide +kernel
theorem dX5_takeLetters_116 : decode cX5_takeLetters 116 = .ok (.bipush 97, 2) := by decide +kernel
theorem dX5_takeLetters_118 : decode cX5_takeLetters 118 = .ok (.isub, 1) := by decide +kernel
theorem dX5_takeLetters_119 : decode cX5_takeLetters 119 = .ok (.iastore, 1) := by decide +kernel
theorem dX5_takeLetters_120 : decode cX5_takeLetters 120 = .ok (.iinc 5 1, 3) := by decide +kernel
theorem dX5_takeLetters_123 : decode cX5_takeLetters 123 = .ok (.goto (-31), 3) := by decide +kernel
theorem dX5_takeLetters_126 : decode cX5_takeLetters 126 = .ok (.aload_n 0, 1) := by decide +kernel
theorem dX5_takeLetters_127 : decode cX5_takeLetters 127 = .ok (.invokevirtual 41, 3) := by decide +kernel
theorem dX5_takeLetters_130 : decode cX5_takeLetters 130 = .ok (.aload_n 0, 1) := by decide +kernel
theorem dX5_takeLetters_131 : decode cX5_takeLetters 131 = .ok (.iload 4, 2) := by decide +kernel
theorem dX5_takeLetters_133 : decode cX5_takeLetters 133 = .ok (.putfield 69, 3) := by decide +kernel
theorem dX5_takeLetters_136 : decode cX5_takeLetters 136 = .ok (.iconst 1, 1) := by decide +kernel
theorem dX5_takeLetters_137 : decode cX5_takeLetters 137 = .ok (.ireturn, 1) := by decide +kernel
theorem dX5_isWord_0 : decode cX5_isWord 0 = .ok (.aload_n 0, 1) := by decide +kernel
theorem dX5_isWord_1 : decode cX5_isWord 1 = .ok (.getfield 51, 3) := by decide +kernel
theorem dX5_isWord_4 : decode cX5_isWord 4 = .ok (.iconst 1, 1) := by decide +kernel
theorem dX5_isWord_5 : decode cX5_isWord 5 = .ok (.if_icmp .ne 19, 3) := by decide +kernel
theorem dX5_isWord_8 : decode cX5_isWord 8 = .ok (.aload_n 0, 1) := by decide +kernel
theorem dX5_isWord_9 : decode cX5_isWord 9 = .ok (.getfield 38, 3) := by decide +kernel
theorem dX5_isWord_12 : decode cX5_isWord 12 = .ok (.aload_n 0, 1) := by decide +kernel
theorem dX5_isWord_13 : decode cX5_isWord 13 = .ok (.getfield 204, 3) := by decide +kernel
theorem dX5_isWord_16 : decode cX5_isWord 16 = .ok (.isub, 1) := by decide +kernel
theorem dX5_isWord_17 : decode cX5_isWord 17 = .ok (.aload_n 1, 1) := by decide +kernel
theorem dX5_isWord_18 : decode cX5_isWord 18 = .ok (.invokevirtual 207, 3) := by decide +kernel
theorem dX5_isWord_21 : decode cX5_isWord 21 = .ok (.if_icmp .eq 5, 3) := by decide +kernel
theorem dX5_isWord_24 : decode cX5_isWord 24 = .ok (.iconst 0, 1) := by decide +kernel
theorem dX5_isWord_25 : decode cX5_isWord 25 = .ok (.ireturn, 1) := by decide +kernel
theorem dX5_isWord_26 : decode cX5_isWord 26 = .ok (.iconst 0, 1) := by decide +kernel
theorem dX5_isWord_27 : decode cX5_isWord 27 = .ok (.istore_n 2, 1) := by decide +kernel
theorem dX5_isWord_28 : decode cX5_isWord 28 = .ok (.iload_n 2, 1) := by decide +kernel
theorem dX5_isWord_29 : decode cX5_isWord 29 = .ok (.aload_n 1, 1) := by decide +kernel
theorem dX5_isWord_30 : decode cX5_isWord 30 = .ok (.invokevirtual 207, 3) := by decide +kernel
theorem dX5_isWord_33 : decode cX5_isWord 33 = .ok (.if_icmp .ge 30, 3) := by decide +kernel
theorem dX5_isWord_36 : decode cX5_isWord 36 = .ok (.aload_n 0, 1) := by decide +kernel
theorem dX5_isWord_37 : decode cX5_isWord 37 = .ok (.getfield 18, 3) := by decide +kernel
theorem dX5_isWord_40 : decode cX5_isWord 40 = .ok (.aload_n 0, 1) := by decide +kernel
theorem dX5_isWord_41 : decode cX5_isWord 41 = .ok (.getfield 204, 3) := by decide +kernel
theorem dX5_isWord_44 : decode cX5_isWord 44 = .ok (.iload_n 2, 1) := by decide +kernel
theorem dX5_isWord_45 : decode cX5_isWord 45 = .ok (.iadd, 1) := by decide +kernel
theorem dX5_isWord_46 : decode cX5_isWord 46 = .ok (.baload, 1) := by decide +kernel
theorem dX5_isWord_47 : decode cX5_isWord 47 = .ok (.aload_n 1, 1) := by decide +kernel
theorem dX5_isWord_48 : decode cX5_isWord 48 = .ok (.iload_n 2, 1) := by decide +kernel
theorem dX5_isWord_49 : decode cX5_isWord 49 = .ok (.invokevirtual 212, 3) := by decide +kernel
theorem dX5_isWord_52 : decode cX5_isWord 52 = .ok (.if_icmp .eq 5, 3) := by decide +kernel
theorem dX5_isWord_55 : decode cX5_isWord 55 = .ok (.iconst 0, 1) := by decide +kernel
theorem dX5_isWord_56 : decode cX5_isWord 56 = .ok (.ireturn, 1) := by decide +kernel
theorem dX5_isWord_57 : decode cX5_isWord 57 = .ok (.iinc 2 1, 3) := by decide +kernel
theorem dX5_isWord_60 : decode cX5_isWord 60 = .ok (.goto (-32), 3) := by decide +kernel
theorem dX5_isWord_63 : decode cX5_isWord 63 = .ok (.iconst 1, 1) := by decide +kernel
theorem dX5_isWord_64 : decode cX5_isWord 64 = .ok (.ireturn, 1) := by decide +kernel
theorem dX5_isSign_0 : decode cX5_isSign 0 = .ok (.aload_n 0, 1) := by decide +kernel
theorem dX5_isSign_1 : decode cX5_isSign 1 = .ok (.getfield 51, 3) := by decide +kernel
theorem dX5_isSign_4 : decode cX5_isSign 4 = .ok (.iconst 3, 1) := by decide +kernel
theorem dX5_isSign_5 : decode cX5_isSign 5 = .ok (.if_icmp .ne 20, 3) := by decide +kernel
theorem dX5_isSign_8 : decode cX5_isSign 8 = .ok (.aload_n 0, 1) := by decide +kernel
theorem dX5_isSign_9 : decode cX5_isSign 9 = .ok (.getfield 18, 3) := by decide +kernel
theorem dX5_isSign_12 : decode cX5_isSign 12 = .ok (.aload_n 0, 1) := by decide +kernel
theorem dX5_isSign_13 : decode cX5_isSign 13 = .ok (.getfield 204, 3) := by decide +kernel
theorem dX5_isSign_16 : decode cX5_isSign 16 = .ok (.baload, 1) := by decide +kernel
theorem dX5_isSign_17 : decode cX5_isSign 17 = .ok (.iload_n 1, 1) := by decide +kernel
theorem dX5_isSign_18 : decode cX5_isSign 18 = .ok (.if_icmp .ne 7, 3) := by decide +kernel
theorem dX5_isSign_21 : decode cX5_isSign 21 = .ok (.iconst 1, 1) := by decide +kernel
theorem dX5_isSign_22 : decode cX5_isSign 22 = .ok (.goto 4, 3) := by decide +kernel
theorem dX5_isSign_25 : decode cX5_isSign 25 = .ok (.iconst 0, 1) := by decide +kernel
theorem dX5_isSign_26 : decode cX5_isSign 26 = .ok (.ireturn, 1) := by decide +kernel
theorem dX5_advance_0 : decode cX5_advance 0 = .ok (.aload_n 0, 1) := by decide +kernel
theorem dX5_advance_1 : decode cX5_advance 1 = .ok (.getfield 38, 3) := by decide +kernel
theorem dX5_advance_4 : decode cX5_advance 4 = .ok (.istore_n 1, 1) := by decide +kernel
theorem dX5_advance_5 : decode cX5_advance 5 = .ok (.iload_n 1, 1) := by decide +kernel
theorem dX5_advance_6 : decode cX5_advance 6 = .ok (.aload_n 0, 1) := by decide +kernel
theorem dX5_advance_7 : decode cX5_advance 7 = .ok (.getfield 35, 3) := by decide +kernel
theorem dX5_advance_10 : decode cX5_advance 10 = .ok (.if_icmp .ge 31, 3) := by decide +kernel
theorem dX5_advance_13 : decode cX5_advance 13 = .ok (.aload_n 0, 1) := by decide +kernel
theorem dX5_advance_14 : decode cX5_advance 14 = .ok (.getfield 18, 3) := by decide +kernel
theorem dX5_advance_17 : decode cX5_advance 17 = .ok (.iload_n 1, 1) := by decide +kernel
theorem dX5_advance_18 : decode cX5_advance 18 = .ok (.baload, 1) := by decide +kernel
theorem dX5_advance_19 : decode cX5_advance 19 = .ok (.bipush 32, 2) := by decide +kernel
theorem dX5_advance_21 : decode cX5_advance 21 = .ok (.if_icmp .eq 14, 3) := by decide +kernel
theorem dX5_advance_24 : decode cX5_advance 24 = .ok (.aload_n 0, 1) := by decide +kernel
theorem dX5_advance_25 : decode cX5_advance 25 = .ok (.getfield 18, 3) := by decide +kernel
theorem dX5_advance_28 : decode cX5_advance 28 = .ok (.iload_n 1, 1) := by decide +kernel
theorem dX5_advance_29 : decode cX5_advance 29 = .ok (.baload, 1) := by decide +kernel
theorem dX5_advance_30 : decode cX5_advance 30 = .ok (.bipush 10, 2) := by decide +kernel
theorem dX5_advance_32 : decode cX5_advance 32 = .ok (.if_icmp .ne 9, 3) := by decide +kernel
theorem dX5_advance_35 : decode cX5_advance 35 = .ok (.iinc 1 1, 3) := by decide +kernel
theorem dX5_advance_38 : decode cX5_advance 38 = .ok (.goto (-33), 3) := by decide +kernel
theorem dX5_advance_41 : decode cX5_advance 41 = .ok (.aload_n 0, 1) := by decide +kernel
theorem dX5_advance_42 : decode cX5_advance 42 = .ok (.iload_n 1, 1) := by decide +kernel
theorem dX5_advance_43 : decode cX5_advance 43 = .ok (.putfield 204, 3) := by decide +kernel
theorem dX5_advance_46 : decode cX5_advance 46 = .ok (.aload_n 0, 1) := by decide +kernel
theorem dX5_advance_47 : decode cX5_advance 47 = .ok (.iload_n 1, 1) := by decide +kernel
theorem dX5_advance_48 : decode cX5_advance 48 = .ok (.iconst 1, 1) := by decide +kernel
theorem dX5_advance_49 : decode cX5_advance 49 = .ok (.iadd, 1) := by decide +kernel
theorem dX5_advance_50 : decode cX5_advance 50 = .ok (.aload_n 0, 1) := by decide +kernel
theorem dX5_advance_51 : decode cX5_advance 51 = .ok (.getfield 35, 3) := by decide +kernel
theorem dX5_advance_54 : decode cX5_advance 54 = .ok (.invokestatic 29, 3) := by decide +kernel
theorem dX5_advance_57 : decode cX5_advance 57 = .ok (.putfield 38, 3) := by decide +kernel
theorem dX5_advance_60 : decode cX5_advance 60 = .ok (.iload_n 1, 1) := by decide +kernel
theorem dX5_advance_61 : decode cX5_advance 61 = .ok (.aload_n 0, 1) := by decide +kernel
theorem dX5_advance_62 : decode cX5_advance 62 = .ok (.getfield 35, 3) := by decide +kernel
theorem dX5_advance_65 : decode cX5_advance 65 = .ok (.if_icmp .lt 11, 3) := by decide +kernel
theorem dX5_advance_68 : decode cX5_advance 68 = .ok (.aload_n 0, 1) := by decide +kernel
theorem dX5_advance_69 : decode cX5_advance 69 = .ok (.iconst 0, 1) := by decide +kernel
theorem dX5_advance_70 : decode cX5_advance 70 = .ok (.putfield 51, 3) := by decide +kernel
theorem dX5_advance_73 : decode cX5_advance 73 = .ok (.goto 133, 3) := by decide +kernel
theorem dX5_advance_76 : decode cX5_advance 76 = .ok (.aload_n 0, 1) := by decide +kernel
theorem dX5_advance_77 : decode cX5_advance 77 = .ok (.getfield 18, 3) := by decide +kernel
theorem dX5_advance_80 : decode cX5_advance 80 = .ok (.iload_n 1, 1) := by decide +kernel
theorem dX5_advance_81 : decode cX5_advance 81 = .ok (.baload, 1) := by decide +kernel
theorem dX5_advance_82 : decode cX5_advance 82 = .ok (.bipush 97, 2) := by decide +kernel
theorem dX5_advance_84 : decode cX5_advance 84 = .ok (.if_icmp .lt 30, 3) := by decide +kernel
theorem dX5_advance_87 : decode cX5_advance 87 = .ok (.aload_n 0, 1) := by decide +kernel
theorem dX5_advance_88 : decode cX5_advance 88 = .ok (.getfield 18, 3) := by decide +kernel
theorem dX5_advance_91 : decode cX5_advance 91 = .ok (.iload_n 1, 1) := by decide +kernel
theorem dX5_advance_92 : decode cX5_advance 92 = .ok (.baload, 1) := by decide +kernel
theorem dX5_advance_93 : decode cX5_advance 93 = .ok (.bipush 122, 2) := by decide +kernel
theorem dX5_advance_95 : decode cX5_advance 95 = .ok (.if_icmp .gt 19, 3) := by decide +kernel
theorem dX5_advance_98 : decode cX5_advance 98 = .ok (.aload_n 0, 1) := by decide +kernel
theorem dX5_advance_99 : decode cX5_advance 99 = .ok (.iconst 1, 1) := by decide +kernel
theorem dX5_advance_100 : decode cX5_advance 100 = .ok (.putfield 51, 3) := by decide +kernel
theorem dX5_advance_103 : decode cX5_advance 103 = .ok (.aload_n 0, 1) := by decide +kernel
theorem dX5_advance_104 : decode cX5_advance 104 = .ok (.bipush 97, 2) := by decide +kernel
theorem dX5_advance_106 : decode cX5_advance 106 = .ok (.bipush 122, 2) := by decide +kernel
theorem dX5_advance_108 : decode cX5_advance 108 = .ok (.invokevirtual 216, 3) := by decide +kernel
theorem dX5_advance_111 : decode cX5_advance 111 = .ok (.goto 95, 3) := by decide +kernel
theorem dX5_advance_114 : decode cX5_advance 114 = .ok (.aload_n 0, 1) := by decide +kernel
theorem dX5_advance_115 : decode cX5_advance 115 = .ok (.getfield 18, 3) := by decide +kernel
theorem dX5_advance_118 : decode cX5_advance 118 = .ok (.iload_n 1, 1) := by decide +kernel
theorem dX5_advance_119 : decode cX5_advance 119 = .ok (.baload, 1) := by decide +kernel
theorem dX5_advance_120 : decode cX5_advance 120 = .ok (.bipush 48, 2) := by decide +kernel
theorem dX5_advance_122 : decode cX5_advance 122 = .ok (.if_icmp .lt 51, 3) := by decide +kernel
theorem dX5_advance_125 : decode cX5_advance 125 = .ok (.aload_n 0, 1) := by decide +kernel
theorem dX5_advance_126 : decode cX5_advance 126 = .ok (.getfield 18, 3) := by decide +kernel
theorem dX5_advance_129 : decode cX5_advance 129 = .ok (.iload_n 1, 1) := by decide +kernel
theorem dX5_advance_130 : decode cX5_advance 130 = .ok (.baload, 1) := by decide +kernel
theorem dX5_advance_131 : decode cX5_advance 131 = .ok (.bipush 57, 2) := by decide +kernel
theorem dX5_advance_133 : decode cX5_advance 133 = .ok (.if_icmp .gt 40, 3) := by decide +kernel
theorem dX5_advance_136 : decode cX5_advance 136 = .ok (.aload_n 0, 1) := by decide +kernel
theorem dX5_advance_137 : decode cX5_advance 137 = .ok (.bipush 48, 2) := by decide +kernel
theorem dX5_advance_139 : decode cX5_advance 139 = .ok (.bipush 57, 2) := by decide +kernel
theorem dX5_advance_141 : decode cX5_advance 141 = .ok (.invokevirtual 216, 3) := by decide +kernel
theorem dX5_advance_144 : decode cX5_advance 144 = .ok (.aload_n 0, 1) := by decide +kernel
theorem dX5_advance_145 : decode cX5_advance 145 = .ok (.aload_n 0, 1) := by decide +kernel
theorem dX5_advance_146 : decode cX5_advance 146 = .ok (.getfield 38, 3) := by decide +kernel
theorem dX5_advance_149 : decode cX5_advance 149 = .ok (.aload_n 0, 1) := by decide +kernel
theorem dX5_advance_150 : decode cX5_advance 150 = .ok (.getfield 204, 3) := by decide +kernel
theorem dX5_advance_153 : decode cX5_advance 153 = .ok (.isub, 1) := by decide +kernel
theorem dX5_advance_154 : decode cX5_advance 154 = .ok (.iconst 3, 1) := by decide +kernel
theorem dX5_advance_155 : decode cX5_advance 155 = .ok (.if_icmp .le 7, 3) := by decide +kernel
theorem dX5_advance_158 : decode cX5_advance 158 = .ok (.iconst 4, 1) := by decide +kernel
theorem dX5_advance_159 : decode cX5_advance 159 = .ok (.goto 4, 3) := by decide +kernel
theorem dX5_advance_162 : decode cX5_advance 162 = .ok (.iconst 2, 1) := by decide +kernel
theorem dX5_advance_163 : decode cX5_advance 163 = .ok (.putfield 51, 3) := by decide +kernel
theorem dX5_advance_166 : decode cX5_advance 166 = .ok (.aload_n 0, 1) := by decide +kernel
theorem dX5_advance_167 : decode cX5_advance 167 = .ok (.invokevirtual 220, 3) := by decide +kernel
theorem dX5_advance_170 : decode cX5_advance 170 = .ok (.goto 36, 3) := by decide +kernel
theorem dX5_advance_173 : decode cX5_advance 173 = .ok (.aload_n 0, 1) := by decide +kernel
theorem dX5_advance_174 : decode cX5_advance 174 = .ok (.aload_n 0, 1) := by decide +kernel
theorem dX5_advance_175 : decode cX5_advance 175 = .ok (.getfield 18, 3) := by decide +kernel
theorem dX5_advance_178 : decode cX5_advance 178 = .ok (.iload_n 1, 1) := by decide +kernel
theorem dX5_advance_179 : decode cX5_advance 179 = .ok (.baload, 1) := by decide +kernel
theorem dX5_advance_180 : decode cX5_advance 180 = .ok (.ifCond .le 22, 3) := by decide +kernel
theorem dX5_advance_183 : decode cX5_advance 183 = .ok (.ldc 223, 2) := by decide +kernel
theorem dX5_advance_185 : decode cX5_advance 185 = .ok (.aload_n 0, 1) := by decide +kernel
theorem dX5_advance_186 : decode cX5_advance 186 = .ok (.getfield 18, 3) := by decide +kernel
theorem dX5_advance_189 : decode cX5_advance 189 = .ok (.iload_n 1, 1) := by decide +kernel
theorem dX5_advance_190 : decode cX5_advance 190 = .ok (.baload, 1) := by decide +kernel
theorem dX5_advance_191 : decode cX5_advance 191 = .ok (.i2c, 1) := by decide +kernel
theorem dX5_advance_192 : decode cX5_advance 192 = .ok (.invokevirtual 225, 3) := by decide +kernel
theorem dX5_advance_195 : decode cX5_advance 195 = .ok (.ifCond .lt 7, 3) := by decide +kernel
theorem dX5_advance_198 : decode cX5_advance 198 = .ok (.iconst 3, 1) := by decide +kernel
theorem dX5_advance_199 : decode cX5_advance 199 = .ok (.goto 4, 3) := by decide +kernel
theorem dX5_advance_202 : decode cX5_advance 202 = .ok (.iconst 4, 1) := by decide +kernel
theorem dX5_advance_203 : decode cX5_advance 203 = .ok (.putfield 51, 3) := by decide +kernel
theorem dX5_advance_206 : decode cX5_advance 206 = .ok (.return_, 1) := by decide +kernel
theorem dX5_runOn_0 : decode cX5_runOn 0 = .ok (.aload_n 0, 1) := by decide +kernel
theorem dX5_runOn_1 : decode cX5_runOn 1 = .ok (.getfield 38, 3) := by decide +kernel
theorem dX5_runOn_4 : decode cX5_runOn 4 = .ok (.aload_n 0, 1) := by decide +kernel
theorem dX5_runOn_5 : decode cX5_runOn 5 = .ok (.getfield 35, 3) := by decide +kernel
theorem dX5_runOn_8 : decode cX5_runOn 8 = .ok (.if_icmp .ge 42, 3) := by decide +kernel
theorem dX5_runOn_11 : decode cX5_runOn 11 = .ok (.aload_n 0, 1) := by decide +kernel
theorem dX5_runOn_12 : decode cX5_runOn 12 = .ok (.getfield 18, 3) := by decide +kernel
theorem dX5_runOn_15 : decode cX5_runOn 15 = .ok (.aload_n 0, 1) := by decide +kernel
theorem dX5_runOn_16 : decode cX5_runOn 16 = .ok (.getfield 38, 3) := by decide +kernel
theorem dX5_runOn_19 : decode cX5_runOn 19 = .ok (.baload, 1) := by decide +kernel
theorem dX5_runOn_20 : decode cX5_runOn 20 = .ok (.iload_n 1, 1) := by decide +kernel
theorem dX5_runOn_21 : decode cX5_runOn 21 = .ok (.if_icmp .lt 29, 3) := by decide +kernel
theorem dX5_runOn_24 : decode cX5_runOn 24 = .ok (.aload_n 0, 1) := by decide +kernel
theorem dX5_runOn_25 : decode cX5_runOn 25 = .ok (.getfield 18, 3) := by decide +kernel
theorem dX5_runOn_28 : decode cX5_runOn 28 = .ok (.aload_n 0, 1) := by decide +kernel
theorem dX5_runOn_29 : decode cX5_runOn 29 = .ok (.getfield 38, 3) := by decide +kernel
theorem dX5_runOn_32 : decode cX5_runOn 32 = .ok (.baload, 1) := by decide +kernel
theorem dX5_runOn_33 : decode cX5_runOn 33 = .ok (.iload_n 2, 1) := by decide +kernel
theorem dX5_runOn_34 : decode cX5_runOn 34 = .ok (.if_icmp .gt 16, 3) := by decide +kernel
theorem dX5_runOn_37 : decode cX5_runOn 37 = .ok (.aload_n 0, 1) := by decide +kernel
theorem dX5_runOn_38 : decode cX5_runOn 38 = .ok (.dup, 1) := by decide +kernel
theorem dX5_runOn_39 : decode cX5_runOn 39 = .ok (.getfield 38, 3) := by decide +kernel
theorem dX5_runOn_42 : decode cX5_runOn 42 = .ok (.iconst 1, 1) := by decide +kernel
theorem dX5_runOn_43 : decode cX5_runOn 43 = .ok (.iadd, 1) := by decide +kernel
theorem dX5_runOn_44 : decode cX5_runOn 44 = .ok (.putfield 38, 3) := by decide +kernel
theorem dX5_runOn_47 : decode cX5_runOn 47 = .ok (.goto (-47), 3) := by decide +kernel
theorem dX5_runOn_50 : decode cX5_runOn 50 = .ok (.return_, 1) := by decide +kernel
theorem dX5_worthOfDigits_0 : decode cX5_worthOfDigits 0 = .ok (.aload_n 0, 1) := by decide +kernel
theorem dX5_worthOfDigits_1 : decode cX5_worthOfDigits 1 = .ok (.iconst 0, 1) := by decide +kernel
theorem dX5_worthOfDigits_2 : decode cX5_worthOfDigits 2 = .ok (.putfield 69, 3) := by decide +kernel
theorem dX5_worthOfDigits_5 : decode cX5_worthOfDigits 5 = .ok (.aload_n 0, 1) := by decide +kernel
theorem dX5_worthOfDigits_6 : decode cX5_worthOfDigits 6 = .ok (.getfield 204, 3) := by decide +kernel
theorem dX5_worthOfDigits_9 : decode cX5_worthOfDigits 9 = .ok (.istore_n 1, 1) := by decide +kernel
theorem dX5_worthOfDigits_10 : decode cX5_worthOfDigits 10 = .ok (.iload_n 1, 1) := by decide +kernel
theorem dX5_worthOfDigits_11 : decode cX5_worthOfDigits 11 = .ok (.aload_n 0, 1) := by decide +kernel
theorem dX5_worthOfDigits_12 : decode cX5_worthOfDigits 12 = .ok (.getfield 38, 3) := by decide +kernel
theorem dX5_worthOfDigits_15 : decode cX5_worthOfDigits 15 = .ok (.if_icmp .ge 38, 3) := by decide +kernel
theorem dX5_worthOfDigits_18 : decode cX5_worthOfDigits 18 = .ok (.aload_n 0, 1) := by decide +kernel
theorem dX5_worthOfDigits_19 : decode cX5_worthOfDigits 19 = .ok (.getfield 51, 3) := by decide +kernel
theorem dX5_worthOfDigits_22 : decode cX5_worthOfDigits 22 = .ok (.iconst 2, 1) := by decide +kernel
theorem dX5_worthOfDigits_23 : decode cX5_worthOfDigits 23 = .ok (.if_icmp .ne 30, 3) := by decide +kernel
theorem dX5_worthOfDigits_26 : decode cX5_worthOfDigits 26 = .ok (.aload_n 0, 1) := by decide +kernel
theorem dX5_worthOfDigits_27 : decode cX5_worthOfDigits 27 = .ok (.aload_n 0, 1) := by decide +kernel
theorem dX5_worthOfDigits_28 : decode cX5_worthOfDigits 28 = .ok (.getfield 69, 3) := by decide +kernel
theorem dX5_worthOfDigits_31 : decode cX5_worthOfDigits 31 = .ok (.bipush 10, 2) := by decide +kernel
theorem dX5_worthOfDigits_33 : decode cX5_worthOfDigits 33 = .ok (.imul, 1) := by decide +kernel
theorem dX5_worthOfDigits_34 : decode cX5_worthOfDigits 34 = .ok (.aload_n 0, 1) := by decide +kernel
theorem dX5_worthOfDigits_35 : decode cX5_worthOfDigits 35 = .ok (.getfield 18, 3) := by decide +kernel
theorem dX5_worthOfDigits_38 : decode cX5_worthOfDigits 38 = .ok (.iload_n 1, 1) := by decide +kernel
theorem dX5_worthOfDigits_39 : decode cX5_worthOfDigits 39 = .ok (.baload, 1) := by decide +kernel
theorem dX5_worthOfDigits_40 : decode cX5_worthOfDigits 40 = .ok (.iadd, 1) := by decide +kernel
theorem dX5_worthOfDigits_41 : decode cX5_worthOfDigits 41 = .ok (.bipush 48, 2) := by decide +kernel
theorem dX5_worthOfDigits_43 : decode cX5_worthOfDigits 43 = .ok (.isub, 1) := by decide +kernel
theorem dX5_worthOfDigits_44 : decode cX5_worthOfDigits 44 = .ok (.putfield 69, 3) := by decide +kernel
theorem dX5_worthOfDigits_47 : decode cX5_worthOfDigits 47 = .ok (.iinc 1 1, 3) := by decide +kernel
theorem dX5_worthOfDigits_50 : decode cX5_worthOfDigits 50 = .ok (.goto (-40), 3) := by decide +kernel
theorem dX5_worthOfDigits_53 : decode cX5_worthOfDigits 53 = .ok (.return_, 1) := by decide +kernel
