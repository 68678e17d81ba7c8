theorem dX11_init_0 : decode cX11_init 0 = .ok (.aload_n 0, 1) := by decide +kernel
theorem dX11_init_1 : decode cX11_init 1 = .ok (.invokespecial 1, 3) := by decide +kernel
theorem dX11_init_4 : decode cX11_init 4 = .ok (.aload_n 0, 1) := by decide +kernel
theorem dX11_init_5 : decode cX11_init 5 = .ok (.sipush 900, 3) := by decide +kernel
theorem dX11_init_8 : decode cX11_init 8 = .ok (.newarray .byte, 2) := by decide +kernel
theorem dX11_init_10 : decode cX11_init 10 = .ok (.putfield 9, 3) := by decide +kernel
theorem dX11_init_13 : decode cX11_init 13 = .ok (.aload_n 0, 1) := by decide +kernel
theorem dX11_init_14 : decode cX11_init 14 = .ok (.new 13, 3) := by decide +kernel
theorem dX11_init_17 : decode cX11_init 17 = .ok (.dup, 1) := by decide +kernel
theorem dX11_init_18 : decode cX11_init 18 = .ok (.invokespecial 15, 3) := by decide +kernel
theorem dX11_init_21 : decode cX11_init 21 = .ok (.putfield 16, 3) := by decide +kernel
theorem dX11_init_24 : decode cX11_init 24 = .ok (.aload_n 0, 1) := by decide +kernel
theorem dX11_init_25 : decode cX11_init 25 = .ok (.new 20, 3) := by decide +kernel
theorem dX11_init_28 : decode cX11_init 28 = .ok (.dup, 1) := by decide +kernel
theorem dX11_init_29 : decode cX11_init 29 = .ok (.invokespecial 22, 3) := by decide +kernel
theorem dX11_init_32 : decode cX11_init 32 = .ok (.putfield 23, 3) := by decide +kernel
theorem dX11_init_35 : decode cX11_init 35 = .ok (.aload_n 0, 1) := by decide +kernel
theorem dX11_init_36 : decode cX11_init 36 = .ok (.iconst 2, 1) := by decide +kernel
theorem dX11_init_37 : decode cX11_init 37 = .ok (.anewarray 27, 3) := by decide +kernel
theorem dX11_init_40 : decode cX11_init 40 = .ok (.putfield 29, 3) := by decide +kernel
theorem dX11_init_43 : decode cX11_init 43 = .ok (.aload_n 0, 1) := by decide +kernel
theorem dX11_init_44 : decode cX11_init 44 = .ok (.iconst 4, 1) := by decide +kernel
theorem dX11_init_45 : decode cX11_init 45 = .ok (.anewarray 33, 3) := by decide +kernel
theorem dX11_init_48 : decode cX11_init 48 = .ok (.putfield 35, 3) := by decide +kernel
theorem dX11_init_51 : decode cX11_init 51 = .ok (.aload_n 0, 1) := by decide +kernel
theorem dX11_init_52 : decode cX11_init 52 = .ok (.new 39, 3) := by decide +kernel
theorem dX11_init_55 : decode cX11_init 55 = .ok (.dup, 1) := by decide +kernel
theorem dX11_init_56 : decode cX11_init 56 = .ok (.invokespecial 41, 3) := by decide +kernel
theorem dX11_init_59 : decode cX11_init 59 = .ok (.putfield 42, 3) := by decide +kernel
theorem dX11_init_62 : decode cX11_init 62 = .ok (.aload_n 0, 1) := by decide +kernel
theorem dX11_init_63 : decode cX11_init 63 = .ok (.new 46, 3) := by decide +kernel
theorem dX11_init_66 : decode cX11_init 66 = .ok (.dup, 1) := by decide +kernel
theorem dX11_init_67 : decode cX11_init 67 = .ok (.invokespecial 48, 3) := by decide +kernel
theorem dX11_init_70 : decode cX11_init 70 = .ok (.putfield 49, 3) := by decide +kernel
theorem dX11_init_73 : decode cX11_init 73 = .ok (.aload_n 0, 1) := by decide +kernel
theorem dX11_init_74 : decode cX11_init 74 = .ok (.new 53, 3) := by decide +kernel
theorem dX11_init_77 : decode cX11_init 77 = .ok (.dup, 1) := by decide +kernel
theorem dX11_init_78 : decode cX11_init 78 = .ok (.invokespecial 55, 3) := by decide +kernel
theorem dX11_init_81 : decode cX11_init 81 = .ok (.putfield 56, 3) := by decide +kernel
theorem dX11_init_84 : decode cX11_init 84 = .ok (.new 60, 3) := by decide +kernel
theorem dX11_init_87 : decode cX11_init 87 = .ok (.dup, 1) := by decide +kernel
theorem dX11_init_88 : decode cX11_init 88 = .ok (.invokespecial 62, 3) := by decide +kernel
theorem dX11_init_91 : decode cX11_init 91 = .ok (.astore_n 1, 1) := by decide +kernel
theorem dX11_init_92 : decode cX11_init 92 = .ok (.aload_n 0, 1) := by decide +kernel
theorem dX11_init_93 : decode cX11_init 93 = .ok (.new 27, 3) := by decide +kernel
theorem dX11_init_96 : decode cX11_init 96 = .ok (.dup, 1) := by decide +kernel
theorem dX11_init_97 : decode cX11_init 97 = .ok (.aload_n 1, 1) := by decide +kernel
theorem dX11_init_98 : decode cX11_init 98 = .ok (.invokespecial 63, 3) := by decide +kernel
theorem dX11_init_101 : decode cX11_init 101 = .ok (.putfield 66, 3) := by decide +kernel
theorem dX11_init_104 : decode cX11_init 104 = .ok (.aload_n 0, 1) := by decide +kernel
theorem dX11_init_105 : decode cX11_init 105 = .ok (.new 27, 3) := by decide +kernel
theorem dX11_init_108 : decode cX11_init 108 = .ok (.dup, 1) := by decide +kernel
theorem dX11_init_109 : decode cX11_init 109 = .ok (.aload_n 1, 1) := by decide +kernel
theorem dX11_init_110 : decode cX11_init 110 = .ok (.invokespecial 63, 3) := by decide +kernel
theorem dX11_init_113 : decode cX11_init 113 = .ok (.putfield 70, 3) := by decide +kernel
theorem dX11_init_116 : decode cX11_init 116 = .ok (.aload_n 0, 1) := by decide +kernel
theorem dX11_init_117 : decode cX11_init 117 = .ok (.new 73, 3) := by decide +kernel
theorem dX11_init_120 : decode cX11_init 120 = .ok (.dup, 1) := by decide +kernel
theorem dX11_init_121 : decode cX11_init 121 = .ok (.aload_n 1, 1) := by decide +kernel
theorem dX11_init_122 : decode cX11_init 122 = .ok (.invokespecial 75, 3) := by decide +kernel
theorem dX11_init_125 : decode cX11_init 125 = .ok (.putfield 76, 3) := by decide +kernel
theorem dX11_init_128 : decode cX11_init 128 = .ok (.iconst 0, 1) := by decide +kernel
theorem dX11_init_129 : decode cX11_init 129 = .ok (.istore_n 2, 1) := by decide +kernel
theorem dX11_init_130 : decode cX11_init 130 = .ok (.iload_n 2, 1) := by decide +kernel
theorem dX11_init_131 : decode cX11_init 131 = .ok (.iconst 4, 1) := by decide +kernel
theorem dX11_init_132 : decode cX11_init 132 = .ok (.if_icmp .ge 22, 3) := by decide +kernel
theorem dX11_init_135 : decode cX11_init 135 = .ok (.aload_n 0, 1) := by decide +kernel
theorem dX11_init_136 : decode cX11_init 136 = .ok (.getfield 35, 3) := by decide +kernel
theorem dX11_init_139 : decode cX11_init 139 = .ok (.iload_n 2, 1) := by decide +kernel
theorem dX11_init_140 : decode cX11_init 140 = .ok (.new 33, 3) := by decide +kernel
theorem dX11_init_143 : decode cX11_init 143 = .ok (.dup, 1) := by decide +kernel
theorem dX11_init_144 : decode cX11_init 144 = .ok (.invokespecial 80, 3) := by decide +kernel
theorem dX11_init_147 : decode cX11_init 147 = .ok (.aastore, 1) := by decide +kernel
theorem dX11_init_148 : decode cX11_init 148 = .ok (.iinc 2 1, 3) := by decide +kernel
theorem dX11_init_151 : decode cX11_init 151 = .ok (.goto (-21), 3) := by decide +kernel
theorem dX11_init_154 : decode cX11_init 154 = .ok (.return_, 1) := by decide +kernel
theorem dX11_feed_0 : decode cX11_feed 0 = .ok (.aload_n 0, 1) := by decide +kernel
theorem dX11_feed_1 : decode cX11_feed 1 = .ok (.getfield 81, 3) := by decide +kernel
theorem dX11_feed_4 : decode cX11_feed 4 = .ok (.bipush 20, 2) := by decide +kernel
theorem dX11_feed_6 : decode cX11_feed 6 = .ok (.iadd, 1) := by decide +kernel
theorem dX11_feed_7 : decode cX11_feed 7 = .ok (.sipush 900, 3) := by decide +kernel
theorem dX11_feed_10 : decode cX11_feed 10 = .ok (.if_icmp .le 6, 3) := by decide +kernel
theorem dX11_feed_13 : decode cX11_feed 13 = .ok (.bipush (-5), 2) := by decide +kernel
theorem dX11_feed_15 : decode cX11_feed 15 = .ok (.ireturn, 1) := by decide +kernel
theorem dX11_feed_16 : decode cX11_feed 16 = .ok (.aload_n 0, 1) := by decide +kernel
theorem dX11_feed_17 : decode cX11_feed 17 = .ok (.iload_n 1, 1) := by decide +kernel
theorem dX11_feed_18 : decode cX11_feed 18 = .ok (.invokevirtual 85, 3) := by decide +kernel
theorem dX11_feed_21 : decode cX11_feed 21 = .ok (.aload_n 0, 1) := by decide +kernel
theorem dX11_feed_22 : decode cX11_feed 22 = .ok (.iload_n 2, 1) := by decide +kernel
theorem dX11_feed_23 : decode cX11_feed 23 = .ok (.invokevirtual 85, 3) := by decide +kernel
theorem dX11_feed_26 : decode cX11_feed 26 = .ok (.aload_n 0, 1) := by decide +kernel
theorem dX11_feed_27 : decode cX11_feed 27 = .ok (.iload_n 3, 1) := by decide +kernel
theorem dX11_feed_28 : decode cX11_feed 28 = .ok (.invokevirtual 85, 3) := by decide +kernel
theorem dX11_feed_31 : decode cX11_feed 31 = .ok (.aload_n 0, 1) := by decide +kernel
theorem dX11_feed_32 : decode cX11_feed 32 = .ok (.iload 4, 2) := by decide +kernel
theorem dX11_feed_34 : decode cX11_feed 34 = .ok (.invokevirtual 85, 3) := by decide +kernel
theorem dX11_feed_37 : decode cX11_feed 37 = .ok (.aload_n 0, 1) := by decide +kernel
theorem dX11_feed_38 : decode cX11_feed 38 = .ok (.iload 5, 2) := by decide +kernel
theorem dX11_feed_40 : decode cX11_feed 40 = .ok (.invokevirtual 85, 3) := by decide +kernel
theorem dX11_feed_43 : decode cX11_feed 43 = .ok (.aload_n 0, 1) := by decide +kernel
theorem dX11_feed_44 : decode cX11_feed 44 = .ok (.getfield 81, 3) := by decide +kernel
theorem dX11_feed_47 : decode cX11_feed 47 = .ok (.ireturn, 1) := by decide +kernel
theorem dX11_tapeBytes_0 : decode cX11_tapeBytes 0 = .ok (.bipush 24, 2) := by decide +kernel
theorem dX11_tapeBytes_2 : decode cX11_tapeBytes 2 = .ok (.istore_n 2, 1) := by decide +kernel
theorem dX11_tapeBytes_3 : decode cX11_tapeBytes 3 = .ok (.iload_n 2, 1) := by decide +kernel
theorem dX11_tapeBytes_4 : decode cX11_tapeBytes 4 = .ok (.ifCond .lt 44, 3) := by decide +kernel
theorem dX11_tapeBytes_7 : decode cX11_tapeBytes 7 = .ok (.aload_n 0, 1) := by decide +kernel
theorem dX11_tapeBytes_8 : decode cX11_tapeBytes 8 = .ok (.getfield 81, 3) := by decide +kernel
theorem dX11_tapeBytes_11 : decode cX11_tapeBytes 11 = .ok (.aload_n 0, 1) := by decide +kernel
theorem dX11_tapeBytes_12 : decode cX11_tapeBytes 12 = .ok (.getfield 9, 3) := by decide +kernel
theorem dX11_tapeBytes_15 : decode cX11_tapeBytes 15 = .ok (.arraylength, 1) := by decide +kernel
theorem dX11_tapeBytes_16 : decode cX11_tapeBytes 16 = .ok (.if_icmp .ge 26, 3) := by decide +kernel
theorem dX11_tapeBytes_19 : decode cX11_tapeBytes 19 = .ok (.aload_n 0, 1) := by decide +kernel
theorem dX11_tapeBytes_20 : decode cX11_tapeBytes 20 = .ok (.getfield 9, 3) := by decide +kernel
theorem dX11_tapeBytes_23 : decode cX11_tapeBytes 23 = .ok (.aload_n 0, 1) := by decide +kernel
theorem dX11_tapeBytes_24 : decode cX11_tapeBytes 24 = .ok (.getfield 81, 3) := by decide +kernel
theorem dX11_tapeBytes_27 : decode cX11_tapeBytes 27 = .ok (.iload_n 1, 1) := by decide +kernel
theorem dX11_tapeBytes_28 : decode cX11_tapeBytes 28 = .ok (.iload_n 2, 1) := by decide +kernel
theorem dX11_tapeBytes_29 : decode cX11_tapeBytes 29 = .ok (.iushr, 1) := by decide +kernel
theorem dX11_tapeBytes_30 : decode cX11_tapeBytes 30 = .ok (.i2b, 1) := by decide +kernel
theorem dX11_tapeBytes_31 : decode cX11_tapeBytes 31 = .ok (.bastore, 1) := by decide +kernel
theorem dX11_tapeBytes_32 : decode cX11_tapeBytes 32 = .ok (.aload_n 0, 1) := by decide +kernel
theorem dX11_tapeBytes_33 : decode cX11_tapeBytes 33 = .ok (.dup, 1) := by decide +kernel
theorem dX11_tapeBytes_34 : decode cX11_tapeBytes 34 = .ok (.getfield 81, 3) := by decide +kernel
theorem dX11_tapeBytes_37 : decode cX11_tapeBytes 37 = .ok (.iconst 1, 1) := by decide +kernel
theorem dX11_tapeBytes_38 : decode cX11_tapeBytes 38 = .ok (.iadd, 1) := by decide +kernel
theorem dX11_tapeBytes_39 : decode cX11_tapeBytes 39 = .ok (.putfield 81, 3) := by decide +kernel
theorem dX11_tapeBytes_42 : decode cX11_tapeBytes 42 = .ok (.iinc 2 (-8), 3) := by decide +kernel
theorem dX11_tapeBytes_45 : decode cX11_tapeBytes 45 = .ok (.goto (-42), 3) := by decide +kernel
theorem dX11_tapeBytes_48 : decode cX11_tapeBytes 48 = .ok (.return_, 1) := by decide +kernel
theorem dX11_street_0 : decode cX11_street 0 = .ok (.iload_n 1, 1) := by decide +kernel
theorem dX11_street_1 : decode cX11_street 1 = .ok (.ifCond .lt 11, 3) := by decide +kernel
theorem dX11_street_4 : decode cX11_street 4 = .ok (.iload_n 1, 1) := by decide +kernel
theorem dX11_street_5 : decode cX11_street 5 = .ok (.aload_n 0, 1) := by decide +kernel
theorem dX11_street_6 : decode cX11_street 6 = .ok (.getfield 81, 3) := by decide +kernel
theorem dX11_street_9 : decode cX11_street 9 = .ok (.if_icmp .le 6, 3) := by decide +kernel
theorem dX11_street_12 : decode cX11_street 12 = .ok (.bipush (-3), 2) := by decide +kernel
theorem dX11_street_14 : decode cX11_street 14 = .ok (.ireturn, 1) := by decide +kernel
theorem dX11_street_15 : decode cX11_street 15 = .ok (.aload_n 0, 1) := by decide +kernel
theorem dX11_street_16 : decode cX11_street 16 = .ok (.iconst 0, 1) := by decide +kernel
theorem dX11_street_17 : decode cX11_street 17 = .ok (.putfield 81, 3) := by decide +kernel
theorem dX11_street_20 : decode cX11_street 20 = .ok (.aload_n 0, 1) := by decide +kernel
theorem dX11_street_21 : decode cX11_street 21 = .ok (.getfield 16, 3) := by decide +kernel
theorem dX11_street_24 : decode cX11_street 24 = .ok (.aload_n 0, 1) := by decide +kernel
theorem dX11_street_25 : decode cX11_street 25 = .ok (.getfield 9, 3) := by decide +kernel
theorem dX11_street_28 : decode cX11_street 28 = .ok (.iload_n 1, 1) := by decide +kernel
theorem dX11_street_29 : decode cX11_street 29 = .ok (.invokevirtual 89, 3) := by decide +kernel
theorem dX11_street_32 : decode cX11_street 32 = .ok (.astore_n 2, 1) := by decide +kernel
theorem dX11_street_33 : decode cX11_street 33 = .ok (.aload_n 2, 1) := by decide +kernel
theorem dX11_street_34 : decode cX11_street 34 = .ok (.ifnonnull 14, 3) := by decide +kernel
theorem dX11_street_37 : decode cX11_street 37 = .ok (.bipush (-30), 2) := by decide +kernel
theorem dX11_street_39 : decode cX11_street 39 = .ok (.aload_n 0, 1) := by decide +kernel
theorem dX11_street_40 : decode cX11_street 40 = .ok (.getfield 16, 3) := by decide +kernel
theorem dX11_street_43 : decode cX11_street 43 = .ok (.getfield 93, 3) := by decide +kernel
theorem dX11_street_46 : decode cX11_street 46 = .ok (.isub, 1) := by decide +kernel
theorem dX11_street_47 : decode cX11_street 47 = .ok (.ireturn, 1) := by decide +kernel
theorem dX11_street_48 : decode cX11_street 48 = .ok (.aload_n 0, 1) := by decide +kernel
theorem dX11_street_49 : decode cX11_street 49 = .ok (.getfield 66, 3) := by decide +kernel
theorem dX11_street_52 : decode cX11_street 52 = .ok (.aload_n 2, 1) := by decide +kernel
theorem dX11_street_53 : decode cX11_street 53 = .ok (.invokevirtual 96, 3) := by decide +kernel
theorem dX11_street_56 : decode cX11_street 56 = .ok (.aload_n 0, 1) := by decide +kernel
theorem dX11_street_57 : decode cX11_street 57 = .ok (.getfield 23, 3) := by decide +kernel
theorem dX11_street_60 : decode cX11_street 60 = .ok (.invokevirtual 99, 3) := by decide +kernel
theorem dX11_street_63 : decode cX11_street 63 = .ok (.aload_n 2, 1) := by decide +kernel
theorem dX11_street_64 : decode cX11_street 64 = .ok (.getfield 102, 3) := by decide +kernel
theorem dX11_street_67 : decode cX11_street 67 = .ok (.ireturn, 1) := by decide +kernel
theorem dX11_fault_0 : decode cX11_fault 0 = .ok (.iload_n 1, 1) := by decide +kernel
theorem dX11_fault_1 : decode cX11_fault 1 = .ok (.ifCond .ne 11, 3) := by decide +kernel
theorem dX11_fault_4 : decode cX11_fault 4 = .ok (.aload_n 0, 1) := by decide +kernel
theorem dX11_fault_5 : decode cX11_fault 5 = .ok (.getfield 16, 3) := by decide +kernel
theorem dX11_fault_8 : decode cX11_fault 8 = .ok (.getfield 93, 3) := by decide +kernel
theorem dX11_fault_11 : decode cX11_fault 11 = .ok (.ireturn, 1) := by decide +kernel
theorem dX11_fault_12 : decode cX11_fault 12 = .ok (.iload_n 1, 1) := by decide +kernel
theorem dX11_fault_13 : decode cX11_fault 13 = .ok (.iconst 1, 1) := by decide +kernel
theorem dX11_fault_14 : decode cX11_fault 14 = .ok (.if_icmp .ne 13, 3) := by decide +kernel
theorem dX11_fault_17 : decode cX11_fault 17 = .ok (.aload_n 0, 1) := by decide +kernel
theorem dX11_fault_18 : decode cX11_fault 18 = .ok (.getfield 16, 3) := by decide +kernel
theorem dX11_fault_21 : decode cX11_fault 21 = .ok (.getfield 105, 3) := by decide +kernel
theorem dX11_fault_24 : decode cX11_fault 24 = .ok (.goto 4, 3) := by decide +kernel
theorem dX11_fault_27 : decode cX11_fault 27 = .ok (.iconst (-1), 1) := by decide +kernel
theorem dX11_fault_28 : decode cX11_fault 28 = .ok (.ireturn, 1) := by decide +kernel
theorem dX11_becomes_0 : decode cX11_becomes 0 = .ok (.aload_n 0, 1) := by decide +kernel
theorem dX11_becomes_1 : decode cX11_becomes 1 = .ok (.iload_n 1, 1) := by decide +kernel
theorem dX11_becomes_2 : decode cX11_becomes 2 = .ok (.invokevirtual 108, 3) := by decide +kernel
theorem dX11_becomes_5 : decode cX11_becomes 5 = .ok (.ifCond .eq 11, 3) := by decide +kernel
theorem dX11_becomes_8 : decode cX11_becomes 8 = .ok (.iload_n 2, 1) := by decide +kernel
theorem dX11_becomes_9 : decode cX11_becomes 9 = .ok (.i2l, 1) := by decide +kernel
theorem dX11_becomes_10 : decode cX11_becomes 10 = .ok (.invokestatic 112, 3) := by decide +kernel
theorem dX11_becomes_13 : decode cX11_becomes 13 = .ok (.ifCond .ne 6, 3) := by decide +kernel
theorem dX11_becomes_16 : decode cX11_becomes 16 = .ok (.bipush (-2), 2) := by decide +kernel
theorem dX11_becomes_18 : decode cX11_becomes 18 = .ok (.ireturn, 1) := by decide +kernel
theorem dX11_becomes_19 : decode cX11_becomes 19 = .ok (.iload_n 3, 1) := by decide +kernel
theorem dX11_becomes_20 : decode cX11_becomes 20 = .ok (.iconst (-1), 1) := by decide +kernel
theorem dX11_becomes_21 : decode cX11_becomes 21 = .ok (.if_icmp .ge 6, 3) := by decide +kernel
theorem dX11_becomes_24 : decode cX11_becomes 24 = .ok (.bipush (-3), 2) := by decide +kernel
theorem dX11_becomes_26 : decode cX11_becomes 26 = .ok (.ireturn, 1) := by decide +kernel
theorem dX11_becomes_27 : decode cX11_becomes 27 = .ok (.aload_n 0, 1) := by decide +kernel
theorem dX11_becomes_28 : decode cX11_becomes 28 = .ok (.getfield 66, 3) := by decide +kernel
theorem dX11_becomes_31 : decode cX11_becomes 31 = .ok (.getfield 116, 3) := by decide +kernel
theorem dX11_becomes_34 : decode cX11_becomes 34 = .ok (.iload_n 1, 1) := by decide +kernel
theorem dX11_becomes_35 : decode cX11_becomes 35 = .ok (.iload_n 2, 1) := by decide +kernel
theorem dX11_becomes_36 : decode cX11_becomes 36 = .ok (.invokevirtual 120, 3) := by decide +kernel
theorem dX11_becomes_39 : decode cX11_becomes 39 = .ok (.istore 4, 2) := by decide +kernel
theorem dX11_becomes_41 : decode cX11_becomes 41 = .ok (.iload_n 3, 1) := by decide +kernel
theorem dX11_becomes_42 : decode cX11_becomes 42 = .ok (.iconst (-1), 1) := by decide +kernel
theorem dX11_becomes_43 : decode cX11_becomes 43 = .ok (.if_icmp .ne 6, 3) := by decide +kernel
theorem dX11_becomes_46 : decode cX11_becomes 46 = .ok (.iload 4, 2) := by decide +kernel
theorem dX11_becomes_48 : decode cX11_becomes 48 = .ok (.ireturn, 1) := by decide +kernel
theorem dX11_becomes_49 : decode cX11_becomes 49 = .ok (.iload_n 3, 1) := by decide +kernel
theorem dX11_becomes_50 : decode cX11_becomes 50 = .ok (.iload 4, 2) := by decide +kernel
theorem dX11_becomes_52 : decode cX11_becomes 52 = .ok (.if_icmp .ge 19, 3) := by decide +kernel
theorem dX11_becomes_55 : decode cX11_becomes 55 = .ok (.aload_n 0, 1) := by decide +kernel
theorem dX11_becomes_56 : decode cX11_becomes 56 = .ok (.getfield 66, 3) := by decide +kernel
theorem dX11_becomes_59 : decode cX11_becomes 59 = .ok (.getfield 116, 3) := by decide +kernel
theorem dX11_becomes_62 : decode cX11_becomes 62 = .ok (.iload_n 1, 1) := by decide +kernel
theorem dX11_becomes_63 : decode cX11_becomes 63 = .ok (.iload_n 2, 1) := by decide +kernel
theorem dX11_becomes_64 : decode cX11_becomes 64 = .ok (.iload_n 3, 1) := by decide +kernel
theorem dX11_becomes_65 : decode cX11_becomes 65 = .ok (.invokevirtual 124, 3) := by decide +kernel
theorem dX11_becomes_68 : decode cX11_becomes 68 = .ok (.goto 4, 3) := by decide +kernel
theorem dX11_becomes_71 : decode cX11_becomes 71 = .ok (.iconst (-1), 1) := by decide +kernel
theorem dX11_becomes_72 : decode cX11_becomes 72 = .ok (.ireturn, 1) := by decide +kernel
theorem dX11_picks_0 : decode cX11_picks 0 = .ok (.aload_n 0, 1) := by decide +kernel
theorem dX11_picks_1 : decode cX11_picks 1 = .ok (.getfield 66, 3) := by decide +kernel
theorem dX11_picks_4 : decode cX11_picks 4 = .ok (.invokevirtual 128, 3) := by decide +kernel
theorem dX11_picks_7 : decode cX11_picks 7 = .ok (.ifCond .eq 7, 3) := by decide +kernel
theorem dX11_picks_10 : decode cX11_picks 10 = .ok (.iconst (-1), 1) := by decide +kernel
theorem dX11_picks_11 : decode cX11_picks 11 = .ok (.goto 10, 3) := by decide +kernel
theorem dX11_picks_14 : decode cX11_picks 14 = .ok (.aload_n 0, 1) := by decide +kernel
theorem dX11_picks_15 : decode cX11_picks 15 = .ok (.getfield 66, 3) := by decide +kernel
theorem dX11_picks_18 : decode cX11_picks 18 = .ok (.invokevirtual 132, 3) := by decide +kernel
theorem dX11_picks_21 : decode cX11_picks 21 = .ok (.ireturn, 1) := by decide +kernel
theorem dX11_length_0 : decode cX11_length 0 = .ok (.aload_n 0, 1) := by decide +kernel
theorem dX11_length_1 : decode cX11_length 1 = .ok (.getfield 66, 3) := by decide +kernel
theorem dX11_length_4 : decode cX11_length 4 = .ok (.getfield 136, 3) := by decide +kernel
theorem dX11_length_7 : decode cX11_length 7 = .ok (.lreturn, 1) := by decide +kernel
theorem dX11_letter_0 : decode cX11_letter 0 = .ok (.lload_n 1, 1) := by decide +kernel
theorem dX11_letter_1 : decode cX11_letter 1 = .ok (.lconst 0, 1) := by decide +kernel
theorem dX11_letter_2 : decode cX11_letter 2 = .ok (.lcmp, 1) := by decide +kernel
theorem dX11_letter_3 : decode cX11_letter 3 = .ok (.ifCond .ge 6, 3) := by decide +kernel
theorem dX11_letter_6 : decode cX11_letter 6 = .ok (.bipush (-3), 2) := by decide +kernel
theorem dX11_letter_8 : decode cX11_letter 8 = .ok (.ireturn, 1) := by decide +kernel
theorem dX11_letter_9 : decode cX11_letter 9 = .ok (.lload_n 1, 1) := by decide +kernel
theorem dX11_letter_10 : decode cX11_letter 10 = .ok (.aload_n 0, 1) := by decide +kernel
theorem dX11_letter_11 : decode cX11_letter 11 = .ok (.getfield 66, 3) := by decide +kernel
theorem dX11_letter_14 : decode cX11_letter 14 = .ok (.getfield 136, 3) := by decide +kernel
theorem dX11_letter_17 : decode cX11_letter 17 = .ok (.lcmp, 1) := by decide +kernel
theorem dX11_letter_18 : decode cX11_letter 18 = .ok (.ifCond .lt 5, 3) := by decide +kernel
theorem dX11_letter_21 : decode cX11_letter 21 = .ok (.iconst (-1), 1) := by decide +kernel
theorem dX11_letter_22 : decode cX11_letter 22 = .ok (.ireturn, 1) := by decide +kernel
theorem dX11_letter_23 : decode cX11_letter 23 = .ok (.aload_n 0, 1) := by decide +kernel
theorem dX11_letter_24 : decode cX11_letter 24 = .ok (.getfield 42, 3) := by decide +kernel
theorem dX11_letter_27 : decode cX11_letter 27 = .ok (.aload_n 0, 1) := by decide +kernel
theorem dX11_letter_28 : decode cX11_letter 28 = .ok (.getfield 66, 3) := by decide +kernel
theorem dX11_letter_31 : decode cX11_letter 31 = .ok (.invokevirtual 140, 3) := by decide +kernel
theorem dX11_letter_34 : decode cX11_letter 34 = .ok (.aload_n 0, 1) := by decide +kernel
theorem dX11_letter_35 : decode cX11_letter 35 = .ok (.getfield 42, 3) := by decide +kernel
theorem dX11_letter_38 : decode cX11_letter 38 = .ok (.aload_n 0, 1) := by decide +kernel
theorem dX11_letter_39 : decode cX11_letter 39 = .ok (.getfield 66, 3) := by decide +kernel
theorem dX11_letter_42 : decode cX11_letter 42 = .ok (.lload_n 1, 1) := by decide +kernel
theorem dX11_letter_43 : decode cX11_letter 43 = .ok (.invokevirtual 144, 3) := by decide +kernel
theorem dX11_letter_46 : decode cX11_letter 46 = .ok (.ireturn, 1) := by decide +kernel
theorem dX11_count_0 : decode cX11_count 0 = .ok (.iload_n 1, 1) := by decide +kernel
theorem dX11_count_1 : decode cX11_count 1 = .ok (.i2l, 1) := by decide +kernel
theorem dX11_count_2 : decode cX11_count 2 = .ok (.invokestatic 112, 3) := by decide +kernel
theorem dX11_count_5 : decode cX11_count 5 = .ok (.ifCond .ne 7, 3) := by decide +kernel
theorem dX11_count_8 : decode cX11_count 8 = .ok (.ldc2_w 148, 3) := by decide +kernel
theorem dX11_count_11 : decode cX11_count 11 = .ok (.lreturn, 1) := by decide +kernel
theorem dX11_count_12 : decode cX11_count 12 = .ok (.lload_n 2, 1) := by decide +kernel
theorem dX11_count_13 : decode cX11_count 13 = .ok (.lconst 0, 1) := by decide +kernel
theorem dX11_count_14 : decode cX11_count 14 = .ok (.lcmp, 1) := by decide +kernel
theorem dX11_count_15 : decode cX11_count 15 = .ok (.ifCond .lt 15, 3) := by decide +kernel
theorem dX11_count_18 : decode cX11_count 18 = .ok (.lload_n 2, 1) := by decide +kernel
theorem dX11_count_19 : decode cX11_count 19 = .ok (.aload_n 0, 1) := by decide +kernel
theorem dX11_count_20 : decode cX11_count 20 = .ok (.getfield 66, 3) := by decide +kernel
theorem dX11_count_23 : decode cX11_count 23 = .ok (.getfield 136, 3) := by decide +kernel
theorem dX11_count_26 : decode cX11_count 26 = .ok (.lcmp, 1) := by decide +kernel
theorem dX11_count_27 : decode cX11_count 27 = .ok (.ifCond .le 7, 3) := by decide +kernel
theorem dX11_count_30 : decode cX11_count 30 = .ok (.ldc2_w 150, 3) := by decide +kernel
theorem dX11_count_33 : decode cX11_count 33 = .ok (.lreturn, 1) := by decide +kernel
theorem dX11_count_34 : decode cX11_count 34 = .ok (.lload_n 2, 1) := by decide +kernel
theorem dX11_count_35 : decode cX11_count 35 = .ok (.aload_n 0, 1) := by decide +kernel
theorem dX11_count_36 : decode cX11_count 36 = .ok (.getfield 66, 3) := by decide +kernel
theorem dX11_count_39 : decode cX11_count 39 = .ok (.getfield 136, 3) := by decide +kernel
theorem dX11_count_42 : decode cX11_count 42 = .ok (.lcmp, 1) := by decide +kernel
theorem dX11_count_43 : decode cX11_count 43 = .ok (.ifCond .ne 13, 3) := by decide +kernel
theorem dX11_count_46 : decode cX11_count 46 = .ok (.aload_n 0, 1) := by decide +kernel
theorem dX11_count_47 : decode cX11_count 47 = .ok (.getfield 66, 3) := by decide +kernel
theorem dX11_count_50 : decode cX11_count 50 = .ok (.getfield 152, 3) := by decide +kernel
theorem dX11_count_53 : decode cX11_count 53 = .ok (.iload_n 1, 1) := by decide +kernel
theorem dX11_count_54 : decode cX11_count 54 = .ok (.laload, 1) := by decide +kernel
theorem dX11_count_55 : decode cX11_count 55 = .ok (.lreturn, 1) := by decide +kernel
theorem dX11_count_56 : decode cX11_count 56 = .ok (.aload_n 0, 1) := by decide +kernel
theorem dX11_count_57 : decode cX11_count 57 = .ok (.getfield 42, 3) := by decide +kernel
theorem dX11_count_60 : decode cX11_count 60 = .ok (.aload_n 0, 1) := by decide +kernel
theorem dX11_count_61 : decode cX11_count 61 = .ok (.getfield 66, 3) := by decide +kernel
theorem dX11_count_64 : decode cX11_count 64 = .ok (.invokevirtual 140, 3) := by decide +kernel
theorem dX11_count_67 : decode cX11_count 67 = .ok (.aload_n 0, 1) := by decide +kernel
theorem dX11_count_68 : decode cX11_count 68 = .ok (.getfield 42, 3) := by decide +kernel
theorem dX11_count_71 : decode cX11_count 71 = .ok (.aload_n 0, 1) := by decide +kernel
theorem dX11_count_72 : decode cX11_count 72 = .ok (.getfield 66, 3) := by decide +kernel
theorem dX11_count_75 : decode cX11_count 75 = .ok (.iload_n 1, 1) := by decide +kernel
theorem dX11_count_76 : decode cX11_count 76 = .ok (.lload_n 2, 1) := by decide +kernel
theorem dX11_count_77 : decode cX11_count 77 = .ok (.invokevirtual 156, 3) := by decide +kernel
theorem dX11_count_80 : decode cX11_count 80 = .ok (.lreturn, 1) := by decide +kernel
theorem dX11_place_0 : decode cX11_place 0 = .ok (.iload_n 1, 1) := by decide +kernel
theorem dX11_place_1 : decode cX11_place 1 = .ok (.i2l, 1) := by decide +kernel
theorem dX11_place_2 : decode cX11_place 2 = .ok (.invokestatic 112, 3) := by decide +kernel
theorem dX11_place_5 : decode cX11_place 5 = .ok (.ifCond .ne 7, 3) := by decide +kernel
theorem dX11_place_8 : decode cX11_place 8 = .ok (.ldc2_w 148, 3) := by decide +kernel
theorem dX11_place_11 : decode cX11_place 11 = .ok (.lreturn, 1) := by decide +kernel
theorem dX11_place_12 : decode cX11_place 12 = .ok (.lload_n 2, 1) := by decide +kernel
theorem dX11_place_13 : decode cX11_place 13 = .ok (.lconst 1, 1) := by decide +kernel
theorem dX11_place_14 : decode cX11_place 14 = .ok (.lcmp, 1) := by decide +kernel
theorem dX11_place_15 : decode cX11_place 15 = .ok (.ifCond .ge 7, 3) := by decide +kernel
theorem dX11_place_18 : decode cX11_place 18 = .ok (.ldc2_w 150, 3) := by decide +kernel
theorem dX11_place_21 : decode cX11_place 21 = .ok (.lreturn, 1) := by decide +kernel
theorem dX11_place_22 : decode cX11_place 22 = .ok (.lload_n 2, 1) := by decide +kernel
theorem dX11_place_23 : decode cX11_place 23 = .ok (.aload_n 0, 1) := by decide +kernel
theorem dX11_place_24 : decode cX11_place 24 = .ok (.getfield 66, 3) := by decide +kernel
theorem dX11_place_27 : decode cX11_place 27 = .ok (.getfield 152, 3) := by decide +kernel
theorem dX11_place_30 : decode cX11_place 30 = .ok (.iload_n 1, 1) := by decide +kernel
theorem dX11_place_31 : decode cX11_place 31 = .ok (.laload, 1) := by decide +kernel
theorem dX11_place_32 : decode cX11_place 32 = .ok (.lcmp, 1) := by decide +kernel
theorem dX11_place_33 : decode cX11_place 33 = .ok (.ifCond .le 7, 3) := by decide +kernel
theorem dX11_place_36 : decode cX11_place 36 = .ok (.ldc2_w 160, 3) := by decide +kernel
theorem dX11_place_39 : decode cX11_place 39 = .ok (.lreturn, 1) := by decide +kernel
theorem dX11_place_40 : decode cX11_place 40 = .ok (.aload_n 0, 1) := by decide +kernel
theorem dX11_place_41 : decode cX11_place 41 = .ok (.getfield 42, 3) := by decide +kernel
theorem dX11_place_44 : decode cX11_place 44 = .ok (.aload_n 0, 1) := by decide +kernel
theorem dX11_place_45 : decode cX11_place 45 = .ok (.getfield 66, 3) := by decide +kernel
theorem dX11_place_48 : decode cX11_place 48 = .ok (.invokevirtual 140, 3) := by decide +kernel
theorem dX11_place_51 : decode cX11_place 51 = .ok (.aload_n 0, 1) := by decide +kernel
theorem dX11_place_52 : decode cX11_place 52 = .ok (.getfield 42, 3) := by decide +kernel
theorem dX11_place_55 : decode cX11_place 55 = .ok (.aload_n 0, 1) := by decide +kernel
theorem dX11_place_56 : decode cX11_place 56 = .ok (.getfield 66, 3) := by decide +kernel
theorem dX11_place_59 : decode cX11_place 59 = .ok (.iload_n 1, 1) := by decide +kernel
theorem dX11_place_60 : decode cX11_place 60 = .ok (.lload_n 2, 1) := by decide +kernel
theorem dX11_place_61 : decode cX11_place 61 = .ok (.lconst 1, 1) := by decide +kernel
theorem dX11_place_62 : decode cX11_place 62 = .ok (.lsub, 1) := by decide +kernel
theorem dX11_place_63 : decode cX11_place 63 = .ok (.invokevirtual 162, 3) := by decide +kernel
theorem dX11_place_66 : decode cX11_place 66 = .ok (.lreturn, 1) := by decide +kernel
theorem dX11_night_0 : decode cX11_night 0 = .ok (.iload_n 1, 1) := by decide +kernel
theorem dX11_night_1 : decode cX11_night 1 = .ok (.ifCond .lt 8, 3) := by decide +kernel
theorem dX11_night_4 : decode cX11_night 4 = .ok (.iload_n 1, 1) := by decide +kernel
theorem dX11_night_5 : decode cX11_night 5 = .ok (.iconst 3, 1) := by decide +kernel
theorem dX11_night_6 : decode cX11_night 6 = .ok (.if_icmp .le 7, 3) := by decide +kernel
theorem dX11_night_9 : decode cX11_night 9 = .ok (.ldc2_w 165, 3) := by decide +kernel
theorem dX11_night_12 : decode cX11_night 12 = .ok (.lreturn, 1) := by decide +kernel
theorem dX11_night_13 : decode cX11_night 13 = .ok (.aload_n 0, 1) := by decide +kernel
theorem dX11_night_14 : decode cX11_night 14 = .ok (.getfield 23, 3) := by decide +kernel
theorem dX11_night_17 : decode cX11_night 17 = .ok (.aload_n 0, 1) := by decide +kernel
theorem dX11_night_18 : decode cX11_night 18 = .ok (.getfield 66, 3) := by decide +kernel
theorem dX11_night_21 : decode cX11_night 21 = .ok (.invokevirtual 167, 3) := by decide +kernel
theorem dX11_night_24 : decode cX11_night 24 = .ok (.aload_n 0, 1) := by decide +kernel
theorem dX11_night_25 : decode cX11_night 25 = .ok (.getfield 66, 3) := by decide +kernel
theorem dX11_night_28 : decode cX11_night 28 = .ok (.iload_n 1, 1) := by decide +kernel
theorem dX11_night_29 : decode cX11_night 29 = .ok (.i2l, 1) := by decide +kernel
theorem dX11_night_30 : decode cX11_night 30 = .ok (.invokevirtual 170, 3) := by decide +kernel
theorem dX11_night_33 : decode cX11_night 33 = .ok (.istore_n 2, 1) := by decide +kernel
theorem dX11_night_34 : decode cX11_night 34 = .ok (.iload_n 2, 1) := by decide +kernel
theorem dX11_night_35 : decode cX11_night 35 = .ok (.ifCond .eq 9, 3) := by decide +kernel
theorem dX11_night_38 : decode cX11_night 38 = .ok (.bipush (-10), 2) := by decide +kernel
theorem dX11_night_40 : decode cX11_night 40 = .ok (.iload_n 2, 1) := by decide +kernel
theorem dX11_night_41 : decode cX11_night 41 = .ok (.isub, 1) := by decide +kernel
theorem dX11_night_42 : decode cX11_night 42 = .ok (.i2l, 1) := by decide +kernel
theorem dX11_night_43 : decode cX11_night 43 = .ok (.lreturn, 1) := by decide +kernel
theorem dX11_night_44 : decode cX11_night 44 = .ok (.aload_n 0, 1) := by decide +kernel
theorem dX11_night_45 : decode cX11_night 45 = .ok (.getfield 23, 3) := by decide +kernel
theorem dX11_night_48 : decode cX11_night 48 = .ok (.invokevirtual 174, 3) := by decide +kernel
theorem dX11_night_51 : decode cX11_night 51 = .ok (.aload_n 0, 1) := by decide +kernel
theorem dX11_night_52 : decode cX11_night 52 = .ok (.getfield 66, 3) := by decide +kernel
theorem dX11_night_55 : decode cX11_night 55 = .ok (.getfield 136, 3) := by decide +kernel
theorem dX11_night_58 : decode cX11_night 58 = .ok (.lreturn, 1) := by decide +kernel
theorem dX11_nights_0 : decode cX11_nights 0 = .ok (.iload_n 1, 1) := by decide +kernel
theorem dX11_nights_1 : decode cX11_nights 1 = .ok (.iconst 1, 1) := by decide +kernel
theorem dX11_nights_2 : decode cX11_nights 2 = .ok (.if_icmp .lt 9, 3) := by decide +kernel
theorem dX11_nights_5 : decode cX11_nights 5 = .ok (.iload_n 1, 1) := by decide +kernel
theorem dX11_nights_6 : decode cX11_nights 6 = .ok (.bipush 60, 2) := by decide +kernel
theorem dX11_nights_8 : decode cX11_nights 8 = .ok (.if_icmp .le 6, 3) := by decide +kernel
theorem dX11_nights_11 : decode cX11_nights 11 = .ok (.bipush (-3), 2) := by decide +kernel
theorem dX11_nights_13 : decode cX11_nights 13 = .ok (.ireturn, 1) := by decide +kernel
theorem dX11_nights_14 : decode cX11_nights 14 = .ok (.aload_n 0, 1) := by decide +kernel
theorem dX11_nights_15 : decode cX11_nights 15 = .ok (.getfield 23, 3) := by decide +kernel
theorem dX11_nights_18 : decode cX11_nights 18 = .ok (.aload_n 0, 1) := by decide +kernel
theorem dX11_nights_19 : decode cX11_nights 19 = .ok (.getfield 66, 3) := by decide +kernel
theorem dX11_nights_22 : decode cX11_nights 22 = .ok (.invokevirtual 167, 3) := by decide +kernel
theorem dX11_nights_25 : decode cX11_nights 25 = .ok (.iconst 0, 1) := by decide +kernel
theorem dX11_nights_26 : decode cX11_nights 26 = .ok (.istore_n 2, 1) := by decide +kernel
theorem dX11_nights_27 : decode cX11_nights 27 = .ok (.iload_n 2, 1) := by decide +kernel
theorem dX11_nights_28 : decode cX11_nights 28 = .ok (.iload_n 1, 1) := by decide +kernel
theorem dX11_nights_29 : decode cX11_nights 29 = .ok (.if_icmp .ge 20, 3) := by decide +kernel
theorem dX11_nights_32 : decode cX11_nights 32 = .ok (.aload_n 0, 1) := by decide +kernel
theorem dX11_nights_33 : decode cX11_nights 33 = .ok (.getfield 66, 3) := by decide +kernel
theorem dX11_nights_36 : decode cX11_nights 36 = .ok (.lconst 0, 1) := by decide +kernel
theorem dX11_nights_37 : decode cX11_nights 37 = .ok (.invokevirtual 170, 3) := by decide +kernel
theorem dX11_nights_40 : decode cX11_nights 40 = .ok (.ifCond .ne 9, 3) := by decide +kernel
theorem dX11_nights_43 : decode cX11_nights 43 = .ok (.iinc 2 1, 3) := by decide +kernel
theorem dX11_nights_46 : decode cX11_nights 46 = .ok (.goto (-19), 3) := by decide +kernel
theorem dX11_nights_49 : decode cX11_nights 49 = .ok (.aload_n 0, 1) := by decide +kernel
theorem dX11_nights_50 : decode cX11_nights 50 = .ok (.iload_n 2, 1) := by decide +kernel
theorem dX11_nights_51 : decode cX11_nights 51 = .ok (.invokevirtual 177, 3) := by decide +kernel
theorem dX11_nights_54 : decode cX11_nights 54 = .ok (.iload_n 2, 1) := by decide +kernel
theorem dX11_nights_55 : decode cX11_nights 55 = .ok (.ireturn, 1) := by decide +kernel
theorem dX11_keepIfDone_0 : decode cX11_keepIfDone 0 = .ok (.iload_n 1, 1) := by decide +kernel
theorem dX11_keepIfDone_1 : decode cX11_keepIfDone 1 = .ok (.ifCond .le 10, 3) := by decide +kernel
theorem dX11_keepIfDone_4 : decode cX11_keepIfDone 4 = .ok (.aload_n 0, 1) := by decide +kernel
theorem dX11_keepIfDone_5 : decode cX11_keepIfDone 5 = .ok (.getfield 23, 3) := by decide +kernel
theorem dX11_keepIfDone_8 : decode cX11_keepIfDone 8 = .ok (.invokevirtual 174, 3) := by decide +kernel
theorem dX11_keepIfDone_11 : decode cX11_keepIfDone 11 = .ok (.return_, 1) := by decide +kernel
theorem dX11_moon_0 : decode cX11_moon 0 = .ok (.iload_n 1, 1) := by decide +kernel
theorem dX11_moon_1 : decode cX11_moon 1 = .ok (.ifCond .lt 9, 3) := by decide +kernel
theorem dX11_moon_4 : decode cX11_moon 4 = .ok (.iload_n 1, 1) := by decide +kernel
theorem dX11_moon_5 : decode cX11_moon 5 = .ok (.bipush 9, 2) := by decide +kernel
theorem dX11_moon_7 : decode cX11_moon 7 = .ok (.if_icmp .le 6, 3) := by decide +kernel
theorem dX11_moon_10 : decode cX11_moon 10 = .ok (.bipush (-11), 2) := by decide +kernel
theorem dX11_moon_12 : decode cX11_moon 12 = .ok (.ireturn, 1) := by decide +kernel
theorem dX11_moon_13 : decode cX11_moon 13 = .ok (.aload_n 0, 1) := by decide +kernel
theorem dX11_moon_14 : decode cX11_moon 14 = .ok (.getfield 23, 3) := by decide +kernel
theorem dX11_moon_17 : decode cX11_moon 17 = .ok (.aload_n 0, 1) := by decide +kernel
theorem dX11_moon_18 : decode cX11_moon 18 = .ok (.getfield 66, 3) := by decide +kernel
theorem dX11_moon_21 : decode cX11_moon 21 = .ok (.invokevirtual 167, 3) := by decide +kernel
theorem dX11_moon_24 : decode cX11_moon 24 = .ok (.aload_n 0, 1) := by decide +kernel
theorem dX11_moon_25 : decode cX11_moon 25 = .ok (.getfield 23, 3) := by decide +kernel
theorem dX11_moon_28 : decode cX11_moon 28 = .ok (.invokevirtual 174, 3) := by decide +kernel
theorem dX11_moon_31 : decode cX11_moon 31 = .ok (.aload_n 0, 1) := by decide +kernel
theorem dX11_moon_32 : decode cX11_moon 32 = .ok (.getfield 66, 3) := by decide +kernel
theorem dX11_moon_35 : decode cX11_moon 35 = .ok (.getfield 180, 3) := by decide +kernel
theorem dX11_moon_38 : decode cX11_moon 38 = .ok (.istore_n 2, 1) := by decide +kernel
theorem dX11_moon_39 : decode cX11_moon 39 = .ok (.aload_n 0, 1) := by decide +kernel
theorem dX11_moon_40 : decode cX11_moon 40 = .ok (.getfield 66, 3) := by decide +kernel
theorem dX11_moon_43 : decode cX11_moon 43 = .ok (.iload_n 1, 1) := by decide +kernel
theorem dX11_moon_44 : decode cX11_moon 44 = .ok (.putfield 180, 3) := by decide +kernel
theorem dX11_moon_47 : decode cX11_moon 47 = .ok (.iload_n 2, 1) := by decide +kernel
theorem dX11_moon_48 : decode cX11_moon 48 = .ok (.ireturn, 1) := by decide +kernel
theorem dX11_undo_0 : decode cX11_undo 0 = .ok (.iload_n 1, 1) := by decide +kernel
theorem dX11_undo_1 : decode cX11_undo 1 = .ok (.iconst 1, 1) := by decide +kernel
theorem dX11_undo_2 : decode cX11_undo 2 = .ok (.if_icmp .lt 14, 3) := by decide +kernel
theorem dX11_undo_5 : decode cX11_undo 5 = .ok (.iload_n 1, 1) := by decide +kernel
theorem dX11_undo_6 : decode cX11_undo 6 = .ok (.aload_n 0, 1) := by decide +kernel
theorem dX11_undo_7 : decode cX11_undo 7 = .ok (.getfield 23, 3) := by decide +kernel
theorem dX11_undo_10 : decode cX11_undo 10 = .ok (.getfield 183, 3) := by decide +kernel
theorem dX11_undo_13 : decode cX11_undo 13 = .ok (.if_icmp .le 6, 3) := by decide +kernel
theorem dX11_undo_16 : decode cX11_undo 16 = .ok (.bipush (-3), 2) := by decide +kernel
theorem dX11_undo_18 : decode cX11_undo 18 = .ok (.ireturn, 1) := by decide +kernel
theorem dX11_undo_19 : decode cX11_undo 19 = .ok (.aload_n 0, 1) := by decide +kernel
theorem dX11_undo_20 : decode cX11_undo 20 = .ok (.getfield 23, 3) := by decide +kernel
theorem dX11_undo_23 : decode cX11_undo 23 = .ok (.aload_n 0, 1) := by decide +kernel
theorem dX11_undo_24 : decode cX11_undo 24 = .ok (.getfield 66, 3) := by decide +kernel
theorem dX11_undo_27 : decode cX11_undo 27 = .ok (.iload_n 1, 1) := by decide +kernel
theorem dX11_undo_28 : decode cX11_undo 28 = .ok (.invokevirtual 186, 3) := by decide +kernel
theorem dX11_undo_31 : decode cX11_undo 31 = .ok (.aload_n 0, 1) := by decide +kernel
theorem dX11_undo_32 : decode cX11_undo 32 = .ok (.getfield 23, 3) := by decide +kernel
theorem dX11_undo_35 : decode cX11_undo 35 = .ok (.getfield 183, 3) := by decide +kernel
theorem dX11_undo_38 : decode cX11_undo 38 = .ok (.ireturn, 1) := by decide +kernel
theorem dX11_judge_0 : decode cX11_judge 0 = .ok (.iload_n 1, 1) := by decide +kernel
theorem dX11_judge_1 : decode cX11_judge 1 = .ok (.invokestatic 190, 3) := by decide +kernel
theorem dX11_judge_4 : decode cX11_judge 4 = .ok (.ifCond .eq 12, 3) := by decide +kernel
theorem dX11_judge_7 : decode cX11_judge 7 = .ok (.iload_n 2, 1) := by decide +kernel
theorem dX11_judge_8 : decode cX11_judge 8 = .ok (.ifCond .lt 8, 3) := by decide +kernel
theorem dX11_judge_11 : decode cX11_judge 11 = .ok (.iload_n 2, 1) := by decide +kernel
theorem dX11_judge_12 : decode cX11_judge 12 = .ok (.iconst 3, 1) := by decide +kernel
theorem dX11_judge_13 : decode cX11_judge 13 = .ok (.if_icmp .le 6, 3) := by decide +kernel
theorem dX11_judge_16 : decode cX11_judge 16 = .ok (.bipush (-2), 2) := by decide +kernel
theorem dX11_judge_18 : decode cX11_judge 18 = .ok (.ireturn, 1) := by decide +kernel
theorem dX11_judge_19 : decode cX11_judge 19 = .ok (.aload_n 0, 1) := by decide +kernel
theorem dX11_judge_20 : decode cX11_judge 20 = .ok (.getfield 35, 3) := by decide +kernel
theorem dX11_judge_23 : decode cX11_judge 23 = .ok (.iload_n 1, 1) := by decide +kernel
theorem dX11_judge_24 : decode cX11_judge 24 = .ok (.aaload, 1) := by decide +kernel
theorem dX11_judge_25 : decode cX11_judge 25 = .ok (.astore_n 3, 1) := by decide +kernel
theorem dX11_judge_26 : decode cX11_judge 26 = .ok (.aload_n 3, 1) := by decide +kernel
theorem dX11_judge_27 : decode cX11_judge 27 = .ok (.invokevirtual 193, 3) := by decide +kernel
theorem dX11_judge_30 : decode cX11_judge 30 = .ok (.ifCond .eq 6, 3) := by decide +kernel
theorem dX11_judge_33 : decode cX11_judge 33 = .ok (.bipush (-6), 2) := by decide +kernel
theorem dX11_judge_35 : decode cX11_judge 35 = .ok (.ireturn, 1) := by decide +kernel
theorem dX11_judge_36 : decode cX11_judge 36 = .ok (.aload_n 0, 1) := by decide +kernel
theorem dX11_judge_37 : decode cX11_judge 37 = .ok (.getfield 70, 3) := by decide +kernel
theorem dX11_judge_40 : decode cX11_judge 40 = .ok (.aload_n 0, 1) := by decide +kernel
theorem dX11_judge_41 : decode cX11_judge 41 = .ok (.getfield 66, 3) := by decide +kernel
theorem dX11_judge_44 : decode cX11_judge 44 = .ok (.invokevirtual 196, 3) := by decide +kernel
theorem dX11_judge_47 : decode cX11_judge 47 = .ok (.iconst 0, 1) := by decide +kernel
theorem dX11_judge_48 : decode cX11_judge 48 = .ok (.istore 4, 2) := by decide +kernel
theorem dX11_judge_50 : decode cX11_judge 50 = .ok (.iconst 0, 1) := by decide +kernel
theorem dX11_judge_51 : decode cX11_judge 51 = .ok (.istore 5, 2) := by decide +kernel
theorem dX11_judge_53 : decode cX11_judge 53 = .ok (.iload 5, 2) := by decide +kernel
theorem dX11_judge_55 : decode cX11_judge 55 = .ok (.aload_n 3, 1) := by decide +kernel
theorem dX11_judge_56 : decode cX11_judge 56 = .ok (.getfield 199, 3) := by decide +kernel
theorem dX11_judge_59 : decode cX11_judge 59 = .ok (.if_icmp .ge 29, 3) := by decide +kernel
theorem dX11_judge_62 : decode cX11_judge 62 = .ok (.iload 4, 2) := by decide +kernel
theorem dX11_judge_64 : decode cX11_judge 64 = .ok (.ifCond .ne 24, 3) := by decide +kernel
theorem dX11_judge_67 : decode cX11_judge 67 = .ok (.aload_n 0, 1) := by decide +kernel
theorem dX11_judge_68 : decode cX11_judge 68 = .ok (.getfield 70, 3) := by decide +kernel
theorem dX11_judge_71 : decode cX11_judge 71 = .ok (.aload_n 3, 1) := by decide +kernel
theorem dX11_judge_72 : decode cX11_judge 72 = .ok (.iload 5, 2) := by decide +kernel
theorem dX11_judge_74 : decode cX11_judge 74 = .ok (.invokevirtual 202, 3) := by decide +kernel
theorem dX11_judge_77 : decode cX11_judge 77 = .ok (.invokevirtual 170, 3) := by decide +kernel
theorem dX11_judge_80 : decode cX11_judge 80 = .ok (.istore 4, 2) := by decide +kernel
theorem dX11_judge_82 : decode cX11_judge 82 = .ok (.iinc 5 1, 3) := by decide +kernel
theorem dX11_judge_85 : decode cX11_judge 85 = .ok (.goto (-32), 3) := by decide +kernel
theorem dX11_judge_88 : decode cX11_judge 88 = .ok (.iload_n 2, 1) := by decide +kernel
theorem dX11_judge_89 : decode cX11_judge 89 = .ok (.tableswitch 57 0 2 #[27, 41, 44], 27) := by decide +kernel
theorem dX11_judge_116 : decode cX11_judge 116 = .ok (.iload 4, 2) := by decide +kernel
theorem dX11_judge_118 : decode cX11_judge 118 = .ok (.ifCond .ne 7, 3) := by decide +kernel
theorem dX11_judge_121 : decode cX11_judge 121 = .ok (.iconst (-1), 1) := by decide +kernel
theorem dX11_judge_122 : decode cX11_judge 122 = .ok (.goto 7, 3) := by decide +kernel
theorem dX11_judge_125 : decode cX11_judge 125 = .ok (.iload 5, 2) := by decide +kernel
theorem dX11_judge_127 : decode cX11_judge 127 = .ok (.iconst 1, 1) := by decide +kernel
theorem dX11_judge_128 : decode cX11_judge 128 = .ok (.isub, 1) := by decide +kernel
theorem dX11_judge_129 : decode cX11_judge 129 = .ok (.ireturn, 1) := by decide +kernel
theorem dX11_judge_130 : decode cX11_judge 130 = .ok (.iload 4, 2) := by decide +kernel
theorem dX11_judge_132 : decode cX11_judge 132 = .ok (.ireturn, 1) := by decide +kernel
theorem dX11_judge_133 : decode cX11_judge 133 = .ok (.aload_n 0, 1) := by decide +kernel
theorem dX11_judge_134 : decode cX11_judge 134 = .ok (.getfield 70, 3) := by decide +kernel
theorem dX11_judge_137 : decode cX11_judge 137 = .ok (.getfield 136, 3) := by decide +kernel
theorem dX11_judge_140 : decode cX11_judge 140 = .ok (.ldc2_w 206, 3) := by decide +kernel
theorem dX11_judge_143 : decode cX11_judge 143 = .ok (.lrem, 1) := by decide +kernel
theorem dX11_judge_144 : decode cX11_judge 144 = .ok (.l2i, 1) := by decide +kernel
theorem dX11_judge_145 : decode cX11_judge 145 = .ok (.ireturn, 1) := by decide +kernel
theorem dX11_judge_146 : decode cX11_judge 146 = .ok (.aload_n 0, 1) := by decide +kernel
theorem dX11_judge_147 : decode cX11_judge 147 = .ok (.getfield 70, 3) := by decide +kernel
theorem dX11_judge_150 : decode cX11_judge 150 = .ok (.invokevirtual 208, 3) := by decide +kernel
theorem dX11_judge_153 : decode cX11_judge 153 = .ok (.ireturn, 1) := by decide +kernel
theorem dX11_perform_0 : decode cX11_perform 0 = .ok (.aload_n 0, 1) := by decide +kernel
theorem dX11_perform_1 : decode cX11_perform 1 = .ok (.iload_n 1, 1) := by decide +kernel
theorem dX11_perform_2 : decode cX11_perform 2 = .ok (.invokevirtual 211, 3) := by decide +kernel
theorem dX11_perform_5 : decode cX11_perform 5 = .ok (.istore_n 2, 1) := by decide +kernel
theorem dX11_perform_6 : decode cX11_perform 6 = .ok (.iload_n 2, 1) := by decide +kernel
theorem dX11_perform_7 : decode cX11_perform 7 = .ok (.ifCond .eq 5, 3) := by decide +kernel
theorem dX11_perform_10 : decode cX11_perform 10 = .ok (.iload_n 2, 1) := by decide +kernel
theorem dX11_perform_11 : decode cX11_perform 11 = .ok (.ireturn, 1) := by decide +kernel
theorem dX11_perform_12 : decode cX11_perform 12 = .ok (.aload_n 0, 1) := by decide +kernel
theorem dX11_perform_13 : decode cX11_perform 13 = .ok (.getfield 35, 3) := by decide +kernel
theorem dX11_perform_16 : decode cX11_perform 16 = .ok (.iload_n 1, 1) := by decide +kernel
theorem dX11_perform_17 : decode cX11_perform 17 = .ok (.aaload, 1) := by decide +kernel
theorem dX11_perform_18 : decode cX11_perform 18 = .ok (.astore_n 3, 1) := by decide +kernel
theorem dX11_perform_19 : decode cX11_perform 19 = .ok (.aload_n 0, 1) := by decide +kernel
theorem dX11_perform_20 : decode cX11_perform 20 = .ok (.getfield 23, 3) := by decide +kernel
theorem dX11_perform_23 : decode cX11_perform 23 = .ok (.aload_n 0, 1) := by decide +kernel
theorem dX11_perform_24 : decode cX11_perform 24 = .ok (.getfield 66, 3) := by decide +kernel
theorem dX11_perform_27 : decode cX11_perform 27 = .ok (.invokevirtual 167, 3) := by decide +kernel
theorem dX11_perform_30 : decode cX11_perform 30 = .ok (.iconst 0, 1) := by decide +kernel
theorem dX11_perform_31 : decode cX11_perform 31 = .ok (.istore 4, 2) := by decide +kernel
theorem dX11_perform_33 : decode cX11_perform 33 = .ok (.iload 4, 2) := by decide +kernel
theorem dX11_perform_35 : decode cX11_perform 35 = .ok (.aload_n 3, 1) := by decide +kernel
theorem dX11_perform_36 : decode cX11_perform 36 = .ok (.getfield 199, 3) := by decide +kernel
theorem dX11_perform_39 : decode cX11_perform 39 = .ok (.if_icmp .ge 25, 3) := by decide +kernel
theorem dX11_perform_42 : decode cX11_perform 42 = .ok (.aload_n 0, 1) := by decide +kernel
theorem dX11_perform_43 : decode cX11_perform 43 = .ok (.getfield 66, 3) := by decide +kernel
theorem dX11_perform_46 : decode cX11_perform 46 = .ok (.aload_n 3, 1) := by decide +kernel
theorem dX11_perform_47 : decode cX11_perform 47 = .ok (.iload 4, 2) := by decide +kernel
theorem dX11_perform_49 : decode cX11_perform 49 = .ok (.invokevirtual 202, 3) := by decide +kernel
theorem dX11_perform_52 : decode cX11_perform 52 = .ok (.invokevirtual 170, 3) := by decide +kernel
theorem dX11_perform_55 : decode cX11_perform 55 = .ok (.ifCond .ne 9, 3) := by decide +kernel
theorem dX11_perform_58 : decode cX11_perform 58 = .ok (.iinc 4 1, 3) := by decide +kernel
theorem dX11_perform_61 : decode cX11_perform 61 = .ok (.goto (-28), 3) := by decide +kernel
theorem dX11_perform_64 : decode cX11_perform 64 = .ok (.aload_n 0, 1) := by decide +kernel
theorem dX11_perform_65 : decode cX11_perform 65 = .ok (.iload 4, 2) := by decide +kernel
theorem dX11_perform_67 : decode cX11_perform 67 = .ok (.invokevirtual 177, 3) := by decide +kernel
theorem dX11_perform_70 : decode cX11_perform 70 = .ok (.iload 4, 2) := by decide +kernel
theorem dX11_perform_72 : decode cX11_perform 72 = .ok (.ireturn, 1) := by decide +kernel
theorem dX11_year_0 : decode cX11_year 0 = .ok (.iload_n 2, 1) := by decide +kernel
theorem dX11_year_1 : decode cX11_year 1 = .ok (.iconst 1, 1) := by decide +kernel
theorem dX11_year_2 : decode cX11_year 2 = .ok (.if_icmp .lt 9, 3) := by decide +kernel
theorem dX11_year_5 : decode cX11_year 5 = .ok (.iload_n 2, 1) := by decide +kernel
theorem dX11_year_6 : decode cX11_year 6 = .ok (.bipush 20, 2) := by decide +kernel
theorem dX11_year_8 : decode cX11_year 8 = .ok (.if_icmp .le 6, 3) := by decide +kernel
theorem dX11_year_11 : decode cX11_year 11 = .ok (.bipush (-3), 2) := by decide +kernel
theorem dX11_year_13 : decode cX11_year 13 = .ok (.ireturn, 1) := by decide +kernel
theorem dX11_year_14 : decode cX11_year 14 = .ok (.aload_n 0, 1) := by decide +kernel
theorem dX11_year_15 : decode cX11_year 15 = .ok (.getfield 23, 3) := by decide +kernel
theorem dX11_year_18 : decode cX11_year 18 = .ok (.aload_n 0, 1) := by decide +kernel
theorem dX11_year_19 : decode cX11_year 19 = .ok (.getfield 66, 3) := by decide +kernel
theorem dX11_year_22 : decode cX11_year 22 = .ok (.invokevirtual 167, 3) := by decide +kernel
theorem dX11_year_25 : decode cX11_year 25 = .ok (.iconst 0, 1) := by decide +kernel
theorem dX11_year_26 : decode cX11_year 26 = .ok (.istore_n 3, 1) := by decide +kernel
theorem dX11_year_27 : decode cX11_year 27 = .ok (.iload_n 1, 1) := by decide +kernel
theorem dX11_year_28 : decode cX11_year 28 = .ok (.istore 4, 2) := by decide +kernel
theorem dX11_year_30 : decode cX11_year 30 = .ok (.iconst 0, 1) := by decide +kernel
theorem dX11_year_31 : decode cX11_year 31 = .ok (.istore 5, 2) := by decide +kernel
theorem dX11_year_33 : decode cX11_year 33 = .ok (.iload 5, 2) := by decide +kernel
theorem dX11_year_35 : decode cX11_year 35 = .ok (.iload_n 2, 1) := by decide +kernel
theorem dX11_year_36 : decode cX11_year 36 = .ok (.if_icmp .ge 86, 3) := by decide +kernel
theorem dX11_year_39 : decode cX11_year 39 = .ok (.iload 4, 2) := by decide +kernel
theorem dX11_year_41 : decode cX11_year 41 = .ok (.invokestatic 215, 3) := by decide +kernel
theorem dX11_year_44 : decode cX11_year 44 = .ok (.istore 4, 2) := by decide +kernel
theorem dX11_year_46 : decode cX11_year 46 = .ok (.iload 4, 2) := by decide +kernel
theorem dX11_year_48 : decode cX11_year 48 = .ok (.bipush 16, 2) := by decide +kernel
theorem dX11_year_50 : decode cX11_year 50 = .ok (.iushr, 1) := by decide +kernel
theorem dX11_year_51 : decode cX11_year 51 = .ok (.iconst 5, 1) := by decide +kernel
theorem dX11_year_52 : decode cX11_year 52 = .ok (.irem, 1) := by decide +kernel
theorem dX11_year_53 : decode cX11_year 53 = .ok (.istore 6, 2) := by decide +kernel
theorem dX11_year_55 : decode cX11_year 55 = .ok (.iconst 0, 1) := by decide +kernel
theorem dX11_year_56 : decode cX11_year 56 = .ok (.istore 7, 2) := by decide +kernel
theorem dX11_year_58 : decode cX11_year 58 = .ok (.iload 6, 2) := by decide +kernel
theorem dX11_year_60 : decode cX11_year 60 = .ok (.iconst 2, 1) := by decide +kernel
theorem dX11_year_61 : decode cX11_year 61 = .ok (.if_icmp .lt 39, 3) := by decide +kernel
theorem dX11_year_64 : decode cX11_year 64 = .ok (.iload 4, 2) := by decide +kernel
theorem dX11_year_66 : decode cX11_year 66 = .ok (.invokestatic 215, 3) := by decide +kernel
theorem dX11_year_69 : decode cX11_year 69 = .ok (.istore 4, 2) := by decide +kernel
theorem dX11_year_71 : decode cX11_year 71 = .ok (.iload 6, 2) := by decide +kernel
theorem dX11_year_73 : decode cX11_year 73 = .ok (.iconst 4, 1) := by decide +kernel
theorem dX11_year_74 : decode cX11_year 74 = .ok (.if_icmp .ne 17, 3) := by decide +kernel
theorem dX11_year_77 : decode cX11_year 77 = .ok (.bipush 10, 2) := by decide +kernel
theorem dX11_year_79 : decode cX11_year 79 = .ok (.iload 4, 2) := by decide +kernel
theorem dX11_year_81 : decode cX11_year 81 = .ok (.bipush 16, 2) := by decide +kernel
theorem dX11_year_83 : decode cX11_year 83 = .ok (.iushr, 1) := by decide +kernel
theorem dX11_year_84 : decode cX11_year 84 = .ok (.bipush 10, 2) := by decide +kernel
theorem dX11_year_86 : decode cX11_year 86 = .ok (.irem, 1) := by decide +kernel
theorem dX11_year_87 : decode cX11_year 87 = .ok (.iadd, 1) := by decide +kernel
theorem dX11_year_88 : decode cX11_year 88 = .ok (.goto 10, 3) := by decide +kernel
theorem dX11_year_91 : decode cX11_year 91 = .ok (.iload 4, 2) := by decide +kernel
theorem dX11_year_93 : decode cX11_year 93 = .ok (.bipush 16, 2) := by decide +kernel
theorem dX11_year_95 : decode cX11_year 95 = .ok (.iushr, 1) := by decide +kernel
theorem dX11_year_96 : decode cX11_year 96 = .ok (.iconst 4, 1) := by decide +kernel
theorem dX11_year_97 : decode cX11_year 97 = .ok (.irem, 1) := by decide +kernel
theorem dX11_year_98 : decode cX11_year 98 = .ok (.istore 7, 2) := by decide +kernel
theorem dX11_year_100 : decode cX11_year 100 = .ok (.aload_n 0, 1) := by decide +kernel
theorem dX11_year_101 : decode cX11_year 101 = .ok (.getfield 66, 3) := by decide +kernel
theorem dX11_year_104 : decode cX11_year 104 = .ok (.iload 7, 2) := by decide +kernel
theorem dX11_year_106 : decode cX11_year 106 = .ok (.i2l, 1) := by decide +kernel
theorem dX11_year_107 : decode cX11_year 107 = .ok (.invokevirtual 170, 3) := by decide +kernel
theorem dX11_year_110 : decode cX11_year 110 = .ok (.ifCond .ne 6, 3) := by decide +kernel
theorem dX11_year_113 : decode cX11_year 113 = .ok (.iinc 3 1, 3) := by decide +kernel
theorem dX11_year_116 : decode cX11_year 116 = .ok (.iinc 5 1, 3) := by decide +kernel
theorem dX11_year_119 : decode cX11_year 119 = .ok (.goto (-86), 3) := by decide +kernel
theorem dX11_year_122 : decode cX11_year 122 = .ok (.aload_n 0, 1) := by decide +kernel
theorem dX11_year_123 : decode cX11_year 123 = .ok (.iload_n 3, 1) := by decide +kernel
theorem dX11_year_124 : decode cX11_year 124 = .ok (.invokevirtual 177, 3) := by decide +kernel
theorem dX11_year_127 : decode cX11_year 127 = .ok (.iload_n 3, 1) := by decide +kernel
theorem dX11_year_128 : decode cX11_year 128 = .ok (.ireturn, 1) := by decide +kernel
theorem dX11_drawnFrom_0 : decode cX11_drawnFrom 0 = .ok (.ldc 218, 2) := by decide +kernel
theorem dX11_drawnFrom_2 : decode cX11_drawnFrom 2 = .ok (.iload_n 0, 1) := by decide +kernel
theorem dX11_drawnFrom_3 : decode cX11_drawnFrom 3 = .ok (.imul, 1) := by decide +kernel
theorem dX11_drawnFrom_4 : decode cX11_drawnFrom 4 = .ok (.sipush 12345, 3) := by decide +kernel
theorem dX11_drawnFrom_7 : decode cX11_drawnFrom 7 = .ok (.iadd, 1) := by decide +kernel
theorem dX11_drawnFrom_8 : decode cX11_drawnFrom 8 = .ok (.ireturn, 1) := by decide +kernel
theorem dX11_occurs_0 : decode cX11_occurs 0 = .ok (.aload_n 0, 1) := by decide +kernel
theorem dX11_occurs_1 : decode cX11_occurs 1 = .ok (.iload_n 1, 1) := by decide +kernel
theorem dX11_occurs_2 : decode cX11_occurs 2 = .ok (.invokevirtual 219, 3) := by decide +kernel
theorem dX11_occurs_5 : decode cX11_occurs 5 = .ok (.istore_n 2, 1) := by decide +kernel
theorem dX11_occurs_6 : decode cX11_occurs 6 = .ok (.iload_n 2, 1) := by decide +kernel
theorem dX11_occurs_7 : decode cX11_occurs 7 = .ok (.ifCond .eq 6, 3) := by decide +kernel
theorem dX11_occurs_10 : decode cX11_occurs 10 = .ok (.iload_n 2, 1) := by decide +kernel
theorem dX11_occurs_11 : decode cX11_occurs 11 = .ok (.i2l, 1) := by decide +kernel
theorem dX11_occurs_12 : decode cX11_occurs 12 = .ok (.lreturn, 1) := by decide +kernel
theorem dX11_occurs_13 : decode cX11_occurs 13 = .ok (.aload_n 0, 1) := by decide +kernel
theorem dX11_occurs_14 : decode cX11_occurs 14 = .ok (.getfield 49, 3) := by decide +kernel
theorem dX11_occurs_17 : decode cX11_occurs 17 = .ok (.aload_n 0, 1) := by decide +kernel
theorem dX11_occurs_18 : decode cX11_occurs 18 = .ok (.getfield 35, 3) := by decide +kernel
theorem dX11_occurs_21 : decode cX11_occurs 21 = .ok (.iload_n 1, 1) := by decide +kernel
theorem dX11_occurs_22 : decode cX11_occurs 22 = .ok (.aaload, 1) := by decide +kernel
theorem dX11_occurs_23 : decode cX11_occurs 23 = .ok (.invokevirtual 222, 3) := by decide +kernel
theorem dX11_occurs_26 : decode cX11_occurs 26 = .ok (.aload_n 0, 1) := by decide +kernel
theorem dX11_occurs_27 : decode cX11_occurs 27 = .ok (.getfield 49, 3) := by decide +kernel
theorem dX11_occurs_30 : decode cX11_occurs 30 = .ok (.aload_n 0, 1) := by decide +kernel
theorem dX11_occurs_31 : decode cX11_occurs 31 = .ok (.getfield 66, 3) := by decide +kernel
theorem dX11_occurs_34 : decode cX11_occurs 34 = .ok (.invokevirtual 226, 3) := by decide +kernel
theorem dX11_occurs_37 : decode cX11_occurs 37 = .ok (.aload_n 0, 1) := by decide +kernel
theorem dX11_occurs_38 : decode cX11_occurs 38 = .ok (.getfield 49, 3) := by decide +kernel
theorem dX11_occurs_41 : decode cX11_occurs 41 = .ok (.aload_n 0, 1) := by decide +kernel
theorem dX11_occurs_42 : decode cX11_occurs 42 = .ok (.getfield 66, 3) := by decide +kernel
theorem dX11_occurs_45 : decode cX11_occurs 45 = .ok (.invokevirtual 229, 3) := by decide +kernel
theorem dX11_occurs_48 : decode cX11_occurs 48 = .ok (.lreturn, 1) := by decide +kernel
theorem dX11_first_0 : decode cX11_first 0 = .ok (.aload_n 0, 1) := by decide +kernel
theorem dX11_first_1 : decode cX11_first 1 = .ok (.iload_n 1, 1) := by decide +kernel
theorem dX11_first_2 : decode cX11_first 2 = .ok (.invokevirtual 219, 3) := by decide +kernel
theorem dX11_first_5 : decode cX11_first 5 = .ok (.istore_n 2, 1) := by decide +kernel
theorem dX11_first_6 : decode cX11_first 6 = .ok (.iload_n 2, 1) := by decide +kernel
theorem dX11_first_7 : decode cX11_first 7 = .ok (.ifCond .eq 6, 3) := by decide +kernel
theorem dX11_first_10 : decode cX11_first 10 = .ok (.iload_n 2, 1) := by decide +kernel
theorem dX11_first_11 : decode cX11_first 11 = .ok (.i2l, 1) := by decide +kernel
theorem dX11_first_12 : decode cX11_first 12 = .ok (.lreturn, 1) := by decide +kernel
theorem dX11_first_13 : decode cX11_first 13 = .ok (.aload_n 0, 1) := by decide +kernel
theorem dX11_first_14 : decode cX11_first 14 = .ok (.getfield 49, 3) := by decide +kernel
theorem dX11_first_17 : decode cX11_first 17 = .ok (.aload_n 0, 1) := by decide +kernel
theorem dX11_first_18 : decode cX11_first 18 = .ok (.getfield 35, 3) := by decide +kernel
theorem dX11_first_21 : decode cX11_first 21 = .ok (.iload_n 1, 1) := by decide +kernel
theorem dX11_first_22 : decode cX11_first 22 = .ok (.aaload, 1) := by decide +kernel
theorem dX11_first_23 : decode cX11_first 23 = .ok (.invokevirtual 222, 3) := by decide +kernel
theorem dX11_first_26 : decode cX11_first 26 = .ok (.aload_n 0, 1) := by decide +kernel
theorem dX11_first_27 : decode cX11_first 27 = .ok (.getfield 49, 3) := by decide +kernel
theorem dX11_first_30 : decode cX11_first 30 = .ok (.aload_n 0, 1) := by decide +kernel
theorem dX11_first_31 : decode cX11_first 31 = .ok (.getfield 66, 3) := by decide +kernel
theorem dX11_first_34 : decode cX11_first 34 = .ok (.invokevirtual 226, 3) := by decide +kernel
theorem dX11_first_37 : decode cX11_first 37 = .ok (.aload_n 0, 1) := by decide +kernel
theorem dX11_first_38 : decode cX11_first 38 = .ok (.getfield 42, 3) := by decide +kernel
theorem dX11_first_41 : decode cX11_first 41 = .ok (.aload_n 0, 1) := by decide +kernel
theorem dX11_first_42 : decode cX11_first 42 = .ok (.getfield 66, 3) := by decide +kernel
theorem dX11_first_45 : decode cX11_first 45 = .ok (.invokevirtual 140, 3) := by decide +kernel
theorem dX11_first_48 : decode cX11_first 48 = .ok (.aload_n 0, 1) := by decide +kernel
theorem dX11_first_49 : decode cX11_first 49 = .ok (.getfield 49, 3) := by decide +kernel
theorem dX11_first_52 : decode cX11_first 52 = .ok (.aload_n 0, 1) := by decide +kernel
theorem dX11_first_53 : decode cX11_first 53 = .ok (.getfield 66, 3) := by decide +kernel
theorem dX11_first_56 : decode cX11_first 56 = .ok (.aload_n 0, 1) := by decide +kernel
theorem dX11_first_57 : decode cX11_first 57 = .ok (.getfield 42, 3) := by decide +kernel
theorem dX11_first_60 : decode cX11_first 60 = .ok (.getfield 233, 3) := by decide +kernel
theorem dX11_first_63 : decode cX11_first 63 = .ok (.invokevirtual 236, 3) := by decide +kernel
theorem dX11_first_66 : decode cX11_first 66 = .ok (.lreturn, 1) := by decide +kernel
theorem dX11_backs_0 : decode cX11_backs 0 = .ok (.aload_n 0, 1) := by decide +kernel
theorem dX11_backs_1 : decode cX11_backs 1 = .ok (.iload_n 1, 1) := by decide +kernel
theorem dX11_backs_2 : decode cX11_backs 2 = .ok (.iload_n 2, 1) := by decide +kernel
theorem dX11_backs_3 : decode cX11_backs 3 = .ok (.invokevirtual 240, 3) := by decide +kernel
theorem dX11_backs_6 : decode cX11_backs 6 = .ok (.istore_n 3, 1) := by decide +kernel
theorem dX11_backs_7 : decode cX11_backs 7 = .ok (.iload_n 3, 1) := by decide +kernel
theorem dX11_backs_8 : decode cX11_backs 8 = .ok (.ifCond .eq 5, 3) := by decide +kernel
theorem dX11_backs_11 : decode cX11_backs 11 = .ok (.iload_n 3, 1) := by decide +kernel
theorem dX11_backs_12 : decode cX11_backs 12 = .ok (.ireturn, 1) := by decide +kernel
theorem dX11_backs_13 : decode cX11_backs 13 = .ok (.aload_n 0, 1) := by decide +kernel
theorem dX11_backs_14 : decode cX11_backs 14 = .ok (.getfield 49, 3) := by decide +kernel
theorem dX11_backs_17 : decode cX11_backs 17 = .ok (.aload_n 0, 1) := by decide +kernel
theorem dX11_backs_18 : decode cX11_backs 18 = .ok (.getfield 35, 3) := by decide +kernel
theorem dX11_backs_21 : decode cX11_backs 21 = .ok (.iload_n 1, 1) := by decide +kernel
theorem dX11_backs_22 : decode cX11_backs 22 = .ok (.aaload, 1) := by decide +kernel
theorem dX11_backs_23 : decode cX11_backs 23 = .ok (.aload_n 0, 1) := by decide +kernel
theorem dX11_backs_24 : decode cX11_backs 24 = .ok (.getfield 66, 3) := by decide +kernel
theorem dX11_backs_27 : decode cX11_backs 27 = .ok (.getfield 116, 3) := by decide +kernel
theorem dX11_backs_30 : decode cX11_backs 30 = .ok (.iload_n 2, 1) := by decide +kernel
theorem dX11_backs_31 : decode cX11_backs 31 = .ok (.invokevirtual 243, 3) := by decide +kernel
theorem dX11_backs_34 : decode cX11_backs 34 = .ok (.aload_n 0, 1) := by decide +kernel
theorem dX11_backs_35 : decode cX11_backs 35 = .ok (.getfield 49, 3) := by decide +kernel
theorem dX11_backs_38 : decode cX11_backs 38 = .ok (.getfield 247, 3) := by decide +kernel
theorem dX11_backs_41 : decode cX11_backs 41 = .ok (.iconst 0, 1) := by decide +kernel
theorem dX11_backs_42 : decode cX11_backs 42 = .ok (.iaload, 1) := by decide +kernel
theorem dX11_backs_43 : decode cX11_backs 43 = .ok (.ireturn, 1) := by decide +kernel
theorem dX11_backBy_0 : decode cX11_backBy 0 = .ok (.aload_n 0, 1) := by decide +kernel
theorem dX11_backBy_1 : decode cX11_backBy 1 = .ok (.iload_n 1, 1) := by decide +kernel
theorem dX11_backBy_2 : decode cX11_backBy 2 = .ok (.iload_n 2, 1) := by decide +kernel
theorem dX11_backBy_3 : decode cX11_backBy 3 = .ok (.invokevirtual 240, 3) := by decide +kernel
theorem dX11_backBy_6 : decode cX11_backBy 6 = .ok (.istore 4, 2) := by decide +kernel
theorem dX11_backBy_8 : decode cX11_backBy 8 = .ok (.iload 4, 2) := by decide +kernel
theorem dX11_backBy_10 : decode cX11_backBy 10 = .ok (.ifCond .eq 6, 3) := by decide +kernel
theorem dX11_backBy_13 : decode cX11_backBy 13 = .ok (.iload 4, 2) := by decide +kernel
theorem dX11_backBy_15 : decode cX11_backBy 15 = .ok (.ireturn, 1) := by decide +kernel
theorem dX11_backBy_16 : decode cX11_backBy 16 = .ok (.iload_n 3, 1) := by decide +kernel
theorem dX11_backBy_17 : decode cX11_backBy 17 = .ok (.ifCond .ge 6, 3) := by decide +kernel
theorem dX11_backBy_20 : decode cX11_backBy 20 = .ok (.bipush (-3), 2) := by decide +kernel
theorem dX11_backBy_22 : decode cX11_backBy 22 = .ok (.ireturn, 1) := by decide +kernel
theorem dX11_backBy_23 : decode cX11_backBy 23 = .ok (.aload_n 0, 1) := by decide +kernel
theorem dX11_backBy_24 : decode cX11_backBy 24 = .ok (.getfield 49, 3) := by decide +kernel
theorem dX11_backBy_27 : decode cX11_backBy 27 = .ok (.aload_n 0, 1) := by decide +kernel
theorem dX11_backBy_28 : decode cX11_backBy 28 = .ok (.getfield 35, 3) := by decide +kernel
theorem dX11_backBy_31 : decode cX11_backBy 31 = .ok (.iload_n 1, 1) := by decide +kernel
theorem dX11_backBy_32 : decode cX11_backBy 32 = .ok (.aaload, 1) := by decide +kernel
theorem dX11_backBy_33 : decode cX11_backBy 33 = .ok (.aload_n 0, 1) := by decide +kernel
theorem dX11_backBy_34 : decode cX11_backBy 34 = .ok (.getfield 66, 3) := by decide +kernel
theorem dX11_backBy_37 : decode cX11_backBy 37 = .ok (.getfield 116, 3) := by decide +kernel
theorem dX11_backBy_40 : decode cX11_backBy 40 = .ok (.iload_n 2, 1) := by decide +kernel
theorem dX11_backBy_41 : decode cX11_backBy 41 = .ok (.invokevirtual 243, 3) := by decide +kernel
theorem dX11_backBy_44 : decode cX11_backBy 44 = .ok (.aload_n 0, 1) := by decide +kernel
theorem dX11_backBy_45 : decode cX11_backBy 45 = .ok (.getfield 49, 3) := by decide +kernel
theorem dX11_backBy_48 : decode cX11_backBy 48 = .ok (.aload_n 0, 1) := by decide +kernel
theorem dX11_backBy_49 : decode cX11_backBy 49 = .ok (.getfield 35, 3) := by decide +kernel
theorem dX11_backBy_52 : decode cX11_backBy 52 = .ok (.iload_n 1, 1) := by decide +kernel
theorem dX11_backBy_53 : decode cX11_backBy 53 = .ok (.aaload, 1) := by decide +kernel
theorem dX11_backBy_54 : decode cX11_backBy 54 = .ok (.aload_n 0, 1) := by decide +kernel
theorem dX11_backBy_55 : decode cX11_backBy 55 = .ok (.getfield 66, 3) := by decide +kernel
theorem dX11_backBy_58 : decode cX11_backBy 58 = .ok (.getfield 116, 3) := by decide +kernel
theorem dX11_backBy_61 : decode cX11_backBy 61 = .ok (.iload_n 2, 1) := by decide +kernel
theorem dX11_backBy_62 : decode cX11_backBy 62 = .ok (.iload_n 3, 1) := by decide +kernel
theorem dX11_backBy_63 : decode cX11_backBy 63 = .ok (.invokevirtual 251, 3) := by decide +kernel
theorem dX11_backBy_66 : decode cX11_backBy 66 = .ok (.ireturn, 1) := by decide +kernel
theorem dX11_fate_0 : decode cX11_fate 0 = .ok (.aload_n 0, 1) := by decide +kernel
theorem dX11_fate_1 : decode cX11_fate 1 = .ok (.iload_n 1, 1) := by decide +kernel
theorem dX11_fate_2 : decode cX11_fate 2 = .ok (.invokevirtual 108, 3) := by decide +kernel
theorem dX11_fate_5 : decode cX11_fate 5 = .ok (.ifCond .eq 11, 3) := by decide +kernel
theorem dX11_fate_8 : decode cX11_fate 8 = .ok (.iload_n 2, 1) := by decide +kernel
theorem dX11_fate_9 : decode cX11_fate 9 = .ok (.i2l, 1) := by decide +kernel
theorem dX11_fate_10 : decode cX11_fate 10 = .ok (.invokestatic 112, 3) := by decide +kernel
theorem dX11_fate_13 : decode cX11_fate 13 = .ok (.ifCond .ne 6, 3) := by decide +kernel
theorem dX11_fate_16 : decode cX11_fate 16 = .ok (.bipush (-2), 2) := by decide +kernel
theorem dX11_fate_18 : decode cX11_fate 18 = .ok (.ireturn, 1) := by decide +kernel
theorem dX11_fate_19 : decode cX11_fate 19 = .ok (.aload_n 0, 1) := by decide +kernel
theorem dX11_fate_20 : decode cX11_fate 20 = .ok (.getfield 56, 3) := by decide +kernel
theorem dX11_fate_23 : decode cX11_fate 23 = .ok (.aload_n 0, 1) := by decide +kernel
theorem dX11_fate_24 : decode cX11_fate 24 = .ok (.getfield 66, 3) := by decide +kernel
theorem dX11_fate_27 : decode cX11_fate 27 = .ok (.getfield 116, 3) := by decide +kernel
theorem dX11_fate_30 : decode cX11_fate 30 = .ok (.iload_n 1, 1) := by decide +kernel
theorem dX11_fate_31 : decode cX11_fate 31 = .ok (.invokevirtual 255, 3) := by decide +kernel
theorem dX11_fate_34 : decode cX11_fate 34 = .ok (.aload_n 0, 1) := by decide +kernel
theorem dX11_fate_35 : decode cX11_fate 35 = .ok (.getfield 56, 3) := by decide +kernel
theorem dX11_fate_38 : decode cX11_fate 38 = .ok (.aload_n 0, 1) := by decide +kernel
theorem dX11_fate_39 : decode cX11_fate 39 = .ok (.getfield 66, 3) := by decide +kernel
theorem dX11_fate_42 : decode cX11_fate 42 = .ok (.getfield 116, 3) := by decide +kernel
theorem dX11_fate_45 : decode cX11_fate 45 = .ok (.iload_n 1, 1) := by decide +kernel
theorem dX11_fate_46 : decode cX11_fate 46 = .ok (.iload_n 2, 1) := by decide +kernel
theorem dX11_fate_47 : decode cX11_fate 47 = .ok (.invokevirtual 258, 3) := by decide +kernel
theorem dX11_fate_50 : decode cX11_fate 50 = .ok (.ireturn, 1) := by decide +kernel
theorem dX11_degree_0 : decode cX11_degree 0 = .ok (.aload_n 0, 1) := by decide +kernel
theorem dX11_degree_1 : decode cX11_degree 1 = .ok (.iload_n 1, 1) := by decide +kernel
theorem dX11_degree_2 : decode cX11_degree 2 = .ok (.invokevirtual 108, 3) := by decide +kernel
theorem dX11_degree_5 : decode cX11_degree 5 = .ok (.ifCond .eq 11, 3) := by decide +kernel
theorem dX11_degree_8 : decode cX11_degree 8 = .ok (.iload_n 2, 1) := by decide +kernel
theorem dX11_degree_9 : decode cX11_degree 9 = .ok (.i2l, 1) := by decide +kernel
theorem dX11_degree_10 : decode cX11_degree 10 = .ok (.invokestatic 112, 3) := by decide +kernel
theorem dX11_degree_13 : decode cX11_degree 13 = .ok (.ifCond .ne 6, 3) := by decide +kernel
theorem dX11_degree_16 : decode cX11_degree 16 = .ok (.bipush (-2), 2) := by decide +kernel
theorem dX11_degree_18 : decode cX11_degree 18 = .ok (.ireturn, 1) := by decide +kernel
theorem dX11_degree_19 : decode cX11_degree 19 = .ok (.aload_n 0, 1) := by decide +kernel
theorem dX11_degree_20 : decode cX11_degree 20 = .ok (.getfield 56, 3) := by decide +kernel
theorem dX11_degree_23 : decode cX11_degree 23 = .ok (.aload_n 0, 1) := by decide +kernel
theorem dX11_degree_24 : decode cX11_degree 24 = .ok (.getfield 66, 3) := by decide +kernel
theorem dX11_degree_27 : decode cX11_degree 27 = .ok (.getfield 116, 3) := by decide +kernel
theorem dX11_degree_30 : decode cX11_degree 30 = .ok (.iload_n 1, 1) := by decide +kernel
theorem dX11_degree_31 : decode cX11_degree 31 = .ok (.invokevirtual 255, 3) := by decide +kernel
theorem dX11_degree_34 : decode cX11_degree 34 = .ok (.aload_n 0, 1) := by decide +kernel
theorem dX11_degree_35 : decode cX11_degree 35 = .ok (.getfield 56, 3) := by decide +kernel
theorem dX11_degree_38 : decode cX11_degree 38 = .ok (.aload_n 0, 1) := by decide +kernel
theorem dX11_degree_39 : decode cX11_degree 39 = .ok (.getfield 66, 3) := by decide +kernel
theorem dX11_degree_42 : decode cX11_degree 42 = .ok (.getfield 116, 3) := by decide +kernel
theorem dX11_degree_45 : decode cX11_degree 45 = .ok (.iload_n 1, 1) := by decide +kernel
theorem dX11_degree_46 : decode cX11_degree 46 = .ok (.iload_n 2, 1) := by decide +kernel
theorem dX11_degree_47 : decode cX11_degree 47 = .ok (.invokevirtual 258, 3) := by decide +kernel
theorem dX11_degree_50 : decode cX11_degree 50 = .ok (.iconst 2, 1) := by decide +kernel
theorem dX11_degree_51 : decode cX11_degree 51 = .ok (.if_icmp .eq 5, 3) := by decide +kernel
theorem dX11_degree_54 : decode cX11_degree 54 = .ok (.iconst (-1), 1) := by decide +kernel
theorem dX11_degree_55 : decode cX11_degree 55 = .ok (.ireturn, 1) := by decide +kernel
theorem dX11_degree_56 : decode cX11_degree 56 = .ok (.aload_n 0, 1) := by decide +kernel
theorem dX11_degree_57 : decode cX11_degree 57 = .ok (.getfield 56, 3) := by decide +kernel
theorem dX11_degree_60 : decode cX11_degree 60 = .ok (.iload_n 2, 1) := by decide +kernel
theorem dX11_degree_61 : decode cX11_degree 61 = .ok (.invokevirtual 262, 3) := by decide +kernel
theorem dX11_degree_64 : decode cX11_degree 64 = .ok (.iconst 1, 1) := by decide +kernel
theorem dX11_degree_65 : decode cX11_degree 65 = .ok (.isub, 1) := by decide +kernel
theorem dX11_degree_66 : decode cX11_degree 66 = .ok (.ireturn, 1) := by decide +kernel
theorem dX11_begins_0 : decode cX11_begins 0 = .ok (.aload_n 0, 1) := by decide +kernel
theorem dX11_begins_1 : decode cX11_begins 1 = .ok (.iload_n 1, 1) := by decide +kernel
theorem dX11_begins_2 : decode cX11_begins 2 = .ok (.invokevirtual 108, 3) := by decide +kernel
theorem dX11_begins_5 : decode cX11_begins 5 = .ok (.ifCond .ne 6, 3) := by decide +kernel
theorem dX11_begins_8 : decode cX11_begins 8 = .ok (.bipush (-2), 2) := by decide +kernel
theorem dX11_begins_10 : decode cX11_begins 10 = .ok (.ireturn, 1) := by decide +kernel
theorem dX11_begins_11 : decode cX11_begins 11 = .ok (.iconst 0, 1) := by decide +kernel
theorem dX11_begins_12 : decode cX11_begins 12 = .ok (.istore_n 2, 1) := by decide +kernel
theorem dX11_begins_13 : decode cX11_begins 13 = .ok (.iconst 0, 1) := by decide +kernel
theorem dX11_begins_14 : decode cX11_begins 14 = .ok (.istore_n 3, 1) := by decide +kernel
theorem dX11_begins_15 : decode cX11_begins 15 = .ok (.iload_n 3, 1) := by decide +kernel
theorem dX11_begins_16 : decode cX11_begins 16 = .ok (.bipush 6, 2) := by decide +kernel
theorem dX11_begins_18 : decode cX11_begins 18 = .ok (.if_icmp .ge 48, 3) := by decide +kernel
theorem dX11_begins_21 : decode cX11_begins 21 = .ok (.aload_n 0, 1) := by decide +kernel
theorem dX11_begins_22 : decode cX11_begins 22 = .ok (.getfield 66, 3) := by decide +kernel
theorem dX11_begins_25 : decode cX11_begins 25 = .ok (.getfield 116, 3) := by decide +kernel
theorem dX11_begins_28 : decode cX11_begins 28 = .ok (.iload_n 1, 1) := by decide +kernel
theorem dX11_begins_29 : decode cX11_begins 29 = .ok (.iload_n 3, 1) := by decide +kernel
theorem dX11_begins_30 : decode cX11_begins 30 = .ok (.invokevirtual 120, 3) := by decide +kernel
theorem dX11_begins_33 : decode cX11_begins 33 = .ok (.iconst 2, 1) := by decide +kernel
theorem dX11_begins_34 : decode cX11_begins 34 = .ok (.if_icmp .lt 26, 3) := by decide +kernel
theorem dX11_begins_37 : decode cX11_begins 37 = .ok (.aload_n 0, 1) := by decide +kernel
theorem dX11_begins_38 : decode cX11_begins 38 = .ok (.getfield 66, 3) := by decide +kernel
theorem dX11_begins_41 : decode cX11_begins 41 = .ok (.getfield 116, 3) := by decide +kernel
theorem dX11_begins_44 : decode cX11_begins 44 = .ok (.iload_n 1, 1) := by decide +kernel
theorem dX11_begins_45 : decode cX11_begins 45 = .ok (.iload_n 3, 1) := by decide +kernel
theorem dX11_begins_46 : decode cX11_begins 46 = .ok (.iconst 0, 1) := by decide +kernel
theorem dX11_begins_47 : decode cX11_begins 47 = .ok (.invokevirtual 124, 3) := by decide +kernel
theorem dX11_begins_50 : decode cX11_begins 50 = .ok (.iload_n 3, 1) := by decide +kernel
theorem dX11_begins_51 : decode cX11_begins 51 = .ok (.if_icmp .ne 9, 3) := by decide +kernel
theorem dX11_begins_54 : decode cX11_begins 54 = .ok (.iload_n 2, 1) := by decide +kernel
theorem dX11_begins_55 : decode cX11_begins 55 = .ok (.iconst 1, 1) := by decide +kernel
theorem dX11_begins_56 : decode cX11_begins 56 = .ok (.iload_n 3, 1) := by decide +kernel
theorem dX11_begins_57 : decode cX11_begins 57 = .ok (.ishl, 1) := by decide +kernel
theorem dX11_begins_58 : decode cX11_begins 58 = .ok (.ior, 1) := by decide +kernel
theorem dX11_begins_59 : decode cX11_begins 59 = .ok (.istore_n 2, 1) := by decide +kernel
theorem dX11_begins_60 : decode cX11_begins 60 = .ok (.iinc 3 1, 3) := by decide +kernel
theorem dX11_begins_63 : decode cX11_begins 63 = .ok (.goto (-48), 3) := by decide +kernel
theorem dX11_begins_66 : decode cX11_begins 66 = .ok (.iload_n 2, 1) := by decide +kernel
theorem dX11_begins_67 : decode cX11_begins 67 = .ok (.ireturn, 1) := by decide +kernel
theorem dX11_comes_0 : decode cX11_comes 0 = .ok (.iload_n 1, 1) := by decide +kernel
theorem dX11_comes_1 : decode cX11_comes 1 = .ok (.i2l, 1) := by decide +kernel
theorem dX11_comes_2 : decode cX11_comes 2 = .ok (.invokestatic 112, 3) := by decide +kernel
theorem dX11_comes_5 : decode cX11_comes 5 = .ok (.ifCond .ne 6, 3) := by decide +kernel
theorem dX11_comes_8 : decode cX11_comes 8 = .ok (.bipush (-2), 2) := by decide +kernel
theorem dX11_comes_10 : decode cX11_comes 10 = .ok (.ireturn, 1) := by decide +kernel
theorem dX11_comes_11 : decode cX11_comes 11 = .ok (.aload_n 0, 1) := by decide +kernel
theorem dX11_comes_12 : decode cX11_comes 12 = .ok (.getfield 66, 3) := by decide +kernel
theorem dX11_comes_15 : decode cX11_comes 15 = .ok (.invokevirtual 265, 3) := by decide +kernel
theorem dX11_comes_18 : decode cX11_comes 18 = .ok (.istore_n 2, 1) := by decide +kernel
theorem dX11_comes_19 : decode cX11_comes 19 = .ok (.iconst 0, 1) := by decide +kernel
theorem dX11_comes_20 : decode cX11_comes 20 = .ok (.istore_n 3, 1) := by decide +kernel
theorem dX11_comes_21 : decode cX11_comes 21 = .ok (.iload_n 3, 1) := by decide +kernel
theorem dX11_comes_22 : decode cX11_comes 22 = .ok (.bipush 6, 2) := by decide +kernel
theorem dX11_comes_24 : decode cX11_comes 24 = .ok (.if_icmp .ge 67, 3) := by decide +kernel
theorem dX11_comes_27 : decode cX11_comes 27 = .ok (.iload_n 2, 1) := by decide +kernel
theorem dX11_comes_28 : decode cX11_comes 28 = .ok (.iload_n 1, 1) := by decide +kernel
theorem dX11_comes_29 : decode cX11_comes 29 = .ok (.ishr, 1) := by decide +kernel
theorem dX11_comes_30 : decode cX11_comes 30 = .ok (.iconst 1, 1) := by decide +kernel
theorem dX11_comes_31 : decode cX11_comes 31 = .ok (.iand, 1) := by decide +kernel
theorem dX11_comes_32 : decode cX11_comes 32 = .ok (.ifCond .eq 5, 3) := by decide +kernel
theorem dX11_comes_35 : decode cX11_comes 35 = .ok (.iload_n 3, 1) := by decide +kernel
theorem dX11_comes_36 : decode cX11_comes 36 = .ok (.ireturn, 1) := by decide +kernel
theorem dX11_comes_37 : decode cX11_comes 37 = .ok (.iload_n 2, 1) := by decide +kernel
theorem dX11_comes_38 : decode cX11_comes 38 = .ok (.istore 4, 2) := by decide +kernel
theorem dX11_comes_40 : decode cX11_comes 40 = .ok (.iconst 0, 1) := by decide +kernel
theorem dX11_comes_41 : decode cX11_comes 41 = .ok (.istore 5, 2) := by decide +kernel
theorem dX11_comes_43 : decode cX11_comes 43 = .ok (.iload 5, 2) := by decide +kernel
theorem dX11_comes_45 : decode cX11_comes 45 = .ok (.aload_n 0, 1) := by decide +kernel
theorem dX11_comes_46 : decode cX11_comes 46 = .ok (.getfield 66, 3) := by decide +kernel
theorem dX11_comes_49 : decode cX11_comes 49 = .ok (.getfield 116, 3) := by decide +kernel
theorem dX11_comes_52 : decode cX11_comes 52 = .ok (.getfield 268, 3) := by decide +kernel
theorem dX11_comes_55 : decode cX11_comes 55 = .ok (.if_icmp .ge 27, 3) := by decide +kernel
theorem dX11_comes_58 : decode cX11_comes 58 = .ok (.iload 4, 2) := by decide +kernel
theorem dX11_comes_60 : decode cX11_comes 60 = .ok (.aload_n 0, 1) := by decide +kernel
theorem dX11_comes_61 : decode cX11_comes 61 = .ok (.getfield 66, 3) := by decide +kernel
theorem dX11_comes_64 : decode cX11_comes 64 = .ok (.getfield 116, 3) := by decide +kernel
theorem dX11_comes_67 : decode cX11_comes 67 = .ok (.iload 5, 2) := by decide +kernel
theorem dX11_comes_69 : decode cX11_comes 69 = .ok (.iload_n 2, 1) := by decide +kernel
theorem dX11_comes_70 : decode cX11_comes 70 = .ok (.invokevirtual 271, 3) := by decide +kernel
theorem dX11_comes_73 : decode cX11_comes 73 = .ok (.ior, 1) := by decide +kernel
theorem dX11_comes_74 : decode cX11_comes 74 = .ok (.istore 4, 2) := by decide +kernel
theorem dX11_comes_76 : decode cX11_comes 76 = .ok (.iinc 5 1, 3) := by decide +kernel
theorem dX11_comes_79 : decode cX11_comes 79 = .ok (.goto (-36), 3) := by decide +kernel
theorem dX11_comes_82 : decode cX11_comes 82 = .ok (.iload 4, 2) := by decide +kernel
theorem dX11_comes_84 : decode cX11_comes 84 = .ok (.istore_n 2, 1) := by decide +kernel
theorem dX11_comes_85 : decode cX11_comes 85 = .ok (.iinc 3 1, 3) := by decide +kernel
theorem dX11_comes_88 : decode cX11_comes 88 = .ok (.goto (-67), 3) := by decide +kernel
theorem dX11_comes_91 : decode cX11_comes 91 = .ok (.iconst (-1), 1) := by decide +kernel
theorem dX11_comes_92 : decode cX11_comes 92 = .ok (.ireturn, 1) := by decide +kernel
theorem dX11_soonest_0 : decode cX11_soonest 0 = .ok (.lload_n 1, 1) := by decide +kernel
theorem dX11_soonest_1 : decode cX11_soonest 1 = .ok (.lconst 0, 1) := by decide +kernel
theorem dX11_soonest_2 : decode cX11_soonest 2 = .ok (.lcmp, 1) := by decide +kernel
theorem dX11_soonest_3 : decode cX11_soonest 3 = .ok (.ifCond .ge 8, 3) := by decide +kernel
theorem dX11_soonest_6 : decode cX11_soonest 6 = .ok (.bipush (-3), 2) := by decide +kernel
theorem dX11_soonest_8 : decode cX11_soonest 8 = .ok (.goto 15, 3) := by decide +kernel
theorem dX11_soonest_11 : decode cX11_soonest 11 = .ok (.aload_n 0, 1) := by decide +kernel
theorem dX11_soonest_12 : decode cX11_soonest 12 = .ok (.getfield 76, 3) := by decide +kernel
theorem dX11_soonest_15 : decode cX11_soonest 15 = .ok (.aload_n 0, 1) := by decide +kernel
theorem dX11_soonest_16 : decode cX11_soonest 16 = .ok (.getfield 66, 3) := by decide +kernel
theorem dX11_soonest_19 : decode cX11_soonest 19 = .ok (.lload_n 1, 1) := by decide +kernel
theorem dX11_soonest_20 : decode cX11_soonest 20 = .ok (.invokevirtual 274, 3) := by decide +kernel
theorem dX11_soonest_23 : decode cX11_soonest 23 = .ok (.ireturn, 1) := by decide +kernel
theorem dX11_way_0 : decode cX11_way 0 = .ok (.lload_n 1, 1) := by decide +kernel
theorem dX11_way_1 : decode cX11_way 1 = .ok (.lconst 0, 1) := by decide +kernel
theorem dX11_way_2 : decode cX11_way 2 = .ok (.lcmp, 1) := by decide +kernel
theorem dX11_way_3 : decode cX11_way 3 = .ok (.ifCond .lt 7, 3) := by decide +kernel
theorem dX11_way_6 : decode cX11_way 6 = .ok (.iload_n 3, 1) := by decide +kernel
theorem dX11_way_7 : decode cX11_way 7 = .ok (.ifCond .ge 6, 3) := by decide +kernel
theorem dX11_way_10 : decode cX11_way 10 = .ok (.bipush (-3), 2) := by decide +kernel
theorem dX11_way_12 : decode cX11_way 12 = .ok (.ireturn, 1) := by decide +kernel
theorem dX11_way_13 : decode cX11_way 13 = .ok (.aload_n 0, 1) := by decide +kernel
theorem dX11_way_14 : decode cX11_way 14 = .ok (.getfield 76, 3) := by decide +kernel
theorem dX11_way_17 : decode cX11_way 17 = .ok (.aload_n 0, 1) := by decide +kernel
theorem dX11_way_18 : decode cX11_way 18 = .ok (.getfield 66, 3) := by decide +kernel
theorem dX11_way_21 : decode cX11_way 21 = .ok (.lload_n 1, 1) := by decide +kernel
theorem dX11_way_22 : decode cX11_way 22 = .ok (.invokevirtual 274, 3) := by decide +kernel
theorem dX11_way_25 : decode cX11_way 25 = .ok (.istore 4, 2) := by decide +kernel
theorem dX11_way_27 : decode cX11_way 27 = .ok (.iload_n 3, 1) := by decide +kernel
theorem dX11_way_28 : decode cX11_way 28 = .ok (.iload 4, 2) := by decide +kernel
theorem dX11_way_30 : decode cX11_way 30 = .ok (.if_icmp .ge 14, 3) := by decide +kernel
theorem dX11_way_33 : decode cX11_way 33 = .ok (.aload_n 0, 1) := by decide +kernel
theorem dX11_way_34 : decode cX11_way 34 = .ok (.getfield 76, 3) := by decide +kernel
theorem dX11_way_37 : decode cX11_way 37 = .ok (.iload_n 3, 1) := by decide +kernel
theorem dX11_way_38 : decode cX11_way 38 = .ok (.invokevirtual 277, 3) := by decide +kernel
theorem dX11_way_41 : decode cX11_way 41 = .ok (.goto 4, 3) := by decide +kernel
theorem dX11_way_44 : decode cX11_way 44 = .ok (.iconst (-1), 1) := by decide +kernel
theorem dX11_way_45 : decode cX11_way 45 = .ok (.ireturn, 1) := by decide +kernel
theorem dX11_rows_0 : decode cX11_rows 0 = .ok (.lload_n 1, 1) := by decide +kernel
theorem dX11_rows_1 : decode cX11_rows 1 = .ok (.lconst 0, 1) := by decide +kernel
theorem dX11_rows_2 : decode cX11_rows 2 = .ok (.lcmp, 1) := by decide +kernel
theorem dX11_rows_3 : decode cX11_rows 3 = .ok (.ifCond .lt 13, 3) := by decide +kernel
theorem dX11_rows_6 : decode cX11_rows 6 = .ok (.iload_n 3, 1) := by decide +kernel
theorem dX11_rows_7 : decode cX11_rows 7 = .ok (.ifCond .lt 9, 3) := by decide +kernel
theorem dX11_rows_10 : decode cX11_rows 10 = .ok (.iload_n 3, 1) := by decide +kernel
theorem dX11_rows_11 : decode cX11_rows 11 = .ok (.bipush 7, 2) := by decide +kernel
theorem dX11_rows_13 : decode cX11_rows 13 = .ok (.if_icmp .le 6, 3) := by decide +kernel
theorem dX11_rows_16 : decode cX11_rows 16 = .ok (.bipush (-3), 2) := by decide +kernel
theorem dX11_rows_18 : decode cX11_rows 18 = .ok (.ireturn, 1) := by decide +kernel
theorem dX11_rows_19 : decode cX11_rows 19 = .ok (.aload_n 0, 1) := by decide +kernel
theorem dX11_rows_20 : decode cX11_rows 20 = .ok (.getfield 76, 3) := by decide +kernel
theorem dX11_rows_23 : decode cX11_rows 23 = .ok (.aload_n 0, 1) := by decide +kernel
theorem dX11_rows_24 : decode cX11_rows 24 = .ok (.getfield 66, 3) := by decide +kernel
theorem dX11_rows_27 : decode cX11_rows 27 = .ok (.lload_n 1, 1) := by decide +kernel
theorem dX11_rows_28 : decode cX11_rows 28 = .ok (.iload_n 3, 1) := by decide +kernel
theorem dX11_rows_29 : decode cX11_rows 29 = .ok (.invokevirtual 280, 3) := by decide +kernel
theorem dX11_rows_32 : decode cX11_rows 32 = .ok (.ireturn, 1) := by decide +kernel
theorem dX11_longBy_0 : decode cX11_longBy 0 = .ok (.aload_n 0, 1) := by decide +kernel
theorem dX11_longBy_1 : decode cX11_longBy 1 = .ok (.iload_n 1, 1) := by decide +kernel
theorem dX11_longBy_2 : decode cX11_longBy 2 = .ok (.ldc2_w 160, 3) := by decide +kernel
theorem dX11_longBy_5 : decode cX11_longBy 5 = .ok (.invokevirtual 284, 3) := by decide +kernel
theorem dX11_longBy_8 : decode cX11_longBy 8 = .ok (.istore_n 2, 1) := by decide +kernel
theorem dX11_longBy_9 : decode cX11_longBy 9 = .ok (.iload_n 2, 1) := by decide +kernel
theorem dX11_longBy_10 : decode cX11_longBy 10 = .ok (.ifCond .eq 5, 3) := by decide +kernel
theorem dX11_longBy_13 : decode cX11_longBy 13 = .ok (.iload_n 2, 1) := by decide +kernel
theorem dX11_longBy_14 : decode cX11_longBy 14 = .ok (.ireturn, 1) := by decide +kernel
theorem dX11_longBy_15 : decode cX11_longBy 15 = .ok (.aload_n 0, 1) := by decide +kernel
theorem dX11_longBy_16 : decode cX11_longBy 16 = .ok (.getfield 76, 3) := by decide +kernel
theorem dX11_longBy_19 : decode cX11_longBy 19 = .ok (.aload_n 0, 1) := by decide +kernel
theorem dX11_longBy_20 : decode cX11_longBy 20 = .ok (.getfield 66, 3) := by decide +kernel
theorem dX11_longBy_23 : decode cX11_longBy 23 = .ok (.aload_n 0, 1) := by decide +kernel
theorem dX11_longBy_24 : decode cX11_longBy 24 = .ok (.getfield 35, 3) := by decide +kernel
theorem dX11_longBy_27 : decode cX11_longBy 27 = .ok (.iload_n 1, 1) := by decide +kernel
theorem dX11_longBy_28 : decode cX11_longBy 28 = .ok (.aaload, 1) := by decide +kernel
theorem dX11_longBy_29 : decode cX11_longBy 29 = .ok (.invokevirtual 288, 3) := by decide +kernel
theorem dX11_longBy_32 : decode cX11_longBy 32 = .ok (.ireturn, 1) := by decide +kernel
theorem dX11_tables_0 : decode cX11_tables 0 = .ok (.aload_n 0, 1) := by decide +kernel
theorem dX11_tables_1 : decode cX11_tables 1 = .ok (.iload_n 1, 1) := by decide +kernel
theorem dX11_tables_2 : decode cX11_tables 2 = .ok (.ldc2_w 160, 3) := by decide +kernel
theorem dX11_tables_5 : decode cX11_tables 5 = .ok (.invokevirtual 284, 3) := by decide +kernel
theorem dX11_tables_8 : decode cX11_tables 8 = .ok (.istore_n 3, 1) := by decide +kernel
theorem dX11_tables_9 : decode cX11_tables 9 = .ok (.iload_n 3, 1) := by decide +kernel
theorem dX11_tables_10 : decode cX11_tables 10 = .ok (.ifCond .eq 5, 3) := by decide +kernel
theorem dX11_tables_13 : decode cX11_tables 13 = .ok (.iload_n 3, 1) := by decide +kernel
theorem dX11_tables_14 : decode cX11_tables 14 = .ok (.ireturn, 1) := by decide +kernel
theorem dX11_tables_15 : decode cX11_tables 15 = .ok (.iload_n 2, 1) := by decide +kernel
theorem dX11_tables_16 : decode cX11_tables 16 = .ok (.ifCond .ge 6, 3) := by decide +kernel
theorem dX11_tables_19 : decode cX11_tables 19 = .ok (.bipush (-3), 2) := by decide +kernel
theorem dX11_tables_21 : decode cX11_tables 21 = .ok (.ireturn, 1) := by decide +kernel
theorem dX11_tables_22 : decode cX11_tables 22 = .ok (.iload_n 2, 1) := by decide +kernel
theorem dX11_tables_23 : decode cX11_tables 23 = .ok (.aload_n 0, 1) := by decide +kernel
theorem dX11_tables_24 : decode cX11_tables 24 = .ok (.getfield 35, 3) := by decide +kernel
theorem dX11_tables_27 : decode cX11_tables 27 = .ok (.iload_n 1, 1) := by decide +kernel
theorem dX11_tables_28 : decode cX11_tables 28 = .ok (.aaload, 1) := by decide +kernel
theorem dX11_tables_29 : decode cX11_tables 29 = .ok (.getfield 199, 3) := by decide +kernel
theorem dX11_tables_32 : decode cX11_tables 32 = .ok (.if_icmp .lt 6, 3) := by decide +kernel
theorem dX11_tables_35 : decode cX11_tables 35 = .ok (.bipush (-7), 2) := by decide +kernel
theorem dX11_tables_37 : decode cX11_tables 37 = .ok (.ireturn, 1) := by decide +kernel
theorem dX11_tables_38 : decode cX11_tables 38 = .ok (.aload_n 0, 1) := by decide +kernel
theorem dX11_tables_39 : decode cX11_tables 39 = .ok (.getfield 76, 3) := by decide +kernel
theorem dX11_tables_42 : decode cX11_tables 42 = .ok (.aload_n 0, 1) := by decide +kernel
theorem dX11_tables_43 : decode cX11_tables 43 = .ok (.getfield 66, 3) := by decide +kernel
theorem dX11_tables_46 : decode cX11_tables 46 = .ok (.aload_n 0, 1) := by decide +kernel
theorem dX11_tables_47 : decode cX11_tables 47 = .ok (.getfield 35, 3) := by decide +kernel
theorem dX11_tables_50 : decode cX11_tables 50 = .ok (.iload_n 1, 1) := by decide +kernel
theorem dX11_tables_51 : decode cX11_tables 51 = .ok (.aaload, 1) := by decide +kernel
theorem dX11_tables_52 : decode cX11_tables 52 = .ok (.invokevirtual 288, 3) := by decide +kernel
theorem dX11_tables_55 : decode cX11_tables 55 = .ok (.pop, 1) := by decide +kernel
theorem dX11_tables_56 : decode cX11_tables 56 = .ok (.aload_n 0, 1) := by decide +kernel
theorem dX11_tables_57 : decode cX11_tables 57 = .ok (.getfield 76, 3) := by decide +kernel
theorem dX11_tables_60 : decode cX11_tables 60 = .ok (.iload_n 2, 1) := by decide +kernel
theorem dX11_tables_61 : decode cX11_tables 61 = .ok (.invokevirtual 292, 3) := by decide +kernel
theorem dX11_tables_64 : decode cX11_tables 64 = .ok (.ireturn, 1) := by decide +kernel
theorem dX11_moons_0 : decode cX11_moons 0 = .ok (.aload_n 0, 1) := by decide +kernel
theorem dX11_moons_1 : decode cX11_moons 1 = .ok (.iload_n 1, 1) := by decide +kernel
theorem dX11_moons_2 : decode cX11_moons 2 = .ok (.lconst 0, 1) := by decide +kernel
theorem dX11_moons_3 : decode cX11_moons 3 = .ok (.invokevirtual 284, 3) := by decide +kernel
theorem dX11_moons_6 : decode cX11_moons 6 = .ok (.istore_n 2, 1) := by decide +kernel
theorem dX11_moons_7 : decode cX11_moons 7 = .ok (.iload_n 2, 1) := by decide +kernel
theorem dX11_moons_8 : decode cX11_moons 8 = .ok (.ifCond .eq 5, 3) := by decide +kernel
theorem dX11_moons_11 : decode cX11_moons 11 = .ok (.iload_n 2, 1) := by decide +kernel
theorem dX11_moons_12 : decode cX11_moons 12 = .ok (.ireturn, 1) := by decide +kernel
theorem dX11_moons_13 : decode cX11_moons 13 = .ok (.iconst 0, 1) := by decide +kernel
theorem dX11_moons_14 : decode cX11_moons 14 = .ok (.istore_n 3, 1) := by decide +kernel
theorem dX11_moons_15 : decode cX11_moons 15 = .ok (.iconst 0, 1) := by decide +kernel
theorem dX11_moons_16 : decode cX11_moons 16 = .ok (.istore 4, 2) := by decide +kernel
theorem dX11_moons_18 : decode cX11_moons 18 = .ok (.iload 4, 2) := by decide +kernel
theorem dX11_moons_20 : decode cX11_moons 20 = .ok (.bipush 9, 2) := by decide +kernel
theorem dX11_moons_22 : decode cX11_moons 22 = .ok (.if_icmp .gt 49, 3) := by decide +kernel
theorem dX11_moons_25 : decode cX11_moons 25 = .ok (.aload_n 0, 1) := by decide +kernel
theorem dX11_moons_26 : decode cX11_moons 26 = .ok (.getfield 70, 3) := by decide +kernel
theorem dX11_moons_29 : decode cX11_moons 29 = .ok (.aload_n 0, 1) := by decide +kernel
theorem dX11_moons_30 : decode cX11_moons 30 = .ok (.getfield 66, 3) := by decide +kernel
theorem dX11_moons_33 : decode cX11_moons 33 = .ok (.invokevirtual 196, 3) := by decide +kernel
theorem dX11_moons_36 : decode cX11_moons 36 = .ok (.aload_n 0, 1) := by decide +kernel
theorem dX11_moons_37 : decode cX11_moons 37 = .ok (.getfield 70, 3) := by decide +kernel
theorem dX11_moons_40 : decode cX11_moons 40 = .ok (.iload 4, 2) := by decide +kernel
theorem dX11_moons_42 : decode cX11_moons 42 = .ok (.putfield 180, 3) := by decide +kernel
theorem dX11_moons_45 : decode cX11_moons 45 = .ok (.aload_n 0, 1) := by decide +kernel
theorem dX11_moons_46 : decode cX11_moons 46 = .ok (.aload_n 0, 1) := by decide +kernel
theorem dX11_moons_47 : decode cX11_moons 47 = .ok (.getfield 35, 3) := by decide +kernel
theorem dX11_moons_50 : decode cX11_moons 50 = .ok (.iload_n 1, 1) := by decide +kernel
theorem dX11_moons_51 : decode cX11_moons 51 = .ok (.aaload, 1) := by decide +kernel
theorem dX11_moons_52 : decode cX11_moons 52 = .ok (.invokevirtual 295, 3) := by decide +kernel
theorem dX11_moons_55 : decode cX11_moons 55 = .ok (.ifCond .eq 10, 3) := by decide +kernel
theorem dX11_moons_58 : decode cX11_moons 58 = .ok (.iload_n 3, 1) := by decide +kernel
theorem dX11_moons_59 : decode cX11_moons 59 = .ok (.iconst 1, 1) := by decide +kernel
theorem dX11_moons_60 : decode cX11_moons 60 = .ok (.iload 4, 2) := by decide +kernel
theorem dX11_moons_62 : decode cX11_moons 62 = .ok (.ishl, 1) := by decide +kernel
theorem dX11_moons_63 : decode cX11_moons 63 = .ok (.ior, 1) := by decide +kernel
theorem dX11_moons_64 : decode cX11_moons 64 = .ok (.istore_n 3, 1) := by decide +kernel
theorem dX11_moons_65 : decode cX11_moons 65 = .ok (.iinc 4 1, 3) := by decide +kernel
theorem dX11_moons_68 : decode cX11_moons 68 = .ok (.goto (-50), 3) := by decide +kernel
theorem dX11_moons_71 : decode cX11_moons 71 = .ok (.iload_n 3, 1) := by decide +kernel
theorem dX11_moons_72 : decode cX11_moons 72 = .ok (.ireturn, 1) := by decide +kernel
theorem dX11_isOfItself_0 : decode cX11_isOfItself 0 = .ok (.iconst 0, 1) := by decide +kernel
theorem dX11_isOfItself_1 : decode cX11_isOfItself 1 = .ok (.istore_n 2, 1) := by decide +kernel
theorem dX11_isOfItself_2 : decode cX11_isOfItself 2 = .ok (.iload_n 2, 1) := by decide +kernel
theorem dX11_isOfItself_3 : decode cX11_isOfItself 3 = .ok (.aload_n 1, 1) := by decide +kernel
theorem dX11_isOfItself_4 : decode cX11_isOfItself 4 = .ok (.getfield 199, 3) := by decide +kernel
theorem dX11_isOfItself_7 : decode cX11_isOfItself 7 = .ok (.if_icmp .ge 38, 3) := by decide +kernel
theorem dX11_isOfItself_10 : decode cX11_isOfItself 10 = .ok (.aload_n 0, 1) := by decide +kernel
theorem dX11_isOfItself_11 : decode cX11_isOfItself 11 = .ok (.getfield 70, 3) := by decide +kernel
theorem dX11_isOfItself_14 : decode cX11_isOfItself 14 = .ok (.lconst 0, 1) := by decide +kernel
theorem dX11_isOfItself_15 : decode cX11_isOfItself 15 = .ok (.invokevirtual 170, 3) := by decide +kernel
theorem dX11_isOfItself_18 : decode cX11_isOfItself 18 = .ok (.ifCond .ne 19, 3) := by decide +kernel
theorem dX11_isOfItself_21 : decode cX11_isOfItself 21 = .ok (.aload_n 0, 1) := by decide +kernel
theorem dX11_isOfItself_22 : decode cX11_isOfItself 22 = .ok (.getfield 70, 3) := by decide +kernel
theorem dX11_isOfItself_25 : decode cX11_isOfItself 25 = .ok (.getfield 136, 3) := by decide +kernel
theorem dX11_isOfItself_28 : decode cX11_isOfItself 28 = .ok (.aload_n 1, 1) := by decide +kernel
theorem dX11_isOfItself_29 : decode cX11_isOfItself 29 = .ok (.iload_n 2, 1) := by decide +kernel
theorem dX11_isOfItself_30 : decode cX11_isOfItself 30 = .ok (.invokevirtual 202, 3) := by decide +kernel
theorem dX11_isOfItself_33 : decode cX11_isOfItself 33 = .ok (.lcmp, 1) := by decide +kernel
theorem dX11_isOfItself_34 : decode cX11_isOfItself 34 = .ok (.ifCond .eq 5, 3) := by decide +kernel
theorem dX11_isOfItself_37 : decode cX11_isOfItself 37 = .ok (.iconst 0, 1) := by decide +kernel
theorem dX11_isOfItself_38 : decode cX11_isOfItself 38 = .ok (.ireturn, 1) := by decide +kernel
theorem dX11_isOfItself_39 : decode cX11_isOfItself 39 = .ok (.iinc 2 1, 3) := by decide +kernel
theorem dX11_isOfItself_42 : decode cX11_isOfItself 42 = .ok (.goto (-40), 3) := by decide +kernel
theorem dX11_isOfItself_45 : decode cX11_isOfItself 45 = .ok (.iconst 1, 1) := by decide +kernel
theorem dX11_isOfItself_46 : decode cX11_isOfItself 46 = .ok (.ireturn, 1) := by decide +kernel
theorem dX11_attempt_0 : decode cX11_attempt 0 = .ok (.aload_n 0, 1) := by decide +kernel
theorem dX11_attempt_1 : decode cX11_attempt 1 = .ok (.iload_n 1, 1) := by decide +kernel
theorem dX11_attempt_2 : decode cX11_attempt 2 = .ok (.ldc2_w 160, 3) := by decide +kernel
theorem dX11_attempt_5 : decode cX11_attempt 5 = .ok (.invokevirtual 284, 3) := by decide +kernel
theorem dX11_attempt_8 : decode cX11_attempt 8 = .ok (.istore_n 2, 1) := by decide +kernel
theorem dX11_attempt_9 : decode cX11_attempt 9 = .ok (.iload_n 2, 1) := by decide +kernel
theorem dX11_attempt_10 : decode cX11_attempt 10 = .ok (.ifCond .eq 5, 3) := by decide +kernel
theorem dX11_attempt_13 : decode cX11_attempt 13 = .ok (.iload_n 2, 1) := by decide +kernel
theorem dX11_attempt_14 : decode cX11_attempt 14 = .ok (.ireturn, 1) := by decide +kernel
theorem dX11_attempt_15 : decode cX11_attempt 15 = .ok (.aload_n 0, 1) := by decide +kernel
theorem dX11_attempt_16 : decode cX11_attempt 16 = .ok (.getfield 76, 3) := by decide +kernel
theorem dX11_attempt_19 : decode cX11_attempt 19 = .ok (.aload_n 0, 1) := by decide +kernel
theorem dX11_attempt_20 : decode cX11_attempt 20 = .ok (.getfield 66, 3) := by decide +kernel
theorem dX11_attempt_23 : decode cX11_attempt 23 = .ok (.aload_n 0, 1) := by decide +kernel
theorem dX11_attempt_24 : decode cX11_attempt 24 = .ok (.getfield 35, 3) := by decide +kernel
theorem dX11_attempt_27 : decode cX11_attempt 27 = .ok (.iload_n 1, 1) := by decide +kernel
theorem dX11_attempt_28 : decode cX11_attempt 28 = .ok (.aaload, 1) := by decide +kernel
theorem dX11_attempt_29 : decode cX11_attempt 29 = .ok (.invokevirtual 299, 3) := by decide +kernel
theorem dX11_attempt_32 : decode cX11_attempt 32 = .ok (.ireturn, 1) := by decide +kernel
theorem dX11_turned_0 : decode cX11_turned 0 = .ok (.iload_n 1, 1) := by decide +kernel
theorem dX11_turned_1 : decode cX11_turned 1 = .ok (.ifCond .lt 9, 3) := by decide +kernel
theorem dX11_turned_4 : decode cX11_turned 4 = .ok (.iload_n 1, 1) := by decide +kernel
theorem dX11_turned_5 : decode cX11_turned 5 = .ok (.bipush 7, 2) := by decide +kernel
theorem dX11_turned_7 : decode cX11_turned 7 = .ok (.if_icmp .le 7, 3) := by decide +kernel
theorem dX11_turned_10 : decode cX11_turned 10 = .ok (.ldc2_w 150, 3) := by decide +kernel
theorem dX11_turned_13 : decode cX11_turned 13 = .ok (.lreturn, 1) := by decide +kernel
theorem dX11_turned_14 : decode cX11_turned 14 = .ok (.aload_n 0, 1) := by decide +kernel
theorem dX11_turned_15 : decode cX11_turned 15 = .ok (.getfield 76, 3) := by decide +kernel
theorem dX11_turned_18 : decode cX11_turned 18 = .ok (.aload_n 0, 1) := by decide +kernel
theorem dX11_turned_19 : decode cX11_turned 19 = .ok (.getfield 66, 3) := by decide +kernel
theorem dX11_turned_22 : decode cX11_turned 22 = .ok (.iload_n 1, 1) := by decide +kernel
theorem dX11_turned_23 : decode cX11_turned 23 = .ok (.invokevirtual 302, 3) := by decide +kernel
theorem dX11_turned_26 : decode cX11_turned 26 = .ok (.lreturn, 1) := by decide +kernel
theorem dX11_best_0 : decode cX11_best 0 = .ok (.iload_n 1, 1) := by decide +kernel
theorem dX11_best_1 : decode cX11_best 1 = .ok (.ifCond .lt 9, 3) := by decide +kernel
theorem dX11_best_4 : decode cX11_best 4 = .ok (.iload_n 1, 1) := by decide +kernel
theorem dX11_best_5 : decode cX11_best 5 = .ok (.bipush 7, 2) := by decide +kernel
theorem dX11_best_7 : decode cX11_best 7 = .ok (.if_icmp .le 6, 3) := by decide +kernel
theorem dX11_best_10 : decode cX11_best 10 = .ok (.bipush (-3), 2) := by decide +kernel
theorem dX11_best_12 : decode cX11_best 12 = .ok (.ireturn, 1) := by decide +kernel
theorem dX11_best_13 : decode cX11_best 13 = .ok (.aload_n 0, 1) := by decide +kernel
theorem dX11_best_14 : decode cX11_best 14 = .ok (.getfield 76, 3) := by decide +kernel
theorem dX11_best_17 : decode cX11_best 17 = .ok (.aload_n 0, 1) := by decide +kernel
theorem dX11_best_18 : decode cX11_best 18 = .ok (.getfield 66, 3) := by decide +kernel
theorem dX11_best_21 : decode cX11_best 21 = .ok (.iload_n 1, 1) := by decide +kernel
theorem dX11_best_22 : decode cX11_best 22 = .ok (.invokevirtual 302, 3) := by decide +kernel
theorem dX11_best_25 : decode cX11_best 25 = .ok (.pop2, 1) := by decide +kernel
theorem dX11_best_26 : decode cX11_best 26 = .ok (.iload_n 1, 1) := by decide +kernel
theorem dX11_best_27 : decode cX11_best 27 = .ok (.ifCond .ne 7, 3) := by decide +kernel
theorem dX11_best_30 : decode cX11_best 30 = .ok (.iconst (-1), 1) := by decide +kernel
theorem dX11_best_31 : decode cX11_best 31 = .ok (.goto 11, 3) := by decide +kernel
theorem dX11_best_34 : decode cX11_best 34 = .ok (.aload_n 0, 1) := by decide +kernel
theorem dX11_best_35 : decode cX11_best 35 = .ok (.getfield 76, 3) := by decide +kernel
theorem dX11_best_38 : decode cX11_best 38 = .ok (.iconst 0, 1) := by decide +kernel
theorem dX11_best_39 : decode cX11_best 39 = .ok (.invokevirtual 277, 3) := by decide +kernel
theorem dX11_best_42 : decode cX11_best 42 = .ok (.ireturn, 1) := by decide +kernel
theorem dX11_chance_0 : decode cX11_chance 0 = .ok (.iload_n 2, 1) := by decide +kernel
theorem dX11_chance_1 : decode cX11_chance 1 = .ok (.ifCond .lt 8, 3) := by decide +kernel
theorem dX11_chance_4 : decode cX11_chance 4 = .ok (.iload_n 2, 1) := by decide +kernel
theorem dX11_chance_5 : decode cX11_chance 5 = .ok (.iconst 1, 1) := by decide +kernel
theorem dX11_chance_6 : decode cX11_chance 6 = .ok (.if_icmp .le 6, 3) := by decide +kernel
theorem dX11_chance_9 : decode cX11_chance 9 = .ok (.bipush (-2), 2) := by decide +kernel
theorem dX11_chance_11 : decode cX11_chance 11 = .ok (.ireturn, 1) := by decide +kernel
theorem dX11_chance_12 : decode cX11_chance 12 = .ok (.iload_n 1, 1) := by decide +kernel
theorem dX11_chance_13 : decode cX11_chance 13 = .ok (.ifCond .lt 9, 3) := by decide +kernel
theorem dX11_chance_16 : decode cX11_chance 16 = .ok (.iload_n 1, 1) := by decide +kernel
theorem dX11_chance_17 : decode cX11_chance 17 = .ok (.bipush 12, 2) := by decide +kernel
theorem dX11_chance_19 : decode cX11_chance 19 = .ok (.if_icmp .le 6, 3) := by decide +kernel
theorem dX11_chance_22 : decode cX11_chance 22 = .ok (.bipush (-3), 2) := by decide +kernel
theorem dX11_chance_24 : decode cX11_chance 24 = .ok (.ireturn, 1) := by decide +kernel
theorem dX11_chance_25 : decode cX11_chance 25 = .ok (.aload_n 0, 1) := by decide +kernel
theorem dX11_chance_26 : decode cX11_chance 26 = .ok (.getfield 76, 3) := by decide +kernel
theorem dX11_chance_29 : decode cX11_chance 29 = .ok (.aload_n 0, 1) := by decide +kernel
theorem dX11_chance_30 : decode cX11_chance 30 = .ok (.getfield 66, 3) := by decide +kernel
theorem dX11_chance_33 : decode cX11_chance 33 = .ok (.iload_n 1, 1) := by decide +kernel
theorem dX11_chance_34 : decode cX11_chance 34 = .ok (.invokevirtual 306, 3) := by decide +kernel
theorem dX11_chance_37 : decode cX11_chance 37 = .ok (.lstore_n 3, 1) := by decide +kernel
theorem dX11_chance_38 : decode cX11_chance 38 = .ok (.lload_n 3, 1) := by decide +kernel
theorem dX11_chance_39 : decode cX11_chance 39 = .ok (.aload_n 0, 1) := by decide +kernel
theorem dX11_chance_40 : decode cX11_chance 40 = .ok (.getfield 76, 3) := by decide +kernel
theorem dX11_chance_43 : decode cX11_chance 43 = .ok (.aload_n 0, 1) := by decide +kernel
theorem dX11_chance_44 : decode cX11_chance 44 = .ok (.getfield 66, 3) := by decide +kernel
theorem dX11_chance_47 : decode cX11_chance 47 = .ok (.iload_n 1, 1) := by decide +kernel
theorem dX11_chance_48 : decode cX11_chance 48 = .ok (.invokevirtual 309, 3) := by decide +kernel
theorem dX11_chance_51 : decode cX11_chance 51 = .ok (.iload_n 2, 1) := by decide +kernel
theorem dX11_chance_52 : decode cX11_chance 52 = .ok (.invokestatic 312, 3) := by decide +kernel
theorem dX11_chance_55 : decode cX11_chance 55 = .ok (.l2i, 1) := by decide +kernel
theorem dX11_chance_56 : decode cX11_chance 56 = .ok (.ireturn, 1) := by decide +kernel
theorem dX11_mean_0 : decode cX11_mean 0 = .ok (.iload_n 2, 1) := by decide +kernel
theorem dX11_mean_1 : decode cX11_mean 1 = .ok (.ifCond .lt 8, 3) := by decide +kernel
theorem dX11_mean_4 : decode cX11_mean 4 = .ok (.iload_n 2, 1) := by decide +kernel
theorem dX11_mean_5 : decode cX11_mean 5 = .ok (.iconst 1, 1) := by decide +kernel
theorem dX11_mean_6 : decode cX11_mean 6 = .ok (.if_icmp .le 7, 3) := by decide +kernel
theorem dX11_mean_9 : decode cX11_mean 9 = .ok (.ldc2_w 148, 3) := by decide +kernel
theorem dX11_mean_12 : decode cX11_mean 12 = .ok (.lreturn, 1) := by decide +kernel
theorem dX11_mean_13 : decode cX11_mean 13 = .ok (.iload_n 1, 1) := by decide +kernel
theorem dX11_mean_14 : decode cX11_mean 14 = .ok (.ifCond .lt 9, 3) := by decide +kernel
theorem dX11_mean_17 : decode cX11_mean 17 = .ok (.iload_n 1, 1) := by decide +kernel
theorem dX11_mean_18 : decode cX11_mean 18 = .ok (.bipush 6, 2) := by decide +kernel
theorem dX11_mean_20 : decode cX11_mean 20 = .ok (.if_icmp .le 7, 3) := by decide +kernel
theorem dX11_mean_23 : decode cX11_mean 23 = .ok (.ldc2_w 150, 3) := by decide +kernel
theorem dX11_mean_26 : decode cX11_mean 26 = .ok (.lreturn, 1) := by decide +kernel
theorem dX11_mean_27 : decode cX11_mean 27 = .ok (.aload_n 0, 1) := by decide +kernel
theorem dX11_mean_28 : decode cX11_mean 28 = .ok (.getfield 76, 3) := by decide +kernel
theorem dX11_mean_31 : decode cX11_mean 31 = .ok (.aload_n 0, 1) := by decide +kernel
theorem dX11_mean_32 : decode cX11_mean 32 = .ok (.getfield 66, 3) := by decide +kernel
theorem dX11_mean_35 : decode cX11_mean 35 = .ok (.iload_n 1, 1) := by decide +kernel
theorem dX11_mean_36 : decode cX11_mean 36 = .ok (.invokevirtual 316, 3) := by decide +kernel
theorem dX11_mean_39 : decode cX11_mean 39 = .ok (.lstore_n 3, 1) := by decide +kernel
theorem dX11_mean_40 : decode cX11_mean 40 = .ok (.lload_n 3, 1) := by decide +kernel
theorem dX11_mean_41 : decode cX11_mean 41 = .ok (.aload_n 0, 1) := by decide +kernel
theorem dX11_mean_42 : decode cX11_mean 42 = .ok (.getfield 76, 3) := by decide +kernel
theorem dX11_mean_45 : decode cX11_mean 45 = .ok (.aload_n 0, 1) := by decide +kernel
theorem dX11_mean_46 : decode cX11_mean 46 = .ok (.getfield 66, 3) := by decide +kernel
theorem dX11_mean_49 : decode cX11_mean 49 = .ok (.iload_n 1, 1) := by decide +kernel
theorem dX11_mean_50 : decode cX11_mean 50 = .ok (.invokevirtual 309, 3) := by decide +kernel
theorem dX11_mean_53 : decode cX11_mean 53 = .ok (.iload_n 2, 1) := by decide +kernel
theorem dX11_mean_54 : decode cX11_mean 54 = .ok (.invokestatic 312, 3) := by decide +kernel
theorem dX11_mean_57 : decode cX11_mean 57 = .ok (.lreturn, 1) := by decide +kernel
theorem dX11_lowestTerm_0 : decode cX11_lowestTerm 0 = .ok (.lload_n 0, 1) := by decide +kernel
theorem dX11_lowestTerm_1 : decode cX11_lowestTerm 1 = .ok (.lstore 5, 2) := by decide +kernel
theorem dX11_lowestTerm_3 : decode cX11_lowestTerm 3 = .ok (.lload_n 2, 1) := by decide +kernel
theorem dX11_lowestTerm_4 : decode cX11_lowestTerm 4 = .ok (.lstore 7, 2) := by decide +kernel
theorem dX11_lowestTerm_6 : decode cX11_lowestTerm 6 = .ok (.iconst 0, 1) := by decide +kernel
theorem dX11_lowestTerm_7 : decode cX11_lowestTerm 7 = .ok (.istore 9, 2) := by decide +kernel
theorem dX11_lowestTerm_9 : decode cX11_lowestTerm 9 = .ok (.iload 9, 2) := by decide +kernel
theorem dX11_lowestTerm_11 : decode cX11_lowestTerm 11 = .ok (.sipush 200, 3) := by decide +kernel
theorem dX11_lowestTerm_14 : decode cX11_lowestTerm 14 = .ok (.if_icmp .ge 31, 3) := by decide +kernel
theorem dX11_lowestTerm_17 : decode cX11_lowestTerm 17 = .ok (.lload 7, 2) := by decide +kernel
theorem dX11_lowestTerm_19 : decode cX11_lowestTerm 19 = .ok (.lconst 0, 1) := by decide +kernel
theorem dX11_lowestTerm_20 : decode cX11_lowestTerm 20 = .ok (.lcmp, 1) := by decide +kernel
theorem dX11_lowestTerm_21 : decode cX11_lowestTerm 21 = .ok (.ifCond .eq 24, 3) := by decide +kernel
theorem dX11_lowestTerm_24 : decode cX11_lowestTerm 24 = .ok (.lload 5, 2) := by decide +kernel
theorem dX11_lowestTerm_26 : decode cX11_lowestTerm 26 = .ok (.lload 7, 2) := by decide +kernel
theorem dX11_lowestTerm_28 : decode cX11_lowestTerm 28 = .ok (.lrem, 1) := by decide +kernel
theorem dX11_lowestTerm_29 : decode cX11_lowestTerm 29 = .ok (.lstore 10, 2) := by decide +kernel
theorem dX11_lowestTerm_31 : decode cX11_lowestTerm 31 = .ok (.lload 7, 2) := by decide +kernel
theorem dX11_lowestTerm_33 : decode cX11_lowestTerm 33 = .ok (.lstore 5, 2) := by decide +kernel
theorem dX11_lowestTerm_35 : decode cX11_lowestTerm 35 = .ok (.lload 10, 2) := by decide +kernel
theorem dX11_lowestTerm_37 : decode cX11_lowestTerm 37 = .ok (.lstore 7, 2) := by decide +kernel
theorem dX11_lowestTerm_39 : decode cX11_lowestTerm 39 = .ok (.iinc 9 1, 3) := by decide +kernel
theorem dX11_lowestTerm_42 : decode cX11_lowestTerm 42 = .ok (.goto (-33), 3) := by decide +kernel
theorem dX11_lowestTerm_45 : decode cX11_lowestTerm 45 = .ok (.lload 5, 2) := by decide +kernel
theorem dX11_lowestTerm_47 : decode cX11_lowestTerm 47 = .ok (.lconst 0, 1) := by decide +kernel
theorem dX11_lowestTerm_48 : decode cX11_lowestTerm 48 = .ok (.lcmp, 1) := by decide +kernel
theorem dX11_lowestTerm_49 : decode cX11_lowestTerm 49 = .ok (.ifCond .ne 14, 3) := by decide +kernel
theorem dX11_lowestTerm_52 : decode cX11_lowestTerm 52 = .ok (.iload 4, 2) := by decide +kernel
theorem dX11_lowestTerm_54 : decode cX11_lowestTerm 54 = .ok (.ifCond .ne 7, 3) := by decide +kernel
theorem dX11_lowestTerm_57 : decode cX11_lowestTerm 57 = .ok (.lconst 0, 1) := by decide +kernel
theorem dX11_lowestTerm_58 : decode cX11_lowestTerm 58 = .ok (.goto 4, 3) := by decide +kernel
theorem dX11_lowestTerm_61 : decode cX11_lowestTerm 61 = .ok (.lconst 1, 1) := by decide +kernel
theorem dX11_lowestTerm_62 : decode cX11_lowestTerm 62 = .ok (.lreturn, 1) := by decide +kernel
theorem dX11_lowestTerm_63 : decode cX11_lowestTerm 63 = .ok (.iload 4, 2) := by decide +kernel
theorem dX11_lowestTerm_65 : decode cX11_lowestTerm 65 = .ok (.ifCond .ne 10, 3) := by decide +kernel
theorem dX11_lowestTerm_68 : decode cX11_lowestTerm 68 = .ok (.lload_n 0, 1) := by decide +kernel
theorem dX11_lowestTerm_69 : decode cX11_lowestTerm 69 = .ok (.lload 5, 2) := by decide +kernel
theorem dX11_lowestTerm_71 : decode cX11_lowestTerm 71 = .ok (.ldiv, 1) := by decide +kernel
theorem dX11_lowestTerm_72 : decode cX11_lowestTerm 72 = .ok (.goto 7, 3) := by decide +kernel
theorem dX11_lowestTerm_75 : decode cX11_lowestTerm 75 = .ok (.lload_n 2, 1) := by decide +kernel
theorem dX11_lowestTerm_76 : decode cX11_lowestTerm 76 = .ok (.lload 5, 2) := by decide +kernel
theorem dX11_lowestTerm_78 : decode cX11_lowestTerm 78 = .ok (.ldiv, 1) := by decide +kernel
theorem dX11_lowestTerm_79 : decode cX11_lowestTerm 79 = .ok (.lreturn, 1) := by decide +kernel
theorem dX11_numbers_0 : decode cX11_numbers 0 = .ok (.iload_n 1, 1) := by decide +kernel
theorem dX11_numbers_1 : decode cX11_numbers 1 = .ok (.invokestatic 190, 3) := by decide +kernel
theorem dX11_numbers_4 : decode cX11_numbers 4 = .ok (.ifCond .eq 12, 3) := by decide +kernel
theorem dX11_numbers_7 : decode cX11_numbers 7 = .ok (.iload_n 2, 1) := by decide +kernel
theorem dX11_numbers_8 : decode cX11_numbers 8 = .ok (.ifCond .lt 8, 3) := by decide +kernel
theorem dX11_numbers_11 : decode cX11_numbers 11 = .ok (.iload_n 2, 1) := by decide +kernel
theorem dX11_numbers_12 : decode cX11_numbers 12 = .ok (.iconst 3, 1) := by decide +kernel
theorem dX11_numbers_13 : decode cX11_numbers 13 = .ok (.if_icmp .le 6, 3) := by decide +kernel
theorem dX11_numbers_16 : decode cX11_numbers 16 = .ok (.bipush (-2), 2) := by decide +kernel
theorem dX11_numbers_18 : decode cX11_numbers 18 = .ok (.ireturn, 1) := by decide +kernel
theorem dX11_numbers_19 : decode cX11_numbers 19 = .ok (.iload_n 3, 1) := by decide +kernel
theorem dX11_numbers_20 : decode cX11_numbers 20 = .ok (.ifCond .lt 9, 3) := by decide +kernel
theorem dX11_numbers_23 : decode cX11_numbers 23 = .ok (.iload_n 3, 1) := by decide +kernel
theorem dX11_numbers_24 : decode cX11_numbers 24 = .ok (.bipush 40, 2) := by decide +kernel
theorem dX11_numbers_26 : decode cX11_numbers 26 = .ok (.if_icmp .le 6, 3) := by decide +kernel
theorem dX11_numbers_29 : decode cX11_numbers 29 = .ok (.bipush (-3), 2) := by decide +kernel
theorem dX11_numbers_31 : decode cX11_numbers 31 = .ok (.ireturn, 1) := by decide +kernel
theorem dX11_numbers_32 : decode cX11_numbers 32 = .ok (.aload_n 0, 1) := by decide +kernel
theorem dX11_numbers_33 : decode cX11_numbers 33 = .ok (.getfield 35, 3) := by decide +kernel
theorem dX11_numbers_36 : decode cX11_numbers 36 = .ok (.iload_n 1, 1) := by decide +kernel
theorem dX11_numbers_37 : decode cX11_numbers 37 = .ok (.aaload, 1) := by decide +kernel
theorem dX11_numbers_38 : decode cX11_numbers 38 = .ok (.iload_n 2, 1) := by decide +kernel
theorem dX11_numbers_39 : decode cX11_numbers 39 = .ok (.iload_n 3, 1) := by decide +kernel
theorem dX11_numbers_40 : decode cX11_numbers 40 = .ok (.invokevirtual 319, 3) := by decide +kernel
theorem dX11_numbers_43 : decode cX11_numbers 43 = .ok (.iconst 0, 1) := by decide +kernel
theorem dX11_numbers_44 : decode cX11_numbers 44 = .ok (.ireturn, 1) := by decide +kernel
theorem dX11_write_0 : decode cX11_write 0 = .ok (.aload_n 0, 1) := by decide +kernel
theorem dX11_write_1 : decode cX11_write 1 = .ok (.iload_n 1, 1) := by decide +kernel
theorem dX11_write_2 : decode cX11_write 2 = .ok (.invokevirtual 211, 3) := by decide +kernel
theorem dX11_write_5 : decode cX11_write 5 = .ok (.istore 5, 2) := by decide +kernel
theorem dX11_write_7 : decode cX11_write 7 = .ok (.iload 5, 2) := by decide +kernel
theorem dX11_write_9 : decode cX11_write 9 = .ok (.ifCond .eq 7, 3) := by decide +kernel
theorem dX11_write_12 : decode cX11_write 12 = .ok (.iload 5, 2) := by decide +kernel
theorem dX11_write_14 : decode cX11_write 14 = .ok (.i2l, 1) := by decide +kernel
theorem dX11_write_15 : decode cX11_write 15 = .ok (.lreturn, 1) := by decide +kernel
theorem dX11_write_16 : decode cX11_write 16 = .ok (.iload_n 2, 1) := by decide +kernel
theorem dX11_write_17 : decode cX11_write 17 = .ok (.ifCond .lt 16, 3) := by decide +kernel
theorem dX11_write_20 : decode cX11_write 20 = .ok (.iload_n 2, 1) := by decide +kernel
theorem dX11_write_21 : decode cX11_write 21 = .ok (.aload_n 0, 1) := by decide +kernel
theorem dX11_write_22 : decode cX11_write 22 = .ok (.getfield 35, 3) := by decide +kernel
theorem dX11_write_25 : decode cX11_write 25 = .ok (.iload_n 1, 1) := by decide +kernel
theorem dX11_write_26 : decode cX11_write 26 = .ok (.aaload, 1) := by decide +kernel
theorem dX11_write_27 : decode cX11_write 27 = .ok (.getfield 199, 3) := by decide +kernel
theorem dX11_write_30 : decode cX11_write 30 = .ok (.if_icmp .lt 7, 3) := by decide +kernel
theorem dX11_write_33 : decode cX11_write 33 = .ok (.ldc2_w 323, 3) := by decide +kernel
theorem dX11_write_36 : decode cX11_write 36 = .ok (.lreturn, 1) := by decide +kernel
theorem dX11_write_37 : decode cX11_write 37 = .ok (.aload_n 0, 1) := by decide +kernel
theorem dX11_write_38 : decode cX11_write 38 = .ok (.getfield 35, 3) := by decide +kernel
theorem dX11_write_41 : decode cX11_write 41 = .ok (.iload_n 1, 1) := by decide +kernel
theorem dX11_write_42 : decode cX11_write 42 = .ok (.aaload, 1) := by decide +kernel
theorem dX11_write_43 : decode cX11_write 43 = .ok (.iload_n 2, 1) := by decide +kernel
theorem dX11_write_44 : decode cX11_write 44 = .ok (.lload_n 3, 1) := by decide +kernel
theorem dX11_write_45 : decode cX11_write 45 = .ok (.invokevirtual 325, 3) := by decide +kernel
theorem dX11_write_48 : decode cX11_write 48 = .ok (.aload_n 0, 1) := by decide +kernel
theorem dX11_write_49 : decode cX11_write 49 = .ok (.getfield 35, 3) := by decide +kernel
theorem dX11_write_52 : decode cX11_write 52 = .ok (.iload_n 1, 1) := by decide +kernel
theorem dX11_write_53 : decode cX11_write 53 = .ok (.aaload, 1) := by decide +kernel
theorem dX11_write_54 : decode cX11_write 54 = .ok (.iload_n 2, 1) := by decide +kernel
theorem dX11_write_55 : decode cX11_write 55 = .ok (.invokevirtual 202, 3) := by decide +kernel
theorem dX11_write_58 : decode cX11_write 58 = .ok (.lreturn, 1) := by decide +kernel
theorem dX11_lists_0 : decode cX11_lists 0 = .ok (.aload_n 0, 1) := by decide +kernel
theorem dX11_lists_1 : decode cX11_lists 1 = .ok (.iload_n 1, 1) := by decide +kernel
theorem dX11_lists_2 : decode cX11_lists 2 = .ok (.invokevirtual 211, 3) := by decide +kernel
theorem dX11_lists_5 : decode cX11_lists 5 = .ok (.istore 4, 2) := by decide +kernel
theorem dX11_lists_7 : decode cX11_lists 7 = .ok (.iload 4, 2) := by decide +kernel
theorem dX11_lists_9 : decode cX11_lists 9 = .ok (.ifCond .eq 6, 3) := by decide +kernel
theorem dX11_lists_12 : decode cX11_lists 12 = .ok (.iload 4, 2) := by decide +kernel
theorem dX11_lists_14 : decode cX11_lists 14 = .ok (.ireturn, 1) := by decide +kernel
theorem dX11_lists_15 : decode cX11_lists 15 = .ok (.lload_n 2, 1) := by decide +kernel
theorem dX11_lists_16 : decode cX11_lists 16 = .ok (.lconst 0, 1) := by decide +kernel
theorem dX11_lists_17 : decode cX11_lists 17 = .ok (.lcmp, 1) := by decide +kernel
theorem dX11_lists_18 : decode cX11_lists 18 = .ok (.ifCond .lt 15, 3) := by decide +kernel
theorem dX11_lists_21 : decode cX11_lists 21 = .ok (.lload_n 2, 1) := by decide +kernel
theorem dX11_lists_22 : decode cX11_lists 22 = .ok (.aload_n 0, 1) := by decide +kernel
theorem dX11_lists_23 : decode cX11_lists 23 = .ok (.getfield 66, 3) := by decide +kernel
theorem dX11_lists_26 : decode cX11_lists 26 = .ok (.getfield 136, 3) := by decide +kernel
theorem dX11_lists_29 : decode cX11_lists 29 = .ok (.lcmp, 1) := by decide +kernel
theorem dX11_lists_30 : decode cX11_lists 30 = .ok (.ifCond .le 6, 3) := by decide +kernel
theorem dX11_lists_33 : decode cX11_lists 33 = .ok (.bipush (-3), 2) := by decide +kernel
theorem dX11_lists_35 : decode cX11_lists 35 = .ok (.ireturn, 1) := by decide +kernel
theorem dX11_lists_36 : decode cX11_lists 36 = .ok (.aload_n 0, 1) := by decide +kernel
theorem dX11_lists_37 : decode cX11_lists 37 = .ok (.getfield 35, 3) := by decide +kernel
theorem dX11_lists_40 : decode cX11_lists 40 = .ok (.iload_n 1, 1) := by decide +kernel
theorem dX11_lists_41 : decode cX11_lists 41 = .ok (.aaload, 1) := by decide +kernel
theorem dX11_lists_42 : decode cX11_lists 42 = .ok (.astore 5, 2) := by decide +kernel
theorem dX11_lists_44 : decode cX11_lists 44 = .ok (.aload 5, 2) := by decide +kernel
theorem dX11_lists_46 : decode cX11_lists 46 = .ok (.getfield 199, 3) := by decide +kernel
theorem dX11_lists_49 : decode cX11_lists 49 = .ok (.i2l, 1) := by decide +kernel
theorem dX11_lists_50 : decode cX11_lists 50 = .ok (.aload_n 0, 1) := by decide +kernel
theorem dX11_lists_51 : decode cX11_lists 51 = .ok (.getfield 66, 3) := by decide +kernel
theorem dX11_lists_54 : decode cX11_lists 54 = .ok (.getfield 136, 3) := by decide +kernel
theorem dX11_lists_57 : decode cX11_lists 57 = .ok (.lload_n 2, 1) := by decide +kernel
theorem dX11_lists_58 : decode cX11_lists 58 = .ok (.lsub, 1) := by decide +kernel
theorem dX11_lists_59 : decode cX11_lists 59 = .ok (.invokestatic 329, 3) := by decide +kernel
theorem dX11_lists_62 : decode cX11_lists 62 = .ok (.l2i, 1) := by decide +kernel
theorem dX11_lists_63 : decode cX11_lists 63 = .ok (.istore 6, 2) := by decide +kernel
theorem dX11_lists_65 : decode cX11_lists 65 = .ok (.aload_n 0, 1) := by decide +kernel
theorem dX11_lists_66 : decode cX11_lists 66 = .ok (.getfield 42, 3) := by decide +kernel
theorem dX11_lists_69 : decode cX11_lists 69 = .ok (.aload_n 0, 1) := by decide +kernel
theorem dX11_lists_70 : decode cX11_lists 70 = .ok (.getfield 66, 3) := by decide +kernel
theorem dX11_lists_73 : decode cX11_lists 73 = .ok (.invokevirtual 140, 3) := by decide +kernel
theorem dX11_lists_76 : decode cX11_lists 76 = .ok (.iconst 0, 1) := by decide +kernel
theorem dX11_lists_77 : decode cX11_lists 77 = .ok (.istore 7, 2) := by decide +kernel
theorem dX11_lists_79 : decode cX11_lists 79 = .ok (.iload 7, 2) := by decide +kernel
theorem dX11_lists_81 : decode cX11_lists 81 = .ok (.iload 6, 2) := by decide +kernel
theorem dX11_lists_83 : decode cX11_lists 83 = .ok (.if_icmp .ge 33, 3) := by decide +kernel
theorem dX11_lists_86 : decode cX11_lists 86 = .ok (.aload 5, 2) := by decide +kernel
theorem dX11_lists_88 : decode cX11_lists 88 = .ok (.iload 7, 2) := by decide +kernel
theorem dX11_lists_90 : decode cX11_lists 90 = .ok (.aload_n 0, 1) := by decide +kernel
theorem dX11_lists_91 : decode cX11_lists 91 = .ok (.getfield 42, 3) := by decide +kernel
theorem dX11_lists_94 : decode cX11_lists 94 = .ok (.aload_n 0, 1) := by decide +kernel
theorem dX11_lists_95 : decode cX11_lists 95 = .ok (.getfield 66, 3) := by decide +kernel
theorem dX11_lists_98 : decode cX11_lists 98 = .ok (.lload_n 2, 1) := by decide +kernel
theorem dX11_lists_99 : decode cX11_lists 99 = .ok (.iload 7, 2) := by decide +kernel
theorem dX11_lists_101 : decode cX11_lists 101 = .ok (.i2l, 1) := by decide +kernel
theorem dX11_lists_102 : decode cX11_lists 102 = .ok (.ladd, 1) := by decide +kernel
theorem dX11_lists_103 : decode cX11_lists 103 = .ok (.invokevirtual 144, 3) := by decide +kernel
theorem dX11_lists_106 : decode cX11_lists 106 = .ok (.i2l, 1) := by decide +kernel
theorem dX11_lists_107 : decode cX11_lists 107 = .ok (.invokevirtual 325, 3) := by decide +kernel
theorem dX11_lists_110 : decode cX11_lists 110 = .ok (.iinc 7 1, 3) := by decide +kernel
theorem dX11_lists_113 : decode cX11_lists 113 = .ok (.goto (-34), 3) := by decide +kernel
theorem dX11_lists_116 : decode cX11_lists 116 = .ok (.iload 6, 2) := by decide +kernel
theorem dX11_lists_118 : decode cX11_lists 118 = .ok (.ireturn, 1) := by decide +kernel
theorem dX11_image_0 : decode cX11_image 0 = .ok (.iload_n 1, 1) := by decide +kernel
theorem dX11_image_1 : decode cX11_image 1 = .ok (.ifCond .lt 8, 3) := by decide +kernel
theorem dX11_image_4 : decode cX11_image 4 = .ok (.iload_n 1, 1) := by decide +kernel
theorem dX11_image_5 : decode cX11_image 5 = .ok (.iconst 2, 1) := by decide +kernel
theorem dX11_image_6 : decode cX11_image 6 = .ok (.if_icmp .lt 6, 3) := by decide +kernel
theorem dX11_image_9 : decode cX11_image 9 = .ok (.bipush (-2), 2) := by decide +kernel
theorem dX11_image_11 : decode cX11_image 11 = .ok (.ireturn, 1) := by decide +kernel
theorem dX11_image_12 : decode cX11_image 12 = .ok (.aload_n 0, 1) := by decide +kernel
theorem dX11_image_13 : decode cX11_image 13 = .ok (.getfield 29, 3) := by decide +kernel
theorem dX11_image_16 : decode cX11_image 16 = .ok (.iload_n 1, 1) := by decide +kernel
theorem dX11_image_17 : decode cX11_image 17 = .ok (.aaload, 1) := by decide +kernel
theorem dX11_image_18 : decode cX11_image 18 = .ok (.ifnonnull 23, 3) := by decide +kernel
theorem dX11_image_21 : decode cX11_image 21 = .ok (.aload_n 0, 1) := by decide +kernel
theorem dX11_image_22 : decode cX11_image 22 = .ok (.getfield 29, 3) := by decide +kernel
theorem dX11_image_25 : decode cX11_image 25 = .ok (.iload_n 1, 1) := by decide +kernel
theorem dX11_image_26 : decode cX11_image 26 = .ok (.new 27, 3) := by decide +kernel
theorem dX11_image_29 : decode cX11_image 29 = .ok (.dup, 1) := by decide +kernel
theorem dX11_image_30 : decode cX11_image 30 = .ok (.aload_n 0, 1) := by decide +kernel
theorem dX11_image_31 : decode cX11_image 31 = .ok (.getfield 66, 3) := by decide +kernel
theorem dX11_image_34 : decode cX11_image 34 = .ok (.getfield 116, 3) := by decide +kernel
theorem dX11_image_37 : decode cX11_image 37 = .ok (.invokespecial 63, 3) := by decide +kernel
theorem dX11_image_40 : decode cX11_image 40 = .ok (.aastore, 1) := by decide +kernel
theorem dX11_image_41 : decode cX11_image 41 = .ok (.aload_n 0, 1) := by decide +kernel
theorem dX11_image_42 : decode cX11_image 42 = .ok (.getfield 29, 3) := by decide +kernel
theorem dX11_image_45 : decode cX11_image 45 = .ok (.iload_n 1, 1) := by decide +kernel
theorem dX11_image_46 : decode cX11_image 46 = .ok (.aaload, 1) := by decide +kernel
theorem dX11_image_47 : decode cX11_image 47 = .ok (.aload_n 0, 1) := by decide +kernel
theorem dX11_image_48 : decode cX11_image 48 = .ok (.getfield 66, 3) := by decide +kernel
theorem dX11_image_51 : decode cX11_image 51 = .ok (.invokevirtual 196, 3) := by decide +kernel
theorem dX11_image_54 : decode cX11_image 54 = .ok (.iconst 0, 1) := by decide +kernel
theorem dX11_image_55 : decode cX11_image 55 = .ok (.ireturn, 1) := by decide +kernel
theorem dX11_restore_0 : decode cX11_restore 0 = .ok (.iload_n 1, 1) := by decide +kernel
theorem dX11_restore_1 : decode cX11_restore 1 = .ok (.ifCond .lt 8, 3) := by decide +kernel
theorem dX11_restore_4 : decode cX11_restore 4 = .ok (.iload_n 1, 1) := by decide +kernel
theorem dX11_restore_5 : decode cX11_restore 5 = .ok (.iconst 2, 1) := by decide +kernel
theorem dX11_restore_6 : decode cX11_restore 6 = .ok (.if_icmp .lt 6, 3) := by decide +kernel
theorem dX11_restore_9 : decode cX11_restore 9 = .ok (.bipush (-2), 2) := by decide +kernel
theorem dX11_restore_11 : decode cX11_restore 11 = .ok (.ireturn, 1) := by decide +kernel
theorem dX11_restore_12 : decode cX11_restore 12 = .ok (.aload_n 0, 1) := by decide +kernel
theorem dX11_restore_13 : decode cX11_restore 13 = .ok (.getfield 29, 3) := by decide +kernel
theorem dX11_restore_16 : decode cX11_restore 16 = .ok (.iload_n 1, 1) := by decide +kernel
theorem dX11_restore_17 : decode cX11_restore 17 = .ok (.aaload, 1) := by decide +kernel
theorem dX11_restore_18 : decode cX11_restore 18 = .ok (.ifnonnull 6, 3) := by decide +kernel
theorem dX11_restore_21 : decode cX11_restore 21 = .ok (.bipush (-5), 2) := by decide +kernel
theorem dX11_restore_23 : decode cX11_restore 23 = .ok (.ireturn, 1) := by decide +kernel
theorem dX11_restore_24 : decode cX11_restore 24 = .ok (.aload_n 0, 1) := by decide +kernel
theorem dX11_restore_25 : decode cX11_restore 25 = .ok (.getfield 66, 3) := by decide +kernel
theorem dX11_restore_28 : decode cX11_restore 28 = .ok (.aload_n 0, 1) := by decide +kernel
theorem dX11_restore_29 : decode cX11_restore 29 = .ok (.getfield 29, 3) := by decide +kernel
theorem dX11_restore_32 : decode cX11_restore 32 = .ok (.iload_n 1, 1) := by decide +kernel
theorem dX11_restore_33 : decode cX11_restore 33 = .ok (.aaload, 1) := by decide +kernel
theorem dX11_restore_34 : decode cX11_restore 34 = .ok (.invokevirtual 196, 3) := by decide +kernel
theorem dX11_restore_37 : decode cX11_restore 37 = .ok (.aload_n 0, 1) := by decide +kernel
theorem dX11_restore_38 : decode cX11_restore 38 = .ok (.getfield 23, 3) := by decide +kernel
theorem dX11_restore_41 : decode cX11_restore 41 = .ok (.invokevirtual 99, 3) := by decide +kernel
theorem dX11_restore_44 : decode cX11_restore 44 = .ok (.iconst 0, 1) := by decide +kernel
theorem dX11_restore_45 : decode cX11_restore 45 = .ok (.ireturn, 1) := by decide +kernel
theorem dX11_told_0 : decode cX11_told 0 = .ok (.iload_n 1, 1) := by decide +kernel
theorem dX11_told_1 : decode cX11_told 1 = .ok (.tableswitch 138 0 9 #[55, 66, 74, 82, 90, 98, 106, 114, 122, 127], 55) := by decide +kernel
theorem dX11_told_56 : decode cX11_told 56 = .ok (.aload_n 0, 1) := by decide +kernel
theorem dX11_told_57 : decode cX11_told 57 = .ok (.getfield 66, 3) := by decide +kernel
theorem dX11_told_60 : decode cX11_told 60 = .ok (.getfield 116, 3) := by decide +kernel
theorem dX11_told_63 : decode cX11_told 63 = .ok (.getfield 268, 3) := by decide +kernel
theorem dX11_told_66 : decode cX11_told 66 = .ok (.ireturn, 1) := by decide +kernel
theorem dX11_told_67 : decode cX11_told 67 = .ok (.aload_n 0, 1) := by decide +kernel
theorem dX11_told_68 : decode cX11_told 68 = .ok (.getfield 66, 3) := by decide +kernel
theorem dX11_told_71 : decode cX11_told 71 = .ok (.getfield 180, 3) := by decide +kernel
theorem dX11_told_74 : decode cX11_told 74 = .ok (.ireturn, 1) := by decide +kernel
theorem dX11_told_75 : decode cX11_told 75 = .ok (.aload_n 0, 1) := by decide +kernel
theorem dX11_told_76 : decode cX11_told 76 = .ok (.getfield 66, 3) := by decide +kernel
theorem dX11_told_79 : decode cX11_told 79 = .ok (.getfield 335, 3) := by decide +kernel
theorem dX11_told_82 : decode cX11_told 82 = .ok (.ireturn, 1) := by decide +kernel
theorem dX11_told_83 : decode cX11_told 83 = .ok (.aload_n 0, 1) := by decide +kernel
theorem dX11_told_84 : decode cX11_told 84 = .ok (.getfield 66, 3) := by decide +kernel
theorem dX11_told_87 : decode cX11_told 87 = .ok (.getfield 338, 3) := by decide +kernel
theorem dX11_told_90 : decode cX11_told 90 = .ok (.ireturn, 1) := by decide +kernel
theorem dX11_told_91 : decode cX11_told 91 = .ok (.aload_n 0, 1) := by decide +kernel
theorem dX11_told_92 : decode cX11_told 92 = .ok (.getfield 66, 3) := by decide +kernel
theorem dX11_told_95 : decode cX11_told 95 = .ok (.invokevirtual 208, 3) := by decide +kernel
theorem dX11_told_98 : decode cX11_told 98 = .ok (.ireturn, 1) := by decide +kernel
theorem dX11_told_99 : decode cX11_told 99 = .ok (.aload_n 0, 1) := by decide +kernel
theorem dX11_told_100 : decode cX11_told 100 = .ok (.getfield 66, 3) := by decide +kernel
theorem dX11_told_103 : decode cX11_told 103 = .ok (.invokevirtual 341, 3) := by decide +kernel
theorem dX11_told_106 : decode cX11_told 106 = .ok (.ireturn, 1) := by decide +kernel
theorem dX11_told_107 : decode cX11_told 107 = .ok (.aload_n 0, 1) := by decide +kernel
theorem dX11_told_108 : decode cX11_told 108 = .ok (.getfield 66, 3) := by decide +kernel
theorem dX11_told_111 : decode cX11_told 111 = .ok (.getfield 344, 3) := by decide +kernel
theorem dX11_told_114 : decode cX11_told 114 = .ok (.ireturn, 1) := by decide +kernel
theorem dX11_told_115 : decode cX11_told 115 = .ok (.aload_n 0, 1) := by decide +kernel
theorem dX11_told_116 : decode cX11_told 116 = .ok (.getfield 23, 3) := by decide +kernel
theorem dX11_told_119 : decode cX11_told 119 = .ok (.getfield 183, 3) := by decide +kernel
theorem dX11_told_122 : decode cX11_told 122 = .ok (.ireturn, 1) := by decide +kernel
theorem dX11_told_123 : decode cX11_told 123 = .ok (.aload_n 0, 1) := by decide +kernel
theorem dX11_told_124 : decode cX11_told 124 = .ok (.getfield 81, 3) := by decide +kernel
theorem dX11_told_127 : decode cX11_told 127 = .ok (.ireturn, 1) := by decide +kernel
theorem dX11_told_128 : decode cX11_told 128 = .ok (.aload_n 0, 1) := by decide +kernel
theorem dX11_told_129 : decode cX11_told 129 = .ok (.getfield 66, 3) := by decide +kernel
theorem dX11_told_132 : decode cX11_told 132 = .ok (.getfield 116, 3) := by decide +kernel
theorem dX11_told_135 : decode cX11_told 135 = .ok (.getfield 102, 3) := by decide +kernel
theorem dX11_told_138 : decode cX11_told 138 = .ok (.ireturn, 1) := by decide +kernel
theorem dX11_told_139 : decode cX11_told 139 = .ok (.iconst (-1), 1) := by decide +kernel
theorem dX11_told_140 : decode cX11_told 140 = .ok (.ireturn, 1) := by decide +kernel
theorem dX11_isTable_0 : decode cX11_isTable 0 = .ok (.iload_n 1, 1) := by decide +kernel
theorem dX11_isTable_1 : decode cX11_isTable 1 = .ok (.ifCond .lt 21, 3) := by decide +kernel
theorem dX11_isTable_4 : decode cX11_isTable 4 = .ok (.iload_n 1, 1) := by decide +kernel
theorem dX11_isTable_5 : decode cX11_isTable 5 = .ok (.aload_n 0, 1) := by decide +kernel
theorem dX11_isTable_6 : decode cX11_isTable 6 = .ok (.getfield 66, 3) := by decide +kernel
theorem dX11_isTable_9 : decode cX11_isTable 9 = .ok (.getfield 116, 3) := by decide +kernel
theorem dX11_isTable_12 : decode cX11_isTable 12 = .ok (.getfield 268, 3) := by decide +kernel
theorem dX11_isTable_15 : decode cX11_isTable 15 = .ok (.if_icmp .ge 7, 3) := by decide +kernel
theorem dX11_isTable_18 : decode cX11_isTable 18 = .ok (.iconst 1, 1) := by decide +kernel
theorem dX11_isTable_19 : decode cX11_isTable 19 = .ok (.goto 4, 3) := by decide +kernel
theorem dX11_isTable_22 : decode cX11_isTable 22 = .ok (.iconst 0, 1) := by decide +kernel
theorem dX11_isTable_23 : decode cX11_isTable 23 = .ok (.ireturn, 1) := by decide +kernel
theorem dX11_isLetter_0 : decode cX11_isLetter 0 = .ok (.lload_n 0, 1) := by decide +kernel
theorem dX11_isLetter_1 : decode cX11_isLetter 1 = .ok (.lconst 0, 1) := by decide +kernel
theorem dX11_isLetter_2 : decode cX11_isLetter 2 = .ok (.lcmp, 1) := by decide +kernel
theorem dX11_isLetter_3 : decode cX11_isLetter 3 = .ok (.ifCond .lt 15, 3) := by decide +kernel
theorem dX11_isLetter_6 : decode cX11_isLetter 6 = .ok (.lload_n 0, 1) := by decide +kernel
theorem dX11_isLetter_7 : decode cX11_isLetter 7 = .ok (.ldc2_w 347, 3) := by decide +kernel
theorem dX11_isLetter_10 : decode cX11_isLetter 10 = .ok (.lcmp, 1) := by decide +kernel
theorem dX11_isLetter_11 : decode cX11_isLetter 11 = .ok (.ifCond .ge 7, 3) := by decide +kernel
theorem dX11_isLetter_14 : decode cX11_isLetter 14 = .ok (.iconst 1, 1) := by decide +kernel
theorem dX11_isLetter_15 : decode cX11_isLetter 15 = .ok (.goto 4, 3) := by decide +kernel
theorem dX11_isLetter_18 : decode cX11_isLetter 18 = .ok (.iconst 0, 1) := by decide +kernel
theorem dX11_isLetter_19 : decode cX11_isLetter 19 = .ok (.ireturn, 1) := by decide +kernel
theorem dX11_isTray_0 : decode cX11_isTray 0 = .ok (.iload_n 0, 1) := by decide +kernel
theorem dX11_isTray_1 : decode cX11_isTray 1 = .ok (.ifCond .lt 12, 3) := by decide +kernel
theorem dX11_isTray_4 : decode cX11_isTray 4 = .ok (.iload_n 0, 1) := by decide +kernel
theorem dX11_isTray_5 : decode cX11_isTray 5 = .ok (.iconst 4, 1) := by decide +kernel
theorem dX11_isTray_6 : decode cX11_isTray 6 = .ok (.if_icmp .ge 7, 3) := by decide +kernel
theorem dX11_isTray_9 : decode cX11_isTray 9 = .ok (.iconst 1, 1) := by decide +kernel
theorem dX11_isTray_10 : decode cX11_isTray 10 = .ok (.goto 4, 3) := by decide +kernel
theorem dX11_isTray_13 : decode cX11_isTray 13 = .ok (.iconst 0, 1) := by decide +kernel
theorem dX11_isTray_14 : decode cX11_isTray 14 = .ok (.ireturn, 1) := by decide +kernel
theorem dX11_refusalOfTray_0 : decode cX11_refusalOfTray 0 = .ok (.iload_n 1, 1) := by decide +kernel
theorem dX11_refusalOfTray_1 : decode cX11_refusalOfTray 1 = .ok (.invokestatic 190, 3) := by decide +kernel
theorem dX11_refusalOfTray_4 : decode cX11_refusalOfTray 4 = .ok (.ifCond .ne 6, 3) := by decide +kernel
theorem dX11_refusalOfTray_7 : decode cX11_refusalOfTray 7 = .ok (.bipush (-2), 2) := by decide +kernel
theorem dX11_refusalOfTray_9 : decode cX11_refusalOfTray 9 = .ok (.ireturn, 1) := by decide +kernel
theorem dX11_refusalOfTray_10 : decode cX11_refusalOfTray 10 = .ok (.aload_n 0, 1) := by decide +kernel
theorem dX11_refusalOfTray_11 : decode cX11_refusalOfTray 11 = .ok (.getfield 35, 3) := by decide +kernel
theorem dX11_refusalOfTray_14 : decode cX11_refusalOfTray 14 = .ok (.iload_n 1, 1) := by decide +kernel
theorem dX11_refusalOfTray_15 : decode cX11_refusalOfTray 15 = .ok (.aaload, 1) := by decide +kernel
theorem dX11_refusalOfTray_16 : decode cX11_refusalOfTray 16 = .ok (.invokevirtual 193, 3) := by decide +kernel
theorem dX11_refusalOfTray_19 : decode cX11_refusalOfTray 19 = .ok (.ifCond .eq 8, 3) := by decide +kernel
theorem dX11_refusalOfTray_22 : decode cX11_refusalOfTray 22 = .ok (.bipush (-6), 2) := by decide +kernel
theorem dX11_refusalOfTray_24 : decode cX11_refusalOfTray 24 = .ok (.goto 4, 3) := by decide +kernel
theorem dX11_refusalOfTray_27 : decode cX11_refusalOfTray 27 = .ok (.iconst 0, 1) := by decide +kernel
theorem dX11_refusalOfTray_28 : decode cX11_refusalOfTray 28 = .ok (.ireturn, 1) := by decide +kernel
theorem dX11_refusalOfWord_0 : decode cX11_refusalOfWord 0 = .ok (.aload_n 0, 1) := by decide +kernel
theorem dX11_refusalOfWord_1 : decode cX11_refusalOfWord 1 = .ok (.iload_n 1, 1) := by decide +kernel
theorem dX11_refusalOfWord_2 : decode cX11_refusalOfWord 2 = .ok (.invokevirtual 211, 3) := by decide +kernel
theorem dX11_refusalOfWord_5 : decode cX11_refusalOfWord 5 = .ok (.istore_n 2, 1) := by decide +kernel
theorem dX11_refusalOfWord_6 : decode cX11_refusalOfWord 6 = .ok (.iload_n 2, 1) := by decide +kernel
theorem dX11_refusalOfWord_7 : decode cX11_refusalOfWord 7 = .ok (.ifCond .eq 5, 3) := by decide +kernel
theorem dX11_refusalOfWord_10 : decode cX11_refusalOfWord 10 = .ok (.iload_n 2, 1) := by decide +kernel
theorem dX11_refusalOfWord_11 : decode cX11_refusalOfWord 11 = .ok (.ireturn, 1) := by decide +kernel
theorem dX11_refusalOfWord_12 : decode cX11_refusalOfWord 12 = .ok (.aload_n 0, 1) := by decide +kernel
theorem dX11_refusalOfWord_13 : decode cX11_refusalOfWord 13 = .ok (.getfield 35, 3) := by decide +kernel
theorem dX11_refusalOfWord_16 : decode cX11_refusalOfWord 16 = .ok (.iload_n 1, 1) := by decide +kernel
theorem dX11_refusalOfWord_17 : decode cX11_refusalOfWord 17 = .ok (.aaload, 1) := by decide +kernel
theorem dX11_refusalOfWord_18 : decode cX11_refusalOfWord 18 = .ok (.astore_n 3, 1) := by decide +kernel
theorem dX11_refusalOfWord_19 : decode cX11_refusalOfWord 19 = .ok (.aload_n 3, 1) := by decide +kernel
theorem dX11_refusalOfWord_20 : decode cX11_refusalOfWord 20 = .ok (.getfield 199, 3) := by decide +kernel
theorem dX11_refusalOfWord_23 : decode cX11_refusalOfWord 23 = .ok (.iconst 1, 1) := by decide +kernel
theorem dX11_refusalOfWord_24 : decode cX11_refusalOfWord 24 = .ok (.if_icmp .lt 12, 3) := by decide +kernel
theorem dX11_refusalOfWord_27 : decode cX11_refusalOfWord 27 = .ok (.aload_n 3, 1) := by decide +kernel
theorem dX11_refusalOfWord_28 : decode cX11_refusalOfWord 28 = .ok (.getfield 199, 3) := by decide +kernel
theorem dX11_refusalOfWord_31 : decode cX11_refusalOfWord 31 = .ok (.bipush 6, 2) := by decide +kernel
theorem dX11_refusalOfWord_33 : decode cX11_refusalOfWord 33 = .ok (.if_icmp .le 6, 3) := by decide +kernel
theorem dX11_refusalOfWord_36 : decode cX11_refusalOfWord 36 = .ok (.bipush (-4), 2) := by decide +kernel
theorem dX11_refusalOfWord_38 : decode cX11_refusalOfWord 38 = .ok (.ireturn, 1) := by decide +kernel
theorem dX11_refusalOfWord_39 : decode cX11_refusalOfWord 39 = .ok (.iconst 0, 1) := by decide +kernel
theorem dX11_refusalOfWord_40 : decode cX11_refusalOfWord 40 = .ok (.istore 4, 2) := by decide +kernel
theorem dX11_refusalOfWord_42 : decode cX11_refusalOfWord 42 = .ok (.iload 4, 2) := by decide +kernel
theorem dX11_refusalOfWord_44 : decode cX11_refusalOfWord 44 = .ok (.aload_n 3, 1) := by decide +kernel
theorem dX11_refusalOfWord_45 : decode cX11_refusalOfWord 45 = .ok (.getfield 199, 3) := by decide +kernel
theorem dX11_refusalOfWord_48 : decode cX11_refusalOfWord 48 = .ok (.if_icmp .ge 24, 3) := by decide +kernel
theorem dX11_refusalOfWord_51 : decode cX11_refusalOfWord 51 = .ok (.aload_n 3, 1) := by decide +kernel
theorem dX11_refusalOfWord_52 : decode cX11_refusalOfWord 52 = .ok (.iload 4, 2) := by decide +kernel
theorem dX11_refusalOfWord_54 : decode cX11_refusalOfWord 54 = .ok (.invokevirtual 202, 3) := by decide +kernel
theorem dX11_refusalOfWord_57 : decode cX11_refusalOfWord 57 = .ok (.invokestatic 112, 3) := by decide +kernel
theorem dX11_refusalOfWord_60 : decode cX11_refusalOfWord 60 = .ok (.ifCond .ne 6, 3) := by decide +kernel
theorem dX11_refusalOfWord_63 : decode cX11_refusalOfWord 63 = .ok (.bipush (-3), 2) := by decide +kernel
theorem dX11_refusalOfWord_65 : decode cX11_refusalOfWord 65 = .ok (.ireturn, 1) := by decide +kernel
theorem dX11_refusalOfWord_66 : decode cX11_refusalOfWord 66 = .ok (.iinc 4 1, 3) := by decide +kernel
theorem dX11_refusalOfWord_69 : decode cX11_refusalOfWord 69 = .ok (.goto (-27), 3) := by decide +kernel
theorem dX11_refusalOfWord_72 : decode cX11_refusalOfWord 72 = .ok (.iconst 0, 1) := by decide +kernel
theorem dX11_refusalOfWord_73 : decode cX11_refusalOfWord 73 = .ok (.ireturn, 1) := by decide +kernel
theorem dX11_refusalOfReadingBack_0 : decode cX11_refusalOfReadingBack 0 = .ok (.iload_n 1, 1) := by decide +kernel
theorem dX11_refusalOfReadingBack_1 : decode cX11_refusalOfReadingBack 1 = .ok (.invokestatic 190, 3) := by decide +kernel
theorem dX11_refusalOfReadingBack_4 : decode cX11_refusalOfReadingBack 4 = .ok (.ifCond .eq 16, 3) := by decide +kernel
theorem dX11_refusalOfReadingBack_7 : decode cX11_refusalOfReadingBack 7 = .ok (.aload_n 0, 1) := by decide +kernel
theorem dX11_refusalOfReadingBack_8 : decode cX11_refusalOfReadingBack 8 = .ok (.iload_n 2, 1) := by decide +kernel
theorem dX11_refusalOfReadingBack_9 : decode cX11_refusalOfReadingBack 9 = .ok (.invokevirtual 108, 3) := by decide +kernel
theorem dX11_refusalOfReadingBack_12 : decode cX11_refusalOfReadingBack 12 = .ok (.ifCond .ne 8, 3) := by decide +kernel
theorem dX11_refusalOfReadingBack_15 : decode cX11_refusalOfReadingBack 15 = .ok (.bipush (-2), 2) := by decide +kernel
theorem dX11_refusalOfReadingBack_17 : decode cX11_refusalOfReadingBack 17 = .ok (.goto 8, 3) := by decide +kernel
theorem dX11_refusalOfReadingBack_20 : decode cX11_refusalOfReadingBack 20 = .ok (.aload_n 0, 1) := by decide +kernel
theorem dX11_refusalOfReadingBack_21 : decode cX11_refusalOfReadingBack 21 = .ok (.iload_n 1, 1) := by decide +kernel
theorem dX11_refusalOfReadingBack_22 : decode cX11_refusalOfReadingBack 22 = .ok (.invokevirtual 219, 3) := by decide +kernel
theorem dX11_refusalOfReadingBack_25 : decode cX11_refusalOfReadingBack 25 = .ok (.ireturn, 1) := by decide +kernel
theorem dX11_refusalOfLengths_0 : decode cX11_refusalOfLengths 0 = .ok (.aload_n 0, 1) := by decide +kernel
theorem dX11_refusalOfLengths_1 : decode cX11_refusalOfLengths 1 = .ok (.iload_n 1, 1) := by decide +kernel
theorem dX11_refusalOfLengths_2 : decode cX11_refusalOfLengths 2 = .ok (.invokevirtual 211, 3) := by decide +kernel
theorem dX11_refusalOfLengths_5 : decode cX11_refusalOfLengths 5 = .ok (.istore 4, 2) := by decide +kernel
theorem dX11_refusalOfLengths_7 : decode cX11_refusalOfLengths 7 = .ok (.iload 4, 2) := by decide +kernel
theorem dX11_refusalOfLengths_9 : decode cX11_refusalOfLengths 9 = .ok (.ifCond .eq 6, 3) := by decide +kernel
theorem dX11_refusalOfLengths_12 : decode cX11_refusalOfLengths 12 = .ok (.iload 4, 2) := by decide +kernel
theorem dX11_refusalOfLengths_14 : decode cX11_refusalOfLengths 14 = .ok (.ireturn, 1) := by decide +kernel
theorem dX11_refusalOfLengths_15 : decode cX11_refusalOfLengths 15 = .ok (.aload_n 0, 1) := by decide +kernel
theorem dX11_refusalOfLengths_16 : decode cX11_refusalOfLengths 16 = .ok (.getfield 35, 3) := by decide +kernel
theorem dX11_refusalOfLengths_19 : decode cX11_refusalOfLengths 19 = .ok (.iload_n 1, 1) := by decide +kernel
theorem dX11_refusalOfLengths_20 : decode cX11_refusalOfLengths 20 = .ok (.aaload, 1) := by decide +kernel
theorem dX11_refusalOfLengths_21 : decode cX11_refusalOfLengths 21 = .ok (.astore 5, 2) := by decide +kernel
theorem dX11_refusalOfLengths_23 : decode cX11_refusalOfLengths 23 = .ok (.aload 5, 2) := by decide +kernel
theorem dX11_refusalOfLengths_25 : decode cX11_refusalOfLengths 25 = .ok (.getfield 199, 3) := by decide +kernel
theorem dX11_refusalOfLengths_28 : decode cX11_refusalOfLengths 28 = .ok (.iconst 1, 1) := by decide +kernel
theorem dX11_refusalOfLengths_29 : decode cX11_refusalOfLengths 29 = .ok (.if_icmp .lt 13, 3) := by decide +kernel
theorem dX11_refusalOfLengths_32 : decode cX11_refusalOfLengths 32 = .ok (.aload 5, 2) := by decide +kernel
theorem dX11_refusalOfLengths_34 : decode cX11_refusalOfLengths 34 = .ok (.getfield 199, 3) := by decide +kernel
theorem dX11_refusalOfLengths_37 : decode cX11_refusalOfLengths 37 = .ok (.bipush 8, 2) := by decide +kernel
theorem dX11_refusalOfLengths_39 : decode cX11_refusalOfLengths 39 = .ok (.if_icmp .le 6, 3) := by decide +kernel
theorem dX11_refusalOfLengths_42 : decode cX11_refusalOfLengths 42 = .ok (.bipush (-4), 2) := by decide +kernel
theorem dX11_refusalOfLengths_44 : decode cX11_refusalOfLengths 44 = .ok (.ireturn, 1) := by decide +kernel
theorem dX11_refusalOfLengths_45 : decode cX11_refusalOfLengths 45 = .ok (.iconst 0, 1) := by decide +kernel
theorem dX11_refusalOfLengths_46 : decode cX11_refusalOfLengths 46 = .ok (.istore 6, 2) := by decide +kernel
theorem dX11_refusalOfLengths_48 : decode cX11_refusalOfLengths 48 = .ok (.iload 6, 2) := by decide +kernel
theorem dX11_refusalOfLengths_50 : decode cX11_refusalOfLengths 50 = .ok (.aload 5, 2) := by decide +kernel
theorem dX11_refusalOfLengths_52 : decode cX11_refusalOfLengths 52 = .ok (.getfield 199, 3) := by decide +kernel
theorem dX11_refusalOfLengths_55 : decode cX11_refusalOfLengths 55 = .ok (.if_icmp .ge 24, 3) := by decide +kernel
theorem dX11_refusalOfLengths_58 : decode cX11_refusalOfLengths 58 = .ok (.aload 5, 2) := by decide +kernel
theorem dX11_refusalOfLengths_60 : decode cX11_refusalOfLengths 60 = .ok (.iload 6, 2) := by decide +kernel
theorem dX11_refusalOfLengths_62 : decode cX11_refusalOfLengths 62 = .ok (.invokevirtual 202, 3) := by decide +kernel
theorem dX11_refusalOfLengths_65 : decode cX11_refusalOfLengths 65 = .ok (.lload_n 2, 1) := by decide +kernel
theorem dX11_refusalOfLengths_66 : decode cX11_refusalOfLengths 66 = .ok (.lcmp, 1) := by decide +kernel
theorem dX11_refusalOfLengths_67 : decode cX11_refusalOfLengths 67 = .ok (.ifCond .ge 6, 3) := by decide +kernel
theorem dX11_refusalOfLengths_70 : decode cX11_refusalOfLengths 70 = .ok (.bipush (-3), 2) := by decide +kernel
theorem dX11_refusalOfLengths_72 : decode cX11_refusalOfLengths 72 = .ok (.ireturn, 1) := by decide +kernel
theorem dX11_refusalOfLengths_73 : decode cX11_refusalOfLengths 73 = .ok (.iinc 6 1, 3) := by decide +kernel
theorem dX11_refusalOfLengths_76 : decode cX11_refusalOfLengths 76 = .ok (.goto (-28), 3) := by decide +kernel
theorem dX11_refusalOfLengths_79 : decode cX11_refusalOfLengths 79 = .ok (.iconst 0, 1) := by decide +kernel
theorem dX11_refusalOfLengths_80 : decode cX11_refusalOfLengths 80 = .ok (.ireturn, 1) := by decide +kernel
