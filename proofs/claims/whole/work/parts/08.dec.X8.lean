/-! decode rows, by program -/
theorem dX8_init_0 : decode prog_10_method_1_code 0 = .ok (.aload_n 0, 1) := by decide +kernel
theorem dX8_init_1 : decode prog_10_method_1_code 1 = .ok (.invokespecial 1, 3) := by decide +kernel
theorem dX8_init_4 : decode prog_10_method_1_code 4 = .ok (.aload_n 0, 1) := by decide +kernel
theorem dX8_init_5 : decode prog_10_method_1_code 5 = .ok (.sipush 750, 3) := by decide +kernel
theorem dX8_init_8 : decode prog_10_method_1_code 8 = .ok (.newarray .int, 2) := by decide +kernel
theorem dX8_init_10 : decode prog_10_method_1_code 10 = .ok (.putfield 7, 3) := by decide +kernel
theorem dX8_init_13 : decode prog_10_method_1_code 13 = .ok (.aload_n 0, 1) := by decide +kernel
theorem dX8_init_14 : decode prog_10_method_1_code 14 = .ok (.sipush 750, 3) := by decide +kernel
theorem dX8_init_17 : decode prog_10_method_1_code 17 = .ok (.newarray .int, 2) := by decide +kernel
theorem dX8_init_19 : decode prog_10_method_1_code 19 = .ok (.putfield 13, 3) := by decide +kernel
theorem dX8_init_22 : decode prog_10_method_1_code 22 = .ok (.aload_n 0, 1) := by decide +kernel
theorem dX8_init_23 : decode prog_10_method_1_code 23 = .ok (.sipush 350, 3) := by decide +kernel
theorem dX8_init_26 : decode prog_10_method_1_code 26 = .ok (.newarray .int, 2) := by decide +kernel
theorem dX8_init_28 : decode prog_10_method_1_code 28 = .ok (.putfield 16, 3) := by decide +kernel
theorem dX8_init_31 : decode prog_10_method_1_code 31 = .ok (.aload_n 0, 1) := by decide +kernel
theorem dX8_init_32 : decode prog_10_method_1_code 32 = .ok (.sipush 4200, 3) := by decide +kernel
theorem dX8_init_35 : decode prog_10_method_1_code 35 = .ok (.newarray .int, 2) := by decide +kernel
theorem dX8_init_37 : decode prog_10_method_1_code 37 = .ok (.putfield 19, 3) := by decide +kernel
theorem dX8_init_40 : decode prog_10_method_1_code 40 = .ok (.aload_n 0, 1) := by decide +kernel
theorem dX8_init_41 : decode prog_10_method_1_code 41 = .ok (.sipush 400, 3) := by decide +kernel
theorem dX8_init_44 : decode prog_10_method_1_code 44 = .ok (.newarray .int, 2) := by decide +kernel
theorem dX8_init_46 : decode prog_10_method_1_code 46 = .ok (.putfield 22, 3) := by decide +kernel
theorem dX8_init_49 : decode prog_10_method_1_code 49 = .ok (.aload_n 0, 1) := by decide +kernel
theorem dX8_init_50 : decode prog_10_method_1_code 50 = .ok (.iconst (-1), 1) := by decide +kernel
theorem dX8_init_51 : decode prog_10_method_1_code 51 = .ok (.putfield 25, 3) := by decide +kernel
theorem dX8_init_54 : decode prog_10_method_1_code 54 = .ok (.aload_n 0, 1) := by decide +kernel
theorem dX8_init_55 : decode prog_10_method_1_code 55 = .ok (.bipush 7, 2) := by decide +kernel
theorem dX8_init_57 : decode prog_10_method_1_code 57 = .ok (.newarray .int, 2) := by decide +kernel
theorem dX8_init_59 : decode prog_10_method_1_code 59 = .ok (.putfield 29, 3) := by decide +kernel
theorem dX8_init_62 : decode prog_10_method_1_code 62 = .ok (.aload_n 0, 1) := by decide +kernel
theorem dX8_init_63 : decode prog_10_method_1_code 63 = .ok (.bipush 64, 2) := by decide +kernel
theorem dX8_init_65 : decode prog_10_method_1_code 65 = .ok (.newarray .int, 2) := by decide +kernel
theorem dX8_init_67 : decode prog_10_method_1_code 67 = .ok (.putfield 32, 3) := by decide +kernel
theorem dX8_init_70 : decode prog_10_method_1_code 70 = .ok (.aload_n 0, 1) := by decide +kernel
theorem dX8_init_71 : decode prog_10_method_1_code 71 = .ok (.bipush 36, 2) := by decide +kernel
theorem dX8_init_73 : decode prog_10_method_1_code 73 = .ok (.newarray .boolean, 2) := by decide +kernel
theorem dX8_init_75 : decode prog_10_method_1_code 75 = .ok (.putfield 35, 3) := by decide +kernel
theorem dX8_init_78 : decode prog_10_method_1_code 78 = .ok (.aload_n 0, 1) := by decide +kernel
theorem dX8_init_79 : decode prog_10_method_1_code 79 = .ok (.getfield 7, 3) := by decide +kernel
theorem dX8_init_82 : decode prog_10_method_1_code 82 = .ok (.iconst 1, 1) := by decide +kernel
theorem dX8_init_83 : decode prog_10_method_1_code 83 = .ok (.iconst (-1), 1) := by decide +kernel
theorem dX8_init_84 : decode prog_10_method_1_code 84 = .ok (.iastore, 1) := by decide +kernel
theorem dX8_init_85 : decode prog_10_method_1_code 85 = .ok (.aload_n 0, 1) := by decide +kernel
theorem dX8_init_86 : decode prog_10_method_1_code 86 = .ok (.getfield 7, 3) := by decide +kernel
theorem dX8_init_89 : decode prog_10_method_1_code 89 = .ok (.bipush 7, 2) := by decide +kernel
theorem dX8_init_91 : decode prog_10_method_1_code 91 = .ok (.iconst 1, 1) := by decide +kernel
theorem dX8_init_92 : decode prog_10_method_1_code 92 = .ok (.iastore, 1) := by decide +kernel
theorem dX8_init_93 : decode prog_10_method_1_code 93 = .ok (.aload_n 0, 1) := by decide +kernel
theorem dX8_init_94 : decode prog_10_method_1_code 94 = .ok (.getfield 7, 3) := by decide +kernel
theorem dX8_init_97 : decode prog_10_method_1_code 97 = .ok (.bipush 8, 2) := by decide +kernel
theorem dX8_init_99 : decode prog_10_method_1_code 99 = .ok (.iconst 1, 1) := by decide +kernel
theorem dX8_init_100 : decode prog_10_method_1_code 100 = .ok (.iastore, 1) := by decide +kernel
theorem dX8_init_101 : decode prog_10_method_1_code 101 = .ok (.aload_n 0, 1) := by decide +kernel
theorem dX8_init_102 : decode prog_10_method_1_code 102 = .ok (.getfield 7, 3) := by decide +kernel
theorem dX8_init_105 : decode prog_10_method_1_code 105 = .ok (.bipush 12, 2) := by decide +kernel
theorem dX8_init_107 : decode prog_10_method_1_code 107 = .ok (.iconst 1, 1) := by decide +kernel
theorem dX8_init_108 : decode prog_10_method_1_code 108 = .ok (.iastore, 1) := by decide +kernel
theorem dX8_init_109 : decode prog_10_method_1_code 109 = .ok (.iconst 0, 1) := by decide +kernel
theorem dX8_init_110 : decode prog_10_method_1_code 110 = .ok (.istore_n 1, 1) := by decide +kernel
theorem dX8_init_111 : decode prog_10_method_1_code 111 = .ok (.iload_n 1, 1) := by decide +kernel
theorem dX8_init_112 : decode prog_10_method_1_code 112 = .ok (.bipush 6, 2) := by decide +kernel
theorem dX8_init_114 : decode prog_10_method_1_code 114 = .ok (.if_icmp .ge 20, 3) := by decide +kernel
theorem dX8_init_117 : decode prog_10_method_1_code 117 = .ok (.aload_n 0, 1) := by decide +kernel
theorem dX8_init_118 : decode prog_10_method_1_code 118 = .ok (.getfield 7, 3) := by decide +kernel
theorem dX8_init_121 : decode prog_10_method_1_code 121 = .ok (.bipush 20, 2) := by decide +kernel
theorem dX8_init_123 : decode prog_10_method_1_code 123 = .ok (.iload_n 1, 1) := by decide +kernel
theorem dX8_init_124 : decode prog_10_method_1_code 124 = .ok (.iadd, 1) := by decide +kernel
theorem dX8_init_125 : decode prog_10_method_1_code 125 = .ok (.bipush 12, 2) := by decide +kernel
theorem dX8_init_127 : decode prog_10_method_1_code 127 = .ok (.iastore, 1) := by decide +kernel
theorem dX8_init_128 : decode prog_10_method_1_code 128 = .ok (.iinc 1 1, 3) := by decide +kernel
theorem dX8_init_131 : decode prog_10_method_1_code 131 = .ok (.goto (-20), 3) := by decide +kernel
theorem dX8_init_134 : decode prog_10_method_1_code 134 = .ok (.return_, 1) := by decide +kernel
theorem dX8_thrown_0 : decode prog_10_method_2_code 0 = .ok (.aload_n 0, 1) := by decide +kernel
theorem dX8_thrown_1 : decode prog_10_method_2_code 1 = .ok (.getfield 39, 3) := by decide +kernel
theorem dX8_thrown_4 : decode prog_10_method_2_code 4 = .ok (.ireturn, 1) := by decide +kernel
theorem dX8_feed_0 : decode prog_10_method_16_code 0 = .ok (.aload_n 0, 1) := by decide +kernel
theorem dX8_feed_1 : decode prog_10_method_16_code 1 = .ok (.iconst 0, 1) := by decide +kernel
theorem dX8_feed_2 : decode prog_10_method_16_code 2 = .ok (.putfield 39, 3) := by decide +kernel
theorem dX8_feed_5 : decode prog_10_method_16_code 5 = .ok (.aload_n 0, 1) := by decide +kernel
theorem dX8_feed_6 : decode prog_10_method_16_code 6 = .ok (.getfield 50, 3) := by decide +kernel
theorem dX8_feed_9 : decode prog_10_method_16_code 9 = .ok (.bipush 20, 2) := by decide +kernel
theorem dX8_feed_11 : decode prog_10_method_16_code 11 = .ok (.iadd, 1) := by decide +kernel
theorem dX8_feed_12 : decode prog_10_method_16_code 12 = .ok (.sipush 400, 3) := by decide +kernel
theorem dX8_feed_15 : decode prog_10_method_16_code 15 = .ok (.if_icmp .le 5, 3) := by decide +kernel
theorem dX8_feed_18 : decode prog_10_method_16_code 18 = .ok (.iconst (-1), 1) := by decide +kernel
theorem dX8_feed_19 : decode prog_10_method_16_code 19 = .ok (.ireturn, 1) := by decide +kernel
theorem dX8_feed_20 : decode prog_10_method_16_code 20 = .ok (.iconst 0, 1) := by decide +kernel
theorem dX8_feed_21 : decode prog_10_method_16_code 21 = .ok (.istore 6, 2) := by decide +kernel
theorem dX8_feed_23 : decode prog_10_method_16_code 23 = .ok (.iload 6, 2) := by decide +kernel
theorem dX8_feed_25 : decode prog_10_method_16_code 25 = .ok (.bipush 20, 2) := by decide +kernel
theorem dX8_feed_27 : decode prog_10_method_16_code 27 = .ok (.if_icmp .ge 93, 3) := by decide +kernel
theorem dX8_feed_30 : decode prog_10_method_16_code 30 = .ok (.iload 6, 2) := by decide +kernel
theorem dX8_feed_32 : decode prog_10_method_16_code 32 = .ok (.iconst 4, 1) := by decide +kernel
theorem dX8_feed_33 : decode prog_10_method_16_code 33 = .ok (.if_icmp .ge 7, 3) := by decide +kernel
theorem dX8_feed_36 : decode prog_10_method_16_code 36 = .ok (.iload_n 1, 1) := by decide +kernel
theorem dX8_feed_37 : decode prog_10_method_16_code 37 = .ok (.goto 39, 3) := by decide +kernel
theorem dX8_feed_40 : decode prog_10_method_16_code 40 = .ok (.iload 6, 2) := by decide +kernel
theorem dX8_feed_42 : decode prog_10_method_16_code 42 = .ok (.bipush 8, 2) := by decide +kernel
theorem dX8_feed_44 : decode prog_10_method_16_code 44 = .ok (.if_icmp .ge 7, 3) := by decide +kernel
theorem dX8_feed_47 : decode prog_10_method_16_code 47 = .ok (.iload_n 2, 1) := by decide +kernel
theorem dX8_feed_48 : decode prog_10_method_16_code 48 = .ok (.goto 28, 3) := by decide +kernel
theorem dX8_feed_51 : decode prog_10_method_16_code 51 = .ok (.iload 6, 2) := by decide +kernel
theorem dX8_feed_53 : decode prog_10_method_16_code 53 = .ok (.bipush 12, 2) := by decide +kernel
theorem dX8_feed_55 : decode prog_10_method_16_code 55 = .ok (.if_icmp .ge 7, 3) := by decide +kernel
theorem dX8_feed_58 : decode prog_10_method_16_code 58 = .ok (.iload_n 3, 1) := by decide +kernel
theorem dX8_feed_59 : decode prog_10_method_16_code 59 = .ok (.goto 17, 3) := by decide +kernel
theorem dX8_feed_62 : decode prog_10_method_16_code 62 = .ok (.iload 6, 2) := by decide +kernel
theorem dX8_feed_64 : decode prog_10_method_16_code 64 = .ok (.bipush 16, 2) := by decide +kernel
theorem dX8_feed_66 : decode prog_10_method_16_code 66 = .ok (.if_icmp .ge 8, 3) := by decide +kernel
theorem dX8_feed_69 : decode prog_10_method_16_code 69 = .ok (.iload 4, 2) := by decide +kernel
theorem dX8_feed_71 : decode prog_10_method_16_code 71 = .ok (.goto 5, 3) := by decide +kernel
theorem dX8_feed_74 : decode prog_10_method_16_code 74 = .ok (.iload 5, 2) := by decide +kernel
theorem dX8_feed_76 : decode prog_10_method_16_code 76 = .ok (.istore 7, 2) := by decide +kernel
theorem dX8_feed_78 : decode prog_10_method_16_code 78 = .ok (.aload_n 0, 1) := by decide +kernel
theorem dX8_feed_79 : decode prog_10_method_16_code 79 = .ok (.getfield 22, 3) := by decide +kernel
theorem dX8_feed_82 : decode prog_10_method_16_code 82 = .ok (.aload_n 0, 1) := by decide +kernel
theorem dX8_feed_83 : decode prog_10_method_16_code 83 = .ok (.getfield 50, 3) := by decide +kernel
theorem dX8_feed_86 : decode prog_10_method_16_code 86 = .ok (.iload 7, 2) := by decide +kernel
theorem dX8_feed_88 : decode prog_10_method_16_code 88 = .ok (.bipush 24, 2) := by decide +kernel
theorem dX8_feed_90 : decode prog_10_method_16_code 90 = .ok (.bipush 8, 2) := by decide +kernel
theorem dX8_feed_92 : decode prog_10_method_16_code 92 = .ok (.iload 6, 2) := by decide +kernel
theorem dX8_feed_94 : decode prog_10_method_16_code 94 = .ok (.iconst 4, 1) := by decide +kernel
theorem dX8_feed_95 : decode prog_10_method_16_code 95 = .ok (.irem, 1) := by decide +kernel
theorem dX8_feed_96 : decode prog_10_method_16_code 96 = .ok (.imul, 1) := by decide +kernel
theorem dX8_feed_97 : decode prog_10_method_16_code 97 = .ok (.isub, 1) := by decide +kernel
theorem dX8_feed_98 : decode prog_10_method_16_code 98 = .ok (.iushr, 1) := by decide +kernel
theorem dX8_feed_99 : decode prog_10_method_16_code 99 = .ok (.sipush 255, 3) := by decide +kernel
theorem dX8_feed_102 : decode prog_10_method_16_code 102 = .ok (.iand, 1) := by decide +kernel
theorem dX8_feed_103 : decode prog_10_method_16_code 103 = .ok (.iastore, 1) := by decide +kernel
theorem dX8_feed_104 : decode prog_10_method_16_code 104 = .ok (.aload_n 0, 1) := by decide +kernel
theorem dX8_feed_105 : decode prog_10_method_16_code 105 = .ok (.dup, 1) := by decide +kernel
theorem dX8_feed_106 : decode prog_10_method_16_code 106 = .ok (.getfield 50, 3) := by decide +kernel
theorem dX8_feed_109 : decode prog_10_method_16_code 109 = .ok (.iconst 1, 1) := by decide +kernel
theorem dX8_feed_110 : decode prog_10_method_16_code 110 = .ok (.iadd, 1) := by decide +kernel
theorem dX8_feed_111 : decode prog_10_method_16_code 111 = .ok (.putfield 50, 3) := by decide +kernel
theorem dX8_feed_114 : decode prog_10_method_16_code 114 = .ok (.iinc 6 1, 3) := by decide +kernel
theorem dX8_feed_117 : decode prog_10_method_16_code 117 = .ok (.goto (-94), 3) := by decide +kernel
theorem dX8_feed_120 : decode prog_10_method_16_code 120 = .ok (.aload_n 0, 1) := by decide +kernel
theorem dX8_feed_121 : decode prog_10_method_16_code 121 = .ok (.getfield 50, 3) := by decide +kernel
theorem dX8_feed_124 : decode prog_10_method_16_code 124 = .ok (.ireturn, 1) := by decide +kernel
theorem dX8_end_0 : decode prog_10_method_17_code 0 = .ok (.aload_n 0, 1) := by decide +kernel
theorem dX8_end_1 : decode prog_10_method_17_code 1 = .ok (.iconst 0, 1) := by decide +kernel
theorem dX8_end_2 : decode prog_10_method_17_code 2 = .ok (.putfield 39, 3) := by decide +kernel
theorem dX8_end_5 : decode prog_10_method_17_code 5 = .ok (.iload_n 1, 1) := by decide +kernel
theorem dX8_end_6 : decode prog_10_method_17_code 6 = .ok (.iconst 0, 1) := by decide +kernel
theorem dX8_end_7 : decode prog_10_method_17_code 7 = .ok (.aload_n 0, 1) := by decide +kernel
theorem dX8_end_8 : decode prog_10_method_17_code 8 = .ok (.getfield 50, 3) := by decide +kernel
theorem dX8_end_11 : decode prog_10_method_17_code 11 = .ok (.invokestatic 42, 3) := by decide +kernel
theorem dX8_end_14 : decode prog_10_method_17_code 14 = .ok (.ifCond .ne 5, 3) := by decide +kernel
theorem dX8_end_17 : decode prog_10_method_17_code 17 = .ok (.iconst 0, 1) := by decide +kernel
theorem dX8_end_18 : decode prog_10_method_17_code 18 = .ok (.ireturn, 1) := by decide +kernel
theorem dX8_end_19 : decode prog_10_method_17_code 19 = .ok (.aload_n 0, 1) := by decide +kernel
theorem dX8_end_20 : decode prog_10_method_17_code 20 = .ok (.iload_n 1, 1) := by decide +kernel
theorem dX8_end_21 : decode prog_10_method_17_code 21 = .ok (.putfield 50, 3) := by decide +kernel
theorem dX8_end_24 : decode prog_10_method_17_code 24 = .ok (.iconst 1, 1) := by decide +kernel
theorem dX8_end_25 : decode prog_10_method_17_code 25 = .ok (.ireturn, 1) := by decide +kernel
theorem dX8_isIn_0 : decode prog_10_method_3_code 0 = .ok (.iload_n 0, 1) := by decide +kernel
theorem dX8_isIn_1 : decode prog_10_method_3_code 1 = .ok (.iload_n 1, 1) := by decide +kernel
theorem dX8_isIn_2 : decode prog_10_method_3_code 2 = .ok (.if_icmp .lt 12, 3) := by decide +kernel
theorem dX8_isIn_5 : decode prog_10_method_3_code 5 = .ok (.iload_n 0, 1) := by decide +kernel
theorem dX8_isIn_6 : decode prog_10_method_3_code 6 = .ok (.iload_n 2, 1) := by decide +kernel
theorem dX8_isIn_7 : decode prog_10_method_3_code 7 = .ok (.if_icmp .gt 7, 3) := by decide +kernel
theorem dX8_isIn_10 : decode prog_10_method_3_code 10 = .ok (.iconst 1, 1) := by decide +kernel
theorem dX8_isIn_11 : decode prog_10_method_3_code 11 = .ok (.goto 4, 3) := by decide +kernel
theorem dX8_isIn_14 : decode prog_10_method_3_code 14 = .ok (.iconst 0, 1) := by decide +kernel
theorem dX8_isIn_15 : decode prog_10_method_3_code 15 = .ok (.ireturn, 1) := by decide +kernel
theorem dX8_deed_0 : decode prog_10_method_34_code 0 = .ok (.aload_n 0, 1) := by decide +kernel
theorem dX8_deed_1 : decode prog_10_method_34_code 1 = .ok (.invokevirtual 145, 3) := by decide +kernel
theorem dX8_deed_4 : decode prog_10_method_34_code 4 = .ok (.aload_n 0, 1) := by decide +kernel
theorem dX8_deed_5 : decode prog_10_method_34_code 5 = .ok (.invokevirtual 148, 3) := by decide +kernel
theorem dX8_deed_8 : decode prog_10_method_34_code 8 = .ok (.aload_n 0, 1) := by decide +kernel
theorem dX8_deed_9 : decode prog_10_method_34_code 9 = .ok (.iconst 0, 1) := by decide +kernel
theorem dX8_deed_10 : decode prog_10_method_34_code 10 = .ok (.invokevirtual 151, 3) := by decide +kernel
theorem dX8_deed_13 : decode prog_10_method_34_code 13 = .ok (.istore_n 1, 1) := by decide +kernel
theorem dX8_deed_14 : decode prog_10_method_34_code 14 = .ok (.aload_n 0, 1) := by decide +kernel
theorem dX8_deed_15 : decode prog_10_method_34_code 15 = .ok (.aload_n 0, 1) := by decide +kernel
theorem dX8_deed_16 : decode prog_10_method_34_code 16 = .ok (.getfield 25, 3) := by decide +kernel
theorem dX8_deed_19 : decode prog_10_method_34_code 19 = .ok (.iconst (-1), 1) := by decide +kernel
theorem dX8_deed_20 : decode prog_10_method_34_code 20 = .ok (.if_icmp .eq 7, 3) := by decide +kernel
theorem dX8_deed_23 : decode prog_10_method_34_code 23 = .ok (.iconst 1, 1) := by decide +kernel
theorem dX8_deed_24 : decode prog_10_method_34_code 24 = .ok (.goto 19, 3) := by decide +kernel
theorem dX8_deed_27 : decode prog_10_method_34_code 27 = .ok (.aload_n 0, 1) := by decide +kernel
theorem dX8_deed_28 : decode prog_10_method_34_code 28 = .ok (.getfield 7, 3) := by decide +kernel
theorem dX8_deed_31 : decode prog_10_method_34_code 31 = .ok (.iconst 0, 1) := by decide +kernel
theorem dX8_deed_32 : decode prog_10_method_34_code 32 = .ok (.iaload, 1) := by decide +kernel
theorem dX8_deed_33 : decode prog_10_method_34_code 33 = .ok (.bipush 12, 2) := by decide +kernel
theorem dX8_deed_35 : decode prog_10_method_34_code 35 = .ok (.if_icmp .ne 7, 3) := by decide +kernel
theorem dX8_deed_38 : decode prog_10_method_34_code 38 = .ok (.iconst 2, 1) := by decide +kernel
theorem dX8_deed_39 : decode prog_10_method_34_code 39 = .ok (.goto 4, 3) := by decide +kernel
theorem dX8_deed_42 : decode prog_10_method_34_code 42 = .ok (.iconst 0, 1) := by decide +kernel
theorem dX8_deed_43 : decode prog_10_method_34_code 43 = .ok (.putfield 39, 3) := by decide +kernel
theorem dX8_deed_46 : decode prog_10_method_34_code 46 = .ok (.aload_n 0, 1) := by decide +kernel
theorem dX8_deed_47 : decode prog_10_method_34_code 47 = .ok (.getfield 39, 3) := by decide +kernel
theorem dX8_deed_50 : decode prog_10_method_34_code 50 = .ok (.ifCond .le 9, 3) := by decide +kernel
theorem dX8_deed_53 : decode prog_10_method_34_code 53 = .ok (.aload_n 0, 1) := by decide +kernel
theorem dX8_deed_54 : decode prog_10_method_34_code 54 = .ok (.invokevirtual 155, 3) := by decide +kernel
theorem dX8_deed_57 : decode prog_10_method_34_code 57 = .ok (.iconst 0, 1) := by decide +kernel
theorem dX8_deed_58 : decode prog_10_method_34_code 58 = .ok (.ireturn, 1) := by decide +kernel
theorem dX8_deed_59 : decode prog_10_method_34_code 59 = .ok (.aload_n 0, 1) := by decide +kernel
theorem dX8_deed_60 : decode prog_10_method_34_code 60 = .ok (.getfield 7, 3) := by decide +kernel
theorem dX8_deed_63 : decode prog_10_method_34_code 63 = .ok (.iconst 0, 1) := by decide +kernel
theorem dX8_deed_64 : decode prog_10_method_34_code 64 = .ok (.dup2, 1) := by decide +kernel
theorem dX8_deed_65 : decode prog_10_method_34_code 65 = .ok (.iaload, 1) := by decide +kernel
theorem dX8_deed_66 : decode prog_10_method_34_code 66 = .ok (.iconst 1, 1) := by decide +kernel
theorem dX8_deed_67 : decode prog_10_method_34_code 67 = .ok (.iadd, 1) := by decide +kernel
theorem dX8_deed_68 : decode prog_10_method_34_code 68 = .ok (.iastore, 1) := by decide +kernel
theorem dX8_deed_69 : decode prog_10_method_34_code 69 = .ok (.aload_n 0, 1) := by decide +kernel
theorem dX8_deed_70 : decode prog_10_method_34_code 70 = .ok (.iconst 0, 1) := by decide +kernel
theorem dX8_deed_71 : decode prog_10_method_34_code 71 = .ok (.putfield 158, 3) := by decide +kernel
theorem dX8_deed_74 : decode prog_10_method_34_code 74 = .ok (.aload_n 0, 1) := by decide +kernel
theorem dX8_deed_75 : decode prog_10_method_34_code 75 = .ok (.getfield 7, 3) := by decide +kernel
theorem dX8_deed_78 : decode prog_10_method_34_code 78 = .ok (.iconst 0, 1) := by decide +kernel
theorem dX8_deed_79 : decode prog_10_method_34_code 79 = .ok (.iaload, 1) := by decide +kernel
theorem dX8_deed_80 : decode prog_10_method_34_code 80 = .ok (.ireturn, 1) := by decide +kernel
theorem dX8_putsAside_0 : decode prog_10_method_32_code 0 = .ok (.iconst 0, 1) := by decide +kernel
theorem dX8_putsAside_1 : decode prog_10_method_32_code 1 = .ok (.istore_n 1, 1) := by decide +kernel
theorem dX8_putsAside_2 : decode prog_10_method_32_code 2 = .ok (.iload_n 1, 1) := by decide +kernel
theorem dX8_putsAside_3 : decode prog_10_method_32_code 3 = .ok (.sipush 350, 3) := by decide +kernel
theorem dX8_putsAside_6 : decode prog_10_method_32_code 6 = .ok (.if_icmp .ge 21, 3) := by decide +kernel
theorem dX8_putsAside_9 : decode prog_10_method_32_code 9 = .ok (.aload_n 0, 1) := by decide +kernel
theorem dX8_putsAside_10 : decode prog_10_method_32_code 10 = .ok (.getfield 16, 3) := by decide +kernel
theorem dX8_putsAside_13 : decode prog_10_method_32_code 13 = .ok (.iload_n 1, 1) := by decide +kernel
theorem dX8_putsAside_14 : decode prog_10_method_32_code 14 = .ok (.aload_n 0, 1) := by decide +kernel
theorem dX8_putsAside_15 : decode prog_10_method_32_code 15 = .ok (.getfield 7, 3) := by decide +kernel
theorem dX8_putsAside_18 : decode prog_10_method_32_code 18 = .ok (.iload_n 1, 1) := by decide +kernel
theorem dX8_putsAside_19 : decode prog_10_method_32_code 19 = .ok (.iaload, 1) := by decide +kernel
theorem dX8_putsAside_20 : decode prog_10_method_32_code 20 = .ok (.iastore, 1) := by decide +kernel
theorem dX8_putsAside_21 : decode prog_10_method_32_code 21 = .ok (.iinc 1 1, 3) := by decide +kernel
theorem dX8_putsAside_24 : decode prog_10_method_32_code 24 = .ok (.goto (-22), 3) := by decide +kernel
theorem dX8_putsAside_27 : decode prog_10_method_32_code 27 = .ok (.return_, 1) := by decide +kernel
theorem dX8_begins_0 : decode prog_10_method_30_code 0 = .ok (.aload_n 0, 1) := by decide +kernel
theorem dX8_begins_1 : decode prog_10_method_30_code 1 = .ok (.iconst (-1), 1) := by decide +kernel
theorem dX8_begins_2 : decode prog_10_method_30_code 2 = .ok (.putfield 25, 3) := by decide +kernel
theorem dX8_begins_5 : decode prog_10_method_30_code 5 = .ok (.aload_n 0, 1) := by decide +kernel
theorem dX8_begins_6 : decode prog_10_method_30_code 6 = .ok (.iconst (-1), 1) := by decide +kernel
theorem dX8_begins_7 : decode prog_10_method_30_code 7 = .ok (.putfield 53, 3) := by decide +kernel
theorem dX8_begins_10 : decode prog_10_method_30_code 10 = .ok (.aload_n 0, 1) := by decide +kernel
theorem dX8_begins_11 : decode prog_10_method_30_code 11 = .ok (.aload_n 0, 1) := by decide +kernel
theorem dX8_begins_12 : decode prog_10_method_30_code 12 = .ok (.getfield 50, 3) := by decide +kernel
theorem dX8_begins_15 : decode prog_10_method_30_code 15 = .ok (.putfield 59, 3) := by decide +kernel
theorem dX8_begins_18 : decode prog_10_method_30_code 18 = .ok (.aload_n 0, 1) := by decide +kernel
theorem dX8_begins_19 : decode prog_10_method_30_code 19 = .ok (.iconst 0, 1) := by decide +kernel
theorem dX8_begins_20 : decode prog_10_method_30_code 20 = .ok (.putfield 50, 3) := by decide +kernel
theorem dX8_begins_23 : decode prog_10_method_30_code 23 = .ok (.aload_n 0, 1) := by decide +kernel
theorem dX8_begins_24 : decode prog_10_method_30_code 24 = .ok (.iconst 0, 1) := by decide +kernel
theorem dX8_begins_25 : decode prog_10_method_30_code 25 = .ok (.putfield 56, 3) := by decide +kernel
theorem dX8_begins_28 : decode prog_10_method_30_code 28 = .ok (.aload_n 0, 1) := by decide +kernel
theorem dX8_begins_29 : decode prog_10_method_30_code 29 = .ok (.iconst 0, 1) := by decide +kernel
theorem dX8_begins_30 : decode prog_10_method_30_code 30 = .ok (.putfield 132, 3) := by decide +kernel
theorem dX8_begins_33 : decode prog_10_method_30_code 33 = .ok (.return_, 1) := by decide +kernel
theorem dX8_read_0 : decode prog_10_method_31_code 0 = .ok (.aload_n 0, 1) := by decide +kernel
theorem dX8_read_1 : decode prog_10_method_31_code 1 = .ok (.invokevirtual 66, 3) := by decide +kernel
theorem dX8_read_4 : decode prog_10_method_31_code 4 = .ok (.aload_n 0, 1) := by decide +kernel
theorem dX8_read_5 : decode prog_10_method_31_code 5 = .ok (.getfield 56, 3) := by decide +kernel
theorem dX8_read_8 : decode prog_10_method_31_code 8 = .ok (.aload_n 0, 1) := by decide +kernel
theorem dX8_read_9 : decode prog_10_method_31_code 9 = .ok (.getfield 59, 3) := by decide +kernel
theorem dX8_read_12 : decode prog_10_method_31_code 12 = .ok (.if_icmp .ge 7, 3) := by decide +kernel
theorem dX8_read_15 : decode prog_10_method_31_code 15 = .ok (.iconst 1, 1) := by decide +kernel
theorem dX8_read_16 : decode prog_10_method_31_code 16 = .ok (.goto 4, 3) := by decide +kernel
theorem dX8_read_19 : decode prog_10_method_31_code 19 = .ok (.iconst 0, 1) := by decide +kernel
theorem dX8_read_20 : decode prog_10_method_31_code 20 = .ok (.istore_n 2, 1) := by decide +kernel
theorem dX8_read_21 : decode prog_10_method_31_code 21 = .ok (.iconst 0, 1) := by decide +kernel
theorem dX8_read_22 : decode prog_10_method_31_code 22 = .ok (.istore_n 3, 1) := by decide +kernel
theorem dX8_read_23 : decode prog_10_method_31_code 23 = .ok (.iload_n 2, 1) := by decide +kernel
theorem dX8_read_24 : decode prog_10_method_31_code 24 = .ok (.ifCond .eq 120, 3) := by decide +kernel
theorem dX8_read_27 : decode prog_10_method_31_code 27 = .ok (.aload_n 0, 1) := by decide +kernel
theorem dX8_read_28 : decode prog_10_method_31_code 28 = .ok (.getfield 25, 3) := by decide +kernel
theorem dX8_read_31 : decode prog_10_method_31_code 31 = .ok (.iconst (-1), 1) := by decide +kernel
theorem dX8_read_32 : decode prog_10_method_31_code 32 = .ok (.if_icmp .ne 112, 3) := by decide +kernel
theorem dX8_read_35 : decode prog_10_method_31_code 35 = .ok (.aload_n 0, 1) := by decide +kernel
theorem dX8_read_36 : decode prog_10_method_31_code 36 = .ok (.invokevirtual 66, 3) := by decide +kernel
theorem dX8_read_39 : decode prog_10_method_31_code 39 = .ok (.iload_n 3, 1) := by decide +kernel
theorem dX8_read_40 : decode prog_10_method_31_code 40 = .ok (.iload_n 1, 1) := by decide +kernel
theorem dX8_read_41 : decode prog_10_method_31_code 41 = .ok (.ifCond .eq 8, 3) := by decide +kernel
theorem dX8_read_44 : decode prog_10_method_31_code 44 = .ok (.bipush 12, 2) := by decide +kernel
theorem dX8_read_46 : decode prog_10_method_31_code 46 = .ok (.goto 5, 3) := by decide +kernel
theorem dX8_read_49 : decode prog_10_method_31_code 49 = .ok (.bipush 14, 2) := by decide +kernel
theorem dX8_read_51 : decode prog_10_method_31_code 51 = .ok (.if_icmp .ne 14, 3) := by decide +kernel
theorem dX8_read_54 : decode prog_10_method_31_code 54 = .ok (.aload_n 0, 1) := by decide +kernel
theorem dX8_read_55 : decode prog_10_method_31_code 55 = .ok (.aload_n 0, 1) := by decide +kernel
theorem dX8_read_56 : decode prog_10_method_31_code 56 = .ok (.getfield 56, 3) := by decide +kernel
theorem dX8_read_59 : decode prog_10_method_31_code 59 = .ok (.invokevirtual 82, 3) := by decide +kernel
theorem dX8_read_62 : decode prog_10_method_31_code 62 = .ok (.goto 18, 3) := by decide +kernel
theorem dX8_read_65 : decode prog_10_method_31_code 65 = .ok (.iload_n 1, 1) := by decide +kernel
theorem dX8_read_66 : decode prog_10_method_31_code 66 = .ok (.ifCond .eq 10, 3) := by decide +kernel
theorem dX8_read_69 : decode prog_10_method_31_code 69 = .ok (.aload_n 0, 1) := by decide +kernel
theorem dX8_read_70 : decode prog_10_method_31_code 70 = .ok (.invokevirtual 135, 3) := by decide +kernel
theorem dX8_read_73 : decode prog_10_method_31_code 73 = .ok (.goto 7, 3) := by decide +kernel
theorem dX8_read_76 : decode prog_10_method_31_code 76 = .ok (.aload_n 0, 1) := by decide +kernel
theorem dX8_read_77 : decode prog_10_method_31_code 77 = .ok (.invokevirtual 138, 3) := by decide +kernel
theorem dX8_read_80 : decode prog_10_method_31_code 80 = .ok (.iinc 3 1, 3) := by decide +kernel
theorem dX8_read_83 : decode prog_10_method_31_code 83 = .ok (.aload_n 0, 1) := by decide +kernel
theorem dX8_read_84 : decode prog_10_method_31_code 84 = .ok (.invokevirtual 66, 3) := by decide +kernel
theorem dX8_read_87 : decode prog_10_method_31_code 87 = .ok (.aload_n 0, 1) := by decide +kernel
theorem dX8_read_88 : decode prog_10_method_31_code 88 = .ok (.getfield 25, 3) := by decide +kernel
theorem dX8_read_91 : decode prog_10_method_31_code 91 = .ok (.iconst (-1), 1) := by decide +kernel
theorem dX8_read_92 : decode prog_10_method_31_code 92 = .ok (.if_icmp .ne 14, 3) := by decide +kernel
theorem dX8_read_95 : decode prog_10_method_31_code 95 = .ok (.aload_n 0, 1) := by decide +kernel
theorem dX8_read_96 : decode prog_10_method_31_code 96 = .ok (.getfield 56, 3) := by decide +kernel
theorem dX8_read_99 : decode prog_10_method_31_code 99 = .ok (.aload_n 0, 1) := by decide +kernel
theorem dX8_read_100 : decode prog_10_method_31_code 100 = .ok (.getfield 59, 3) := by decide +kernel
theorem dX8_read_103 : decode prog_10_method_31_code 103 = .ok (.if_icmp .ne 8, 3) := by decide +kernel
theorem dX8_read_106 : decode prog_10_method_31_code 106 = .ok (.iconst 0, 1) := by decide +kernel
theorem dX8_read_107 : decode prog_10_method_31_code 107 = .ok (.istore_n 2, 1) := by decide +kernel
theorem dX8_read_108 : decode prog_10_method_31_code 108 = .ok (.goto (-85), 3) := by decide +kernel
theorem dX8_read_111 : decode prog_10_method_31_code 111 = .ok (.aload_n 0, 1) := by decide +kernel
theorem dX8_read_112 : decode prog_10_method_31_code 112 = .ok (.bipush 59, 2) := by decide +kernel
theorem dX8_read_114 : decode prog_10_method_31_code 114 = .ok (.invokevirtual 141, 3) := by decide +kernel
theorem dX8_read_117 : decode prog_10_method_31_code 117 = .ok (.ifCond .eq 16, 3) := by decide +kernel
theorem dX8_read_120 : decode prog_10_method_31_code 120 = .ok (.aload_n 0, 1) := by decide +kernel
theorem dX8_read_121 : decode prog_10_method_31_code 121 = .ok (.dup, 1) := by decide +kernel
theorem dX8_read_122 : decode prog_10_method_31_code 122 = .ok (.getfield 56, 3) := by decide +kernel
theorem dX8_read_125 : decode prog_10_method_31_code 125 = .ok (.iconst 1, 1) := by decide +kernel
theorem dX8_read_126 : decode prog_10_method_31_code 126 = .ok (.iadd, 1) := by decide +kernel
theorem dX8_read_127 : decode prog_10_method_31_code 127 = .ok (.putfield 56, 3) := by decide +kernel
theorem dX8_read_130 : decode prog_10_method_31_code 130 = .ok (.goto (-107), 3) := by decide +kernel
theorem dX8_read_133 : decode prog_10_method_31_code 133 = .ok (.aload_n 0, 1) := by decide +kernel
theorem dX8_read_134 : decode prog_10_method_31_code 134 = .ok (.aload_n 0, 1) := by decide +kernel
theorem dX8_read_135 : decode prog_10_method_31_code 135 = .ok (.getfield 56, 3) := by decide +kernel
theorem dX8_read_138 : decode prog_10_method_31_code 138 = .ok (.invokevirtual 82, 3) := by decide +kernel
theorem dX8_read_141 : decode prog_10_method_31_code 141 = .ok (.goto (-118), 3) := by decide +kernel
theorem dX8_read_144 : decode prog_10_method_31_code 144 = .ok (.iload_n 3, 1) := by decide +kernel
theorem dX8_read_145 : decode prog_10_method_31_code 145 = .ok (.ireturn, 1) := by decide +kernel
theorem dX8_skip_0 : decode prog_10_method_19_code 0 = .ok (.aload_n 0, 1) := by decide +kernel
theorem dX8_skip_1 : decode prog_10_method_19_code 1 = .ok (.getfield 56, 3) := by decide +kernel
theorem dX8_skip_4 : decode prog_10_method_19_code 4 = .ok (.aload_n 0, 1) := by decide +kernel
theorem dX8_skip_5 : decode prog_10_method_19_code 5 = .ok (.getfield 59, 3) := by decide +kernel
theorem dX8_skip_8 : decode prog_10_method_19_code 8 = .ok (.if_icmp .ge 29, 3) := by decide +kernel
theorem dX8_skip_11 : decode prog_10_method_19_code 11 = .ok (.aload_n 0, 1) := by decide +kernel
theorem dX8_skip_12 : decode prog_10_method_19_code 12 = .ok (.aload_n 0, 1) := by decide +kernel
theorem dX8_skip_13 : decode prog_10_method_19_code 13 = .ok (.getfield 56, 3) := by decide +kernel
theorem dX8_skip_16 : decode prog_10_method_19_code 16 = .ok (.invokevirtual 62, 3) := by decide +kernel
theorem dX8_skip_19 : decode prog_10_method_19_code 19 = .ok (.bipush 32, 2) := by decide +kernel
theorem dX8_skip_21 : decode prog_10_method_19_code 21 = .ok (.if_icmp .ne 16, 3) := by decide +kernel
theorem dX8_skip_24 : decode prog_10_method_19_code 24 = .ok (.aload_n 0, 1) := by decide +kernel
theorem dX8_skip_25 : decode prog_10_method_19_code 25 = .ok (.dup, 1) := by decide +kernel
theorem dX8_skip_26 : decode prog_10_method_19_code 26 = .ok (.getfield 56, 3) := by decide +kernel
theorem dX8_skip_29 : decode prog_10_method_19_code 29 = .ok (.iconst 1, 1) := by decide +kernel
theorem dX8_skip_30 : decode prog_10_method_19_code 30 = .ok (.iadd, 1) := by decide +kernel
theorem dX8_skip_31 : decode prog_10_method_19_code 31 = .ok (.putfield 56, 3) := by decide +kernel
theorem dX8_skip_34 : decode prog_10_method_19_code 34 = .ok (.goto (-34), 3) := by decide +kernel
theorem dX8_skip_37 : decode prog_10_method_19_code 37 = .ok (.return_, 1) := by decide +kernel
theorem dX8_letter_0 : decode prog_10_method_18_code 0 = .ok (.aload_n 0, 1) := by decide +kernel
theorem dX8_letter_1 : decode prog_10_method_18_code 1 = .ok (.getfield 53, 3) := by decide +kernel
theorem dX8_letter_4 : decode prog_10_method_18_code 4 = .ok (.iconst (-1), 1) := by decide +kernel
theorem dX8_letter_5 : decode prog_10_method_18_code 5 = .ok (.if_icmp .ne 12, 3) := by decide +kernel
theorem dX8_letter_8 : decode prog_10_method_18_code 8 = .ok (.aload_n 0, 1) := by decide +kernel
theorem dX8_letter_9 : decode prog_10_method_18_code 9 = .ok (.getfield 22, 3) := by decide +kernel
theorem dX8_letter_12 : decode prog_10_method_18_code 12 = .ok (.iload_n 1, 1) := by decide +kernel
theorem dX8_letter_13 : decode prog_10_method_18_code 13 = .ok (.iaload, 1) := by decide +kernel
theorem dX8_letter_14 : decode prog_10_method_18_code 14 = .ok (.goto 14, 3) := by decide +kernel
theorem dX8_letter_17 : decode prog_10_method_18_code 17 = .ok (.aload_n 0, 1) := by decide +kernel
theorem dX8_letter_18 : decode prog_10_method_18_code 18 = .ok (.getfield 7, 3) := by decide +kernel
theorem dX8_letter_21 : decode prog_10_method_18_code 21 = .ok (.aload_n 0, 1) := by decide +kernel
theorem dX8_letter_22 : decode prog_10_method_18_code 22 = .ok (.getfield 53, 3) := by decide +kernel
theorem dX8_letter_25 : decode prog_10_method_18_code 25 = .ok (.iload_n 1, 1) := by decide +kernel
theorem dX8_letter_26 : decode prog_10_method_18_code 26 = .ok (.iadd, 1) := by decide +kernel
theorem dX8_letter_27 : decode prog_10_method_18_code 27 = .ok (.iaload, 1) := by decide +kernel
theorem dX8_letter_28 : decode prog_10_method_18_code 28 = .ok (.ireturn, 1) := by decide +kernel
theorem dX8_wrong_0 : decode prog_10_method_22_code 0 = .ok (.aload_n 0, 1) := by decide +kernel
theorem dX8_wrong_1 : decode prog_10_method_22_code 1 = .ok (.getfield 25, 3) := by decide +kernel
theorem dX8_wrong_4 : decode prog_10_method_22_code 4 = .ok (.iconst (-1), 1) := by decide +kernel
theorem dX8_wrong_5 : decode prog_10_method_22_code 5 = .ok (.if_icmp .ne 8, 3) := by decide +kernel
theorem dX8_wrong_8 : decode prog_10_method_22_code 8 = .ok (.aload_n 0, 1) := by decide +kernel
theorem dX8_wrong_9 : decode prog_10_method_22_code 9 = .ok (.iload_n 1, 1) := by decide +kernel
theorem dX8_wrong_10 : decode prog_10_method_22_code 10 = .ok (.putfield 25, 3) := by decide +kernel
theorem dX8_wrong_13 : decode prog_10_method_22_code 13 = .ok (.return_, 1) := by decide +kernel
theorem dX8_lawLine_0 : decode prog_10_method_41_code 0 = .ok (.aload_n 0, 1) := by decide +kernel
theorem dX8_lawLine_1 : decode prog_10_method_41_code 1 = .ok (.ldc 201, 2) := by decide +kernel
theorem dX8_lawLine_3 : decode prog_10_method_41_code 3 = .ok (.invokevirtual 86, 3) := by decide +kernel
theorem dX8_lawLine_6 : decode prog_10_method_41_code 6 = .ok (.ifCond .eq 7, 3) := by decide +kernel
theorem dX8_lawLine_9 : decode prog_10_method_41_code 9 = .ok (.iconst 0, 1) := by decide +kernel
theorem dX8_lawLine_10 : decode prog_10_method_41_code 10 = .ok (.goto 30, 3) := by decide +kernel
theorem dX8_lawLine_13 : decode prog_10_method_41_code 13 = .ok (.aload_n 0, 1) := by decide +kernel
theorem dX8_lawLine_14 : decode prog_10_method_41_code 14 = .ok (.ldc 203, 2) := by decide +kernel
theorem dX8_lawLine_16 : decode prog_10_method_41_code 16 = .ok (.invokevirtual 86, 3) := by decide +kernel
theorem dX8_lawLine_19 : decode prog_10_method_41_code 19 = .ok (.ifCond .eq 7, 3) := by decide +kernel
theorem dX8_lawLine_22 : decode prog_10_method_41_code 22 = .ok (.iconst 1, 1) := by decide +kernel
theorem dX8_lawLine_23 : decode prog_10_method_41_code 23 = .ok (.goto 17, 3) := by decide +kernel
theorem dX8_lawLine_26 : decode prog_10_method_41_code 26 = .ok (.aload_n 0, 1) := by decide +kernel
theorem dX8_lawLine_27 : decode prog_10_method_41_code 27 = .ok (.ldc 118, 2) := by decide +kernel
theorem dX8_lawLine_29 : decode prog_10_method_41_code 29 = .ok (.invokevirtual 86, 3) := by decide +kernel
theorem dX8_lawLine_32 : decode prog_10_method_41_code 32 = .ok (.ifCond .eq 7, 3) := by decide +kernel
theorem dX8_lawLine_35 : decode prog_10_method_41_code 35 = .ok (.iconst 2, 1) := by decide +kernel
theorem dX8_lawLine_36 : decode prog_10_method_41_code 36 = .ok (.goto 4, 3) := by decide +kernel
theorem dX8_lawLine_39 : decode prog_10_method_41_code 39 = .ok (.iconst (-1), 1) := by decide +kernel
theorem dX8_lawLine_40 : decode prog_10_method_41_code 40 = .ok (.istore_n 1, 1) := by decide +kernel
theorem dX8_lawLine_41 : decode prog_10_method_41_code 41 = .ok (.iload_n 1, 1) := by decide +kernel
theorem dX8_lawLine_42 : decode prog_10_method_41_code 42 = .ok (.iconst (-1), 1) := by decide +kernel
theorem dX8_lawLine_43 : decode prog_10_method_41_code 43 = .ok (.if_icmp .ne 12, 3) := by decide +kernel
theorem dX8_lawLine_46 : decode prog_10_method_41_code 46 = .ok (.aload_n 0, 1) := by decide +kernel
theorem dX8_lawLine_47 : decode prog_10_method_41_code 47 = .ok (.aload_n 0, 1) := by decide +kernel
theorem dX8_lawLine_48 : decode prog_10_method_41_code 48 = .ok (.getfield 56, 3) := by decide +kernel
theorem dX8_lawLine_51 : decode prog_10_method_41_code 51 = .ok (.invokevirtual 82, 3) := by decide +kernel
theorem dX8_lawLine_54 : decode prog_10_method_41_code 54 = .ok (.return_, 1) := by decide +kernel
theorem dX8_lawLine_55 : decode prog_10_method_41_code 55 = .ok (.aload_n 0, 1) := by decide +kernel
theorem dX8_lawLine_56 : decode prog_10_method_41_code 56 = .ok (.iconst 0, 1) := by decide +kernel
theorem dX8_lawLine_57 : decode prog_10_method_41_code 57 = .ok (.bipush 20, 2) := by decide +kernel
theorem dX8_lawLine_59 : decode prog_10_method_41_code 59 = .ok (.invokevirtual 90, 3) := by decide +kernel
theorem dX8_lawLine_62 : decode prog_10_method_41_code 62 = .ok (.istore_n 2, 1) := by decide +kernel
theorem dX8_lawLine_63 : decode prog_10_method_41_code 63 = .ok (.aload_n 0, 1) := by decide +kernel
theorem dX8_lawLine_64 : decode prog_10_method_41_code 64 = .ok (.getfield 25, 3) := by decide +kernel
theorem dX8_lawLine_67 : decode prog_10_method_41_code 67 = .ok (.iconst (-1), 1) := by decide +kernel
theorem dX8_lawLine_68 : decode prog_10_method_41_code 68 = .ok (.if_icmp .eq 4, 3) := by decide +kernel
theorem dX8_lawLine_71 : decode prog_10_method_41_code 71 = .ok (.return_, 1) := by decide +kernel
theorem dX8_lawLine_72 : decode prog_10_method_41_code 72 = .ok (.aload_n 0, 1) := by decide +kernel
theorem dX8_lawLine_73 : decode prog_10_method_41_code 73 = .ok (.ldc 205, 2) := by decide +kernel
theorem dX8_lawLine_75 : decode prog_10_method_41_code 75 = .ok (.invokevirtual 86, 3) := by decide +kernel
theorem dX8_lawLine_78 : decode prog_10_method_41_code 78 = .ok (.ifCond .eq 10, 3) := by decide +kernel
theorem dX8_lawLine_81 : decode prog_10_method_41_code 81 = .ok (.aload_n 0, 1) := by decide +kernel
theorem dX8_lawLine_82 : decode prog_10_method_41_code 82 = .ok (.invokevirtual 191, 3) := by decide +kernel
theorem dX8_lawLine_85 : decode prog_10_method_41_code 85 = .ok (.ifCond .eq 7, 3) := by decide +kernel
theorem dX8_lawLine_88 : decode prog_10_method_41_code 88 = .ok (.iconst 1, 1) := by decide +kernel
theorem dX8_lawLine_89 : decode prog_10_method_41_code 89 = .ok (.goto 4, 3) := by decide +kernel
theorem dX8_lawLine_92 : decode prog_10_method_41_code 92 = .ok (.iconst 0, 1) := by decide +kernel
theorem dX8_lawLine_93 : decode prog_10_method_41_code 93 = .ok (.istore_n 3, 1) := by decide +kernel
theorem dX8_lawLine_94 : decode prog_10_method_41_code 94 = .ok (.aload_n 0, 1) := by decide +kernel
theorem dX8_lawLine_95 : decode prog_10_method_41_code 95 = .ok (.getfield 25, 3) := by decide +kernel
theorem dX8_lawLine_98 : decode prog_10_method_41_code 98 = .ok (.iconst (-1), 1) := by decide +kernel
theorem dX8_lawLine_99 : decode prog_10_method_41_code 99 = .ok (.if_icmp .ne 7, 3) := by decide +kernel
theorem dX8_lawLine_102 : decode prog_10_method_41_code 102 = .ok (.iload_n 3, 1) := by decide +kernel
theorem dX8_lawLine_103 : decode prog_10_method_41_code 103 = .ok (.ifCond .ne 4, 3) := by decide +kernel
theorem dX8_lawLine_106 : decode prog_10_method_41_code 106 = .ok (.return_, 1) := by decide +kernel
theorem dX8_lawLine_107 : decode prog_10_method_41_code 107 = .ok (.aload_n 0, 1) := by decide +kernel
theorem dX8_lawLine_108 : decode prog_10_method_41_code 108 = .ok (.dup, 1) := by decide +kernel
theorem dX8_lawLine_109 : decode prog_10_method_41_code 109 = .ok (.getfield 207, 3) := by decide +kernel
theorem dX8_lawLine_112 : decode prog_10_method_41_code 112 = .ok (.iload_n 1, 1) := by decide +kernel
theorem dX8_lawLine_113 : decode prog_10_method_41_code 113 = .ok (.ifCond .ne 7, 3) := by decide +kernel
theorem dX8_lawLine_116 : decode prog_10_method_41_code 116 = .ok (.iload_n 2, 1) := by decide +kernel
theorem dX8_lawLine_117 : decode prog_10_method_41_code 117 = .ok (.goto 4, 3) := by decide +kernel
theorem dX8_lawLine_120 : decode prog_10_method_41_code 120 = .ok (.iconst 0, 1) := by decide +kernel
theorem dX8_lawLine_121 : decode prog_10_method_41_code 121 = .ok (.iadd, 1) := by decide +kernel
theorem dX8_lawLine_122 : decode prog_10_method_41_code 122 = .ok (.putfield 207, 3) := by decide +kernel
theorem dX8_lawLine_125 : decode prog_10_method_41_code 125 = .ok (.aload_n 0, 1) := by decide +kernel
theorem dX8_lawLine_126 : decode prog_10_method_41_code 126 = .ok (.dup, 1) := by decide +kernel
theorem dX8_lawLine_127 : decode prog_10_method_41_code 127 = .ok (.getfield 210, 3) := by decide +kernel
theorem dX8_lawLine_130 : decode prog_10_method_41_code 130 = .ok (.iload_n 1, 1) := by decide +kernel
theorem dX8_lawLine_131 : decode prog_10_method_41_code 131 = .ok (.iconst 1, 1) := by decide +kernel
theorem dX8_lawLine_132 : decode prog_10_method_41_code 132 = .ok (.if_icmp .ne 7, 3) := by decide +kernel
theorem dX8_lawLine_135 : decode prog_10_method_41_code 135 = .ok (.iload_n 2, 1) := by decide +kernel
theorem dX8_lawLine_136 : decode prog_10_method_41_code 136 = .ok (.goto 4, 3) := by decide +kernel
theorem dX8_lawLine_139 : decode prog_10_method_41_code 139 = .ok (.iconst 0, 1) := by decide +kernel
theorem dX8_lawLine_140 : decode prog_10_method_41_code 140 = .ok (.iadd, 1) := by decide +kernel
theorem dX8_lawLine_141 : decode prog_10_method_41_code 141 = .ok (.putfield 210, 3) := by decide +kernel
theorem dX8_lawLine_144 : decode prog_10_method_41_code 144 = .ok (.aload_n 0, 1) := by decide +kernel
theorem dX8_lawLine_145 : decode prog_10_method_41_code 145 = .ok (.dup, 1) := by decide +kernel
theorem dX8_lawLine_146 : decode prog_10_method_41_code 146 = .ok (.getfield 213, 3) := by decide +kernel
theorem dX8_lawLine_149 : decode prog_10_method_41_code 149 = .ok (.iload_n 1, 1) := by decide +kernel
theorem dX8_lawLine_150 : decode prog_10_method_41_code 150 = .ok (.iconst 2, 1) := by decide +kernel
theorem dX8_lawLine_151 : decode prog_10_method_41_code 151 = .ok (.if_icmp .ne 7, 3) := by decide +kernel
theorem dX8_lawLine_154 : decode prog_10_method_41_code 154 = .ok (.iload_n 2, 1) := by decide +kernel
theorem dX8_lawLine_155 : decode prog_10_method_41_code 155 = .ok (.goto 4, 3) := by decide +kernel
theorem dX8_lawLine_158 : decode prog_10_method_41_code 158 = .ok (.iconst 0, 1) := by decide +kernel
theorem dX8_lawLine_159 : decode prog_10_method_41_code 159 = .ok (.iadd, 1) := by decide +kernel
theorem dX8_lawLine_160 : decode prog_10_method_41_code 160 = .ok (.putfield 213, 3) := by decide +kernel
theorem dX8_lawLine_163 : decode prog_10_method_41_code 163 = .ok (.return_, 1) := by decide +kernel
theorem dX8_has_0 : decode prog_10_method_21_code 0 = .ok (.aload_n 0, 1) := by decide +kernel
theorem dX8_has_1 : decode prog_10_method_21_code 1 = .ok (.invokevirtual 66, 3) := by decide +kernel
theorem dX8_has_4 : decode prog_10_method_21_code 4 = .ok (.aload_n 0, 1) := by decide +kernel
theorem dX8_has_5 : decode prog_10_method_21_code 5 = .ok (.getfield 56, 3) := by decide +kernel
theorem dX8_has_8 : decode prog_10_method_21_code 8 = .ok (.istore_n 2, 1) := by decide +kernel
theorem dX8_has_9 : decode prog_10_method_21_code 9 = .ok (.iload_n 2, 1) := by decide +kernel
theorem dX8_has_10 : decode prog_10_method_21_code 10 = .ok (.aload_n 0, 1) := by decide +kernel
theorem dX8_has_11 : decode prog_10_method_21_code 11 = .ok (.getfield 59, 3) := by decide +kernel
theorem dX8_has_14 : decode prog_10_method_21_code 14 = .ok (.if_icmp .ge 24, 3) := by decide +kernel
theorem dX8_has_17 : decode prog_10_method_21_code 17 = .ok (.aload_n 0, 1) := by decide +kernel
theorem dX8_has_18 : decode prog_10_method_21_code 18 = .ok (.iload_n 2, 1) := by decide +kernel
theorem dX8_has_19 : decode prog_10_method_21_code 19 = .ok (.invokevirtual 62, 3) := by decide +kernel
theorem dX8_has_22 : decode prog_10_method_21_code 22 = .ok (.bipush 97, 2) := by decide +kernel
theorem dX8_has_24 : decode prog_10_method_21_code 24 = .ok (.bipush 122, 2) := by decide +kernel
theorem dX8_has_26 : decode prog_10_method_21_code 26 = .ok (.invokestatic 42, 3) := by decide +kernel
theorem dX8_has_29 : decode prog_10_method_21_code 29 = .ok (.ifCond .eq 9, 3) := by decide +kernel
theorem dX8_has_32 : decode prog_10_method_21_code 32 = .ok (.iinc 2 1, 3) := by decide +kernel
theorem dX8_has_35 : decode prog_10_method_21_code 35 = .ok (.goto (-26), 3) := by decide +kernel
theorem dX8_has_38 : decode prog_10_method_21_code 38 = .ok (.iload_n 2, 1) := by decide +kernel
theorem dX8_has_39 : decode prog_10_method_21_code 39 = .ok (.aload_n 0, 1) := by decide +kernel
theorem dX8_has_40 : decode prog_10_method_21_code 40 = .ok (.getfield 56, 3) := by decide +kernel
theorem dX8_has_43 : decode prog_10_method_21_code 43 = .ok (.isub, 1) := by decide +kernel
theorem dX8_has_44 : decode prog_10_method_21_code 44 = .ok (.aload_n 1, 1) := by decide +kernel
theorem dX8_has_45 : decode prog_10_method_21_code 45 = .ok (.invokevirtual 69, 3) := by decide +kernel
theorem dX8_has_48 : decode prog_10_method_21_code 48 = .ok (.if_icmp .eq 5, 3) := by decide +kernel
theorem dX8_has_51 : decode prog_10_method_21_code 51 = .ok (.iconst 0, 1) := by decide +kernel
theorem dX8_has_52 : decode prog_10_method_21_code 52 = .ok (.ireturn, 1) := by decide +kernel
theorem dX8_has_53 : decode prog_10_method_21_code 53 = .ok (.iconst 0, 1) := by decide +kernel
theorem dX8_has_54 : decode prog_10_method_21_code 54 = .ok (.istore_n 3, 1) := by decide +kernel
theorem dX8_has_55 : decode prog_10_method_21_code 55 = .ok (.iload_n 3, 1) := by decide +kernel
theorem dX8_has_56 : decode prog_10_method_21_code 56 = .ok (.aload_n 1, 1) := by decide +kernel
theorem dX8_has_57 : decode prog_10_method_21_code 57 = .ok (.invokevirtual 69, 3) := by decide +kernel
theorem dX8_has_60 : decode prog_10_method_21_code 60 = .ok (.if_icmp .ge 29, 3) := by decide +kernel
theorem dX8_has_63 : decode prog_10_method_21_code 63 = .ok (.aload_n 0, 1) := by decide +kernel
theorem dX8_has_64 : decode prog_10_method_21_code 64 = .ok (.aload_n 0, 1) := by decide +kernel
theorem dX8_has_65 : decode prog_10_method_21_code 65 = .ok (.getfield 56, 3) := by decide +kernel
theorem dX8_has_68 : decode prog_10_method_21_code 68 = .ok (.iload_n 3, 1) := by decide +kernel
theorem dX8_has_69 : decode prog_10_method_21_code 69 = .ok (.iadd, 1) := by decide +kernel
theorem dX8_has_70 : decode prog_10_method_21_code 70 = .ok (.invokevirtual 62, 3) := by decide +kernel
theorem dX8_has_73 : decode prog_10_method_21_code 73 = .ok (.aload_n 1, 1) := by decide +kernel
theorem dX8_has_74 : decode prog_10_method_21_code 74 = .ok (.iload_n 3, 1) := by decide +kernel
theorem dX8_has_75 : decode prog_10_method_21_code 75 = .ok (.invokevirtual 75, 3) := by decide +kernel
theorem dX8_has_78 : decode prog_10_method_21_code 78 = .ok (.if_icmp .eq 5, 3) := by decide +kernel
theorem dX8_has_81 : decode prog_10_method_21_code 81 = .ok (.iconst 0, 1) := by decide +kernel
theorem dX8_has_82 : decode prog_10_method_21_code 82 = .ok (.ireturn, 1) := by decide +kernel
theorem dX8_has_83 : decode prog_10_method_21_code 83 = .ok (.iinc 3 1, 3) := by decide +kernel
theorem dX8_has_86 : decode prog_10_method_21_code 86 = .ok (.goto (-31), 3) := by decide +kernel
theorem dX8_has_89 : decode prog_10_method_21_code 89 = .ok (.aload_n 0, 1) := by decide +kernel
theorem dX8_has_90 : decode prog_10_method_21_code 90 = .ok (.iload_n 2, 1) := by decide +kernel
theorem dX8_has_91 : decode prog_10_method_21_code 91 = .ok (.putfield 56, 3) := by decide +kernel
theorem dX8_has_94 : decode prog_10_method_21_code 94 = .ok (.iconst 1, 1) := by decide +kernel
theorem dX8_has_95 : decode prog_10_method_21_code 95 = .ok (.ireturn, 1) := by decide +kernel
theorem dX8_figures_0 : decode prog_10_method_24_code 0 = .ok (.aload_n 0, 1) := by decide +kernel
theorem dX8_figures_1 : decode prog_10_method_24_code 1 = .ok (.getfield 25, 3) := by decide +kernel
theorem dX8_figures_4 : decode prog_10_method_24_code 4 = .ok (.iconst (-1), 1) := by decide +kernel
theorem dX8_figures_5 : decode prog_10_method_24_code 5 = .ok (.if_icmp .eq 5, 3) := by decide +kernel
theorem dX8_figures_8 : decode prog_10_method_24_code 8 = .ok (.iconst 0, 1) := by decide +kernel
theorem dX8_figures_9 : decode prog_10_method_24_code 9 = .ok (.ireturn, 1) := by decide +kernel
theorem dX8_figures_10 : decode prog_10_method_24_code 10 = .ok (.aload_n 0, 1) := by decide +kernel
theorem dX8_figures_11 : decode prog_10_method_24_code 11 = .ok (.invokevirtual 79, 3) := by decide +kernel
theorem dX8_figures_14 : decode prog_10_method_24_code 14 = .ok (.istore_n 3, 1) := by decide +kernel
theorem dX8_figures_15 : decode prog_10_method_24_code 15 = .ok (.iconst 0, 1) := by decide +kernel
theorem dX8_figures_16 : decode prog_10_method_24_code 16 = .ok (.istore 4, 2) := by decide +kernel
theorem dX8_figures_18 : decode prog_10_method_24_code 18 = .ok (.aload_n 0, 1) := by decide +kernel
theorem dX8_figures_19 : decode prog_10_method_24_code 19 = .ok (.getfield 56, 3) := by decide +kernel
theorem dX8_figures_22 : decode prog_10_method_24_code 22 = .ok (.aload_n 0, 1) := by decide +kernel
theorem dX8_figures_23 : decode prog_10_method_24_code 23 = .ok (.getfield 59, 3) := by decide +kernel
theorem dX8_figures_26 : decode prog_10_method_24_code 26 = .ok (.if_icmp .ge 63, 3) := by decide +kernel
theorem dX8_figures_29 : decode prog_10_method_24_code 29 = .ok (.aload_n 0, 1) := by decide +kernel
theorem dX8_figures_30 : decode prog_10_method_24_code 30 = .ok (.aload_n 0, 1) := by decide +kernel
theorem dX8_figures_31 : decode prog_10_method_24_code 31 = .ok (.getfield 56, 3) := by decide +kernel
theorem dX8_figures_34 : decode prog_10_method_24_code 34 = .ok (.invokevirtual 62, 3) := by decide +kernel
theorem dX8_figures_37 : decode prog_10_method_24_code 37 = .ok (.bipush 48, 2) := by decide +kernel
theorem dX8_figures_39 : decode prog_10_method_24_code 39 = .ok (.bipush 57, 2) := by decide +kernel
theorem dX8_figures_41 : decode prog_10_method_24_code 41 = .ok (.invokestatic 42, 3) := by decide +kernel
theorem dX8_figures_44 : decode prog_10_method_24_code 44 = .ok (.ifCond .eq 45, 3) := by decide +kernel
theorem dX8_figures_47 : decode prog_10_method_24_code 47 = .ok (.aload_n 0, 1) := by decide +kernel
theorem dX8_figures_48 : decode prog_10_method_24_code 48 = .ok (.getfield 56, 3) := by decide +kernel
theorem dX8_figures_51 : decode prog_10_method_24_code 51 = .ok (.iload_n 3, 1) := by decide +kernel
theorem dX8_figures_52 : decode prog_10_method_24_code 52 = .ok (.isub, 1) := by decide +kernel
theorem dX8_figures_53 : decode prog_10_method_24_code 53 = .ok (.iconst 3, 1) := by decide +kernel
theorem dX8_figures_54 : decode prog_10_method_24_code 54 = .ok (.if_icmp .gt 35, 3) := by decide +kernel
theorem dX8_figures_57 : decode prog_10_method_24_code 57 = .ok (.bipush 10, 2) := by decide +kernel
theorem dX8_figures_59 : decode prog_10_method_24_code 59 = .ok (.iload 4, 2) := by decide +kernel
theorem dX8_figures_61 : decode prog_10_method_24_code 61 = .ok (.imul, 1) := by decide +kernel
theorem dX8_figures_62 : decode prog_10_method_24_code 62 = .ok (.aload_n 0, 1) := by decide +kernel
theorem dX8_figures_63 : decode prog_10_method_24_code 63 = .ok (.aload_n 0, 1) := by decide +kernel
theorem dX8_figures_64 : decode prog_10_method_24_code 64 = .ok (.getfield 56, 3) := by decide +kernel
theorem dX8_figures_67 : decode prog_10_method_24_code 67 = .ok (.invokevirtual 62, 3) := by decide +kernel
theorem dX8_figures_70 : decode prog_10_method_24_code 70 = .ok (.iadd, 1) := by decide +kernel
theorem dX8_figures_71 : decode prog_10_method_24_code 71 = .ok (.bipush 48, 2) := by decide +kernel
theorem dX8_figures_73 : decode prog_10_method_24_code 73 = .ok (.isub, 1) := by decide +kernel
theorem dX8_figures_74 : decode prog_10_method_24_code 74 = .ok (.istore 4, 2) := by decide +kernel
theorem dX8_figures_76 : decode prog_10_method_24_code 76 = .ok (.aload_n 0, 1) := by decide +kernel
theorem dX8_figures_77 : decode prog_10_method_24_code 77 = .ok (.dup, 1) := by decide +kernel
theorem dX8_figures_78 : decode prog_10_method_24_code 78 = .ok (.getfield 56, 3) := by decide +kernel
theorem dX8_figures_81 : decode prog_10_method_24_code 81 = .ok (.iconst 1, 1) := by decide +kernel
theorem dX8_figures_82 : decode prog_10_method_24_code 82 = .ok (.iadd, 1) := by decide +kernel
theorem dX8_figures_83 : decode prog_10_method_24_code 83 = .ok (.putfield 56, 3) := by decide +kernel
theorem dX8_figures_86 : decode prog_10_method_24_code 86 = .ok (.goto (-68), 3) := by decide +kernel
theorem dX8_figures_89 : decode prog_10_method_24_code 89 = .ok (.aload_n 0, 1) := by decide +kernel
theorem dX8_figures_90 : decode prog_10_method_24_code 90 = .ok (.getfield 56, 3) := by decide +kernel
theorem dX8_figures_93 : decode prog_10_method_24_code 93 = .ok (.iload_n 3, 1) := by decide +kernel
theorem dX8_figures_94 : decode prog_10_method_24_code 94 = .ok (.if_icmp .eq 25, 3) := by decide +kernel
theorem dX8_figures_97 : decode prog_10_method_24_code 97 = .ok (.aload_n 0, 1) := by decide +kernel
theorem dX8_figures_98 : decode prog_10_method_24_code 98 = .ok (.getfield 56, 3) := by decide +kernel
theorem dX8_figures_101 : decode prog_10_method_24_code 101 = .ok (.iload_n 3, 1) := by decide +kernel
theorem dX8_figures_102 : decode prog_10_method_24_code 102 = .ok (.isub, 1) := by decide +kernel
theorem dX8_figures_103 : decode prog_10_method_24_code 103 = .ok (.iconst 3, 1) := by decide +kernel
theorem dX8_figures_104 : decode prog_10_method_24_code 104 = .ok (.if_icmp .gt 15, 3) := by decide +kernel
theorem dX8_figures_107 : decode prog_10_method_24_code 107 = .ok (.iload 4, 2) := by decide +kernel
theorem dX8_figures_109 : decode prog_10_method_24_code 109 = .ok (.iload_n 1, 1) := by decide +kernel
theorem dX8_figures_110 : decode prog_10_method_24_code 110 = .ok (.if_icmp .lt 9, 3) := by decide +kernel
theorem dX8_figures_113 : decode prog_10_method_24_code 113 = .ok (.iload 4, 2) := by decide +kernel
theorem dX8_figures_115 : decode prog_10_method_24_code 115 = .ok (.iload_n 2, 1) := by decide +kernel
theorem dX8_figures_116 : decode prog_10_method_24_code 116 = .ok (.if_icmp .le 8, 3) := by decide +kernel
theorem dX8_figures_119 : decode prog_10_method_24_code 119 = .ok (.aload_n 0, 1) := by decide +kernel
theorem dX8_figures_120 : decode prog_10_method_24_code 120 = .ok (.iload_n 3, 1) := by decide +kernel
theorem dX8_figures_121 : decode prog_10_method_24_code 121 = .ok (.invokevirtual 82, 3) := by decide +kernel
theorem dX8_figures_124 : decode prog_10_method_24_code 124 = .ok (.iload 4, 2) := by decide +kernel
theorem dX8_figures_126 : decode prog_10_method_24_code 126 = .ok (.ireturn, 1) := by decide +kernel
theorem dX8_place_0 : decode prog_10_method_23_code 0 = .ok (.aload_n 0, 1) := by decide +kernel
theorem dX8_place_1 : decode prog_10_method_23_code 1 = .ok (.invokevirtual 66, 3) := by decide +kernel
theorem dX8_place_4 : decode prog_10_method_23_code 4 = .ok (.aload_n 0, 1) := by decide +kernel
theorem dX8_place_5 : decode prog_10_method_23_code 5 = .ok (.getfield 56, 3) := by decide +kernel
theorem dX8_place_8 : decode prog_10_method_23_code 8 = .ok (.ireturn, 1) := by decide +kernel
theorem dX8_some_0 : decode prog_10_method_40_code 0 = .ok (.aload_n 0, 1) := by decide +kernel
theorem dX8_some_1 : decode prog_10_method_40_code 1 = .ok (.invokevirtual 196, 3) := by decide +kernel
theorem dX8_some_4 : decode prog_10_method_40_code 4 = .ok (.istore_n 1, 1) := by decide +kernel
theorem dX8_some_5 : decode prog_10_method_40_code 5 = .ok (.aload_n 0, 1) := by decide +kernel
theorem dX8_some_6 : decode prog_10_method_40_code 6 = .ok (.getfield 25, 3) := by decide +kernel
theorem dX8_some_9 : decode prog_10_method_40_code 9 = .ok (.iconst (-1), 1) := by decide +kernel
theorem dX8_some_10 : decode prog_10_method_40_code 10 = .ok (.if_icmp .ne 34, 3) := by decide +kernel
theorem dX8_some_13 : decode prog_10_method_40_code 13 = .ok (.aload_n 0, 1) := by decide +kernel
theorem dX8_some_14 : decode prog_10_method_40_code 14 = .ok (.ldc 199, 2) := by decide +kernel
theorem dX8_some_16 : decode prog_10_method_40_code 16 = .ok (.invokevirtual 86, 3) := by decide +kernel
theorem dX8_some_19 : decode prog_10_method_40_code 19 = .ok (.ifCond .eq 25, 3) := by decide +kernel
theorem dX8_some_22 : decode prog_10_method_40_code 22 = .ok (.aload_n 0, 1) := by decide +kernel
theorem dX8_some_23 : decode prog_10_method_40_code 23 = .ok (.invokevirtual 196, 3) := by decide +kernel
theorem dX8_some_26 : decode prog_10_method_40_code 26 = .ok (.istore_n 2, 1) := by decide +kernel
theorem dX8_some_27 : decode prog_10_method_40_code 27 = .ok (.iload_n 1, 1) := by decide +kernel
theorem dX8_some_28 : decode prog_10_method_40_code 28 = .ok (.ifCond .ne 7, 3) := by decide +kernel
theorem dX8_some_31 : decode prog_10_method_40_code 31 = .ok (.iload_n 2, 1) := by decide +kernel
theorem dX8_some_32 : decode prog_10_method_40_code 32 = .ok (.ifCond .eq 7, 3) := by decide +kernel
theorem dX8_some_35 : decode prog_10_method_40_code 35 = .ok (.iconst 1, 1) := by decide +kernel
theorem dX8_some_36 : decode prog_10_method_40_code 36 = .ok (.goto 4, 3) := by decide +kernel
theorem dX8_some_39 : decode prog_10_method_40_code 39 = .ok (.iconst 0, 1) := by decide +kernel
theorem dX8_some_40 : decode prog_10_method_40_code 40 = .ok (.istore_n 1, 1) := by decide +kernel
theorem dX8_some_41 : decode prog_10_method_40_code 41 = .ok (.goto (-36), 3) := by decide +kernel
theorem dX8_some_44 : decode prog_10_method_40_code 44 = .ok (.iload_n 1, 1) := by decide +kernel
theorem dX8_some_45 : decode prog_10_method_40_code 45 = .ok (.ireturn, 1) := by decide +kernel
theorem dX8_every_0 : decode prog_10_method_39_code 0 = .ok (.aload_n 0, 1) := by decide +kernel
theorem dX8_every_1 : decode prog_10_method_39_code 1 = .ok (.invokevirtual 188, 3) := by decide +kernel
theorem dX8_every_4 : decode prog_10_method_39_code 4 = .ok (.istore_n 1, 1) := by decide +kernel
theorem dX8_every_5 : decode prog_10_method_39_code 5 = .ok (.aload_n 0, 1) := by decide +kernel
theorem dX8_every_6 : decode prog_10_method_39_code 6 = .ok (.getfield 25, 3) := by decide +kernel
theorem dX8_every_9 : decode prog_10_method_39_code 9 = .ok (.iconst (-1), 1) := by decide +kernel
theorem dX8_every_10 : decode prog_10_method_39_code 10 = .ok (.if_icmp .ne 34, 3) := by decide +kernel
theorem dX8_every_13 : decode prog_10_method_39_code 13 = .ok (.aload_n 0, 1) := by decide +kernel
theorem dX8_every_14 : decode prog_10_method_39_code 14 = .ok (.ldc 194, 2) := by decide +kernel
theorem dX8_every_16 : decode prog_10_method_39_code 16 = .ok (.invokevirtual 86, 3) := by decide +kernel
theorem dX8_every_19 : decode prog_10_method_39_code 19 = .ok (.ifCond .eq 25, 3) := by decide +kernel
theorem dX8_every_22 : decode prog_10_method_39_code 22 = .ok (.aload_n 0, 1) := by decide +kernel
theorem dX8_every_23 : decode prog_10_method_39_code 23 = .ok (.invokevirtual 188, 3) := by decide +kernel
theorem dX8_every_26 : decode prog_10_method_39_code 26 = .ok (.istore_n 2, 1) := by decide +kernel
theorem dX8_every_27 : decode prog_10_method_39_code 27 = .ok (.iload_n 1, 1) := by decide +kernel
theorem dX8_every_28 : decode prog_10_method_39_code 28 = .ok (.ifCond .eq 11, 3) := by decide +kernel
theorem dX8_every_31 : decode prog_10_method_39_code 31 = .ok (.iload_n 2, 1) := by decide +kernel
theorem dX8_every_32 : decode prog_10_method_39_code 32 = .ok (.ifCond .eq 7, 3) := by decide +kernel
theorem dX8_every_35 : decode prog_10_method_39_code 35 = .ok (.iconst 1, 1) := by decide +kernel
theorem dX8_every_36 : decode prog_10_method_39_code 36 = .ok (.goto 4, 3) := by decide +kernel
theorem dX8_every_39 : decode prog_10_method_39_code 39 = .ok (.iconst 0, 1) := by decide +kernel
theorem dX8_every_40 : decode prog_10_method_39_code 40 = .ok (.istore_n 1, 1) := by decide +kernel
theorem dX8_every_41 : decode prog_10_method_39_code 41 = .ok (.goto (-36), 3) := by decide +kernel
theorem dX8_every_44 : decode prog_10_method_39_code 44 = .ok (.iload_n 1, 1) := by decide +kernel
theorem dX8_every_45 : decode prog_10_method_39_code 45 = .ok (.ireturn, 1) := by decide +kernel
theorem dX8_atom_0 : decode prog_10_method_38_code 0 = .ok (.aload_n 0, 1) := by decide +kernel
theorem dX8_atom_1 : decode prog_10_method_38_code 1 = .ok (.getfield 25, 3) := by decide +kernel
theorem dX8_atom_4 : decode prog_10_method_38_code 4 = .ok (.iconst (-1), 1) := by decide +kernel
theorem dX8_atom_5 : decode prog_10_method_38_code 5 = .ok (.if_icmp .eq 5, 3) := by decide +kernel
theorem dX8_atom_8 : decode prog_10_method_38_code 8 = .ok (.iconst 0, 1) := by decide +kernel
theorem dX8_atom_9 : decode prog_10_method_38_code 9 = .ok (.ireturn, 1) := by decide +kernel
theorem dX8_atom_10 : decode prog_10_method_38_code 10 = .ok (.aload_n 0, 1) := by decide +kernel
theorem dX8_atom_11 : decode prog_10_method_38_code 11 = .ok (.invokevirtual 79, 3) := by decide +kernel
theorem dX8_atom_14 : decode prog_10_method_38_code 14 = .ok (.istore_n 1, 1) := by decide +kernel
theorem dX8_atom_15 : decode prog_10_method_38_code 15 = .ok (.aload_n 0, 1) := by decide +kernel
theorem dX8_atom_16 : decode prog_10_method_38_code 16 = .ok (.ldc 182, 2) := by decide +kernel
theorem dX8_atom_18 : decode prog_10_method_38_code 18 = .ok (.invokevirtual 86, 3) := by decide +kernel
theorem dX8_atom_21 : decode prog_10_method_38_code 21 = .ok (.istore_n 2, 1) := by decide +kernel
theorem dX8_atom_22 : decode prog_10_method_38_code 22 = .ok (.iload_n 2, 1) := by decide +kernel
theorem dX8_atom_23 : decode prog_10_method_38_code 23 = .ok (.ifCond .ne 17, 3) := by decide +kernel
theorem dX8_atom_26 : decode prog_10_method_38_code 26 = .ok (.aload_n 0, 1) := by decide +kernel
theorem dX8_atom_27 : decode prog_10_method_38_code 27 = .ok (.bipush 40, 2) := by decide +kernel
theorem dX8_atom_29 : decode prog_10_method_38_code 29 = .ok (.invokevirtual 141, 3) := by decide +kernel
theorem dX8_atom_32 : decode prog_10_method_38_code 32 = .ok (.ifCond .ne 8, 3) := by decide +kernel
theorem dX8_atom_35 : decode prog_10_method_38_code 35 = .ok (.aload_n 0, 1) := by decide +kernel
theorem dX8_atom_36 : decode prog_10_method_38_code 36 = .ok (.invokevirtual 184, 3) := by decide +kernel
theorem dX8_atom_39 : decode prog_10_method_38_code 39 = .ok (.ireturn, 1) := by decide +kernel
theorem dX8_atom_40 : decode prog_10_method_38_code 40 = .ok (.aload_n 0, 1) := by decide +kernel
theorem dX8_atom_41 : decode prog_10_method_38_code 41 = .ok (.getfield 132, 3) := by decide +kernel
theorem dX8_atom_44 : decode prog_10_method_38_code 44 = .ok (.bipush 6, 2) := by decide +kernel
theorem dX8_atom_46 : decode prog_10_method_38_code 46 = .ok (.if_icmp .ne 10, 3) := by decide +kernel
theorem dX8_atom_49 : decode prog_10_method_38_code 49 = .ok (.aload_n 0, 1) := by decide +kernel
theorem dX8_atom_50 : decode prog_10_method_38_code 50 = .ok (.iload_n 1, 1) := by decide +kernel
theorem dX8_atom_51 : decode prog_10_method_38_code 51 = .ok (.invokevirtual 82, 3) := by decide +kernel
theorem dX8_atom_54 : decode prog_10_method_38_code 54 = .ok (.iconst 0, 1) := by decide +kernel
theorem dX8_atom_55 : decode prog_10_method_38_code 55 = .ok (.ireturn, 1) := by decide +kernel
theorem dX8_atom_56 : decode prog_10_method_38_code 56 = .ok (.aload_n 0, 1) := by decide +kernel
theorem dX8_atom_57 : decode prog_10_method_38_code 57 = .ok (.dup, 1) := by decide +kernel
theorem dX8_atom_58 : decode prog_10_method_38_code 58 = .ok (.getfield 132, 3) := by decide +kernel
theorem dX8_atom_61 : decode prog_10_method_38_code 61 = .ok (.iconst 1, 1) := by decide +kernel
theorem dX8_atom_62 : decode prog_10_method_38_code 62 = .ok (.iadd, 1) := by decide +kernel
theorem dX8_atom_63 : decode prog_10_method_38_code 63 = .ok (.putfield 132, 3) := by decide +kernel
theorem dX8_atom_66 : decode prog_10_method_38_code 66 = .ok (.iconst 0, 1) := by decide +kernel
theorem dX8_atom_67 : decode prog_10_method_38_code 67 = .ok (.istore_n 3, 1) := by decide +kernel
theorem dX8_atom_68 : decode prog_10_method_38_code 68 = .ok (.iload_n 2, 1) := by decide +kernel
theorem dX8_atom_69 : decode prog_10_method_38_code 69 = .ok (.ifCond .eq 19, 3) := by decide +kernel
theorem dX8_atom_72 : decode prog_10_method_38_code 72 = .ok (.aload_n 0, 1) := by decide +kernel
theorem dX8_atom_73 : decode prog_10_method_38_code 73 = .ok (.invokevirtual 188, 3) := by decide +kernel
theorem dX8_atom_76 : decode prog_10_method_38_code 76 = .ok (.ifCond .ne 7, 3) := by decide +kernel
theorem dX8_atom_79 : decode prog_10_method_38_code 79 = .ok (.iconst 1, 1) := by decide +kernel
theorem dX8_atom_80 : decode prog_10_method_38_code 80 = .ok (.goto 4, 3) := by decide +kernel
theorem dX8_atom_83 : decode prog_10_method_38_code 83 = .ok (.iconst 0, 1) := by decide +kernel
theorem dX8_atom_84 : decode prog_10_method_38_code 84 = .ok (.istore_n 3, 1) := by decide +kernel
theorem dX8_atom_85 : decode prog_10_method_38_code 85 = .ok (.goto 53, 3) := by decide +kernel
theorem dX8_atom_88 : decode prog_10_method_38_code 88 = .ok (.aload_n 0, 1) := by decide +kernel
theorem dX8_atom_89 : decode prog_10_method_38_code 89 = .ok (.dup, 1) := by decide +kernel
theorem dX8_atom_90 : decode prog_10_method_38_code 90 = .ok (.getfield 56, 3) := by decide +kernel
theorem dX8_atom_93 : decode prog_10_method_38_code 93 = .ok (.iconst 1, 1) := by decide +kernel
theorem dX8_atom_94 : decode prog_10_method_38_code 94 = .ok (.iadd, 1) := by decide +kernel
theorem dX8_atom_95 : decode prog_10_method_38_code 95 = .ok (.putfield 56, 3) := by decide +kernel
theorem dX8_atom_98 : decode prog_10_method_38_code 98 = .ok (.aload_n 0, 1) := by decide +kernel
theorem dX8_atom_99 : decode prog_10_method_38_code 99 = .ok (.invokevirtual 191, 3) := by decide +kernel
theorem dX8_atom_102 : decode prog_10_method_38_code 102 = .ok (.istore_n 3, 1) := by decide +kernel
theorem dX8_atom_103 : decode prog_10_method_38_code 103 = .ok (.aload_n 0, 1) := by decide +kernel
theorem dX8_atom_104 : decode prog_10_method_38_code 104 = .ok (.getfield 25, 3) := by decide +kernel
theorem dX8_atom_107 : decode prog_10_method_38_code 107 = .ok (.iconst (-1), 1) := by decide +kernel
theorem dX8_atom_108 : decode prog_10_method_38_code 108 = .ok (.if_icmp .ne 20, 3) := by decide +kernel
theorem dX8_atom_111 : decode prog_10_method_38_code 111 = .ok (.aload_n 0, 1) := by decide +kernel
theorem dX8_atom_112 : decode prog_10_method_38_code 112 = .ok (.bipush 41, 2) := by decide +kernel
theorem dX8_atom_114 : decode prog_10_method_38_code 114 = .ok (.invokevirtual 141, 3) := by decide +kernel
theorem dX8_atom_117 : decode prog_10_method_38_code 117 = .ok (.ifCond .ne 11, 3) := by decide +kernel
theorem dX8_atom_120 : decode prog_10_method_38_code 120 = .ok (.aload_n 0, 1) := by decide +kernel
theorem dX8_atom_121 : decode prog_10_method_38_code 121 = .ok (.aload_n 0, 1) := by decide +kernel
theorem dX8_atom_122 : decode prog_10_method_38_code 122 = .ok (.getfield 56, 3) := by decide +kernel
theorem dX8_atom_125 : decode prog_10_method_38_code 125 = .ok (.invokevirtual 82, 3) := by decide +kernel
theorem dX8_atom_128 : decode prog_10_method_38_code 128 = .ok (.aload_n 0, 1) := by decide +kernel
theorem dX8_atom_129 : decode prog_10_method_38_code 129 = .ok (.dup, 1) := by decide +kernel
theorem dX8_atom_130 : decode prog_10_method_38_code 130 = .ok (.getfield 56, 3) := by decide +kernel
theorem dX8_atom_133 : decode prog_10_method_38_code 133 = .ok (.iconst 1, 1) := by decide +kernel
theorem dX8_atom_134 : decode prog_10_method_38_code 134 = .ok (.iadd, 1) := by decide +kernel
theorem dX8_atom_135 : decode prog_10_method_38_code 135 = .ok (.putfield 56, 3) := by decide +kernel
theorem dX8_atom_138 : decode prog_10_method_38_code 138 = .ok (.aload_n 0, 1) := by decide +kernel
theorem dX8_atom_139 : decode prog_10_method_38_code 139 = .ok (.dup, 1) := by decide +kernel
theorem dX8_atom_140 : decode prog_10_method_38_code 140 = .ok (.getfield 132, 3) := by decide +kernel
theorem dX8_atom_143 : decode prog_10_method_38_code 143 = .ok (.iconst 1, 1) := by decide +kernel
theorem dX8_atom_144 : decode prog_10_method_38_code 144 = .ok (.isub, 1) := by decide +kernel
theorem dX8_atom_145 : decode prog_10_method_38_code 145 = .ok (.putfield 132, 3) := by decide +kernel
theorem dX8_atom_148 : decode prog_10_method_38_code 148 = .ok (.iload_n 3, 1) := by decide +kernel
theorem dX8_atom_149 : decode prog_10_method_38_code 149 = .ok (.ireturn, 1) := by decide +kernel
theorem dX8_isSign_0 : decode prog_10_method_20_code 0 = .ok (.aload_n 0, 1) := by decide +kernel
theorem dX8_isSign_1 : decode prog_10_method_20_code 1 = .ok (.invokevirtual 66, 3) := by decide +kernel
theorem dX8_isSign_4 : decode prog_10_method_20_code 4 = .ok (.aload_n 0, 1) := by decide +kernel
theorem dX8_isSign_5 : decode prog_10_method_20_code 5 = .ok (.getfield 56, 3) := by decide +kernel
theorem dX8_isSign_8 : decode prog_10_method_20_code 8 = .ok (.aload_n 0, 1) := by decide +kernel
theorem dX8_isSign_9 : decode prog_10_method_20_code 9 = .ok (.getfield 59, 3) := by decide +kernel
theorem dX8_isSign_12 : decode prog_10_method_20_code 12 = .ok (.if_icmp .ge 19, 3) := by decide +kernel
theorem dX8_isSign_15 : decode prog_10_method_20_code 15 = .ok (.aload_n 0, 1) := by decide +kernel
theorem dX8_isSign_16 : decode prog_10_method_20_code 16 = .ok (.aload_n 0, 1) := by decide +kernel
theorem dX8_isSign_17 : decode prog_10_method_20_code 17 = .ok (.getfield 56, 3) := by decide +kernel
theorem dX8_isSign_20 : decode prog_10_method_20_code 20 = .ok (.invokevirtual 62, 3) := by decide +kernel
theorem dX8_isSign_23 : decode prog_10_method_20_code 23 = .ok (.iload_n 1, 1) := by decide +kernel
theorem dX8_isSign_24 : decode prog_10_method_20_code 24 = .ok (.if_icmp .ne 7, 3) := by decide +kernel
theorem dX8_isSign_27 : decode prog_10_method_20_code 27 = .ok (.iconst 1, 1) := by decide +kernel
theorem dX8_isSign_28 : decode prog_10_method_20_code 28 = .ok (.goto 4, 3) := by decide +kernel
theorem dX8_isSign_31 : decode prog_10_method_20_code 31 = .ok (.iconst 0, 1) := by decide +kernel
theorem dX8_isSign_32 : decode prog_10_method_20_code 32 = .ok (.ireturn, 1) := by decide +kernel
theorem dX8_plain_0 : decode prog_10_method_37_code 0 = .ok (.aload_n 0, 1) := by decide +kernel
theorem dX8_plain_1 : decode prog_10_method_37_code 1 = .ok (.ldc 170, 2) := by decide +kernel
theorem dX8_plain_3 : decode prog_10_method_37_code 3 = .ok (.invokevirtual 86, 3) := by decide +kernel
theorem dX8_plain_6 : decode prog_10_method_37_code 6 = .ok (.ifCond .eq 8, 3) := by decide +kernel
theorem dX8_plain_9 : decode prog_10_method_37_code 9 = .ok (.aload_n 0, 1) := by decide +kernel
theorem dX8_plain_10 : decode prog_10_method_37_code 10 = .ok (.getfield 172, 3) := by decide +kernel
theorem dX8_plain_13 : decode prog_10_method_37_code 13 = .ok (.ireturn, 1) := by decide +kernel
theorem dX8_plain_14 : decode prog_10_method_37_code 14 = .ok (.aload_n 0, 1) := by decide +kernel
theorem dX8_plain_15 : decode prog_10_method_37_code 15 = .ok (.ldc 93, 2) := by decide +kernel
theorem dX8_plain_17 : decode prog_10_method_37_code 17 = .ok (.invokevirtual 86, 3) := by decide +kernel
theorem dX8_plain_20 : decode prog_10_method_37_code 20 = .ok (.ifCond .eq 8, 3) := by decide +kernel
theorem dX8_plain_23 : decode prog_10_method_37_code 23 = .ok (.aload_n 0, 1) := by decide +kernel
theorem dX8_plain_24 : decode prog_10_method_37_code 24 = .ok (.getfield 176, 3) := by decide +kernel
theorem dX8_plain_27 : decode prog_10_method_37_code 27 = .ok (.ireturn, 1) := by decide +kernel
theorem dX8_plain_28 : decode prog_10_method_37_code 28 = .ok (.aload_n 0, 1) := by decide +kernel
theorem dX8_plain_29 : decode prog_10_method_37_code 29 = .ok (.invokevirtual 179, 3) := by decide +kernel
theorem dX8_plain_32 : decode prog_10_method_37_code 32 = .ok (.istore_n 1, 1) := by decide +kernel
theorem dX8_plain_33 : decode prog_10_method_37_code 33 = .ok (.aload_n 0, 1) := by decide +kernel
theorem dX8_plain_34 : decode prog_10_method_37_code 34 = .ok (.getfield 25, 3) := by decide +kernel
theorem dX8_plain_37 : decode prog_10_method_37_code 37 = .ok (.iconst (-1), 1) := by decide +kernel
theorem dX8_plain_38 : decode prog_10_method_37_code 38 = .ok (.if_icmp .eq 5, 3) := by decide +kernel
theorem dX8_plain_41 : decode prog_10_method_37_code 41 = .ok (.iconst 0, 1) := by decide +kernel
theorem dX8_plain_42 : decode prog_10_method_37_code 42 = .ok (.ireturn, 1) := by decide +kernel
theorem dX8_plain_43 : decode prog_10_method_37_code 43 = .ok (.aload_n 0, 1) := by decide +kernel
theorem dX8_plain_44 : decode prog_10_method_37_code 44 = .ok (.bipush 60, 2) := by decide +kernel
theorem dX8_plain_46 : decode prog_10_method_37_code 46 = .ok (.invokevirtual 141, 3) := by decide +kernel
theorem dX8_plain_49 : decode prog_10_method_37_code 49 = .ok (.istore_n 2, 1) := by decide +kernel
theorem dX8_plain_50 : decode prog_10_method_37_code 50 = .ok (.iload_n 2, 1) := by decide +kernel
theorem dX8_plain_51 : decode prog_10_method_37_code 51 = .ok (.ifCond .ne 22, 3) := by decide +kernel
theorem dX8_plain_54 : decode prog_10_method_37_code 54 = .ok (.aload_n 0, 1) := by decide +kernel
theorem dX8_plain_55 : decode prog_10_method_37_code 55 = .ok (.bipush 62, 2) := by decide +kernel
theorem dX8_plain_57 : decode prog_10_method_37_code 57 = .ok (.invokevirtual 141, 3) := by decide +kernel
theorem dX8_plain_60 : decode prog_10_method_37_code 60 = .ok (.ifCond .ne 13, 3) := by decide +kernel
theorem dX8_plain_63 : decode prog_10_method_37_code 63 = .ok (.aload_n 0, 1) := by decide +kernel
theorem dX8_plain_64 : decode prog_10_method_37_code 64 = .ok (.aload_n 0, 1) := by decide +kernel
theorem dX8_plain_65 : decode prog_10_method_37_code 65 = .ok (.getfield 56, 3) := by decide +kernel
theorem dX8_plain_68 : decode prog_10_method_37_code 68 = .ok (.invokevirtual 82, 3) := by decide +kernel
theorem dX8_plain_71 : decode prog_10_method_37_code 71 = .ok (.iconst 0, 1) := by decide +kernel
theorem dX8_plain_72 : decode prog_10_method_37_code 72 = .ok (.ireturn, 1) := by decide +kernel
theorem dX8_plain_73 : decode prog_10_method_37_code 73 = .ok (.aload_n 0, 1) := by decide +kernel
theorem dX8_plain_74 : decode prog_10_method_37_code 74 = .ok (.dup, 1) := by decide +kernel
theorem dX8_plain_75 : decode prog_10_method_37_code 75 = .ok (.getfield 56, 3) := by decide +kernel
theorem dX8_plain_78 : decode prog_10_method_37_code 78 = .ok (.iconst 1, 1) := by decide +kernel
theorem dX8_plain_79 : decode prog_10_method_37_code 79 = .ok (.iadd, 1) := by decide +kernel
theorem dX8_plain_80 : decode prog_10_method_37_code 80 = .ok (.putfield 56, 3) := by decide +kernel
theorem dX8_plain_83 : decode prog_10_method_37_code 83 = .ok (.aload_n 0, 1) := by decide +kernel
theorem dX8_plain_84 : decode prog_10_method_37_code 84 = .ok (.invokevirtual 179, 3) := by decide +kernel
theorem dX8_plain_87 : decode prog_10_method_37_code 87 = .ok (.istore_n 3, 1) := by decide +kernel
theorem dX8_plain_88 : decode prog_10_method_37_code 88 = .ok (.iload_n 2, 1) := by decide +kernel
theorem dX8_plain_89 : decode prog_10_method_37_code 89 = .ok (.ifCond .eq 16, 3) := by decide +kernel
theorem dX8_plain_92 : decode prog_10_method_37_code 92 = .ok (.iload_n 1, 1) := by decide +kernel
theorem dX8_plain_93 : decode prog_10_method_37_code 93 = .ok (.iload_n 3, 1) := by decide +kernel
theorem dX8_plain_94 : decode prog_10_method_37_code 94 = .ok (.if_icmp .ge 7, 3) := by decide +kernel
theorem dX8_plain_97 : decode prog_10_method_37_code 97 = .ok (.iconst 1, 1) := by decide +kernel
theorem dX8_plain_98 : decode prog_10_method_37_code 98 = .ok (.goto 17, 3) := by decide +kernel
theorem dX8_plain_101 : decode prog_10_method_37_code 101 = .ok (.iconst 0, 1) := by decide +kernel
theorem dX8_plain_102 : decode prog_10_method_37_code 102 = .ok (.goto 13, 3) := by decide +kernel
theorem dX8_plain_105 : decode prog_10_method_37_code 105 = .ok (.iload_n 1, 1) := by decide +kernel
theorem dX8_plain_106 : decode prog_10_method_37_code 106 = .ok (.iload_n 3, 1) := by decide +kernel
theorem dX8_plain_107 : decode prog_10_method_37_code 107 = .ok (.if_icmp .le 7, 3) := by decide +kernel
theorem dX8_plain_110 : decode prog_10_method_37_code 110 = .ok (.iconst 1, 1) := by decide +kernel
theorem dX8_plain_111 : decode prog_10_method_37_code 111 = .ok (.goto 4, 3) := by decide +kernel
theorem dX8_plain_114 : decode prog_10_method_37_code 114 = .ok (.iconst 0, 1) := by decide +kernel
theorem dX8_plain_115 : decode prog_10_method_37_code 115 = .ok (.ireturn, 1) := by decide +kernel
theorem dX8_sum_0 : decode prog_10_method_36_code 0 = .ok (.aload_n 0, 1) := by decide +kernel
theorem dX8_sum_1 : decode prog_10_method_36_code 1 = .ok (.invokevirtual 167, 3) := by decide +kernel
theorem dX8_sum_4 : decode prog_10_method_36_code 4 = .ok (.istore_n 1, 1) := by decide +kernel
theorem dX8_sum_5 : decode prog_10_method_36_code 5 = .ok (.aload_n 0, 1) := by decide +kernel
theorem dX8_sum_6 : decode prog_10_method_36_code 6 = .ok (.getfield 25, 3) := by decide +kernel
theorem dX8_sum_9 : decode prog_10_method_36_code 9 = .ok (.iconst (-1), 1) := by decide +kernel
theorem dX8_sum_10 : decode prog_10_method_36_code 10 = .ok (.if_icmp .ne 32, 3) := by decide +kernel
theorem dX8_sum_13 : decode prog_10_method_36_code 13 = .ok (.aload_n 0, 1) := by decide +kernel
theorem dX8_sum_14 : decode prog_10_method_36_code 14 = .ok (.bipush 43, 2) := by decide +kernel
theorem dX8_sum_16 : decode prog_10_method_36_code 16 = .ok (.invokevirtual 141, 3) := by decide +kernel
theorem dX8_sum_19 : decode prog_10_method_36_code 19 = .ok (.ifCond .eq 23, 3) := by decide +kernel
theorem dX8_sum_22 : decode prog_10_method_36_code 22 = .ok (.aload_n 0, 1) := by decide +kernel
theorem dX8_sum_23 : decode prog_10_method_36_code 23 = .ok (.dup, 1) := by decide +kernel
theorem dX8_sum_24 : decode prog_10_method_36_code 24 = .ok (.getfield 56, 3) := by decide +kernel
theorem dX8_sum_27 : decode prog_10_method_36_code 27 = .ok (.iconst 1, 1) := by decide +kernel
theorem dX8_sum_28 : decode prog_10_method_36_code 28 = .ok (.iadd, 1) := by decide +kernel
theorem dX8_sum_29 : decode prog_10_method_36_code 29 = .ok (.putfield 56, 3) := by decide +kernel
theorem dX8_sum_32 : decode prog_10_method_36_code 32 = .ok (.iload_n 1, 1) := by decide +kernel
theorem dX8_sum_33 : decode prog_10_method_36_code 33 = .ok (.aload_n 0, 1) := by decide +kernel
theorem dX8_sum_34 : decode prog_10_method_36_code 34 = .ok (.invokevirtual 167, 3) := by decide +kernel
theorem dX8_sum_37 : decode prog_10_method_36_code 37 = .ok (.iadd, 1) := by decide +kernel
theorem dX8_sum_38 : decode prog_10_method_36_code 38 = .ok (.istore_n 1, 1) := by decide +kernel
theorem dX8_sum_39 : decode prog_10_method_36_code 39 = .ok (.goto (-34), 3) := by decide +kernel
theorem dX8_sum_42 : decode prog_10_method_36_code 42 = .ok (.iload_n 1, 1) := by decide +kernel
theorem dX8_sum_43 : decode prog_10_method_36_code 43 = .ok (.ireturn, 1) := by decide +kernel
theorem dX8_part_0 : decode prog_10_method_35_code 0 = .ok (.aload_n 0, 1) := by decide +kernel
theorem dX8_part_1 : decode prog_10_method_35_code 1 = .ok (.getfield 25, 3) := by decide +kernel
theorem dX8_part_4 : decode prog_10_method_35_code 4 = .ok (.iconst (-1), 1) := by decide +kernel
theorem dX8_part_5 : decode prog_10_method_35_code 5 = .ok (.if_icmp .eq 5, 3) := by decide +kernel
theorem dX8_part_8 : decode prog_10_method_35_code 8 = .ok (.iconst 0, 1) := by decide +kernel
theorem dX8_part_9 : decode prog_10_method_35_code 9 = .ok (.ireturn, 1) := by decide +kernel
theorem dX8_part_10 : decode prog_10_method_35_code 10 = .ok (.aload_n 0, 1) := by decide +kernel
theorem dX8_part_11 : decode prog_10_method_35_code 11 = .ok (.invokevirtual 66, 3) := by decide +kernel
theorem dX8_part_14 : decode prog_10_method_35_code 14 = .ok (.aload_n 0, 1) := by decide +kernel
theorem dX8_part_15 : decode prog_10_method_35_code 15 = .ok (.getfield 56, 3) := by decide +kernel
theorem dX8_part_18 : decode prog_10_method_35_code 18 = .ok (.aload_n 0, 1) := by decide +kernel
theorem dX8_part_19 : decode prog_10_method_35_code 19 = .ok (.getfield 59, 3) := by decide +kernel
theorem dX8_part_22 : decode prog_10_method_35_code 22 = .ok (.if_icmp .ge 30, 3) := by decide +kernel
theorem dX8_part_25 : decode prog_10_method_35_code 25 = .ok (.aload_n 0, 1) := by decide +kernel
theorem dX8_part_26 : decode prog_10_method_35_code 26 = .ok (.aload_n 0, 1) := by decide +kernel
theorem dX8_part_27 : decode prog_10_method_35_code 27 = .ok (.getfield 56, 3) := by decide +kernel
theorem dX8_part_30 : decode prog_10_method_35_code 30 = .ok (.invokevirtual 62, 3) := by decide +kernel
theorem dX8_part_33 : decode prog_10_method_35_code 33 = .ok (.bipush 48, 2) := by decide +kernel
theorem dX8_part_35 : decode prog_10_method_35_code 35 = .ok (.bipush 57, 2) := by decide +kernel
theorem dX8_part_37 : decode prog_10_method_35_code 37 = .ok (.invokestatic 42, 3) := by decide +kernel
theorem dX8_part_40 : decode prog_10_method_35_code 40 = .ok (.ifCond .eq 12, 3) := by decide +kernel
theorem dX8_part_43 : decode prog_10_method_35_code 43 = .ok (.aload_n 0, 1) := by decide +kernel
theorem dX8_part_44 : decode prog_10_method_35_code 44 = .ok (.iconst 0, 1) := by decide +kernel
theorem dX8_part_45 : decode prog_10_method_35_code 45 = .ok (.sipush 999, 3) := by decide +kernel
theorem dX8_part_48 : decode prog_10_method_35_code 48 = .ok (.invokevirtual 90, 3) := by decide +kernel
theorem dX8_part_51 : decode prog_10_method_35_code 51 = .ok (.ireturn, 1) := by decide +kernel
theorem dX8_part_52 : decode prog_10_method_35_code 52 = .ok (.aload_n 0, 1) := by decide +kernel
theorem dX8_part_53 : decode prog_10_method_35_code 53 = .ok (.ldc 107, 2) := by decide +kernel
theorem dX8_part_55 : decode prog_10_method_35_code 55 = .ok (.invokevirtual 86, 3) := by decide +kernel
theorem dX8_part_58 : decode prog_10_method_35_code 58 = .ok (.ifCond .eq 7, 3) := by decide +kernel
theorem dX8_part_61 : decode prog_10_method_35_code 61 = .ok (.iconst 0, 1) := by decide +kernel
theorem dX8_part_62 : decode prog_10_method_35_code 62 = .ok (.goto 83, 3) := by decide +kernel
theorem dX8_part_65 : decode prog_10_method_35_code 65 = .ok (.aload_n 0, 1) := by decide +kernel
theorem dX8_part_66 : decode prog_10_method_35_code 66 = .ok (.ldc 161, 2) := by decide +kernel
theorem dX8_part_68 : decode prog_10_method_35_code 68 = .ok (.invokevirtual 86, 3) := by decide +kernel
theorem dX8_part_71 : decode prog_10_method_35_code 71 = .ok (.ifCond .eq 7, 3) := by decide +kernel
theorem dX8_part_74 : decode prog_10_method_35_code 74 = .ok (.iconst 1, 1) := by decide +kernel
theorem dX8_part_75 : decode prog_10_method_35_code 75 = .ok (.goto 70, 3) := by decide +kernel
theorem dX8_part_78 : decode prog_10_method_35_code 78 = .ok (.aload_n 0, 1) := by decide +kernel
theorem dX8_part_79 : decode prog_10_method_35_code 79 = .ok (.ldc 128, 2) := by decide +kernel
theorem dX8_part_81 : decode prog_10_method_35_code 81 = .ok (.invokevirtual 86, 3) := by decide +kernel
theorem dX8_part_84 : decode prog_10_method_35_code 84 = .ok (.ifCond .eq 7, 3) := by decide +kernel
theorem dX8_part_87 : decode prog_10_method_35_code 87 = .ok (.iconst 2, 1) := by decide +kernel
theorem dX8_part_88 : decode prog_10_method_35_code 88 = .ok (.goto 57, 3) := by decide +kernel
theorem dX8_part_91 : decode prog_10_method_35_code 91 = .ok (.aload_n 0, 1) := by decide +kernel
theorem dX8_part_92 : decode prog_10_method_35_code 92 = .ok (.ldc 163, 2) := by decide +kernel
theorem dX8_part_94 : decode prog_10_method_35_code 94 = .ok (.invokevirtual 86, 3) := by decide +kernel
theorem dX8_part_97 : decode prog_10_method_35_code 97 = .ok (.ifCond .eq 7, 3) := by decide +kernel
theorem dX8_part_100 : decode prog_10_method_35_code 100 = .ok (.iconst 3, 1) := by decide +kernel
theorem dX8_part_101 : decode prog_10_method_35_code 101 = .ok (.goto 44, 3) := by decide +kernel
theorem dX8_part_104 : decode prog_10_method_35_code 104 = .ok (.aload_n 0, 1) := by decide +kernel
theorem dX8_part_105 : decode prog_10_method_35_code 105 = .ok (.ldc 99, 2) := by decide +kernel
theorem dX8_part_107 : decode prog_10_method_35_code 107 = .ok (.invokevirtual 86, 3) := by decide +kernel
theorem dX8_part_110 : decode prog_10_method_35_code 110 = .ok (.ifCond .eq 7, 3) := by decide +kernel
theorem dX8_part_113 : decode prog_10_method_35_code 113 = .ok (.iconst 4, 1) := by decide +kernel
theorem dX8_part_114 : decode prog_10_method_35_code 114 = .ok (.goto 31, 3) := by decide +kernel
theorem dX8_part_117 : decode prog_10_method_35_code 117 = .ok (.aload_n 0, 1) := by decide +kernel
theorem dX8_part_118 : decode prog_10_method_35_code 118 = .ok (.ldc 130, 2) := by decide +kernel
theorem dX8_part_120 : decode prog_10_method_35_code 120 = .ok (.invokevirtual 86, 3) := by decide +kernel
theorem dX8_part_123 : decode prog_10_method_35_code 123 = .ok (.ifCond .eq 7, 3) := by decide +kernel
theorem dX8_part_126 : decode prog_10_method_35_code 126 = .ok (.iconst 5, 1) := by decide +kernel
theorem dX8_part_127 : decode prog_10_method_35_code 127 = .ok (.goto 18, 3) := by decide +kernel
theorem dX8_part_130 : decode prog_10_method_35_code 130 = .ok (.aload_n 0, 1) := by decide +kernel
theorem dX8_part_131 : decode prog_10_method_35_code 131 = .ok (.ldc 165, 2) := by decide +kernel
theorem dX8_part_133 : decode prog_10_method_35_code 133 = .ok (.invokevirtual 86, 3) := by decide +kernel
theorem dX8_part_136 : decode prog_10_method_35_code 136 = .ok (.ifCond .eq 8, 3) := by decide +kernel
theorem dX8_part_139 : decode prog_10_method_35_code 139 = .ok (.bipush 6, 2) := by decide +kernel
theorem dX8_part_141 : decode prog_10_method_35_code 141 = .ok (.goto 4, 3) := by decide +kernel
theorem dX8_part_144 : decode prog_10_method_35_code 144 = .ok (.iconst (-1), 1) := by decide +kernel
theorem dX8_part_145 : decode prog_10_method_35_code 145 = .ok (.istore_n 1, 1) := by decide +kernel
theorem dX8_part_146 : decode prog_10_method_35_code 146 = .ok (.iload_n 1, 1) := by decide +kernel
theorem dX8_part_147 : decode prog_10_method_35_code 147 = .ok (.iconst (-1), 1) := by decide +kernel
theorem dX8_part_148 : decode prog_10_method_35_code 148 = .ok (.if_icmp .ne 13, 3) := by decide +kernel
theorem dX8_part_151 : decode prog_10_method_35_code 151 = .ok (.aload_n 0, 1) := by decide +kernel
theorem dX8_part_152 : decode prog_10_method_35_code 152 = .ok (.aload_n 0, 1) := by decide +kernel
theorem dX8_part_153 : decode prog_10_method_35_code 153 = .ok (.getfield 56, 3) := by decide +kernel
theorem dX8_part_156 : decode prog_10_method_35_code 156 = .ok (.invokevirtual 82, 3) := by decide +kernel
theorem dX8_part_159 : decode prog_10_method_35_code 159 = .ok (.iconst 0, 1) := by decide +kernel
theorem dX8_part_160 : decode prog_10_method_35_code 160 = .ok (.ireturn, 1) := by decide +kernel
theorem dX8_part_161 : decode prog_10_method_35_code 161 = .ok (.aload_n 0, 1) := by decide +kernel
theorem dX8_part_162 : decode prog_10_method_35_code 162 = .ok (.getfield 29, 3) := by decide +kernel
theorem dX8_part_165 : decode prog_10_method_35_code 165 = .ok (.iload_n 1, 1) := by decide +kernel
theorem dX8_part_166 : decode prog_10_method_35_code 166 = .ok (.iaload, 1) := by decide +kernel
theorem dX8_part_167 : decode prog_10_method_35_code 167 = .ok (.ireturn, 1) := by decide +kernel
theorem dX8_deedLine_0 : decode prog_10_method_29_code 0 = .ok (.aload_n 0, 1) := by decide +kernel
theorem dX8_deedLine_1 : decode prog_10_method_29_code 1 = .ok (.invokevirtual 79, 3) := by decide +kernel
theorem dX8_deedLine_4 : decode prog_10_method_29_code 4 = .ok (.istore_n 1, 1) := by decide +kernel
theorem dX8_deedLine_5 : decode prog_10_method_29_code 5 = .ok (.aload_n 0, 1) := by decide +kernel
theorem dX8_deedLine_6 : decode prog_10_method_29_code 6 = .ok (.ldc 107, 2) := by decide +kernel
theorem dX8_deedLine_8 : decode prog_10_method_29_code 8 = .ok (.invokevirtual 86, 3) := by decide +kernel
theorem dX8_deedLine_11 : decode prog_10_method_29_code 11 = .ok (.ifCond .eq 11, 3) := by decide +kernel
theorem dX8_deedLine_14 : decode prog_10_method_29_code 14 = .ok (.aload_n 0, 1) := by decide +kernel
theorem dX8_deedLine_15 : decode prog_10_method_29_code 15 = .ok (.iload_n 1, 1) := by decide +kernel
theorem dX8_deedLine_16 : decode prog_10_method_29_code 16 = .ok (.invokevirtual 109, 3) := by decide +kernel
theorem dX8_deedLine_19 : decode prog_10_method_29_code 19 = .ok (.goto 146, 3) := by decide +kernel
theorem dX8_deedLine_22 : decode prog_10_method_29_code 22 = .ok (.aload_n 0, 1) := by decide +kernel
theorem dX8_deedLine_23 : decode prog_10_method_29_code 23 = .ok (.ldc 112, 2) := by decide +kernel
theorem dX8_deedLine_25 : decode prog_10_method_29_code 25 = .ok (.invokevirtual 86, 3) := by decide +kernel
theorem dX8_deedLine_28 : decode prog_10_method_29_code 28 = .ok (.ifCond .eq 16, 3) := by decide +kernel
theorem dX8_deedLine_31 : decode prog_10_method_29_code 31 = .ok (.aload_n 0, 1) := by decide +kernel
theorem dX8_deedLine_32 : decode prog_10_method_29_code 32 = .ok (.bipush 7, 2) := by decide +kernel
theorem dX8_deedLine_34 : decode prog_10_method_29_code 34 = .ok (.iconst 1, 1) := by decide +kernel
theorem dX8_deedLine_35 : decode prog_10_method_29_code 35 = .ok (.iconst 1, 1) := by decide +kernel
theorem dX8_deedLine_36 : decode prog_10_method_29_code 36 = .ok (.bipush 20, 2) := by decide +kernel
theorem dX8_deedLine_38 : decode prog_10_method_29_code 38 = .ok (.invokevirtual 114, 3) := by decide +kernel
theorem dX8_deedLine_41 : decode prog_10_method_29_code 41 = .ok (.goto 124, 3) := by decide +kernel
theorem dX8_deedLine_44 : decode prog_10_method_29_code 44 = .ok (.aload_n 0, 1) := by decide +kernel
theorem dX8_deedLine_45 : decode prog_10_method_29_code 45 = .ok (.ldc 118, 2) := by decide +kernel
theorem dX8_deedLine_47 : decode prog_10_method_29_code 47 = .ok (.invokevirtual 86, 3) := by decide +kernel
theorem dX8_deedLine_50 : decode prog_10_method_29_code 50 = .ok (.ifCond .eq 16, 3) := by decide +kernel
theorem dX8_deedLine_53 : decode prog_10_method_29_code 53 = .ok (.aload_n 0, 1) := by decide +kernel
theorem dX8_deedLine_54 : decode prog_10_method_29_code 54 = .ok (.bipush 14, 2) := by decide +kernel
theorem dX8_deedLine_56 : decode prog_10_method_29_code 56 = .ok (.iconst 1, 1) := by decide +kernel
theorem dX8_deedLine_57 : decode prog_10_method_29_code 57 = .ok (.iconst 5, 1) := by decide +kernel
theorem dX8_deedLine_58 : decode prog_10_method_29_code 58 = .ok (.bipush 99, 2) := by decide +kernel
theorem dX8_deedLine_60 : decode prog_10_method_29_code 60 = .ok (.invokevirtual 114, 3) := by decide +kernel
theorem dX8_deedLine_63 : decode prog_10_method_29_code 63 = .ok (.goto 102, 3) := by decide +kernel
theorem dX8_deedLine_66 : decode prog_10_method_29_code 66 = .ok (.aload_n 0, 1) := by decide +kernel
theorem dX8_deedLine_67 : decode prog_10_method_29_code 67 = .ok (.ldc 120, 2) := by decide +kernel
theorem dX8_deedLine_69 : decode prog_10_method_29_code 69 = .ok (.invokevirtual 86, 3) := by decide +kernel
theorem dX8_deedLine_72 : decode prog_10_method_29_code 72 = .ok (.ifCond .eq 16, 3) := by decide +kernel
theorem dX8_deedLine_75 : decode prog_10_method_29_code 75 = .ok (.aload_n 0, 1) := by decide +kernel
theorem dX8_deedLine_76 : decode prog_10_method_29_code 76 = .ok (.bipush 20, 2) := by decide +kernel
theorem dX8_deedLine_78 : decode prog_10_method_29_code 78 = .ok (.iconst 1, 1) := by decide +kernel
theorem dX8_deedLine_79 : decode prog_10_method_29_code 79 = .ok (.iconst 5, 1) := by decide +kernel
theorem dX8_deedLine_80 : decode prog_10_method_29_code 80 = .ok (.bipush 12, 2) := by decide +kernel
theorem dX8_deedLine_82 : decode prog_10_method_29_code 82 = .ok (.invokevirtual 114, 3) := by decide +kernel
theorem dX8_deedLine_85 : decode prog_10_method_29_code 85 = .ok (.goto 80, 3) := by decide +kernel
theorem dX8_deedLine_88 : decode prog_10_method_29_code 88 = .ok (.aload_n 0, 1) := by decide +kernel
theorem dX8_deedLine_89 : decode prog_10_method_29_code 89 = .ok (.ldc 122, 2) := by decide +kernel
theorem dX8_deedLine_91 : decode prog_10_method_29_code 91 = .ok (.invokevirtual 86, 3) := by decide +kernel
theorem dX8_deedLine_94 : decode prog_10_method_29_code 94 = .ok (.ifCond .eq 13, 3) := by decide +kernel
theorem dX8_deedLine_97 : decode prog_10_method_29_code 97 = .ok (.aload_n 0, 1) := by decide +kernel
theorem dX8_deedLine_98 : decode prog_10_method_29_code 98 = .ok (.iconst 5, 1) := by decide +kernel
theorem dX8_deedLine_99 : decode prog_10_method_29_code 99 = .ok (.bipush 100, 2) := by decide +kernel
theorem dX8_deedLine_101 : decode prog_10_method_29_code 101 = .ok (.invokevirtual 124, 3) := by decide +kernel
theorem dX8_deedLine_104 : decode prog_10_method_29_code 104 = .ok (.goto 61, 3) := by decide +kernel
theorem dX8_deedLine_107 : decode prog_10_method_29_code 107 = .ok (.aload_n 0, 1) := by decide +kernel
theorem dX8_deedLine_108 : decode prog_10_method_29_code 108 = .ok (.ldc 128, 2) := by decide +kernel
theorem dX8_deedLine_110 : decode prog_10_method_29_code 110 = .ok (.invokevirtual 86, 3) := by decide +kernel
theorem dX8_deedLine_113 : decode prog_10_method_29_code 113 = .ok (.ifCond .eq 24, 3) := by decide +kernel
theorem dX8_deedLine_116 : decode prog_10_method_29_code 116 = .ok (.aload_n 0, 1) := by decide +kernel
theorem dX8_deedLine_117 : decode prog_10_method_29_code 117 = .ok (.bipush 28, 2) := by decide +kernel
theorem dX8_deedLine_119 : decode prog_10_method_29_code 119 = .ok (.bipush 7, 2) := by decide +kernel
theorem dX8_deedLine_121 : decode prog_10_method_29_code 121 = .ok (.aload_n 0, 1) := by decide +kernel
theorem dX8_deedLine_122 : decode prog_10_method_29_code 122 = .ok (.getfield 7, 3) := by decide +kernel
theorem dX8_deedLine_125 : decode prog_10_method_29_code 125 = .ok (.iconst 3, 1) := by decide +kernel
theorem dX8_deedLine_126 : decode prog_10_method_29_code 126 = .ok (.iaload, 1) := by decide +kernel
theorem dX8_deedLine_127 : decode prog_10_method_29_code 127 = .ok (.iconst 1, 1) := by decide +kernel
theorem dX8_deedLine_128 : decode prog_10_method_29_code 128 = .ok (.isub, 1) := by decide +kernel
theorem dX8_deedLine_129 : decode prog_10_method_29_code 129 = .ok (.bipush 99, 2) := by decide +kernel
theorem dX8_deedLine_131 : decode prog_10_method_29_code 131 = .ok (.invokevirtual 114, 3) := by decide +kernel
theorem dX8_deedLine_134 : decode prog_10_method_29_code 134 = .ok (.goto 31, 3) := by decide +kernel
theorem dX8_deedLine_137 : decode prog_10_method_29_code 137 = .ok (.aload_n 0, 1) := by decide +kernel
theorem dX8_deedLine_138 : decode prog_10_method_29_code 138 = .ok (.ldc 130, 2) := by decide +kernel
theorem dX8_deedLine_140 : decode prog_10_method_29_code 140 = .ok (.invokevirtual 86, 3) := by decide +kernel
theorem dX8_deedLine_143 : decode prog_10_method_29_code 143 = .ok (.ifCond .eq 14, 3) := by decide +kernel
theorem dX8_deedLine_146 : decode prog_10_method_29_code 146 = .ok (.aload_n 0, 1) := by decide +kernel
theorem dX8_deedLine_147 : decode prog_10_method_29_code 147 = .ok (.iconst 4, 1) := by decide +kernel
theorem dX8_deedLine_148 : decode prog_10_method_29_code 148 = .ok (.sipush 999, 3) := by decide +kernel
theorem dX8_deedLine_151 : decode prog_10_method_29_code 151 = .ok (.invokevirtual 124, 3) := by decide +kernel
theorem dX8_deedLine_154 : decode prog_10_method_29_code 154 = .ok (.goto 11, 3) := by decide +kernel
theorem dX8_deedLine_157 : decode prog_10_method_29_code 157 = .ok (.aload_n 0, 1) := by decide +kernel
theorem dX8_deedLine_158 : decode prog_10_method_29_code 158 = .ok (.aload_n 0, 1) := by decide +kernel
theorem dX8_deedLine_159 : decode prog_10_method_29_code 159 = .ok (.getfield 56, 3) := by decide +kernel
theorem dX8_deedLine_162 : decode prog_10_method_29_code 162 = .ok (.invokevirtual 82, 3) := by decide +kernel
theorem dX8_deedLine_165 : decode prog_10_method_29_code 165 = .ok (.return_, 1) := by decide +kernel
theorem dX8_itemLine_0 : decode prog_10_method_26_code 0 = .ok (.aload_n 0, 1) := by decide +kernel
theorem dX8_itemLine_1 : decode prog_10_method_26_code 1 = .ok (.getfield 7, 3) := by decide +kernel
theorem dX8_itemLine_4 : decode prog_10_method_26_code 4 = .ok (.iconst 3, 1) := by decide +kernel
theorem dX8_itemLine_5 : decode prog_10_method_26_code 5 = .ok (.iaload, 1) := by decide +kernel
theorem dX8_itemLine_6 : decode prog_10_method_26_code 6 = .ok (.bipush 12, 2) := by decide +kernel
theorem dX8_itemLine_8 : decode prog_10_method_26_code 8 = .ok (.if_icmp .ne 8, 3) := by decide +kernel
theorem dX8_itemLine_11 : decode prog_10_method_26_code 11 = .ok (.aload_n 0, 1) := by decide +kernel
theorem dX8_itemLine_12 : decode prog_10_method_26_code 12 = .ok (.iload_n 1, 1) := by decide +kernel
theorem dX8_itemLine_13 : decode prog_10_method_26_code 13 = .ok (.invokevirtual 82, 3) := by decide +kernel
theorem dX8_itemLine_16 : decode prog_10_method_26_code 16 = .ok (.aload_n 0, 1) := by decide +kernel
theorem dX8_itemLine_17 : decode prog_10_method_26_code 17 = .ok (.iconst 1, 1) := by decide +kernel
theorem dX8_itemLine_18 : decode prog_10_method_26_code 18 = .ok (.bipush 99, 2) := by decide +kernel
theorem dX8_itemLine_20 : decode prog_10_method_26_code 20 = .ok (.invokevirtual 90, 3) := by decide +kernel
theorem dX8_itemLine_23 : decode prog_10_method_26_code 23 = .ok (.istore_n 2, 1) := by decide +kernel
theorem dX8_itemLine_24 : decode prog_10_method_26_code 24 = .ok (.aload_n 0, 1) := by decide +kernel
theorem dX8_itemLine_25 : decode prog_10_method_26_code 25 = .ok (.ldc 93, 2) := by decide +kernel
theorem dX8_itemLine_27 : decode prog_10_method_26_code 27 = .ok (.iconst 0, 1) := by decide +kernel
theorem dX8_itemLine_28 : decode prog_10_method_26_code 28 = .ok (.iconst 5, 1) := by decide +kernel
theorem dX8_itemLine_29 : decode prog_10_method_26_code 29 = .ok (.invokevirtual 95, 3) := by decide +kernel
theorem dX8_itemLine_32 : decode prog_10_method_26_code 32 = .ok (.istore_n 3, 1) := by decide +kernel
theorem dX8_itemLine_33 : decode prog_10_method_26_code 33 = .ok (.aload_n 0, 1) := by decide +kernel
theorem dX8_itemLine_34 : decode prog_10_method_26_code 34 = .ok (.ldc 99, 2) := by decide +kernel
theorem dX8_itemLine_36 : decode prog_10_method_26_code 36 = .ok (.iconst 0, 1) := by decide +kernel
theorem dX8_itemLine_37 : decode prog_10_method_26_code 37 = .ok (.iconst 1, 1) := by decide +kernel
theorem dX8_itemLine_38 : decode prog_10_method_26_code 38 = .ok (.invokevirtual 95, 3) := by decide +kernel
theorem dX8_itemLine_41 : decode prog_10_method_26_code 41 = .ok (.istore 4, 2) := by decide +kernel
theorem dX8_itemLine_43 : decode prog_10_method_26_code 43 = .ok (.aload_n 0, 1) := by decide +kernel
theorem dX8_itemLine_44 : decode prog_10_method_26_code 44 = .ok (.getfield 25, 3) := by decide +kernel
theorem dX8_itemLine_47 : decode prog_10_method_26_code 47 = .ok (.iconst (-1), 1) := by decide +kernel
theorem dX8_itemLine_48 : decode prog_10_method_26_code 48 = .ok (.if_icmp .ne 21, 3) := by decide +kernel
theorem dX8_itemLine_51 : decode prog_10_method_26_code 51 = .ok (.aload_n 0, 1) := by decide +kernel
theorem dX8_itemLine_52 : decode prog_10_method_26_code 52 = .ok (.ldc 101, 2) := by decide +kernel
theorem dX8_itemLine_54 : decode prog_10_method_26_code 54 = .ok (.invokevirtual 86, 3) := by decide +kernel
theorem dX8_itemLine_57 : decode prog_10_method_26_code 57 = .ok (.ifCond .eq 12, 3) := by decide +kernel
theorem dX8_itemLine_60 : decode prog_10_method_26_code 60 = .ok (.aload_n 0, 1) := by decide +kernel
theorem dX8_itemLine_61 : decode prog_10_method_26_code 61 = .ok (.iconst 0, 1) := by decide +kernel
theorem dX8_itemLine_62 : decode prog_10_method_26_code 62 = .ok (.iconst 5, 1) := by decide +kernel
theorem dX8_itemLine_63 : decode prog_10_method_26_code 63 = .ok (.invokevirtual 90, 3) := by decide +kernel
theorem dX8_itemLine_66 : decode prog_10_method_26_code 66 = .ok (.goto 4, 3) := by decide +kernel
theorem dX8_itemLine_69 : decode prog_10_method_26_code 69 = .ok (.iload_n 3, 1) := by decide +kernel
theorem dX8_itemLine_70 : decode prog_10_method_26_code 70 = .ok (.istore 5, 2) := by decide +kernel
theorem dX8_itemLine_72 : decode prog_10_method_26_code 72 = .ok (.aload_n 0, 1) := by decide +kernel
theorem dX8_itemLine_73 : decode prog_10_method_26_code 73 = .ok (.getfield 25, 3) := by decide +kernel
theorem dX8_itemLine_76 : decode prog_10_method_26_code 76 = .ok (.iconst (-1), 1) := by decide +kernel
theorem dX8_itemLine_77 : decode prog_10_method_26_code 77 = .ok (.if_icmp .eq 4, 3) := by decide +kernel
theorem dX8_itemLine_80 : decode prog_10_method_26_code 80 = .ok (.return_, 1) := by decide +kernel
theorem dX8_itemLine_81 : decode prog_10_method_26_code 81 = .ok (.aload_n 0, 1) := by decide +kernel
theorem dX8_itemLine_82 : decode prog_10_method_26_code 82 = .ok (.getfield 7, 3) := by decide +kernel
theorem dX8_itemLine_85 : decode prog_10_method_26_code 85 = .ok (.iconst 3, 1) := by decide +kernel
theorem dX8_itemLine_86 : decode prog_10_method_26_code 86 = .ok (.iaload, 1) := by decide +kernel
theorem dX8_itemLine_87 : decode prog_10_method_26_code 87 = .ok (.istore 6, 2) := by decide +kernel
theorem dX8_itemLine_89 : decode prog_10_method_26_code 89 = .ok (.aload_n 0, 1) := by decide +kernel
theorem dX8_itemLine_90 : decode prog_10_method_26_code 90 = .ok (.iload 6, 2) := by decide +kernel
theorem dX8_itemLine_92 : decode prog_10_method_26_code 92 = .ok (.iconst 0, 1) := by decide +kernel
theorem dX8_itemLine_93 : decode prog_10_method_26_code 93 = .ok (.iload_n 3, 1) := by decide +kernel
theorem dX8_itemLine_94 : decode prog_10_method_26_code 94 = .ok (.invokevirtual 103, 3) := by decide +kernel
theorem dX8_itemLine_97 : decode prog_10_method_26_code 97 = .ok (.aload_n 0, 1) := by decide +kernel
theorem dX8_itemLine_98 : decode prog_10_method_26_code 98 = .ok (.iload 6, 2) := by decide +kernel
theorem dX8_itemLine_100 : decode prog_10_method_26_code 100 = .ok (.iconst 1, 1) := by decide +kernel
theorem dX8_itemLine_101 : decode prog_10_method_26_code 101 = .ok (.iload 5, 2) := by decide +kernel
theorem dX8_itemLine_103 : decode prog_10_method_26_code 103 = .ok (.invokevirtual 103, 3) := by decide +kernel
theorem dX8_itemLine_106 : decode prog_10_method_26_code 106 = .ok (.aload_n 0, 1) := by decide +kernel
theorem dX8_itemLine_107 : decode prog_10_method_26_code 107 = .ok (.iload 6, 2) := by decide +kernel
theorem dX8_itemLine_109 : decode prog_10_method_26_code 109 = .ok (.iconst 2, 1) := by decide +kernel
theorem dX8_itemLine_110 : decode prog_10_method_26_code 110 = .ok (.iconst 0, 1) := by decide +kernel
theorem dX8_itemLine_111 : decode prog_10_method_26_code 111 = .ok (.invokevirtual 103, 3) := by decide +kernel
theorem dX8_itemLine_114 : decode prog_10_method_26_code 114 = .ok (.aload_n 0, 1) := by decide +kernel
theorem dX8_itemLine_115 : decode prog_10_method_26_code 115 = .ok (.iload 6, 2) := by decide +kernel
theorem dX8_itemLine_117 : decode prog_10_method_26_code 117 = .ok (.iconst 3, 1) := by decide +kernel
theorem dX8_itemLine_118 : decode prog_10_method_26_code 118 = .ok (.iload_n 2, 1) := by decide +kernel
theorem dX8_itemLine_119 : decode prog_10_method_26_code 119 = .ok (.invokevirtual 103, 3) := by decide +kernel
theorem dX8_itemLine_122 : decode prog_10_method_26_code 122 = .ok (.aload_n 0, 1) := by decide +kernel
theorem dX8_itemLine_123 : decode prog_10_method_26_code 123 = .ok (.iload 6, 2) := by decide +kernel
theorem dX8_itemLine_125 : decode prog_10_method_26_code 125 = .ok (.iconst 4, 1) := by decide +kernel
theorem dX8_itemLine_126 : decode prog_10_method_26_code 126 = .ok (.iload 4, 2) := by decide +kernel
theorem dX8_itemLine_128 : decode prog_10_method_26_code 128 = .ok (.invokevirtual 103, 3) := by decide +kernel
theorem dX8_itemLine_131 : decode prog_10_method_26_code 131 = .ok (.aload_n 0, 1) := by decide +kernel
theorem dX8_itemLine_132 : decode prog_10_method_26_code 132 = .ok (.iload 6, 2) := by decide +kernel
theorem dX8_itemLine_134 : decode prog_10_method_26_code 134 = .ok (.iconst 5, 1) := by decide +kernel
theorem dX8_itemLine_135 : decode prog_10_method_26_code 135 = .ok (.iload 5, 2) := by decide +kernel
theorem dX8_itemLine_137 : decode prog_10_method_26_code 137 = .ok (.invokevirtual 103, 3) := by decide +kernel
theorem dX8_itemLine_140 : decode prog_10_method_26_code 140 = .ok (.aload_n 0, 1) := by decide +kernel
theorem dX8_itemLine_141 : decode prog_10_method_26_code 141 = .ok (.iload 6, 2) := by decide +kernel
theorem dX8_itemLine_143 : decode prog_10_method_26_code 143 = .ok (.bipush 6, 2) := by decide +kernel
theorem dX8_itemLine_145 : decode prog_10_method_26_code 145 = .ok (.iconst 0, 1) := by decide +kernel
theorem dX8_itemLine_146 : decode prog_10_method_26_code 146 = .ok (.invokevirtual 103, 3) := by decide +kernel
theorem dX8_itemLine_149 : decode prog_10_method_26_code 149 = .ok (.aload_n 0, 1) := by decide +kernel
theorem dX8_itemLine_150 : decode prog_10_method_26_code 150 = .ok (.getfield 7, 3) := by decide +kernel
theorem dX8_itemLine_153 : decode prog_10_method_26_code 153 = .ok (.iconst 3, 1) := by decide +kernel
theorem dX8_itemLine_154 : decode prog_10_method_26_code 154 = .ok (.dup2, 1) := by decide +kernel
theorem dX8_itemLine_155 : decode prog_10_method_26_code 155 = .ok (.iaload, 1) := by decide +kernel
theorem dX8_itemLine_156 : decode prog_10_method_26_code 156 = .ok (.iconst 1, 1) := by decide +kernel
theorem dX8_itemLine_157 : decode prog_10_method_26_code 157 = .ok (.iadd, 1) := by decide +kernel
theorem dX8_itemLine_158 : decode prog_10_method_26_code 158 = .ok (.iastore, 1) := by decide +kernel
theorem dX8_itemLine_159 : decode prog_10_method_26_code 159 = .ok (.return_, 1) := by decide +kernel
theorem dX8_after_0 : decode prog_10_method_25_code 0 = .ok (.aload_n 0, 1) := by decide +kernel
theorem dX8_after_1 : decode prog_10_method_25_code 1 = .ok (.getfield 25, 3) := by decide +kernel
theorem dX8_after_4 : decode prog_10_method_25_code 4 = .ok (.iconst (-1), 1) := by decide +kernel
theorem dX8_after_5 : decode prog_10_method_25_code 5 = .ok (.if_icmp .ne 19, 3) := by decide +kernel
theorem dX8_after_8 : decode prog_10_method_25_code 8 = .ok (.aload_n 0, 1) := by decide +kernel
theorem dX8_after_9 : decode prog_10_method_25_code 9 = .ok (.aload_n 1, 1) := by decide +kernel
theorem dX8_after_10 : decode prog_10_method_25_code 10 = .ok (.invokevirtual 86, 3) := by decide +kernel
theorem dX8_after_13 : decode prog_10_method_25_code 13 = .ok (.ifCond .ne 11, 3) := by decide +kernel
theorem dX8_after_16 : decode prog_10_method_25_code 16 = .ok (.aload_n 0, 1) := by decide +kernel
theorem dX8_after_17 : decode prog_10_method_25_code 17 = .ok (.aload_n 0, 1) := by decide +kernel
theorem dX8_after_18 : decode prog_10_method_25_code 18 = .ok (.getfield 56, 3) := by decide +kernel
theorem dX8_after_21 : decode prog_10_method_25_code 21 = .ok (.invokevirtual 82, 3) := by decide +kernel
theorem dX8_after_24 : decode prog_10_method_25_code 24 = .ok (.aload_n 0, 1) := by decide +kernel
theorem dX8_after_25 : decode prog_10_method_25_code 25 = .ok (.iload_n 2, 1) := by decide +kernel
theorem dX8_after_26 : decode prog_10_method_25_code 26 = .ok (.iload_n 3, 1) := by decide +kernel
theorem dX8_after_27 : decode prog_10_method_25_code 27 = .ok (.invokevirtual 90, 3) := by decide +kernel
theorem dX8_after_30 : decode prog_10_method_25_code 30 = .ok (.ireturn, 1) := by decide +kernel
theorem dX8_put_0 : decode prog_10_method_10_code 0 = .ok (.aload_n 0, 1) := by decide +kernel
theorem dX8_put_1 : decode prog_10_method_10_code 1 = .ok (.getfield 7, 3) := by decide +kernel
theorem dX8_put_4 : decode prog_10_method_10_code 4 = .ok (.bipush 26, 2) := by decide +kernel
theorem dX8_put_6 : decode prog_10_method_10_code 6 = .ok (.bipush 7, 2) := by decide +kernel
theorem dX8_put_8 : decode prog_10_method_10_code 8 = .ok (.iload_n 1, 1) := by decide +kernel
theorem dX8_put_9 : decode prog_10_method_10_code 9 = .ok (.imul, 1) := by decide +kernel
theorem dX8_put_10 : decode prog_10_method_10_code 10 = .ok (.iadd, 1) := by decide +kernel
theorem dX8_put_11 : decode prog_10_method_10_code 11 = .ok (.iload_n 2, 1) := by decide +kernel
theorem dX8_put_12 : decode prog_10_method_10_code 12 = .ok (.iadd, 1) := by decide +kernel
theorem dX8_put_13 : decode prog_10_method_10_code 13 = .ok (.iload_n 3, 1) := by decide +kernel
theorem dX8_put_14 : decode prog_10_method_10_code 14 = .ok (.iastore, 1) := by decide +kernel
theorem dX8_put_15 : decode prog_10_method_10_code 15 = .ok (.return_, 1) := by decide +kernel
theorem dX8_tellsAt_0 : decode prog_10_method_27_code 0 = .ok (.aload_n 0, 1) := by decide +kernel
theorem dX8_tellsAt_1 : decode prog_10_method_27_code 1 = .ok (.iconst 0, 1) := by decide +kernel
theorem dX8_tellsAt_2 : decode prog_10_method_27_code 2 = .ok (.iload_n 3, 1) := by decide +kernel
theorem dX8_tellsAt_3 : decode prog_10_method_27_code 3 = .ok (.invokevirtual 90, 3) := by decide +kernel
theorem dX8_tellsAt_6 : decode prog_10_method_27_code 6 = .ok (.istore 5, 2) := by decide +kernel
theorem dX8_tellsAt_8 : decode prog_10_method_27_code 8 = .ok (.aload_n 0, 1) := by decide +kernel
theorem dX8_tellsAt_9 : decode prog_10_method_27_code 9 = .ok (.iconst 0, 1) := by decide +kernel
theorem dX8_tellsAt_10 : decode prog_10_method_27_code 10 = .ok (.iload 4, 2) := by decide +kernel
theorem dX8_tellsAt_12 : decode prog_10_method_27_code 12 = .ok (.invokevirtual 90, 3) := by decide +kernel
theorem dX8_tellsAt_15 : decode prog_10_method_27_code 15 = .ok (.istore 6, 2) := by decide +kernel
theorem dX8_tellsAt_17 : decode prog_10_method_27_code 17 = .ok (.aload_n 0, 1) := by decide +kernel
theorem dX8_tellsAt_18 : decode prog_10_method_27_code 18 = .ok (.getfield 25, 3) := by decide +kernel
theorem dX8_tellsAt_21 : decode prog_10_method_27_code 21 = .ok (.iconst (-1), 1) := by decide +kernel
theorem dX8_tellsAt_22 : decode prog_10_method_27_code 22 = .ok (.if_icmp .ne 16, 3) := by decide +kernel
theorem dX8_tellsAt_25 : decode prog_10_method_27_code 25 = .ok (.aload_n 0, 1) := by decide +kernel
theorem dX8_tellsAt_26 : decode prog_10_method_27_code 26 = .ok (.getfield 7, 3) := by decide +kernel
theorem dX8_tellsAt_29 : decode prog_10_method_27_code 29 = .ok (.iload_n 1, 1) := by decide +kernel
theorem dX8_tellsAt_30 : decode prog_10_method_27_code 30 = .ok (.iload_n 2, 1) := by decide +kernel
theorem dX8_tellsAt_31 : decode prog_10_method_27_code 31 = .ok (.iload 5, 2) := by decide +kernel
theorem dX8_tellsAt_33 : decode prog_10_method_27_code 33 = .ok (.imul, 1) := by decide +kernel
theorem dX8_tellsAt_34 : decode prog_10_method_27_code 34 = .ok (.iadd, 1) := by decide +kernel
theorem dX8_tellsAt_35 : decode prog_10_method_27_code 35 = .ok (.iload 6, 2) := by decide +kernel
theorem dX8_tellsAt_37 : decode prog_10_method_27_code 37 = .ok (.iastore, 1) := by decide +kernel
theorem dX8_tellsAt_38 : decode prog_10_method_27_code 38 = .ok (.return_, 1) := by decide +kernel
theorem dX8_tells_0 : decode prog_10_method_28_code 0 = .ok (.aload_n 0, 1) := by decide +kernel
theorem dX8_tells_1 : decode prog_10_method_28_code 1 = .ok (.iconst 0, 1) := by decide +kernel
theorem dX8_tells_2 : decode prog_10_method_28_code 2 = .ok (.iload_n 2, 1) := by decide +kernel
theorem dX8_tells_3 : decode prog_10_method_28_code 3 = .ok (.invokevirtual 90, 3) := by decide +kernel
theorem dX8_tells_6 : decode prog_10_method_28_code 6 = .ok (.istore_n 3, 1) := by decide +kernel
theorem dX8_tells_7 : decode prog_10_method_28_code 7 = .ok (.aload_n 0, 1) := by decide +kernel
theorem dX8_tells_8 : decode prog_10_method_28_code 8 = .ok (.getfield 25, 3) := by decide +kernel
theorem dX8_tells_11 : decode prog_10_method_28_code 11 = .ok (.iconst (-1), 1) := by decide +kernel
theorem dX8_tells_12 : decode prog_10_method_28_code 12 = .ok (.if_icmp .ne 10, 3) := by decide +kernel
theorem dX8_tells_15 : decode prog_10_method_28_code 15 = .ok (.aload_n 0, 1) := by decide +kernel
theorem dX8_tells_16 : decode prog_10_method_28_code 16 = .ok (.getfield 7, 3) := by decide +kernel
theorem dX8_tells_19 : decode prog_10_method_28_code 19 = .ok (.iload_n 1, 1) := by decide +kernel
theorem dX8_tells_20 : decode prog_10_method_28_code 20 = .ok (.iload_n 3, 1) := by decide +kernel
theorem dX8_tells_21 : decode prog_10_method_28_code 21 = .ok (.iastore, 1) := by decide +kernel
theorem dX8_tells_22 : decode prog_10_method_28_code 22 = .ok (.return_, 1) := by decide +kernel
theorem dX8_comesBack_0 : decode prog_10_method_33_code 0 = .ok (.iconst 0, 1) := by decide +kernel
theorem dX8_comesBack_1 : decode prog_10_method_33_code 1 = .ok (.istore_n 1, 1) := by decide +kernel
theorem dX8_comesBack_2 : decode prog_10_method_33_code 2 = .ok (.iload_n 1, 1) := by decide +kernel
theorem dX8_comesBack_3 : decode prog_10_method_33_code 3 = .ok (.sipush 350, 3) := by decide +kernel
theorem dX8_comesBack_6 : decode prog_10_method_33_code 6 = .ok (.if_icmp .ge 21, 3) := by decide +kernel
theorem dX8_comesBack_9 : decode prog_10_method_33_code 9 = .ok (.aload_n 0, 1) := by decide +kernel
theorem dX8_comesBack_10 : decode prog_10_method_33_code 10 = .ok (.getfield 7, 3) := by decide +kernel
theorem dX8_comesBack_13 : decode prog_10_method_33_code 13 = .ok (.iload_n 1, 1) := by decide +kernel
theorem dX8_comesBack_14 : decode prog_10_method_33_code 14 = .ok (.aload_n 0, 1) := by decide +kernel
theorem dX8_comesBack_15 : decode prog_10_method_33_code 15 = .ok (.getfield 16, 3) := by decide +kernel
theorem dX8_comesBack_18 : decode prog_10_method_33_code 18 = .ok (.iload_n 1, 1) := by decide +kernel
theorem dX8_comesBack_19 : decode prog_10_method_33_code 19 = .ok (.iaload, 1) := by decide +kernel
theorem dX8_comesBack_20 : decode prog_10_method_33_code 20 = .ok (.iastore, 1) := by decide +kernel
theorem dX8_comesBack_21 : decode prog_10_method_33_code 21 = .ok (.iinc 1 1, 3) := by decide +kernel
theorem dX8_comesBack_24 : decode prog_10_method_33_code 24 = .ok (.goto (-22), 3) := by decide +kernel
theorem dX8_comesBack_27 : decode prog_10_method_33_code 27 = .ok (.return_, 1) := by decide +kernel
theorem dX8_law_0 : decode prog_10_method_42_code 0 = .ok (.aload_n 0, 1) := by decide +kernel
theorem dX8_law_1 : decode prog_10_method_42_code 1 = .ok (.invokevirtual 148, 3) := by decide +kernel
theorem dX8_law_4 : decode prog_10_method_42_code 4 = .ok (.aload_n 0, 1) := by decide +kernel
theorem dX8_law_5 : decode prog_10_method_42_code 5 = .ok (.iconst 1, 1) := by decide +kernel
theorem dX8_law_6 : decode prog_10_method_42_code 6 = .ok (.invokevirtual 151, 3) := by decide +kernel
theorem dX8_law_9 : decode prog_10_method_42_code 9 = .ok (.istore_n 1, 1) := by decide +kernel
theorem dX8_law_10 : decode prog_10_method_42_code 10 = .ok (.aload_n 0, 1) := by decide +kernel
theorem dX8_law_11 : decode prog_10_method_42_code 11 = .ok (.aload_n 0, 1) := by decide +kernel
theorem dX8_law_12 : decode prog_10_method_42_code 12 = .ok (.getfield 25, 3) := by decide +kernel
theorem dX8_law_15 : decode prog_10_method_42_code 15 = .ok (.iconst (-1), 1) := by decide +kernel
theorem dX8_law_16 : decode prog_10_method_42_code 16 = .ok (.if_icmp .eq 7, 3) := by decide +kernel
theorem dX8_law_19 : decode prog_10_method_42_code 19 = .ok (.iconst 1, 1) := by decide +kernel
theorem dX8_law_20 : decode prog_10_method_42_code 20 = .ok (.goto 4, 3) := by decide +kernel
theorem dX8_law_23 : decode prog_10_method_42_code 23 = .ok (.iconst 0, 1) := by decide +kernel
theorem dX8_law_24 : decode prog_10_method_42_code 24 = .ok (.putfield 39, 3) := by decide +kernel
theorem dX8_law_27 : decode prog_10_method_42_code 27 = .ok (.aload_n 0, 1) := by decide +kernel
theorem dX8_law_28 : decode prog_10_method_42_code 28 = .ok (.getfield 39, 3) := by decide +kernel
theorem dX8_law_31 : decode prog_10_method_42_code 31 = .ok (.ifCond .le 5, 3) := by decide +kernel
theorem dX8_law_34 : decode prog_10_method_42_code 34 = .ok (.iconst 0, 1) := by decide +kernel
theorem dX8_law_35 : decode prog_10_method_42_code 35 = .ok (.ireturn, 1) := by decide +kernel
theorem dX8_law_36 : decode prog_10_method_42_code 36 = .ok (.aload_n 0, 1) := by decide +kernel
theorem dX8_law_37 : decode prog_10_method_42_code 37 = .ok (.getfield 7, 3) := by decide +kernel
theorem dX8_law_40 : decode prog_10_method_42_code 40 = .ok (.iconst 1, 1) := by decide +kernel
theorem dX8_law_41 : decode prog_10_method_42_code 41 = .ok (.iload_n 1, 1) := by decide +kernel
theorem dX8_law_42 : decode prog_10_method_42_code 42 = .ok (.iastore, 1) := by decide +kernel
theorem dX8_law_43 : decode prog_10_method_42_code 43 = .ok (.aload_n 0, 1) := by decide +kernel
theorem dX8_law_44 : decode prog_10_method_42_code 44 = .ok (.getfield 7, 3) := by decide +kernel
theorem dX8_law_47 : decode prog_10_method_42_code 47 = .ok (.iconst 2, 1) := by decide +kernel
theorem dX8_law_48 : decode prog_10_method_42_code 48 = .ok (.aload_n 0, 1) := by decide +kernel
theorem dX8_law_49 : decode prog_10_method_42_code 49 = .ok (.getfield 59, 3) := by decide +kernel
theorem dX8_law_52 : decode prog_10_method_42_code 52 = .ok (.iastore, 1) := by decide +kernel
theorem dX8_law_53 : decode prog_10_method_42_code 53 = .ok (.iconst 0, 1) := by decide +kernel
theorem dX8_law_54 : decode prog_10_method_42_code 54 = .ok (.istore_n 2, 1) := by decide +kernel
theorem dX8_law_55 : decode prog_10_method_42_code 55 = .ok (.iload_n 2, 1) := by decide +kernel
theorem dX8_law_56 : decode prog_10_method_42_code 56 = .ok (.aload_n 0, 1) := by decide +kernel
theorem dX8_law_57 : decode prog_10_method_42_code 57 = .ok (.getfield 59, 3) := by decide +kernel
theorem dX8_law_60 : decode prog_10_method_42_code 60 = .ok (.if_icmp .ge 25, 3) := by decide +kernel
theorem dX8_law_63 : decode prog_10_method_42_code 63 = .ok (.aload_n 0, 1) := by decide +kernel
theorem dX8_law_64 : decode prog_10_method_42_code 64 = .ok (.getfield 7, 3) := by decide +kernel
theorem dX8_law_67 : decode prog_10_method_42_code 67 = .ok (.sipush 350, 3) := by decide +kernel
theorem dX8_law_70 : decode prog_10_method_42_code 70 = .ok (.iload_n 2, 1) := by decide +kernel
theorem dX8_law_71 : decode prog_10_method_42_code 71 = .ok (.iadd, 1) := by decide +kernel
theorem dX8_law_72 : decode prog_10_method_42_code 72 = .ok (.aload_n 0, 1) := by decide +kernel
theorem dX8_law_73 : decode prog_10_method_42_code 73 = .ok (.getfield 22, 3) := by decide +kernel
theorem dX8_law_76 : decode prog_10_method_42_code 76 = .ok (.iload_n 2, 1) := by decide +kernel
theorem dX8_law_77 : decode prog_10_method_42_code 77 = .ok (.iaload, 1) := by decide +kernel
theorem dX8_law_78 : decode prog_10_method_42_code 78 = .ok (.iastore, 1) := by decide +kernel
theorem dX8_law_79 : decode prog_10_method_42_code 79 = .ok (.iinc 2 1, 3) := by decide +kernel
theorem dX8_law_82 : decode prog_10_method_42_code 82 = .ok (.goto (-27), 3) := by decide +kernel
theorem dX8_law_85 : decode prog_10_method_42_code 85 = .ok (.aload_n 0, 1) := by decide +kernel
theorem dX8_law_86 : decode prog_10_method_42_code 86 = .ok (.iconst 0, 1) := by decide +kernel
theorem dX8_law_87 : decode prog_10_method_42_code 87 = .ok (.putfield 158, 3) := by decide +kernel
theorem dX8_law_90 : decode prog_10_method_42_code 90 = .ok (.iload_n 1, 1) := by decide +kernel
theorem dX8_law_91 : decode prog_10_method_42_code 91 = .ok (.ireturn, 1) := by decide +kernel
theorem dX8_fault_0 : decode prog_10_method_43_code 0 = .ok (.aload_n 0, 1) := by decide +kernel
theorem dX8_fault_1 : decode prog_10_method_43_code 1 = .ok (.iconst 0, 1) := by decide +kernel
theorem dX8_fault_2 : decode prog_10_method_43_code 2 = .ok (.putfield 39, 3) := by decide +kernel
theorem dX8_fault_5 : decode prog_10_method_43_code 5 = .ok (.aload_n 0, 1) := by decide +kernel
theorem dX8_fault_6 : decode prog_10_method_43_code 6 = .ok (.getfield 25, 3) := by decide +kernel
theorem dX8_fault_9 : decode prog_10_method_43_code 9 = .ok (.ireturn, 1) := by decide +kernel
theorem dX8_item_0 : decode prog_10_method_59_code 0 = .ok (.aload_n 0, 1) := by decide +kernel
theorem dX8_item_1 : decode prog_10_method_59_code 1 = .ok (.aload_n 0, 1) := by decide +kernel
theorem dX8_item_2 : decode prog_10_method_59_code 2 = .ok (.iload_n 1, 1) := by decide +kernel
theorem dX8_item_3 : decode prog_10_method_59_code 3 = .ok (.invokevirtual 277, 3) := by decide +kernel
theorem dX8_item_6 : decode prog_10_method_59_code 6 = .ok (.ifCond .ne 7, 3) := by decide +kernel
theorem dX8_item_9 : decode prog_10_method_59_code 9 = .ok (.iconst 1, 1) := by decide +kernel
theorem dX8_item_10 : decode prog_10_method_59_code 10 = .ok (.goto 18, 3) := by decide +kernel
theorem dX8_item_13 : decode prog_10_method_59_code 13 = .ok (.iload_n 2, 1) := by decide +kernel
theorem dX8_item_14 : decode prog_10_method_59_code 14 = .ok (.iconst 0, 1) := by decide +kernel
theorem dX8_item_15 : decode prog_10_method_59_code 15 = .ok (.bipush 9, 2) := by decide +kernel
theorem dX8_item_17 : decode prog_10_method_59_code 17 = .ok (.invokestatic 42, 3) := by decide +kernel
theorem dX8_item_20 : decode prog_10_method_59_code 20 = .ok (.ifCond .ne 7, 3) := by decide +kernel
theorem dX8_item_23 : decode prog_10_method_59_code 23 = .ok (.iconst 2, 1) := by decide +kernel
theorem dX8_item_24 : decode prog_10_method_59_code 24 = .ok (.goto 4, 3) := by decide +kernel
theorem dX8_item_27 : decode prog_10_method_59_code 27 = .ok (.iconst 0, 1) := by decide +kernel
theorem dX8_item_28 : decode prog_10_method_59_code 28 = .ok (.putfield 39, 3) := by decide +kernel
theorem dX8_item_31 : decode prog_10_method_59_code 31 = .ok (.aload_n 0, 1) := by decide +kernel
theorem dX8_item_32 : decode prog_10_method_59_code 32 = .ok (.getfield 39, 3) := by decide +kernel
theorem dX8_item_35 : decode prog_10_method_59_code 35 = .ok (.ifCond .le 5, 3) := by decide +kernel
theorem dX8_item_38 : decode prog_10_method_59_code 38 = .ok (.iconst 0, 1) := by decide +kernel
theorem dX8_item_39 : decode prog_10_method_59_code 39 = .ok (.ireturn, 1) := by decide +kernel
theorem dX8_item_40 : decode prog_10_method_59_code 40 = .ok (.iload_n 2, 1) := by decide +kernel
theorem dX8_item_41 : decode prog_10_method_59_code 41 = .ok (.ifCond .ne 10, 3) := by decide +kernel
theorem dX8_item_44 : decode prog_10_method_59_code 44 = .ok (.aload_n 0, 1) := by decide +kernel
theorem dX8_item_45 : decode prog_10_method_59_code 45 = .ok (.iload_n 1, 1) := by decide +kernel
theorem dX8_item_46 : decode prog_10_method_59_code 46 = .ok (.iconst 1, 1) := by decide +kernel
theorem dX8_item_47 : decode prog_10_method_59_code 47 = .ok (.invokevirtual 46, 3) := by decide +kernel
theorem dX8_item_50 : decode prog_10_method_59_code 50 = .ok (.ireturn, 1) := by decide +kernel
theorem dX8_item_51 : decode prog_10_method_59_code 51 = .ok (.iload_n 2, 1) := by decide +kernel
theorem dX8_item_52 : decode prog_10_method_59_code 52 = .ok (.iconst 1, 1) := by decide +kernel
theorem dX8_item_53 : decode prog_10_method_59_code 53 = .ok (.if_icmp .ne 10, 3) := by decide +kernel
theorem dX8_item_56 : decode prog_10_method_59_code 56 = .ok (.aload_n 0, 1) := by decide +kernel
theorem dX8_item_57 : decode prog_10_method_59_code 57 = .ok (.iload_n 1, 1) := by decide +kernel
theorem dX8_item_58 : decode prog_10_method_59_code 58 = .ok (.iconst 0, 1) := by decide +kernel
theorem dX8_item_59 : decode prog_10_method_59_code 59 = .ok (.invokevirtual 46, 3) := by decide +kernel
theorem dX8_item_62 : decode prog_10_method_59_code 62 = .ok (.ireturn, 1) := by decide +kernel
theorem dX8_item_63 : decode prog_10_method_59_code 63 = .ok (.iload_n 2, 1) := by decide +kernel
theorem dX8_item_64 : decode prog_10_method_59_code 64 = .ok (.bipush 7, 2) := by decide +kernel
theorem dX8_item_66 : decode prog_10_method_59_code 66 = .ok (.if_icmp .ge 10, 3) := by decide +kernel
theorem dX8_item_69 : decode prog_10_method_59_code 69 = .ok (.aload_n 0, 1) := by decide +kernel
theorem dX8_item_70 : decode prog_10_method_59_code 70 = .ok (.iload_n 1, 1) := by decide +kernel
theorem dX8_item_71 : decode prog_10_method_59_code 71 = .ok (.iload_n 2, 1) := by decide +kernel
theorem dX8_item_72 : decode prog_10_method_59_code 72 = .ok (.invokevirtual 46, 3) := by decide +kernel
theorem dX8_item_75 : decode prog_10_method_59_code 75 = .ok (.ireturn, 1) := by decide +kernel
theorem dX8_item_76 : decode prog_10_method_59_code 76 = .ok (.iload_n 2, 1) := by decide +kernel
theorem dX8_item_77 : decode prog_10_method_59_code 77 = .ok (.bipush 7, 2) := by decide +kernel
theorem dX8_item_79 : decode prog_10_method_59_code 79 = .ok (.if_icmp .ne 19, 3) := by decide +kernel
theorem dX8_item_82 : decode prog_10_method_59_code 82 = .ok (.aload_n 0, 1) := by decide +kernel
theorem dX8_item_83 : decode prog_10_method_59_code 83 = .ok (.iload_n 1, 1) := by decide +kernel
theorem dX8_item_84 : decode prog_10_method_59_code 84 = .ok (.invokevirtual 237, 3) := by decide +kernel
theorem dX8_item_87 : decode prog_10_method_59_code 87 = .ok (.ifCond .eq 7, 3) := by decide +kernel
theorem dX8_item_90 : decode prog_10_method_59_code 90 = .ok (.iconst 1, 1) := by decide +kernel
theorem dX8_item_91 : decode prog_10_method_59_code 91 = .ok (.goto 26, 3) := by decide +kernel
theorem dX8_item_94 : decode prog_10_method_59_code 94 = .ok (.iconst 0, 1) := by decide +kernel
theorem dX8_item_95 : decode prog_10_method_59_code 95 = .ok (.goto 22, 3) := by decide +kernel
theorem dX8_item_98 : decode prog_10_method_59_code 98 = .ok (.iload_n 2, 1) := by decide +kernel
theorem dX8_item_99 : decode prog_10_method_59_code 99 = .ok (.bipush 8, 2) := by decide +kernel
theorem dX8_item_101 : decode prog_10_method_59_code 101 = .ok (.if_icmp .ne 11, 3) := by decide +kernel
theorem dX8_item_104 : decode prog_10_method_59_code 104 = .ok (.aload_n 0, 1) := by decide +kernel
theorem dX8_item_105 : decode prog_10_method_59_code 105 = .ok (.iload_n 1, 1) := by decide +kernel
theorem dX8_item_106 : decode prog_10_method_59_code 106 = .ok (.invokevirtual 228, 3) := by decide +kernel
theorem dX8_item_109 : decode prog_10_method_59_code 109 = .ok (.goto 8, 3) := by decide +kernel
theorem dX8_item_112 : decode prog_10_method_59_code 112 = .ok (.aload_n 0, 1) := by decide +kernel
theorem dX8_item_113 : decode prog_10_method_59_code 113 = .ok (.iload_n 1, 1) := by decide +kernel
theorem dX8_item_114 : decode prog_10_method_59_code 114 = .ok (.invokevirtual 234, 3) := by decide +kernel
theorem dX8_item_117 : decode prog_10_method_59_code 117 = .ok (.ireturn, 1) := by decide +kernel
theorem dX8_isItem_0 : decode prog_10_method_11_code 0 = .ok (.iload_n 1, 1) := by decide +kernel
theorem dX8_isItem_1 : decode prog_10_method_11_code 1 = .ok (.iconst 0, 1) := by decide +kernel
theorem dX8_isItem_2 : decode prog_10_method_11_code 2 = .ok (.aload_n 0, 1) := by decide +kernel
theorem dX8_isItem_3 : decode prog_10_method_11_code 3 = .ok (.getfield 7, 3) := by decide +kernel
theorem dX8_isItem_6 : decode prog_10_method_11_code 6 = .ok (.iconst 3, 1) := by decide +kernel
theorem dX8_isItem_7 : decode prog_10_method_11_code 7 = .ok (.iaload, 1) := by decide +kernel
theorem dX8_isItem_8 : decode prog_10_method_11_code 8 = .ok (.iconst 1, 1) := by decide +kernel
theorem dX8_isItem_9 : decode prog_10_method_11_code 9 = .ok (.isub, 1) := by decide +kernel
theorem dX8_isItem_10 : decode prog_10_method_11_code 10 = .ok (.invokestatic 42, 3) := by decide +kernel
theorem dX8_isItem_13 : decode prog_10_method_11_code 13 = .ok (.ireturn, 1) := by decide +kernel
theorem dX8_of_0 : decode prog_10_method_9_code 0 = .ok (.aload_n 0, 1) := by decide +kernel
theorem dX8_of_1 : decode prog_10_method_9_code 1 = .ok (.getfield 7, 3) := by decide +kernel
theorem dX8_of_4 : decode prog_10_method_9_code 4 = .ok (.bipush 26, 2) := by decide +kernel
theorem dX8_of_6 : decode prog_10_method_9_code 6 = .ok (.bipush 7, 2) := by decide +kernel
theorem dX8_of_8 : decode prog_10_method_9_code 8 = .ok (.iload_n 1, 1) := by decide +kernel
theorem dX8_of_9 : decode prog_10_method_9_code 9 = .ok (.imul, 1) := by decide +kernel
theorem dX8_of_10 : decode prog_10_method_9_code 10 = .ok (.iadd, 1) := by decide +kernel
theorem dX8_of_11 : decode prog_10_method_9_code 11 = .ok (.iload_n 2, 1) := by decide +kernel
theorem dX8_of_12 : decode prog_10_method_9_code 12 = .ok (.iadd, 1) := by decide +kernel
theorem dX8_of_13 : decode prog_10_method_9_code 13 = .ok (.iaload, 1) := by decide +kernel
theorem dX8_of_14 : decode prog_10_method_9_code 14 = .ok (.ireturn, 1) := by decide +kernel
theorem dX8_isMissing_0 : decode prog_10_method_45_code 0 = .ok (.aload_n 0, 1) := by decide +kernel
theorem dX8_isMissing_1 : decode prog_10_method_45_code 1 = .ok (.iload_n 1, 1) := by decide +kernel
theorem dX8_isMissing_2 : decode prog_10_method_45_code 2 = .ok (.iconst 1, 1) := by decide +kernel
theorem dX8_isMissing_3 : decode prog_10_method_45_code 3 = .ok (.invokevirtual 46, 3) := by decide +kernel
theorem dX8_isMissing_6 : decode prog_10_method_45_code 6 = .ok (.aload_n 0, 1) := by decide +kernel
theorem dX8_isMissing_7 : decode prog_10_method_45_code 7 = .ok (.iload_n 1, 1) := by decide +kernel
theorem dX8_isMissing_8 : decode prog_10_method_45_code 8 = .ok (.iconst 5, 1) := by decide +kernel
theorem dX8_isMissing_9 : decode prog_10_method_45_code 9 = .ok (.invokevirtual 46, 3) := by decide +kernel
theorem dX8_isMissing_12 : decode prog_10_method_45_code 12 = .ok (.if_icmp .eq 7, 3) := by decide +kernel
theorem dX8_isMissing_15 : decode prog_10_method_45_code 15 = .ok (.iconst 1, 1) := by decide +kernel
theorem dX8_isMissing_16 : decode prog_10_method_45_code 16 = .ok (.goto 4, 3) := by decide +kernel
theorem dX8_isMissing_19 : decode prog_10_method_45_code 19 = .ok (.iconst 0, 1) := by decide +kernel
theorem dX8_isMissing_20 : decode prog_10_method_45_code 20 = .ok (.ireturn, 1) := by decide +kernel
theorem dX8_worseBy_0 : decode prog_10_method_46_code 0 = .ok (.iconst 0, 1) := by decide +kernel
theorem dX8_worseBy_1 : decode prog_10_method_46_code 1 = .ok (.aload_n 0, 1) := by decide +kernel
theorem dX8_worseBy_2 : decode prog_10_method_46_code 2 = .ok (.iload_n 1, 1) := by decide +kernel
theorem dX8_worseBy_3 : decode prog_10_method_46_code 3 = .ok (.iconst 2, 1) := by decide +kernel
theorem dX8_worseBy_4 : decode prog_10_method_46_code 4 = .ok (.invokevirtual 46, 3) := by decide +kernel
theorem dX8_worseBy_7 : decode prog_10_method_46_code 7 = .ok (.aload_n 0, 1) := by decide +kernel
theorem dX8_worseBy_8 : decode prog_10_method_46_code 8 = .ok (.iload_n 1, 1) := by decide +kernel
theorem dX8_worseBy_9 : decode prog_10_method_46_code 9 = .ok (.bipush 6, 2) := by decide +kernel
theorem dX8_worseBy_11 : decode prog_10_method_46_code 11 = .ok (.invokevirtual 46, 3) := by decide +kernel
theorem dX8_worseBy_14 : decode prog_10_method_46_code 14 = .ok (.isub, 1) := by decide +kernel
theorem dX8_worseBy_15 : decode prog_10_method_46_code 15 = .ok (.invokestatic 219, 3) := by decide +kernel
theorem dX8_worseBy_18 : decode prog_10_method_46_code 18 = .ok (.ireturn, 1) := by decide +kernel
theorem dX8_greater_0 : decode prog_10_method_5_code 0 = .ok (.iload_n 0, 1) := by decide +kernel
theorem dX8_greater_1 : decode prog_10_method_5_code 1 = .ok (.iload_n 1, 1) := by decide +kernel
theorem dX8_greater_2 : decode prog_10_method_5_code 2 = .ok (.if_icmp .le 7, 3) := by decide +kernel
theorem dX8_greater_5 : decode prog_10_method_5_code 5 = .ok (.iload_n 0, 1) := by decide +kernel
theorem dX8_greater_6 : decode prog_10_method_5_code 6 = .ok (.goto 4, 3) := by decide +kernel
theorem dX8_greater_9 : decode prog_10_method_5_code 9 = .ok (.iload_n 1, 1) := by decide +kernel
theorem dX8_greater_10 : decode prog_10_method_5_code 10 = .ok (.ireturn, 1) := by decide +kernel
theorem dX8_workOf_0 : decode prog_10_method_48_code 0 = .ok (.aload_n 0, 1) := by decide +kernel
theorem dX8_workOf_1 : decode prog_10_method_48_code 1 = .ok (.iload_n 1, 1) := by decide +kernel
theorem dX8_workOf_2 : decode prog_10_method_48_code 2 = .ok (.iconst 1, 1) := by decide +kernel
theorem dX8_workOf_3 : decode prog_10_method_48_code 3 = .ok (.invokevirtual 46, 3) := by decide +kernel
theorem dX8_workOf_6 : decode prog_10_method_48_code 6 = .ok (.aload_n 0, 1) := by decide +kernel
theorem dX8_workOf_7 : decode prog_10_method_48_code 7 = .ok (.iload_n 1, 1) := by decide +kernel
theorem dX8_workOf_8 : decode prog_10_method_48_code 8 = .ok (.iconst 5, 1) := by decide +kernel
theorem dX8_workOf_9 : decode prog_10_method_48_code 9 = .ok (.invokevirtual 46, 3) := by decide +kernel
theorem dX8_workOf_12 : decode prog_10_method_48_code 12 = .ok (.invokestatic 225, 3) := by decide +kernel
theorem dX8_workOf_15 : decode prog_10_method_48_code 15 = .ok (.aload_n 0, 1) := by decide +kernel
theorem dX8_workOf_16 : decode prog_10_method_48_code 16 = .ok (.iload_n 1, 1) := by decide +kernel
theorem dX8_workOf_17 : decode prog_10_method_48_code 17 = .ok (.invokevirtual 228, 3) := by decide +kernel
theorem dX8_workOf_20 : decode prog_10_method_48_code 20 = .ok (.iconst 5, 1) := by decide +kernel
theorem dX8_workOf_21 : decode prog_10_method_48_code 21 = .ok (.invokestatic 231, 3) := by decide +kernel
theorem dX8_workOf_24 : decode prog_10_method_48_code 24 = .ok (.iadd, 1) := by decide +kernel
theorem dX8_workOf_25 : decode prog_10_method_48_code 25 = .ok (.ireturn, 1) := by decide +kernel
theorem dX8_stepsOf_0 : decode prog_10_method_47_code 0 = .ok (.iload_n 0, 1) := by decide +kernel
theorem dX8_stepsOf_1 : decode prog_10_method_47_code 1 = .ok (.iload_n 1, 1) := by decide +kernel
theorem dX8_stepsOf_2 : decode prog_10_method_47_code 2 = .ok (.isub, 1) := by decide +kernel
theorem dX8_stepsOf_3 : decode prog_10_method_47_code 3 = .ok (.bipush 6, 2) := by decide +kernel
theorem dX8_stepsOf_5 : decode prog_10_method_47_code 5 = .ok (.iadd, 1) := by decide +kernel
theorem dX8_stepsOf_6 : decode prog_10_method_47_code 6 = .ok (.bipush 6, 2) := by decide +kernel
theorem dX8_stepsOf_8 : decode prog_10_method_47_code 8 = .ok (.irem, 1) := by decide +kernel
theorem dX8_stepsOf_9 : decode prog_10_method_47_code 9 = .ok (.istore_n 2, 1) := by decide +kernel
theorem dX8_stepsOf_10 : decode prog_10_method_47_code 10 = .ok (.iload_n 2, 1) := by decide +kernel
theorem dX8_stepsOf_11 : decode prog_10_method_47_code 11 = .ok (.bipush 6, 2) := by decide +kernel
theorem dX8_stepsOf_13 : decode prog_10_method_47_code 13 = .ok (.iload_n 2, 1) := by decide +kernel
theorem dX8_stepsOf_14 : decode prog_10_method_47_code 14 = .ok (.isub, 1) := by decide +kernel
theorem dX8_stepsOf_15 : decode prog_10_method_47_code 15 = .ok (.invokestatic 222, 3) := by decide +kernel
theorem dX8_stepsOf_18 : decode prog_10_method_47_code 18 = .ok (.ireturn, 1) := by decide +kernel
theorem dX8_lesser_0 : decode prog_10_method_4_code 0 = .ok (.iload_n 0, 1) := by decide +kernel
theorem dX8_lesser_1 : decode prog_10_method_4_code 1 = .ok (.iload_n 1, 1) := by decide +kernel
theorem dX8_lesser_2 : decode prog_10_method_4_code 2 = .ok (.if_icmp .ge 7, 3) := by decide +kernel
theorem dX8_lesser_5 : decode prog_10_method_4_code 5 = .ok (.iload_n 0, 1) := by decide +kernel
theorem dX8_lesser_6 : decode prog_10_method_4_code 6 = .ok (.goto 4, 3) := by decide +kernel
theorem dX8_lesser_9 : decode prog_10_method_4_code 9 = .ok (.iload_n 1, 1) := by decide +kernel
theorem dX8_lesser_10 : decode prog_10_method_4_code 10 = .ok (.ireturn, 1) := by decide +kernel
theorem dX8_rounded_0 : decode prog_10_method_8_code 0 = .ok (.iload_n 0, 1) := by decide +kernel
theorem dX8_rounded_1 : decode prog_10_method_8_code 1 = .ok (.iload_n 1, 1) := by decide +kernel
theorem dX8_rounded_2 : decode prog_10_method_8_code 2 = .ok (.iadd, 1) := by decide +kernel
theorem dX8_rounded_3 : decode prog_10_method_8_code 3 = .ok (.iconst 1, 1) := by decide +kernel
theorem dX8_rounded_4 : decode prog_10_method_8_code 4 = .ok (.isub, 1) := by decide +kernel
theorem dX8_rounded_5 : decode prog_10_method_8_code 5 = .ok (.iload_n 1, 1) := by decide +kernel
theorem dX8_rounded_6 : decode prog_10_method_8_code 6 = .ok (.idiv, 1) := by decide +kernel
theorem dX8_rounded_7 : decode prog_10_method_8_code 7 = .ok (.ireturn, 1) := by decide +kernel
theorem dX8_room_0 : decode prog_10_method_61_code 0 = .ok (.aload_n 0, 1) := by decide +kernel
theorem dX8_room_1 : decode prog_10_method_61_code 1 = .ok (.iload_n 1, 1) := by decide +kernel
theorem dX8_room_2 : decode prog_10_method_61_code 2 = .ok (.invokestatic 280, 3) := by decide +kernel
theorem dX8_room_5 : decode prog_10_method_61_code 5 = .ok (.ifCond .ne 7, 3) := by decide +kernel
theorem dX8_room_8 : decode prog_10_method_61_code 8 = .ok (.iconst 1, 1) := by decide +kernel
theorem dX8_room_9 : decode prog_10_method_61_code 9 = .ok (.goto 17, 3) := by decide +kernel
theorem dX8_room_12 : decode prog_10_method_61_code 12 = .ok (.iload_n 2, 1) := by decide +kernel
theorem dX8_room_13 : decode prog_10_method_61_code 13 = .ok (.iconst 0, 1) := by decide +kernel
theorem dX8_room_14 : decode prog_10_method_61_code 14 = .ok (.iconst 3, 1) := by decide +kernel
theorem dX8_room_15 : decode prog_10_method_61_code 15 = .ok (.invokestatic 42, 3) := by decide +kernel
theorem dX8_room_18 : decode prog_10_method_61_code 18 = .ok (.ifCond .ne 7, 3) := by decide +kernel
theorem dX8_room_21 : decode prog_10_method_61_code 21 = .ok (.iconst 2, 1) := by decide +kernel
theorem dX8_room_22 : decode prog_10_method_61_code 22 = .ok (.goto 4, 3) := by decide +kernel
theorem dX8_room_25 : decode prog_10_method_61_code 25 = .ok (.iconst 0, 1) := by decide +kernel
theorem dX8_room_26 : decode prog_10_method_61_code 26 = .ok (.putfield 39, 3) := by decide +kernel
theorem dX8_room_29 : decode prog_10_method_61_code 29 = .ok (.aload_n 0, 1) := by decide +kernel
theorem dX8_room_30 : decode prog_10_method_61_code 30 = .ok (.getfield 39, 3) := by decide +kernel
theorem dX8_room_33 : decode prog_10_method_61_code 33 = .ok (.ifCond .le 5, 3) := by decide +kernel
theorem dX8_room_36 : decode prog_10_method_61_code 36 = .ok (.iconst 0, 1) := by decide +kernel
theorem dX8_room_37 : decode prog_10_method_61_code 37 = .ok (.ireturn, 1) := by decide +kernel
theorem dX8_room_38 : decode prog_10_method_61_code 38 = .ok (.iload_n 2, 1) := by decide +kernel
theorem dX8_room_39 : decode prog_10_method_61_code 39 = .ok (.ifCond .ne 15, 3) := by decide +kernel
theorem dX8_room_42 : decode prog_10_method_61_code 42 = .ok (.aload_n 0, 1) := by decide +kernel
theorem dX8_room_43 : decode prog_10_method_61_code 43 = .ok (.getfield 7, 3) := by decide +kernel
theorem dX8_room_46 : decode prog_10_method_61_code 46 = .ok (.bipush 14, 2) := by decide +kernel
theorem dX8_room_48 : decode prog_10_method_61_code 48 = .ok (.iload_n 1, 1) := by decide +kernel
theorem dX8_room_49 : decode prog_10_method_61_code 49 = .ok (.iadd, 1) := by decide +kernel
theorem dX8_room_50 : decode prog_10_method_61_code 50 = .ok (.iaload, 1) := by decide +kernel
theorem dX8_room_51 : decode prog_10_method_61_code 51 = .ok (.goto 35, 3) := by decide +kernel
theorem dX8_room_54 : decode prog_10_method_61_code 54 = .ok (.iload_n 2, 1) := by decide +kernel
theorem dX8_room_55 : decode prog_10_method_61_code 55 = .ok (.iconst 1, 1) := by decide +kernel
theorem dX8_room_56 : decode prog_10_method_61_code 56 = .ok (.if_icmp .ne 15, 3) := by decide +kernel
theorem dX8_room_59 : decode prog_10_method_61_code 59 = .ok (.aload_n 0, 1) := by decide +kernel
theorem dX8_room_60 : decode prog_10_method_61_code 60 = .ok (.getfield 7, 3) := by decide +kernel
theorem dX8_room_63 : decode prog_10_method_61_code 63 = .ok (.bipush 20, 2) := by decide +kernel
theorem dX8_room_65 : decode prog_10_method_61_code 65 = .ok (.iload_n 1, 1) := by decide +kernel
theorem dX8_room_66 : decode prog_10_method_61_code 66 = .ok (.iadd, 1) := by decide +kernel
theorem dX8_room_67 : decode prog_10_method_61_code 67 = .ok (.iaload, 1) := by decide +kernel
theorem dX8_room_68 : decode prog_10_method_61_code 68 = .ok (.goto 18, 3) := by decide +kernel
theorem dX8_room_71 : decode prog_10_method_61_code 71 = .ok (.aload_n 0, 1) := by decide +kernel
theorem dX8_room_72 : decode prog_10_method_61_code 72 = .ok (.iload_n 1, 1) := by decide +kernel
theorem dX8_room_73 : decode prog_10_method_61_code 73 = .ok (.iload_n 2, 1) := by decide +kernel
theorem dX8_room_74 : decode prog_10_method_61_code 74 = .ok (.iconst 2, 1) := by decide +kernel
theorem dX8_room_75 : decode prog_10_method_61_code 75 = .ok (.if_icmp .ne 7, 3) := by decide +kernel
theorem dX8_room_78 : decode prog_10_method_61_code 78 = .ok (.iconst 1, 1) := by decide +kernel
theorem dX8_room_79 : decode prog_10_method_61_code 79 = .ok (.goto 4, 3) := by decide +kernel
theorem dX8_room_82 : decode prog_10_method_61_code 82 = .ok (.iconst 0, 1) := by decide +kernel
theorem dX8_room_83 : decode prog_10_method_61_code 83 = .ok (.invokevirtual 283, 3) := by decide +kernel
theorem dX8_room_86 : decode prog_10_method_61_code 86 = .ok (.ireturn, 1) := by decide +kernel
theorem dX8_isRoom_0 : decode prog_10_method_12_code 0 = .ok (.iload_n 0, 1) := by decide +kernel
theorem dX8_isRoom_1 : decode prog_10_method_12_code 1 = .ok (.iconst 0, 1) := by decide +kernel
theorem dX8_isRoom_2 : decode prog_10_method_12_code 2 = .ok (.iconst 5, 1) := by decide +kernel
theorem dX8_isRoom_3 : decode prog_10_method_12_code 3 = .ok (.invokestatic 42, 3) := by decide +kernel
theorem dX8_isRoom_6 : decode prog_10_method_12_code 6 = .ok (.ireturn, 1) := by decide +kernel
theorem dX8_itemsOf_0 : decode prog_10_method_60_code 0 = .ok (.iconst 0, 1) := by decide +kernel
theorem dX8_itemsOf_1 : decode prog_10_method_60_code 1 = .ok (.istore_n 3, 1) := by decide +kernel
theorem dX8_itemsOf_2 : decode prog_10_method_60_code 2 = .ok (.iconst 0, 1) := by decide +kernel
theorem dX8_itemsOf_3 : decode prog_10_method_60_code 3 = .ok (.istore 4, 2) := by decide +kernel
theorem dX8_itemsOf_5 : decode prog_10_method_60_code 5 = .ok (.iload 4, 2) := by decide +kernel
theorem dX8_itemsOf_7 : decode prog_10_method_60_code 7 = .ok (.aload_n 0, 1) := by decide +kernel
theorem dX8_itemsOf_8 : decode prog_10_method_60_code 8 = .ok (.getfield 7, 3) := by decide +kernel
theorem dX8_itemsOf_11 : decode prog_10_method_60_code 11 = .ok (.iconst 3, 1) := by decide +kernel
theorem dX8_itemsOf_12 : decode prog_10_method_60_code 12 = .ok (.iaload, 1) := by decide +kernel
theorem dX8_itemsOf_13 : decode prog_10_method_60_code 13 = .ok (.if_icmp .ge 31, 3) := by decide +kernel
theorem dX8_itemsOf_16 : decode prog_10_method_60_code 16 = .ok (.iload_n 3, 1) := by decide +kernel
theorem dX8_itemsOf_17 : decode prog_10_method_60_code 17 = .ok (.aload_n 0, 1) := by decide +kernel
theorem dX8_itemsOf_18 : decode prog_10_method_60_code 18 = .ok (.iload 4, 2) := by decide +kernel
theorem dX8_itemsOf_20 : decode prog_10_method_60_code 20 = .ok (.iload_n 2, 1) := by decide +kernel
theorem dX8_itemsOf_21 : decode prog_10_method_60_code 21 = .ok (.invokevirtual 46, 3) := by decide +kernel
theorem dX8_itemsOf_24 : decode prog_10_method_60_code 24 = .ok (.iload_n 1, 1) := by decide +kernel
theorem dX8_itemsOf_25 : decode prog_10_method_60_code 25 = .ok (.if_icmp .ne 10, 3) := by decide +kernel
theorem dX8_itemsOf_28 : decode prog_10_method_60_code 28 = .ok (.iconst 1, 1) := by decide +kernel
theorem dX8_itemsOf_29 : decode prog_10_method_60_code 29 = .ok (.iload 4, 2) := by decide +kernel
theorem dX8_itemsOf_31 : decode prog_10_method_60_code 31 = .ok (.ishl, 1) := by decide +kernel
theorem dX8_itemsOf_32 : decode prog_10_method_60_code 32 = .ok (.goto 4, 3) := by decide +kernel
theorem dX8_itemsOf_35 : decode prog_10_method_60_code 35 = .ok (.iconst 0, 1) := by decide +kernel
theorem dX8_itemsOf_36 : decode prog_10_method_60_code 36 = .ok (.ior, 1) := by decide +kernel
theorem dX8_itemsOf_37 : decode prog_10_method_60_code 37 = .ok (.istore_n 3, 1) := by decide +kernel
theorem dX8_itemsOf_38 : decode prog_10_method_60_code 38 = .ok (.iinc 4 1, 3) := by decide +kernel
theorem dX8_itemsOf_41 : decode prog_10_method_60_code 41 = .ok (.goto (-36), 3) := by decide +kernel
theorem dX8_itemsOf_44 : decode prog_10_method_60_code 44 = .ok (.iload_n 3, 1) := by decide +kernel
theorem dX8_itemsOf_45 : decode prog_10_method_60_code 45 = .ok (.ireturn, 1) := by decide +kernel
theorem dX8_side_0 : decode prog_10_method_64_code 0 = .ok (.aload_n 0, 1) := by decide +kernel
theorem dX8_side_1 : decode prog_10_method_64_code 1 = .ok (.iload_n 1, 1) := by decide +kernel
theorem dX8_side_2 : decode prog_10_method_64_code 2 = .ok (.iconst 0, 1) := by decide +kernel
theorem dX8_side_3 : decode prog_10_method_64_code 3 = .ok (.iconst 1, 1) := by decide +kernel
theorem dX8_side_4 : decode prog_10_method_64_code 4 = .ok (.invokestatic 42, 3) := by decide +kernel
theorem dX8_side_7 : decode prog_10_method_64_code 7 = .ok (.ifCond .ne 7, 3) := by decide +kernel
theorem dX8_side_10 : decode prog_10_method_64_code 10 = .ok (.iconst 1, 1) := by decide +kernel
theorem dX8_side_11 : decode prog_10_method_64_code 11 = .ok (.goto 17, 3) := by decide +kernel
theorem dX8_side_14 : decode prog_10_method_64_code 14 = .ok (.iload_n 2, 1) := by decide +kernel
theorem dX8_side_15 : decode prog_10_method_64_code 15 = .ok (.iconst 0, 1) := by decide +kernel
theorem dX8_side_16 : decode prog_10_method_64_code 16 = .ok (.iconst 4, 1) := by decide +kernel
theorem dX8_side_17 : decode prog_10_method_64_code 17 = .ok (.invokestatic 42, 3) := by decide +kernel
theorem dX8_side_20 : decode prog_10_method_64_code 20 = .ok (.ifCond .ne 7, 3) := by decide +kernel
theorem dX8_side_23 : decode prog_10_method_64_code 23 = .ok (.iconst 2, 1) := by decide +kernel
theorem dX8_side_24 : decode prog_10_method_64_code 24 = .ok (.goto 4, 3) := by decide +kernel
theorem dX8_side_27 : decode prog_10_method_64_code 27 = .ok (.iconst 0, 1) := by decide +kernel
theorem dX8_side_28 : decode prog_10_method_64_code 28 = .ok (.putfield 39, 3) := by decide +kernel
theorem dX8_side_31 : decode prog_10_method_64_code 31 = .ok (.aload_n 0, 1) := by decide +kernel
theorem dX8_side_32 : decode prog_10_method_64_code 32 = .ok (.getfield 39, 3) := by decide +kernel
theorem dX8_side_35 : decode prog_10_method_64_code 35 = .ok (.ifCond .le 5, 3) := by decide +kernel
theorem dX8_side_38 : decode prog_10_method_64_code 38 = .ok (.iconst 0, 1) := by decide +kernel
theorem dX8_side_39 : decode prog_10_method_64_code 39 = .ok (.ireturn, 1) := by decide +kernel
theorem dX8_side_40 : decode prog_10_method_64_code 40 = .ok (.iload_n 2, 1) := by decide +kernel
theorem dX8_side_41 : decode prog_10_method_64_code 41 = .ok (.ifCond .ne 13, 3) := by decide +kernel
theorem dX8_side_44 : decode prog_10_method_64_code 44 = .ok (.aload_n 0, 1) := by decide +kernel
theorem dX8_side_45 : decode prog_10_method_64_code 45 = .ok (.getfield 7, 3) := by decide +kernel
theorem dX8_side_48 : decode prog_10_method_64_code 48 = .ok (.bipush 7, 2) := by decide +kernel
theorem dX8_side_50 : decode prog_10_method_64_code 50 = .ok (.iload_n 1, 1) := by decide +kernel
theorem dX8_side_51 : decode prog_10_method_64_code 51 = .ok (.iadd, 1) := by decide +kernel
theorem dX8_side_52 : decode prog_10_method_64_code 52 = .ok (.iaload, 1) := by decide +kernel
theorem dX8_side_53 : decode prog_10_method_64_code 53 = .ok (.ireturn, 1) := by decide +kernel
theorem dX8_side_54 : decode prog_10_method_64_code 54 = .ok (.iload_n 2, 1) := by decide +kernel
theorem dX8_side_55 : decode prog_10_method_64_code 55 = .ok (.iconst 1, 1) := by decide +kernel
theorem dX8_side_56 : decode prog_10_method_64_code 56 = .ok (.if_icmp .ne 13, 3) := by decide +kernel
theorem dX8_side_59 : decode prog_10_method_64_code 59 = .ok (.aload_n 0, 1) := by decide +kernel
theorem dX8_side_60 : decode prog_10_method_64_code 60 = .ok (.getfield 7, 3) := by decide +kernel
theorem dX8_side_63 : decode prog_10_method_64_code 63 = .ok (.bipush 9, 2) := by decide +kernel
theorem dX8_side_65 : decode prog_10_method_64_code 65 = .ok (.iload_n 1, 1) := by decide +kernel
theorem dX8_side_66 : decode prog_10_method_64_code 66 = .ok (.iadd, 1) := by decide +kernel
theorem dX8_side_67 : decode prog_10_method_64_code 67 = .ok (.iaload, 1) := by decide +kernel
theorem dX8_side_68 : decode prog_10_method_64_code 68 = .ok (.ireturn, 1) := by decide +kernel
theorem dX8_side_69 : decode prog_10_method_64_code 69 = .ok (.iload_n 2, 1) := by decide +kernel
theorem dX8_side_70 : decode prog_10_method_64_code 70 = .ok (.iconst 2, 1) := by decide +kernel
theorem dX8_side_71 : decode prog_10_method_64_code 71 = .ok (.if_icmp .ne 12, 3) := by decide +kernel
theorem dX8_side_74 : decode prog_10_method_64_code 74 = .ok (.aload_n 0, 1) := by decide +kernel
theorem dX8_side_75 : decode prog_10_method_64_code 75 = .ok (.iload_n 1, 1) := by decide +kernel
theorem dX8_side_76 : decode prog_10_method_64_code 76 = .ok (.iconst 4, 1) := by decide +kernel
theorem dX8_side_77 : decode prog_10_method_64_code 77 = .ok (.invokevirtual 283, 3) := by decide +kernel
theorem dX8_side_80 : decode prog_10_method_64_code 80 = .ok (.goto 21, 3) := by decide +kernel
theorem dX8_side_83 : decode prog_10_method_64_code 83 = .ok (.iload_n 2, 1) := by decide +kernel
theorem dX8_side_84 : decode prog_10_method_64_code 84 = .ok (.iconst 3, 1) := by decide +kernel
theorem dX8_side_85 : decode prog_10_method_64_code 85 = .ok (.if_icmp .ne 11, 3) := by decide +kernel
theorem dX8_side_88 : decode prog_10_method_64_code 88 = .ok (.aload_n 0, 1) := by decide +kernel
theorem dX8_side_89 : decode prog_10_method_64_code 89 = .ok (.iload_n 1, 1) := by decide +kernel
theorem dX8_side_90 : decode prog_10_method_64_code 90 = .ok (.invokevirtual 289, 3) := by decide +kernel
theorem dX8_side_93 : decode prog_10_method_64_code 93 = .ok (.goto 8, 3) := by decide +kernel
theorem dX8_side_96 : decode prog_10_method_64_code 96 = .ok (.aload_n 0, 1) := by decide +kernel
theorem dX8_side_97 : decode prog_10_method_64_code 97 = .ok (.iload_n 1, 1) := by decide +kernel
theorem dX8_side_98 : decode prog_10_method_64_code 98 = .ok (.invokevirtual 292, 3) := by decide +kernel
theorem dX8_side_101 : decode prog_10_method_64_code 101 = .ok (.ireturn, 1) := by decide +kernel
theorem dX8_needs_0 : decode prog_10_method_62_code 0 = .ok (.aload_n 0, 1) := by decide +kernel
theorem dX8_needs_1 : decode prog_10_method_62_code 1 = .ok (.invokevirtual 286, 3) := by decide +kernel
theorem dX8_needs_4 : decode prog_10_method_62_code 4 = .ok (.istore_n 2, 1) := by decide +kernel
theorem dX8_needs_5 : decode prog_10_method_62_code 5 = .ok (.iload_n 2, 1) := by decide +kernel
theorem dX8_needs_6 : decode prog_10_method_62_code 6 = .ok (.ifCond .ne 7, 3) := by decide +kernel
theorem dX8_needs_9 : decode prog_10_method_62_code 9 = .ok (.iconst 0, 1) := by decide +kernel
theorem dX8_needs_10 : decode prog_10_method_62_code 10 = .ok (.goto 32, 3) := by decide +kernel
theorem dX8_needs_13 : decode prog_10_method_62_code 13 = .ok (.aload_n 0, 1) := by decide +kernel
theorem dX8_needs_14 : decode prog_10_method_62_code 14 = .ok (.getfield 7, 3) := by decide +kernel
theorem dX8_needs_17 : decode prog_10_method_62_code 17 = .ok (.bipush 7, 2) := by decide +kernel
theorem dX8_needs_19 : decode prog_10_method_62_code 19 = .ok (.iload_n 1, 1) := by decide +kernel
theorem dX8_needs_20 : decode prog_10_method_62_code 20 = .ok (.iadd, 1) := by decide +kernel
theorem dX8_needs_21 : decode prog_10_method_62_code 21 = .ok (.iaload, 1) := by decide +kernel
theorem dX8_needs_22 : decode prog_10_method_62_code 22 = .ok (.ifCond .ne 7, 3) := by decide +kernel
theorem dX8_needs_25 : decode prog_10_method_62_code 25 = .ok (.iconst (-1), 1) := by decide +kernel
theorem dX8_needs_26 : decode prog_10_method_62_code 26 = .ok (.goto 16, 3) := by decide +kernel
theorem dX8_needs_29 : decode prog_10_method_62_code 29 = .ok (.iload_n 2, 1) := by decide +kernel
theorem dX8_needs_30 : decode prog_10_method_62_code 30 = .ok (.aload_n 0, 1) := by decide +kernel
theorem dX8_needs_31 : decode prog_10_method_62_code 31 = .ok (.getfield 7, 3) := by decide +kernel
theorem dX8_needs_34 : decode prog_10_method_62_code 34 = .ok (.bipush 7, 2) := by decide +kernel
theorem dX8_needs_36 : decode prog_10_method_62_code 36 = .ok (.iload_n 1, 1) := by decide +kernel
theorem dX8_needs_37 : decode prog_10_method_62_code 37 = .ok (.iadd, 1) := by decide +kernel
theorem dX8_needs_38 : decode prog_10_method_62_code 38 = .ok (.iaload, 1) := by decide +kernel
theorem dX8_needs_39 : decode prog_10_method_62_code 39 = .ok (.invokestatic 231, 3) := by decide +kernel
theorem dX8_needs_42 : decode prog_10_method_62_code 42 = .ok (.ireturn, 1) := by decide +kernel
theorem dX8_workOfAll_0 : decode prog_10_method_49_code 0 = .ok (.iconst 0, 1) := by decide +kernel
theorem dX8_workOfAll_1 : decode prog_10_method_49_code 1 = .ok (.istore_n 1, 1) := by decide +kernel
theorem dX8_workOfAll_2 : decode prog_10_method_49_code 2 = .ok (.iconst 0, 1) := by decide +kernel
theorem dX8_workOfAll_3 : decode prog_10_method_49_code 3 = .ok (.istore_n 2, 1) := by decide +kernel
theorem dX8_workOfAll_4 : decode prog_10_method_49_code 4 = .ok (.iload_n 2, 1) := by decide +kernel
theorem dX8_workOfAll_5 : decode prog_10_method_49_code 5 = .ok (.aload_n 0, 1) := by decide +kernel
theorem dX8_workOfAll_6 : decode prog_10_method_49_code 6 = .ok (.getfield 7, 3) := by decide +kernel
theorem dX8_workOfAll_9 : decode prog_10_method_49_code 9 = .ok (.iconst 3, 1) := by decide +kernel
theorem dX8_workOfAll_10 : decode prog_10_method_49_code 10 = .ok (.iaload, 1) := by decide +kernel
theorem dX8_workOfAll_11 : decode prog_10_method_49_code 11 = .ok (.if_icmp .ge 17, 3) := by decide +kernel
theorem dX8_workOfAll_14 : decode prog_10_method_49_code 14 = .ok (.iload_n 1, 1) := by decide +kernel
theorem dX8_workOfAll_15 : decode prog_10_method_49_code 15 = .ok (.aload_n 0, 1) := by decide +kernel
theorem dX8_workOfAll_16 : decode prog_10_method_49_code 16 = .ok (.iload_n 2, 1) := by decide +kernel
theorem dX8_workOfAll_17 : decode prog_10_method_49_code 17 = .ok (.invokevirtual 234, 3) := by decide +kernel
theorem dX8_workOfAll_20 : decode prog_10_method_49_code 20 = .ok (.iadd, 1) := by decide +kernel
theorem dX8_workOfAll_21 : decode prog_10_method_49_code 21 = .ok (.istore_n 1, 1) := by decide +kernel
theorem dX8_workOfAll_22 : decode prog_10_method_49_code 22 = .ok (.iinc 2 1, 3) := by decide +kernel
theorem dX8_workOfAll_25 : decode prog_10_method_49_code 25 = .ok (.goto (-21), 3) := by decide +kernel
theorem dX8_workOfAll_28 : decode prog_10_method_49_code 28 = .ok (.iconst 0, 1) := by decide +kernel
theorem dX8_workOfAll_29 : decode prog_10_method_49_code 29 = .ok (.istore_n 2, 1) := by decide +kernel
theorem dX8_workOfAll_30 : decode prog_10_method_49_code 30 = .ok (.iload_n 2, 1) := by decide +kernel
theorem dX8_workOfAll_31 : decode prog_10_method_49_code 31 = .ok (.bipush 6, 2) := by decide +kernel
theorem dX8_workOfAll_33 : decode prog_10_method_49_code 33 = .ok (.if_icmp .ge 26, 3) := by decide +kernel
theorem dX8_workOfAll_36 : decode prog_10_method_49_code 36 = .ok (.iload_n 1, 1) := by decide +kernel
theorem dX8_workOfAll_37 : decode prog_10_method_49_code 37 = .ok (.aload_n 0, 1) := by decide +kernel
theorem dX8_workOfAll_38 : decode prog_10_method_49_code 38 = .ok (.getfield 7, 3) := by decide +kernel
theorem dX8_workOfAll_41 : decode prog_10_method_49_code 41 = .ok (.bipush 14, 2) := by decide +kernel
theorem dX8_workOfAll_43 : decode prog_10_method_49_code 43 = .ok (.iload_n 2, 1) := by decide +kernel
theorem dX8_workOfAll_44 : decode prog_10_method_49_code 44 = .ok (.iadd, 1) := by decide +kernel
theorem dX8_workOfAll_45 : decode prog_10_method_49_code 45 = .ok (.iaload, 1) := by decide +kernel
theorem dX8_workOfAll_46 : decode prog_10_method_49_code 46 = .ok (.bipush 10, 2) := by decide +kernel
theorem dX8_workOfAll_48 : decode prog_10_method_49_code 48 = .ok (.invokestatic 231, 3) := by decide +kernel
theorem dX8_workOfAll_51 : decode prog_10_method_49_code 51 = .ok (.iadd, 1) := by decide +kernel
theorem dX8_workOfAll_52 : decode prog_10_method_49_code 52 = .ok (.istore_n 1, 1) := by decide +kernel
theorem dX8_workOfAll_53 : decode prog_10_method_49_code 53 = .ok (.iinc 2 1, 3) := by decide +kernel
theorem dX8_workOfAll_56 : decode prog_10_method_49_code 56 = .ok (.goto (-26), 3) := by decide +kernel
theorem dX8_workOfAll_59 : decode prog_10_method_49_code 59 = .ok (.iload_n 1, 1) := by decide +kernel
theorem dX8_workOfAll_60 : decode prog_10_method_49_code 60 = .ok (.ireturn, 1) := by decide +kernel
theorem dX8_latest_0 : decode prog_10_method_63_code 0 = .ok (.sipush 182, 3) := by decide +kernel
theorem dX8_latest_3 : decode prog_10_method_63_code 3 = .ok (.aload_n 0, 1) := by decide +kernel
theorem dX8_latest_4 : decode prog_10_method_63_code 4 = .ok (.getfield 7, 3) := by decide +kernel
theorem dX8_latest_7 : decode prog_10_method_63_code 7 = .ok (.iconst 4, 1) := by decide +kernel
theorem dX8_latest_8 : decode prog_10_method_63_code 8 = .ok (.iaload, 1) := by decide +kernel
theorem dX8_latest_9 : decode prog_10_method_63_code 9 = .ok (.sipush 182, 3) := by decide +kernel
theorem dX8_latest_12 : decode prog_10_method_63_code 12 = .ok (.irem, 1) := by decide +kernel
theorem dX8_latest_13 : decode prog_10_method_63_code 13 = .ok (.isub, 1) := by decide +kernel
theorem dX8_latest_14 : decode prog_10_method_63_code 14 = .ok (.istore_n 2, 1) := by decide +kernel
theorem dX8_latest_15 : decode prog_10_method_63_code 15 = .ok (.aload_n 0, 1) := by decide +kernel
theorem dX8_latest_16 : decode prog_10_method_63_code 16 = .ok (.iload_n 1, 1) := by decide +kernel
theorem dX8_latest_17 : decode prog_10_method_63_code 17 = .ok (.invokevirtual 289, 3) := by decide +kernel
theorem dX8_latest_20 : decode prog_10_method_63_code 20 = .ok (.istore_n 3, 1) := by decide +kernel
theorem dX8_latest_21 : decode prog_10_method_63_code 21 = .ok (.iload_n 3, 1) := by decide +kernel
theorem dX8_latest_22 : decode prog_10_method_63_code 22 = .ok (.iconst (-1), 1) := by decide +kernel
theorem dX8_latest_23 : decode prog_10_method_63_code 23 = .ok (.if_icmp .eq 8, 3) := by decide +kernel
theorem dX8_latest_26 : decode prog_10_method_63_code 26 = .ok (.iload_n 3, 1) := by decide +kernel
theorem dX8_latest_27 : decode prog_10_method_63_code 27 = .ok (.iload_n 2, 1) := by decide +kernel
theorem dX8_latest_28 : decode prog_10_method_63_code 28 = .ok (.if_icmp .le 7, 3) := by decide +kernel
theorem dX8_latest_31 : decode prog_10_method_63_code 31 = .ok (.iconst (-1), 1) := by decide +kernel
theorem dX8_latest_32 : decode prog_10_method_63_code 32 = .ok (.goto 6, 3) := by decide +kernel
theorem dX8_latest_35 : decode prog_10_method_63_code 35 = .ok (.iload_n 2, 1) := by decide +kernel
theorem dX8_latest_36 : decode prog_10_method_63_code 36 = .ok (.iload_n 3, 1) := by decide +kernel
theorem dX8_latest_37 : decode prog_10_method_63_code 37 = .ok (.isub, 1) := by decide +kernel
theorem dX8_latest_38 : decode prog_10_method_63_code 38 = .ok (.ireturn, 1) := by decide +kernel
theorem dX8_does_0 : decode prog_10_method_65_code 0 = .ok (.aload_n 0, 1) := by decide +kernel
theorem dX8_does_1 : decode prog_10_method_65_code 1 = .ok (.aload_n 0, 1) := by decide +kernel
theorem dX8_does_2 : decode prog_10_method_65_code 2 = .ok (.iload_n 1, 1) := by decide +kernel
theorem dX8_does_3 : decode prog_10_method_65_code 3 = .ok (.invokevirtual 277, 3) := by decide +kernel
theorem dX8_does_6 : decode prog_10_method_65_code 6 = .ok (.ifCond .ne 7, 3) := by decide +kernel
theorem dX8_does_9 : decode prog_10_method_65_code 9 = .ok (.iconst 1, 1) := by decide +kernel
theorem dX8_does_10 : decode prog_10_method_65_code 10 = .ok (.goto 17, 3) := by decide +kernel
theorem dX8_does_13 : decode prog_10_method_65_code 13 = .ok (.iload_n 2, 1) := by decide +kernel
theorem dX8_does_14 : decode prog_10_method_65_code 14 = .ok (.iconst 0, 1) := by decide +kernel
theorem dX8_does_15 : decode prog_10_method_65_code 15 = .ok (.iconst 2, 1) := by decide +kernel
theorem dX8_does_16 : decode prog_10_method_65_code 16 = .ok (.invokestatic 42, 3) := by decide +kernel
theorem dX8_does_19 : decode prog_10_method_65_code 19 = .ok (.ifCond .ne 7, 3) := by decide +kernel
theorem dX8_does_22 : decode prog_10_method_65_code 22 = .ok (.iconst 2, 1) := by decide +kernel
theorem dX8_does_23 : decode prog_10_method_65_code 23 = .ok (.goto 4, 3) := by decide +kernel
theorem dX8_does_26 : decode prog_10_method_65_code 26 = .ok (.iconst 0, 1) := by decide +kernel
theorem dX8_does_27 : decode prog_10_method_65_code 27 = .ok (.putfield 39, 3) := by decide +kernel
theorem dX8_does_30 : decode prog_10_method_65_code 30 = .ok (.aload_n 0, 1) := by decide +kernel
theorem dX8_does_31 : decode prog_10_method_65_code 31 = .ok (.getfield 39, 3) := by decide +kernel
theorem dX8_does_34 : decode prog_10_method_65_code 34 = .ok (.ifCond .le 5, 3) := by decide +kernel
theorem dX8_does_37 : decode prog_10_method_65_code 37 = .ok (.iconst 0, 1) := by decide +kernel
theorem dX8_does_38 : decode prog_10_method_65_code 38 = .ok (.ireturn, 1) := by decide +kernel
theorem dX8_does_39 : decode prog_10_method_65_code 39 = .ok (.aload_n 0, 1) := by decide +kernel
theorem dX8_does_40 : decode prog_10_method_65_code 40 = .ok (.iload_n 1, 1) := by decide +kernel
theorem dX8_does_41 : decode prog_10_method_65_code 41 = .ok (.invokevirtual 247, 3) := by decide +kernel
theorem dX8_does_44 : decode prog_10_method_65_code 44 = .ok (.iload_n 2, 1) := by decide +kernel
theorem dX8_does_45 : decode prog_10_method_65_code 45 = .ok (.ifCond .ne 10, 3) := by decide +kernel
theorem dX8_does_48 : decode prog_10_method_65_code 48 = .ok (.aload_n 0, 1) := by decide +kernel
theorem dX8_does_49 : decode prog_10_method_65_code 49 = .ok (.getfield 207, 3) := by decide +kernel
theorem dX8_does_52 : decode prog_10_method_65_code 52 = .ok (.goto 19, 3) := by decide +kernel
theorem dX8_does_55 : decode prog_10_method_65_code 55 = .ok (.iload_n 2, 1) := by decide +kernel
theorem dX8_does_56 : decode prog_10_method_65_code 56 = .ok (.iconst 1, 1) := by decide +kernel
theorem dX8_does_57 : decode prog_10_method_65_code 57 = .ok (.if_icmp .ne 10, 3) := by decide +kernel
theorem dX8_does_60 : decode prog_10_method_65_code 60 = .ok (.aload_n 0, 1) := by decide +kernel
theorem dX8_does_61 : decode prog_10_method_65_code 61 = .ok (.getfield 210, 3) := by decide +kernel
theorem dX8_does_64 : decode prog_10_method_65_code 64 = .ok (.goto 7, 3) := by decide +kernel
theorem dX8_does_67 : decode prog_10_method_65_code 67 = .ok (.aload_n 0, 1) := by decide +kernel
theorem dX8_does_68 : decode prog_10_method_65_code 68 = .ok (.getfield 213, 3) := by decide +kernel
theorem dX8_does_71 : decode prog_10_method_65_code 71 = .ok (.ireturn, 1) := by decide +kernel
theorem dX8_asks_0 : decode prog_10_method_44_code 0 = .ok (.aload_n 0, 1) := by decide +kernel
theorem dX8_asks_1 : decode prog_10_method_44_code 1 = .ok (.iconst 0, 1) := by decide +kernel
theorem dX8_asks_2 : decode prog_10_method_44_code 2 = .ok (.putfield 207, 3) := by decide +kernel
theorem dX8_asks_5 : decode prog_10_method_44_code 5 = .ok (.aload_n 0, 1) := by decide +kernel
theorem dX8_asks_6 : decode prog_10_method_44_code 6 = .ok (.iconst 0, 1) := by decide +kernel
theorem dX8_asks_7 : decode prog_10_method_44_code 7 = .ok (.putfield 210, 3) := by decide +kernel
theorem dX8_asks_10 : decode prog_10_method_44_code 10 = .ok (.aload_n 0, 1) := by decide +kernel
theorem dX8_asks_11 : decode prog_10_method_44_code 11 = .ok (.iconst 0, 1) := by decide +kernel
theorem dX8_asks_12 : decode prog_10_method_44_code 12 = .ok (.putfield 213, 3) := by decide +kernel
theorem dX8_asks_15 : decode prog_10_method_44_code 15 = .ok (.aload_n 0, 1) := by decide +kernel
theorem dX8_asks_16 : decode prog_10_method_44_code 16 = .ok (.getfield 7, 3) := by decide +kernel
theorem dX8_asks_19 : decode prog_10_method_44_code 19 = .ok (.iconst 1, 1) := by decide +kernel
theorem dX8_asks_20 : decode prog_10_method_44_code 20 = .ok (.iaload, 1) := by decide +kernel
theorem dX8_asks_21 : decode prog_10_method_44_code 21 = .ok (.iconst 1, 1) := by decide +kernel
theorem dX8_asks_22 : decode prog_10_method_44_code 22 = .ok (.if_icmp .ge 4, 3) := by decide +kernel
theorem dX8_asks_25 : decode prog_10_method_44_code 25 = .ok (.return_, 1) := by decide +kernel
theorem dX8_asks_26 : decode prog_10_method_44_code 26 = .ok (.aload_n 0, 1) := by decide +kernel
theorem dX8_asks_27 : decode prog_10_method_44_code 27 = .ok (.getfield 29, 3) := by decide +kernel
theorem dX8_asks_30 : decode prog_10_method_44_code 30 = .ok (.iconst 0, 1) := by decide +kernel
theorem dX8_asks_31 : decode prog_10_method_44_code 31 = .ok (.iload_n 1, 1) := by decide +kernel
theorem dX8_asks_32 : decode prog_10_method_44_code 32 = .ok (.iastore, 1) := by decide +kernel
theorem dX8_asks_33 : decode prog_10_method_44_code 33 = .ok (.aload_n 0, 1) := by decide +kernel
theorem dX8_asks_34 : decode prog_10_method_44_code 34 = .ok (.getfield 29, 3) := by decide +kernel
theorem dX8_asks_37 : decode prog_10_method_44_code 37 = .ok (.iconst 1, 1) := by decide +kernel
theorem dX8_asks_38 : decode prog_10_method_44_code 38 = .ok (.aload_n 0, 1) := by decide +kernel
theorem dX8_asks_39 : decode prog_10_method_44_code 39 = .ok (.iload_n 1, 1) := by decide +kernel
theorem dX8_asks_40 : decode prog_10_method_44_code 40 = .ok (.iconst 1, 1) := by decide +kernel
theorem dX8_asks_41 : decode prog_10_method_44_code 41 = .ok (.invokevirtual 46, 3) := by decide +kernel
theorem dX8_asks_44 : decode prog_10_method_44_code 44 = .ok (.iastore, 1) := by decide +kernel
theorem dX8_asks_45 : decode prog_10_method_44_code 45 = .ok (.aload_n 0, 1) := by decide +kernel
theorem dX8_asks_46 : decode prog_10_method_44_code 46 = .ok (.getfield 29, 3) := by decide +kernel
theorem dX8_asks_49 : decode prog_10_method_44_code 49 = .ok (.iconst 2, 1) := by decide +kernel
theorem dX8_asks_50 : decode prog_10_method_44_code 50 = .ok (.aload_n 0, 1) := by decide +kernel
theorem dX8_asks_51 : decode prog_10_method_44_code 51 = .ok (.iload_n 1, 1) := by decide +kernel
theorem dX8_asks_52 : decode prog_10_method_44_code 52 = .ok (.iconst 2, 1) := by decide +kernel
theorem dX8_asks_53 : decode prog_10_method_44_code 53 = .ok (.invokevirtual 46, 3) := by decide +kernel
theorem dX8_asks_56 : decode prog_10_method_44_code 56 = .ok (.iastore, 1) := by decide +kernel
theorem dX8_asks_57 : decode prog_10_method_44_code 57 = .ok (.aload_n 0, 1) := by decide +kernel
theorem dX8_asks_58 : decode prog_10_method_44_code 58 = .ok (.getfield 29, 3) := by decide +kernel
theorem dX8_asks_61 : decode prog_10_method_44_code 61 = .ok (.iconst 3, 1) := by decide +kernel
theorem dX8_asks_62 : decode prog_10_method_44_code 62 = .ok (.aload_n 0, 1) := by decide +kernel
theorem dX8_asks_63 : decode prog_10_method_44_code 63 = .ok (.iload_n 1, 1) := by decide +kernel
theorem dX8_asks_64 : decode prog_10_method_44_code 64 = .ok (.iconst 3, 1) := by decide +kernel
theorem dX8_asks_65 : decode prog_10_method_44_code 65 = .ok (.invokevirtual 46, 3) := by decide +kernel
theorem dX8_asks_68 : decode prog_10_method_44_code 68 = .ok (.iastore, 1) := by decide +kernel
theorem dX8_asks_69 : decode prog_10_method_44_code 69 = .ok (.aload_n 0, 1) := by decide +kernel
theorem dX8_asks_70 : decode prog_10_method_44_code 70 = .ok (.getfield 29, 3) := by decide +kernel
theorem dX8_asks_73 : decode prog_10_method_44_code 73 = .ok (.iconst 4, 1) := by decide +kernel
theorem dX8_asks_74 : decode prog_10_method_44_code 74 = .ok (.aload_n 0, 1) := by decide +kernel
theorem dX8_asks_75 : decode prog_10_method_44_code 75 = .ok (.invokevirtual 216, 3) := by decide +kernel
theorem dX8_asks_78 : decode prog_10_method_44_code 78 = .ok (.iastore, 1) := by decide +kernel
theorem dX8_asks_79 : decode prog_10_method_44_code 79 = .ok (.aload_n 0, 1) := by decide +kernel
theorem dX8_asks_80 : decode prog_10_method_44_code 80 = .ok (.getfield 29, 3) := by decide +kernel
theorem dX8_asks_83 : decode prog_10_method_44_code 83 = .ok (.iconst 5, 1) := by decide +kernel
theorem dX8_asks_84 : decode prog_10_method_44_code 84 = .ok (.aload_n 0, 1) := by decide +kernel
theorem dX8_asks_85 : decode prog_10_method_44_code 85 = .ok (.getfield 7, 3) := by decide +kernel
theorem dX8_asks_88 : decode prog_10_method_44_code 88 = .ok (.iconst 4, 1) := by decide +kernel
theorem dX8_asks_89 : decode prog_10_method_44_code 89 = .ok (.iaload, 1) := by decide +kernel
theorem dX8_asks_90 : decode prog_10_method_44_code 90 = .ok (.sipush 182, 3) := by decide +kernel
theorem dX8_asks_93 : decode prog_10_method_44_code 93 = .ok (.irem, 1) := by decide +kernel
theorem dX8_asks_94 : decode prog_10_method_44_code 94 = .ok (.iastore, 1) := by decide +kernel
theorem dX8_asks_95 : decode prog_10_method_44_code 95 = .ok (.aload_n 0, 1) := by decide +kernel
theorem dX8_asks_96 : decode prog_10_method_44_code 96 = .ok (.getfield 29, 3) := by decide +kernel
theorem dX8_asks_99 : decode prog_10_method_44_code 99 = .ok (.bipush 6, 2) := by decide +kernel
theorem dX8_asks_101 : decode prog_10_method_44_code 101 = .ok (.aload_n 0, 1) := by decide +kernel
theorem dX8_asks_102 : decode prog_10_method_44_code 102 = .ok (.getfield 7, 3) := by decide +kernel
theorem dX8_asks_105 : decode prog_10_method_44_code 105 = .ok (.bipush 14, 2) := by decide +kernel
theorem dX8_asks_107 : decode prog_10_method_44_code 107 = .ok (.aload_n 0, 1) := by decide +kernel
theorem dX8_asks_108 : decode prog_10_method_44_code 108 = .ok (.iload_n 1, 1) := by decide +kernel
theorem dX8_asks_109 : decode prog_10_method_44_code 109 = .ok (.iconst 1, 1) := by decide +kernel
theorem dX8_asks_110 : decode prog_10_method_44_code 110 = .ok (.invokevirtual 46, 3) := by decide +kernel
theorem dX8_asks_113 : decode prog_10_method_44_code 113 = .ok (.iadd, 1) := by decide +kernel
theorem dX8_asks_114 : decode prog_10_method_44_code 114 = .ok (.iaload, 1) := by decide +kernel
theorem dX8_asks_115 : decode prog_10_method_44_code 115 = .ok (.iastore, 1) := by decide +kernel
theorem dX8_asks_116 : decode prog_10_method_44_code 116 = .ok (.aload_n 0, 1) := by decide +kernel
theorem dX8_asks_117 : decode prog_10_method_44_code 117 = .ok (.aload_n 0, 1) := by decide +kernel
theorem dX8_asks_118 : decode prog_10_method_44_code 118 = .ok (.iload_n 1, 1) := by decide +kernel
theorem dX8_asks_119 : decode prog_10_method_44_code 119 = .ok (.iconst 4, 1) := by decide +kernel
theorem dX8_asks_120 : decode prog_10_method_44_code 120 = .ok (.invokevirtual 46, 3) := by decide +kernel
theorem dX8_asks_123 : decode prog_10_method_44_code 123 = .ok (.aload_n 0, 1) := by decide +kernel
theorem dX8_asks_124 : decode prog_10_method_44_code 124 = .ok (.invokevirtual 216, 3) := by decide +kernel
theorem dX8_asks_127 : decode prog_10_method_44_code 127 = .ok (.if_icmp .ne 7, 3) := by decide +kernel
theorem dX8_asks_130 : decode prog_10_method_44_code 130 = .ok (.iconst 1, 1) := by decide +kernel
theorem dX8_asks_131 : decode prog_10_method_44_code 131 = .ok (.goto 4, 3) := by decide +kernel
theorem dX8_asks_134 : decode prog_10_method_44_code 134 = .ok (.iconst 0, 1) := by decide +kernel
theorem dX8_asks_135 : decode prog_10_method_44_code 135 = .ok (.putfield 172, 3) := by decide +kernel
theorem dX8_asks_138 : decode prog_10_method_44_code 138 = .ok (.aload_n 0, 1) := by decide +kernel
theorem dX8_asks_139 : decode prog_10_method_44_code 139 = .ok (.aload_n 0, 1) := by decide +kernel
theorem dX8_asks_140 : decode prog_10_method_44_code 140 = .ok (.iload_n 1, 1) := by decide +kernel
theorem dX8_asks_141 : decode prog_10_method_44_code 141 = .ok (.iconst 1, 1) := by decide +kernel
theorem dX8_asks_142 : decode prog_10_method_44_code 142 = .ok (.invokevirtual 46, 3) := by decide +kernel
theorem dX8_asks_145 : decode prog_10_method_44_code 145 = .ok (.aload_n 0, 1) := by decide +kernel
theorem dX8_asks_146 : decode prog_10_method_44_code 146 = .ok (.iload_n 1, 1) := by decide +kernel
theorem dX8_asks_147 : decode prog_10_method_44_code 147 = .ok (.iconst 0, 1) := by decide +kernel
theorem dX8_asks_148 : decode prog_10_method_44_code 148 = .ok (.invokevirtual 46, 3) := by decide +kernel
theorem dX8_asks_151 : decode prog_10_method_44_code 151 = .ok (.if_icmp .ne 7, 3) := by decide +kernel
theorem dX8_asks_154 : decode prog_10_method_44_code 154 = .ok (.iconst 1, 1) := by decide +kernel
theorem dX8_asks_155 : decode prog_10_method_44_code 155 = .ok (.goto 4, 3) := by decide +kernel
theorem dX8_asks_158 : decode prog_10_method_44_code 158 = .ok (.iconst 0, 1) := by decide +kernel
theorem dX8_asks_159 : decode prog_10_method_44_code 159 = .ok (.putfield 176, 3) := by decide +kernel
theorem dX8_asks_162 : decode prog_10_method_44_code 162 = .ok (.aload_n 0, 1) := by decide +kernel
theorem dX8_asks_163 : decode prog_10_method_44_code 163 = .ok (.getfield 25, 3) := by decide +kernel
theorem dX8_asks_166 : decode prog_10_method_44_code 166 = .ok (.istore_n 2, 1) := by decide +kernel
theorem dX8_asks_167 : decode prog_10_method_44_code 167 = .ok (.aload_n 0, 1) := by decide +kernel
theorem dX8_asks_168 : decode prog_10_method_44_code 168 = .ok (.iconst (-1), 1) := by decide +kernel
theorem dX8_asks_169 : decode prog_10_method_44_code 169 = .ok (.putfield 25, 3) := by decide +kernel
theorem dX8_asks_172 : decode prog_10_method_44_code 172 = .ok (.aload_n 0, 1) := by decide +kernel
theorem dX8_asks_173 : decode prog_10_method_44_code 173 = .ok (.sipush 350, 3) := by decide +kernel
theorem dX8_asks_176 : decode prog_10_method_44_code 176 = .ok (.putfield 53, 3) := by decide +kernel
theorem dX8_asks_179 : decode prog_10_method_44_code 179 = .ok (.aload_n 0, 1) := by decide +kernel
theorem dX8_asks_180 : decode prog_10_method_44_code 180 = .ok (.aload_n 0, 1) := by decide +kernel
theorem dX8_asks_181 : decode prog_10_method_44_code 181 = .ok (.getfield 7, 3) := by decide +kernel
theorem dX8_asks_184 : decode prog_10_method_44_code 184 = .ok (.iconst 2, 1) := by decide +kernel
theorem dX8_asks_185 : decode prog_10_method_44_code 185 = .ok (.iaload, 1) := by decide +kernel
theorem dX8_asks_186 : decode prog_10_method_44_code 186 = .ok (.putfield 59, 3) := by decide +kernel
theorem dX8_asks_189 : decode prog_10_method_44_code 189 = .ok (.aload_n 0, 1) := by decide +kernel
theorem dX8_asks_190 : decode prog_10_method_44_code 190 = .ok (.iconst 0, 1) := by decide +kernel
theorem dX8_asks_191 : decode prog_10_method_44_code 191 = .ok (.putfield 56, 3) := by decide +kernel
theorem dX8_asks_194 : decode prog_10_method_44_code 194 = .ok (.aload_n 0, 1) := by decide +kernel
theorem dX8_asks_195 : decode prog_10_method_44_code 195 = .ok (.iconst 0, 1) := by decide +kernel
theorem dX8_asks_196 : decode prog_10_method_44_code 196 = .ok (.putfield 132, 3) := by decide +kernel
theorem dX8_asks_199 : decode prog_10_method_44_code 199 = .ok (.aload_n 0, 1) := by decide +kernel
theorem dX8_asks_200 : decode prog_10_method_44_code 200 = .ok (.iconst 1, 1) := by decide +kernel
theorem dX8_asks_201 : decode prog_10_method_44_code 201 = .ok (.invokevirtual 151, 3) := by decide +kernel
theorem dX8_asks_204 : decode prog_10_method_44_code 204 = .ok (.istore_n 3, 1) := by decide +kernel
theorem dX8_asks_205 : decode prog_10_method_44_code 205 = .ok (.aload_n 0, 1) := by decide +kernel
theorem dX8_asks_206 : decode prog_10_method_44_code 206 = .ok (.iload_n 2, 1) := by decide +kernel
theorem dX8_asks_207 : decode prog_10_method_44_code 207 = .ok (.putfield 25, 3) := by decide +kernel
theorem dX8_asks_210 : decode prog_10_method_44_code 210 = .ok (.return_, 1) := by decide +kernel
theorem dX8_there_0 : decode prog_10_method_13_code 0 = .ok (.aload_n 0, 1) := by decide +kernel
theorem dX8_there_1 : decode prog_10_method_13_code 1 = .ok (.getfield 7, 3) := by decide +kernel
theorem dX8_there_4 : decode prog_10_method_13_code 4 = .ok (.iconst 4, 1) := by decide +kernel
theorem dX8_there_5 : decode prog_10_method_13_code 5 = .ok (.iaload, 1) := by decide +kernel
theorem dX8_there_6 : decode prog_10_method_13_code 6 = .ok (.sipush 364, 3) := by decide +kernel
theorem dX8_there_9 : decode prog_10_method_13_code 9 = .ok (.irem, 1) := by decide +kernel
theorem dX8_there_10 : decode prog_10_method_13_code 10 = .ok (.sipush 182, 3) := by decide +kernel
theorem dX8_there_13 : decode prog_10_method_13_code 13 = .ok (.if_icmp .ge 7, 3) := by decide +kernel
theorem dX8_there_16 : decode prog_10_method_13_code 16 = .ok (.iconst 0, 1) := by decide +kernel
theorem dX8_there_17 : decode prog_10_method_13_code 17 = .ok (.goto 4, 3) := by decide +kernel
theorem dX8_there_20 : decode prog_10_method_13_code 20 = .ok (.iconst 1, 1) := by decide +kernel
theorem dX8_there_21 : decode prog_10_method_13_code 21 = .ok (.ireturn, 1) := by decide +kernel
theorem dX8_steps_0 : decode prog_10_method_66_code 0 = .ok (.aload_n 0, 1) := by decide +kernel
theorem dX8_steps_1 : decode prog_10_method_66_code 1 = .ok (.iload_n 1, 1) := by decide +kernel
theorem dX8_steps_2 : decode prog_10_method_66_code 2 = .ok (.invokestatic 280, 3) := by decide +kernel
theorem dX8_steps_5 : decode prog_10_method_66_code 5 = .ok (.ifCond .eq 10, 3) := by decide +kernel
theorem dX8_steps_8 : decode prog_10_method_66_code 8 = .ok (.iload_n 2, 1) := by decide +kernel
theorem dX8_steps_9 : decode prog_10_method_66_code 9 = .ok (.invokestatic 280, 3) := by decide +kernel
theorem dX8_steps_12 : decode prog_10_method_66_code 12 = .ok (.ifCond .ne 7, 3) := by decide +kernel
theorem dX8_steps_15 : decode prog_10_method_66_code 15 = .ok (.iconst 1, 1) := by decide +kernel
theorem dX8_steps_16 : decode prog_10_method_66_code 16 = .ok (.goto 4, 3) := by decide +kernel
theorem dX8_steps_19 : decode prog_10_method_66_code 19 = .ok (.iconst 0, 1) := by decide +kernel
theorem dX8_steps_20 : decode prog_10_method_66_code 20 = .ok (.putfield 39, 3) := by decide +kernel
theorem dX8_steps_23 : decode prog_10_method_66_code 23 = .ok (.aload_n 0, 1) := by decide +kernel
theorem dX8_steps_24 : decode prog_10_method_66_code 24 = .ok (.getfield 39, 3) := by decide +kernel
theorem dX8_steps_27 : decode prog_10_method_66_code 27 = .ok (.ifCond .le 7, 3) := by decide +kernel
theorem dX8_steps_30 : decode prog_10_method_66_code 30 = .ok (.iconst 0, 1) := by decide +kernel
theorem dX8_steps_31 : decode prog_10_method_66_code 31 = .ok (.goto 8, 3) := by decide +kernel
theorem dX8_steps_34 : decode prog_10_method_66_code 34 = .ok (.iload_n 1, 1) := by decide +kernel
theorem dX8_steps_35 : decode prog_10_method_66_code 35 = .ok (.iload_n 2, 1) := by decide +kernel
theorem dX8_steps_36 : decode prog_10_method_66_code 36 = .ok (.invokestatic 225, 3) := by decide +kernel
theorem dX8_steps_39 : decode prog_10_method_66_code 39 = .ok (.ireturn, 1) := by decide +kernel
theorem dX8_carry_0 : decode prog_10_method_68_code 0 = .ok (.aload_n 0, 1) := by decide +kernel
theorem dX8_carry_1 : decode prog_10_method_68_code 1 = .ok (.aload_n 0, 1) := by decide +kernel
theorem dX8_carry_2 : decode prog_10_method_68_code 2 = .ok (.iload_n 1, 1) := by decide +kernel
theorem dX8_carry_3 : decode prog_10_method_68_code 3 = .ok (.invokevirtual 277, 3) := by decide +kernel
theorem dX8_carry_6 : decode prog_10_method_68_code 6 = .ok (.ifCond .eq 10, 3) := by decide +kernel
theorem dX8_carry_9 : decode prog_10_method_68_code 9 = .ok (.iload_n 2, 1) := by decide +kernel
theorem dX8_carry_10 : decode prog_10_method_68_code 10 = .ok (.invokestatic 280, 3) := by decide +kernel
theorem dX8_carry_13 : decode prog_10_method_68_code 13 = .ok (.ifCond .ne 7, 3) := by decide +kernel
theorem dX8_carry_16 : decode prog_10_method_68_code 16 = .ok (.iconst 1, 1) := by decide +kernel
theorem dX8_carry_17 : decode prog_10_method_68_code 17 = .ok (.goto 4, 3) := by decide +kernel
theorem dX8_carry_20 : decode prog_10_method_68_code 20 = .ok (.iconst 0, 1) := by decide +kernel
theorem dX8_carry_21 : decode prog_10_method_68_code 21 = .ok (.putfield 39, 3) := by decide +kernel
theorem dX8_carry_24 : decode prog_10_method_68_code 24 = .ok (.aload_n 0, 1) := by decide +kernel
theorem dX8_carry_25 : decode prog_10_method_68_code 25 = .ok (.getfield 39, 3) := by decide +kernel
theorem dX8_carry_28 : decode prog_10_method_68_code 28 = .ok (.ifCond .le 5, 3) := by decide +kernel
theorem dX8_carry_31 : decode prog_10_method_68_code 31 = .ok (.iconst 0, 1) := by decide +kernel
theorem dX8_carry_32 : decode prog_10_method_68_code 32 = .ok (.ireturn, 1) := by decide +kernel
theorem dX8_carry_33 : decode prog_10_method_68_code 33 = .ok (.aload_n 0, 1) := by decide +kernel
theorem dX8_carry_34 : decode prog_10_method_68_code 34 = .ok (.invokevirtual 295, 3) := by decide +kernel
theorem dX8_carry_37 : decode prog_10_method_68_code 37 = .ok (.aload_n 0, 1) := by decide +kernel
theorem dX8_carry_38 : decode prog_10_method_68_code 38 = .ok (.iload_n 1, 1) := by decide +kernel
theorem dX8_carry_39 : decode prog_10_method_68_code 39 = .ok (.iconst 1, 1) := by decide +kernel
theorem dX8_carry_40 : decode prog_10_method_68_code 40 = .ok (.invokevirtual 46, 3) := by decide +kernel
theorem dX8_carry_43 : decode prog_10_method_68_code 43 = .ok (.istore_n 3, 1) := by decide +kernel
theorem dX8_carry_44 : decode prog_10_method_68_code 44 = .ok (.aload_n 0, 1) := by decide +kernel
theorem dX8_carry_45 : decode prog_10_method_68_code 45 = .ok (.iload_n 1, 1) := by decide +kernel
theorem dX8_carry_46 : decode prog_10_method_68_code 46 = .ok (.iconst 1, 1) := by decide +kernel
theorem dX8_carry_47 : decode prog_10_method_68_code 47 = .ok (.iload_n 2, 1) := by decide +kernel
theorem dX8_carry_48 : decode prog_10_method_68_code 48 = .ok (.invokevirtual 103, 3) := by decide +kernel
theorem dX8_carry_51 : decode prog_10_method_68_code 51 = .ok (.iload_n 3, 1) := by decide +kernel
theorem dX8_carry_52 : decode prog_10_method_68_code 52 = .ok (.ireturn, 1) := by decide +kernel
theorem dX8_remembers_0 : decode prog_10_method_67_code 0 = .ok (.aload_n 0, 1) := by decide +kernel
theorem dX8_remembers_1 : decode prog_10_method_67_code 1 = .ok (.getfield 158, 3) := by decide +kernel
theorem dX8_remembers_4 : decode prog_10_method_67_code 4 = .ok (.bipush 12, 2) := by decide +kernel
theorem dX8_remembers_6 : decode prog_10_method_67_code 6 = .ok (.if_icmp .ne 44, 3) := by decide +kernel
theorem dX8_remembers_9 : decode prog_10_method_67_code 9 = .ok (.iconst 0, 1) := by decide +kernel
theorem dX8_remembers_10 : decode prog_10_method_67_code 10 = .ok (.istore_n 1, 1) := by decide +kernel
theorem dX8_remembers_11 : decode prog_10_method_67_code 11 = .ok (.iload_n 1, 1) := by decide +kernel
theorem dX8_remembers_12 : decode prog_10_method_67_code 12 = .ok (.sipush 3850, 3) := by decide +kernel
theorem dX8_remembers_15 : decode prog_10_method_67_code 15 = .ok (.if_icmp .ge 25, 3) := by decide +kernel
theorem dX8_remembers_18 : decode prog_10_method_67_code 18 = .ok (.aload_n 0, 1) := by decide +kernel
theorem dX8_remembers_19 : decode prog_10_method_67_code 19 = .ok (.getfield 19, 3) := by decide +kernel
theorem dX8_remembers_22 : decode prog_10_method_67_code 22 = .ok (.iload_n 1, 1) := by decide +kernel
theorem dX8_remembers_23 : decode prog_10_method_67_code 23 = .ok (.aload_n 0, 1) := by decide +kernel
theorem dX8_remembers_24 : decode prog_10_method_67_code 24 = .ok (.getfield 19, 3) := by decide +kernel
theorem dX8_remembers_27 : decode prog_10_method_67_code 27 = .ok (.iload_n 1, 1) := by decide +kernel
theorem dX8_remembers_28 : decode prog_10_method_67_code 28 = .ok (.sipush 350, 3) := by decide +kernel
theorem dX8_remembers_31 : decode prog_10_method_67_code 31 = .ok (.iadd, 1) := by decide +kernel
theorem dX8_remembers_32 : decode prog_10_method_67_code 32 = .ok (.iaload, 1) := by decide +kernel
theorem dX8_remembers_33 : decode prog_10_method_67_code 33 = .ok (.iastore, 1) := by decide +kernel
theorem dX8_remembers_34 : decode prog_10_method_67_code 34 = .ok (.iinc 1 1, 3) := by decide +kernel
theorem dX8_remembers_37 : decode prog_10_method_67_code 37 = .ok (.goto (-26), 3) := by decide +kernel
theorem dX8_remembers_40 : decode prog_10_method_67_code 40 = .ok (.aload_n 0, 1) := by decide +kernel
theorem dX8_remembers_41 : decode prog_10_method_67_code 41 = .ok (.dup, 1) := by decide +kernel
theorem dX8_remembers_42 : decode prog_10_method_67_code 42 = .ok (.getfield 158, 3) := by decide +kernel
theorem dX8_remembers_45 : decode prog_10_method_67_code 45 = .ok (.iconst 1, 1) := by decide +kernel
theorem dX8_remembers_46 : decode prog_10_method_67_code 46 = .ok (.isub, 1) := by decide +kernel
theorem dX8_remembers_47 : decode prog_10_method_67_code 47 = .ok (.putfield 158, 3) := by decide +kernel
theorem dX8_remembers_50 : decode prog_10_method_67_code 50 = .ok (.iconst 0, 1) := by decide +kernel
theorem dX8_remembers_51 : decode prog_10_method_67_code 51 = .ok (.istore_n 1, 1) := by decide +kernel
theorem dX8_remembers_52 : decode prog_10_method_67_code 52 = .ok (.iload_n 1, 1) := by decide +kernel
theorem dX8_remembers_53 : decode prog_10_method_67_code 53 = .ok (.sipush 350, 3) := by decide +kernel
theorem dX8_remembers_56 : decode prog_10_method_67_code 56 = .ok (.if_icmp .ge 30, 3) := by decide +kernel
theorem dX8_remembers_59 : decode prog_10_method_67_code 59 = .ok (.aload_n 0, 1) := by decide +kernel
theorem dX8_remembers_60 : decode prog_10_method_67_code 60 = .ok (.getfield 19, 3) := by decide +kernel
theorem dX8_remembers_63 : decode prog_10_method_67_code 63 = .ok (.sipush 350, 3) := by decide +kernel
theorem dX8_remembers_66 : decode prog_10_method_67_code 66 = .ok (.aload_n 0, 1) := by decide +kernel
theorem dX8_remembers_67 : decode prog_10_method_67_code 67 = .ok (.getfield 158, 3) := by decide +kernel
theorem dX8_remembers_70 : decode prog_10_method_67_code 70 = .ok (.imul, 1) := by decide +kernel
theorem dX8_remembers_71 : decode prog_10_method_67_code 71 = .ok (.iload_n 1, 1) := by decide +kernel
theorem dX8_remembers_72 : decode prog_10_method_67_code 72 = .ok (.iadd, 1) := by decide +kernel
theorem dX8_remembers_73 : decode prog_10_method_67_code 73 = .ok (.aload_n 0, 1) := by decide +kernel
theorem dX8_remembers_74 : decode prog_10_method_67_code 74 = .ok (.getfield 7, 3) := by decide +kernel
theorem dX8_remembers_77 : decode prog_10_method_67_code 77 = .ok (.iload_n 1, 1) := by decide +kernel
theorem dX8_remembers_78 : decode prog_10_method_67_code 78 = .ok (.iaload, 1) := by decide +kernel
theorem dX8_remembers_79 : decode prog_10_method_67_code 79 = .ok (.iastore, 1) := by decide +kernel
theorem dX8_remembers_80 : decode prog_10_method_67_code 80 = .ok (.iinc 1 1, 3) := by decide +kernel
theorem dX8_remembers_83 : decode prog_10_method_67_code 83 = .ok (.goto (-31), 3) := by decide +kernel
theorem dX8_remembers_86 : decode prog_10_method_67_code 86 = .ok (.aload_n 0, 1) := by decide +kernel
theorem dX8_remembers_87 : decode prog_10_method_67_code 87 = .ok (.dup, 1) := by decide +kernel
theorem dX8_remembers_88 : decode prog_10_method_67_code 88 = .ok (.getfield 158, 3) := by decide +kernel
theorem dX8_remembers_91 : decode prog_10_method_67_code 91 = .ok (.iconst 1, 1) := by decide +kernel
theorem dX8_remembers_92 : decode prog_10_method_67_code 92 = .ok (.iadd, 1) := by decide +kernel
theorem dX8_remembers_93 : decode prog_10_method_67_code 93 = .ok (.putfield 158, 3) := by decide +kernel
theorem dX8_remembers_96 : decode prog_10_method_67_code 96 = .ok (.return_, 1) := by decide +kernel
theorem dX8_mend_0 : decode prog_10_method_69_code 0 = .ok (.aload_n 0, 1) := by decide +kernel
theorem dX8_mend_1 : decode prog_10_method_69_code 1 = .ok (.aload_n 0, 1) := by decide +kernel
theorem dX8_mend_2 : decode prog_10_method_69_code 2 = .ok (.iload_n 1, 1) := by decide +kernel
theorem dX8_mend_3 : decode prog_10_method_69_code 3 = .ok (.invokevirtual 277, 3) := by decide +kernel
theorem dX8_mend_6 : decode prog_10_method_69_code 6 = .ok (.ifCond .ne 7, 3) := by decide +kernel
theorem dX8_mend_9 : decode prog_10_method_69_code 9 = .ok (.iconst 1, 1) := by decide +kernel
theorem dX8_mend_10 : decode prog_10_method_69_code 10 = .ok (.goto 4, 3) := by decide +kernel
theorem dX8_mend_13 : decode prog_10_method_69_code 13 = .ok (.iconst 0, 1) := by decide +kernel
theorem dX8_mend_14 : decode prog_10_method_69_code 14 = .ok (.putfield 39, 3) := by decide +kernel
theorem dX8_mend_17 : decode prog_10_method_69_code 17 = .ok (.aload_n 0, 1) := by decide +kernel
theorem dX8_mend_18 : decode prog_10_method_69_code 18 = .ok (.getfield 39, 3) := by decide +kernel
theorem dX8_mend_21 : decode prog_10_method_69_code 21 = .ok (.ifCond .le 5, 3) := by decide +kernel
theorem dX8_mend_24 : decode prog_10_method_69_code 24 = .ok (.iconst 0, 1) := by decide +kernel
theorem dX8_mend_25 : decode prog_10_method_69_code 25 = .ok (.ireturn, 1) := by decide +kernel
theorem dX8_mend_26 : decode prog_10_method_69_code 26 = .ok (.aload_n 0, 1) := by decide +kernel
theorem dX8_mend_27 : decode prog_10_method_69_code 27 = .ok (.invokevirtual 295, 3) := by decide +kernel
theorem dX8_mend_30 : decode prog_10_method_69_code 30 = .ok (.aload_n 0, 1) := by decide +kernel
theorem dX8_mend_31 : decode prog_10_method_69_code 31 = .ok (.iload_n 1, 1) := by decide +kernel
theorem dX8_mend_32 : decode prog_10_method_69_code 32 = .ok (.iconst 2, 1) := by decide +kernel
theorem dX8_mend_33 : decode prog_10_method_69_code 33 = .ok (.iconst 0, 1) := by decide +kernel
theorem dX8_mend_34 : decode prog_10_method_69_code 34 = .ok (.aload_n 0, 1) := by decide +kernel
theorem dX8_mend_35 : decode prog_10_method_69_code 35 = .ok (.iload_n 1, 1) := by decide +kernel
theorem dX8_mend_36 : decode prog_10_method_69_code 36 = .ok (.iconst 2, 1) := by decide +kernel
theorem dX8_mend_37 : decode prog_10_method_69_code 37 = .ok (.invokevirtual 46, 3) := by decide +kernel
theorem dX8_mend_40 : decode prog_10_method_69_code 40 = .ok (.iconst 5, 1) := by decide +kernel
theorem dX8_mend_41 : decode prog_10_method_69_code 41 = .ok (.isub, 1) := by decide +kernel
theorem dX8_mend_42 : decode prog_10_method_69_code 42 = .ok (.invokestatic 219, 3) := by decide +kernel
theorem dX8_mend_45 : decode prog_10_method_69_code 45 = .ok (.invokevirtual 103, 3) := by decide +kernel
theorem dX8_mend_48 : decode prog_10_method_69_code 48 = .ok (.aload_n 0, 1) := by decide +kernel
theorem dX8_mend_49 : decode prog_10_method_69_code 49 = .ok (.iload_n 1, 1) := by decide +kernel
theorem dX8_mend_50 : decode prog_10_method_69_code 50 = .ok (.iconst 2, 1) := by decide +kernel
theorem dX8_mend_51 : decode prog_10_method_69_code 51 = .ok (.invokevirtual 46, 3) := by decide +kernel
theorem dX8_mend_54 : decode prog_10_method_69_code 54 = .ok (.ireturn, 1) := by decide +kernel
theorem dX8_sweep_0 : decode prog_10_method_70_code 0 = .ok (.aload_n 0, 1) := by decide +kernel
theorem dX8_sweep_1 : decode prog_10_method_70_code 1 = .ok (.iload_n 1, 1) := by decide +kernel
theorem dX8_sweep_2 : decode prog_10_method_70_code 2 = .ok (.invokestatic 280, 3) := by decide +kernel
theorem dX8_sweep_5 : decode prog_10_method_70_code 5 = .ok (.ifCond .ne 7, 3) := by decide +kernel
theorem dX8_sweep_8 : decode prog_10_method_70_code 8 = .ok (.iconst 1, 1) := by decide +kernel
theorem dX8_sweep_9 : decode prog_10_method_70_code 9 = .ok (.goto 4, 3) := by decide +kernel
theorem dX8_sweep_12 : decode prog_10_method_70_code 12 = .ok (.iconst 0, 1) := by decide +kernel
theorem dX8_sweep_13 : decode prog_10_method_70_code 13 = .ok (.putfield 39, 3) := by decide +kernel
theorem dX8_sweep_16 : decode prog_10_method_70_code 16 = .ok (.aload_n 0, 1) := by decide +kernel
theorem dX8_sweep_17 : decode prog_10_method_70_code 17 = .ok (.getfield 39, 3) := by decide +kernel
theorem dX8_sweep_20 : decode prog_10_method_70_code 20 = .ok (.ifCond .le 5, 3) := by decide +kernel
theorem dX8_sweep_23 : decode prog_10_method_70_code 23 = .ok (.iconst 0, 1) := by decide +kernel
theorem dX8_sweep_24 : decode prog_10_method_70_code 24 = .ok (.ireturn, 1) := by decide +kernel
theorem dX8_sweep_25 : decode prog_10_method_70_code 25 = .ok (.aload_n 0, 1) := by decide +kernel
theorem dX8_sweep_26 : decode prog_10_method_70_code 26 = .ok (.invokevirtual 295, 3) := by decide +kernel
theorem dX8_sweep_29 : decode prog_10_method_70_code 29 = .ok (.aload_n 0, 1) := by decide +kernel
theorem dX8_sweep_30 : decode prog_10_method_70_code 30 = .ok (.getfield 7, 3) := by decide +kernel
theorem dX8_sweep_33 : decode prog_10_method_70_code 33 = .ok (.bipush 14, 2) := by decide +kernel
theorem dX8_sweep_35 : decode prog_10_method_70_code 35 = .ok (.iload_n 1, 1) := by decide +kernel
theorem dX8_sweep_36 : decode prog_10_method_70_code 36 = .ok (.iadd, 1) := by decide +kernel
theorem dX8_sweep_37 : decode prog_10_method_70_code 37 = .ok (.iaload, 1) := by decide +kernel
theorem dX8_sweep_38 : decode prog_10_method_70_code 38 = .ok (.istore_n 2, 1) := by decide +kernel
theorem dX8_sweep_39 : decode prog_10_method_70_code 39 = .ok (.aload_n 0, 1) := by decide +kernel
theorem dX8_sweep_40 : decode prog_10_method_70_code 40 = .ok (.getfield 7, 3) := by decide +kernel
theorem dX8_sweep_43 : decode prog_10_method_70_code 43 = .ok (.bipush 14, 2) := by decide +kernel
theorem dX8_sweep_45 : decode prog_10_method_70_code 45 = .ok (.iload_n 1, 1) := by decide +kernel
theorem dX8_sweep_46 : decode prog_10_method_70_code 46 = .ok (.iadd, 1) := by decide +kernel
theorem dX8_sweep_47 : decode prog_10_method_70_code 47 = .ok (.iconst 0, 1) := by decide +kernel
theorem dX8_sweep_48 : decode prog_10_method_70_code 48 = .ok (.iastore, 1) := by decide +kernel
theorem dX8_sweep_49 : decode prog_10_method_70_code 49 = .ok (.iload_n 2, 1) := by decide +kernel
theorem dX8_sweep_50 : decode prog_10_method_70_code 50 = .ok (.ireturn, 1) := by decide +kernel
theorem dX8_pay_0 : decode prog_10_method_71_code 0 = .ok (.aload_n 0, 1) := by decide +kernel
theorem dX8_pay_1 : decode prog_10_method_71_code 1 = .ok (.iload_n 1, 1) := by decide +kernel
theorem dX8_pay_2 : decode prog_10_method_71_code 2 = .ok (.iconst 0, 1) := by decide +kernel
theorem dX8_pay_3 : decode prog_10_method_71_code 3 = .ok (.iconst 1, 1) := by decide +kernel
theorem dX8_pay_4 : decode prog_10_method_71_code 4 = .ok (.invokestatic 42, 3) := by decide +kernel
theorem dX8_pay_7 : decode prog_10_method_71_code 7 = .ok (.ifCond .ne 7, 3) := by decide +kernel
theorem dX8_pay_10 : decode prog_10_method_71_code 10 = .ok (.iconst 1, 1) := by decide +kernel
theorem dX8_pay_11 : decode prog_10_method_71_code 11 = .ok (.goto 25, 3) := by decide +kernel
theorem dX8_pay_14 : decode prog_10_method_71_code 14 = .ok (.iload_n 2, 1) := by decide +kernel
theorem dX8_pay_15 : decode prog_10_method_71_code 15 = .ok (.iconst 1, 1) := by decide +kernel
theorem dX8_pay_16 : decode prog_10_method_71_code 16 = .ok (.aload_n 0, 1) := by decide +kernel
theorem dX8_pay_17 : decode prog_10_method_71_code 17 = .ok (.getfield 7, 3) := by decide +kernel
theorem dX8_pay_20 : decode prog_10_method_71_code 20 = .ok (.bipush 9, 2) := by decide +kernel
theorem dX8_pay_22 : decode prog_10_method_71_code 22 = .ok (.iload_n 1, 1) := by decide +kernel
theorem dX8_pay_23 : decode prog_10_method_71_code 23 = .ok (.iadd, 1) := by decide +kernel
theorem dX8_pay_24 : decode prog_10_method_71_code 24 = .ok (.iaload, 1) := by decide +kernel
theorem dX8_pay_25 : decode prog_10_method_71_code 25 = .ok (.invokestatic 42, 3) := by decide +kernel
theorem dX8_pay_28 : decode prog_10_method_71_code 28 = .ok (.ifCond .ne 7, 3) := by decide +kernel
theorem dX8_pay_31 : decode prog_10_method_71_code 31 = .ok (.iconst 2, 1) := by decide +kernel
theorem dX8_pay_32 : decode prog_10_method_71_code 32 = .ok (.goto 4, 3) := by decide +kernel
theorem dX8_pay_35 : decode prog_10_method_71_code 35 = .ok (.iconst 0, 1) := by decide +kernel
theorem dX8_pay_36 : decode prog_10_method_71_code 36 = .ok (.putfield 39, 3) := by decide +kernel
theorem dX8_pay_39 : decode prog_10_method_71_code 39 = .ok (.aload_n 0, 1) := by decide +kernel
theorem dX8_pay_40 : decode prog_10_method_71_code 40 = .ok (.getfield 39, 3) := by decide +kernel
theorem dX8_pay_43 : decode prog_10_method_71_code 43 = .ok (.ifCond .le 5, 3) := by decide +kernel
theorem dX8_pay_46 : decode prog_10_method_71_code 46 = .ok (.iconst 0, 1) := by decide +kernel
theorem dX8_pay_47 : decode prog_10_method_71_code 47 = .ok (.ireturn, 1) := by decide +kernel
theorem dX8_pay_48 : decode prog_10_method_71_code 48 = .ok (.aload_n 0, 1) := by decide +kernel
theorem dX8_pay_49 : decode prog_10_method_71_code 49 = .ok (.invokevirtual 295, 3) := by decide +kernel
theorem dX8_pay_52 : decode prog_10_method_71_code 52 = .ok (.aload_n 0, 1) := by decide +kernel
theorem dX8_pay_53 : decode prog_10_method_71_code 53 = .ok (.getfield 7, 3) := by decide +kernel
theorem dX8_pay_56 : decode prog_10_method_71_code 56 = .ok (.bipush 9, 2) := by decide +kernel
theorem dX8_pay_58 : decode prog_10_method_71_code 58 = .ok (.iload_n 1, 1) := by decide +kernel
theorem dX8_pay_59 : decode prog_10_method_71_code 59 = .ok (.iadd, 1) := by decide +kernel
theorem dX8_pay_60 : decode prog_10_method_71_code 60 = .ok (.dup2, 1) := by decide +kernel
theorem dX8_pay_61 : decode prog_10_method_71_code 61 = .ok (.iaload, 1) := by decide +kernel
theorem dX8_pay_62 : decode prog_10_method_71_code 62 = .ok (.iload_n 2, 1) := by decide +kernel
theorem dX8_pay_63 : decode prog_10_method_71_code 63 = .ok (.isub, 1) := by decide +kernel
theorem dX8_pay_64 : decode prog_10_method_71_code 64 = .ok (.iastore, 1) := by decide +kernel
theorem dX8_pay_65 : decode prog_10_method_71_code 65 = .ok (.aload_n 0, 1) := by decide +kernel
theorem dX8_pay_66 : decode prog_10_method_71_code 66 = .ok (.getfield 7, 3) := by decide +kernel
theorem dX8_pay_69 : decode prog_10_method_71_code 69 = .ok (.bipush 9, 2) := by decide +kernel
theorem dX8_pay_71 : decode prog_10_method_71_code 71 = .ok (.iload_n 1, 1) := by decide +kernel
theorem dX8_pay_72 : decode prog_10_method_71_code 72 = .ok (.iadd, 1) := by decide +kernel
theorem dX8_pay_73 : decode prog_10_method_71_code 73 = .ok (.iaload, 1) := by decide +kernel
theorem dX8_pay_74 : decode prog_10_method_71_code 74 = .ok (.ireturn, 1) := by decide +kernel
theorem dX8_take_0 : decode prog_10_method_72_code 0 = .ok (.aload_n 0, 1) := by decide +kernel
theorem dX8_take_1 : decode prog_10_method_72_code 1 = .ok (.iconst 0, 1) := by decide +kernel
theorem dX8_take_2 : decode prog_10_method_72_code 2 = .ok (.putfield 39, 3) := by decide +kernel
theorem dX8_take_5 : decode prog_10_method_72_code 5 = .ok (.aload_n 0, 1) := by decide +kernel
theorem dX8_take_6 : decode prog_10_method_72_code 6 = .ok (.invokevirtual 295, 3) := by decide +kernel
theorem dX8_take_9 : decode prog_10_method_72_code 9 = .ok (.aload_n 0, 1) := by decide +kernel
theorem dX8_take_10 : decode prog_10_method_72_code 10 = .ok (.invokevirtual 253, 3) := by decide +kernel
theorem dX8_take_13 : decode prog_10_method_72_code 13 = .ok (.invokestatic 262, 3) := by decide +kernel
theorem dX8_take_16 : decode prog_10_method_72_code 16 = .ok (.istore_n 1, 1) := by decide +kernel
theorem dX8_take_17 : decode prog_10_method_72_code 17 = .ok (.aload_n 0, 1) := by decide +kernel
theorem dX8_take_18 : decode prog_10_method_72_code 18 = .ok (.invokevirtual 265, 3) := by decide +kernel
theorem dX8_take_21 : decode prog_10_method_72_code 21 = .ok (.iload_n 1, 1) := by decide +kernel
theorem dX8_take_22 : decode prog_10_method_72_code 22 = .ok (.ireturn, 1) := by decide +kernel
theorem dX8_missingOnes_0 : decode prog_10_method_50_code 0 = .ok (.iconst 0, 1) := by decide +kernel
theorem dX8_missingOnes_1 : decode prog_10_method_50_code 1 = .ok (.istore_n 1, 1) := by decide +kernel
theorem dX8_missingOnes_2 : decode prog_10_method_50_code 2 = .ok (.iconst 0, 1) := by decide +kernel
theorem dX8_missingOnes_3 : decode prog_10_method_50_code 3 = .ok (.istore_n 2, 1) := by decide +kernel
theorem dX8_missingOnes_4 : decode prog_10_method_50_code 4 = .ok (.iload_n 2, 1) := by decide +kernel
theorem dX8_missingOnes_5 : decode prog_10_method_50_code 5 = .ok (.aload_n 0, 1) := by decide +kernel
theorem dX8_missingOnes_6 : decode prog_10_method_50_code 6 = .ok (.getfield 7, 3) := by decide +kernel
theorem dX8_missingOnes_9 : decode prog_10_method_50_code 9 = .ok (.iconst 3, 1) := by decide +kernel
theorem dX8_missingOnes_10 : decode prog_10_method_50_code 10 = .ok (.iaload, 1) := by decide +kernel
theorem dX8_missingOnes_11 : decode prog_10_method_50_code 11 = .ok (.if_icmp .ge 27, 3) := by decide +kernel
theorem dX8_missingOnes_14 : decode prog_10_method_50_code 14 = .ok (.iload_n 1, 1) := by decide +kernel
theorem dX8_missingOnes_15 : decode prog_10_method_50_code 15 = .ok (.aload_n 0, 1) := by decide +kernel
theorem dX8_missingOnes_16 : decode prog_10_method_50_code 16 = .ok (.iload_n 2, 1) := by decide +kernel
theorem dX8_missingOnes_17 : decode prog_10_method_50_code 17 = .ok (.invokevirtual 237, 3) := by decide +kernel
theorem dX8_missingOnes_20 : decode prog_10_method_50_code 20 = .ok (.ifCond .eq 9, 3) := by decide +kernel
theorem dX8_missingOnes_23 : decode prog_10_method_50_code 23 = .ok (.iconst 1, 1) := by decide +kernel
theorem dX8_missingOnes_24 : decode prog_10_method_50_code 24 = .ok (.iload_n 2, 1) := by decide +kernel
theorem dX8_missingOnes_25 : decode prog_10_method_50_code 25 = .ok (.ishl, 1) := by decide +kernel
theorem dX8_missingOnes_26 : decode prog_10_method_50_code 26 = .ok (.goto 4, 3) := by decide +kernel
theorem dX8_missingOnes_29 : decode prog_10_method_50_code 29 = .ok (.iconst 0, 1) := by decide +kernel
theorem dX8_missingOnes_30 : decode prog_10_method_50_code 30 = .ok (.ior, 1) := by decide +kernel
theorem dX8_missingOnes_31 : decode prog_10_method_50_code 31 = .ok (.istore_n 1, 1) := by decide +kernel
theorem dX8_missingOnes_32 : decode prog_10_method_50_code 32 = .ok (.iinc 2 1, 3) := by decide +kernel
theorem dX8_missingOnes_35 : decode prog_10_method_50_code 35 = .ok (.goto (-31), 3) := by decide +kernel
theorem dX8_missingOnes_38 : decode prog_10_method_50_code 38 = .ok (.iload_n 1, 1) := by decide +kernel
theorem dX8_missingOnes_39 : decode prog_10_method_50_code 39 = .ok (.ireturn, 1) := by decide +kernel
theorem dX8_bits_0 : decode prog_10_method_7_code 0 = .ok (.iconst 0, 1) := by decide +kernel
theorem dX8_bits_1 : decode prog_10_method_7_code 1 = .ok (.istore_n 1, 1) := by decide +kernel
theorem dX8_bits_2 : decode prog_10_method_7_code 2 = .ok (.iconst 0, 1) := by decide +kernel
theorem dX8_bits_3 : decode prog_10_method_7_code 3 = .ok (.istore_n 2, 1) := by decide +kernel
theorem dX8_bits_4 : decode prog_10_method_7_code 4 = .ok (.iload_n 2, 1) := by decide +kernel
theorem dX8_bits_5 : decode prog_10_method_7_code 5 = .ok (.bipush 31, 2) := by decide +kernel
theorem dX8_bits_7 : decode prog_10_method_7_code 7 = .ok (.if_icmp .ge 17, 3) := by decide +kernel
theorem dX8_bits_10 : decode prog_10_method_7_code 10 = .ok (.iload_n 1, 1) := by decide +kernel
theorem dX8_bits_11 : decode prog_10_method_7_code 11 = .ok (.iload_n 0, 1) := by decide +kernel
theorem dX8_bits_12 : decode prog_10_method_7_code 12 = .ok (.iload_n 2, 1) := by decide +kernel
theorem dX8_bits_13 : decode prog_10_method_7_code 13 = .ok (.ishr, 1) := by decide +kernel
theorem dX8_bits_14 : decode prog_10_method_7_code 14 = .ok (.iconst 1, 1) := by decide +kernel
theorem dX8_bits_15 : decode prog_10_method_7_code 15 = .ok (.iand, 1) := by decide +kernel
theorem dX8_bits_16 : decode prog_10_method_7_code 16 = .ok (.iadd, 1) := by decide +kernel
theorem dX8_bits_17 : decode prog_10_method_7_code 17 = .ok (.istore_n 1, 1) := by decide +kernel
theorem dX8_bits_18 : decode prog_10_method_7_code 18 = .ok (.iinc 2 1, 3) := by decide +kernel
theorem dX8_bits_21 : decode prog_10_method_7_code 21 = .ok (.goto (-17), 3) := by decide +kernel
theorem dX8_bits_24 : decode prog_10_method_7_code 24 = .ok (.iload_n 1, 1) := by decide +kernel
theorem dX8_bits_25 : decode prog_10_method_7_code 25 = .ok (.ireturn, 1) := by decide +kernel
theorem dX8_inventory_0 : decode prog_10_method_52_code 0 = .ok (.iconst 0, 1) := by decide +kernel
theorem dX8_inventory_1 : decode prog_10_method_52_code 1 = .ok (.istore_n 1, 1) := by decide +kernel
theorem dX8_inventory_2 : decode prog_10_method_52_code 2 = .ok (.iload_n 1, 1) := by decide +kernel
theorem dX8_inventory_3 : decode prog_10_method_52_code 3 = .ok (.aload_n 0, 1) := by decide +kernel
theorem dX8_inventory_4 : decode prog_10_method_52_code 4 = .ok (.getfield 7, 3) := by decide +kernel
theorem dX8_inventory_7 : decode prog_10_method_52_code 7 = .ok (.iconst 3, 1) := by decide +kernel
theorem dX8_inventory_8 : decode prog_10_method_52_code 8 = .ok (.iaload, 1) := by decide +kernel
theorem dX8_inventory_9 : decode prog_10_method_52_code 9 = .ok (.if_icmp .ge 34, 3) := by decide +kernel
theorem dX8_inventory_12 : decode prog_10_method_52_code 12 = .ok (.aload_n 0, 1) := by decide +kernel
theorem dX8_inventory_13 : decode prog_10_method_52_code 13 = .ok (.iload_n 1, 1) := by decide +kernel
theorem dX8_inventory_14 : decode prog_10_method_52_code 14 = .ok (.iconst 5, 1) := by decide +kernel
theorem dX8_inventory_15 : decode prog_10_method_52_code 15 = .ok (.aload_n 0, 1) := by decide +kernel
theorem dX8_inventory_16 : decode prog_10_method_52_code 16 = .ok (.iload_n 1, 1) := by decide +kernel
theorem dX8_inventory_17 : decode prog_10_method_52_code 17 = .ok (.iconst 1, 1) := by decide +kernel
theorem dX8_inventory_18 : decode prog_10_method_52_code 18 = .ok (.invokevirtual 46, 3) := by decide +kernel
theorem dX8_inventory_21 : decode prog_10_method_52_code 21 = .ok (.invokevirtual 103, 3) := by decide +kernel
theorem dX8_inventory_24 : decode prog_10_method_52_code 24 = .ok (.aload_n 0, 1) := by decide +kernel
theorem dX8_inventory_25 : decode prog_10_method_52_code 25 = .ok (.iload_n 1, 1) := by decide +kernel
theorem dX8_inventory_26 : decode prog_10_method_52_code 26 = .ok (.bipush 6, 2) := by decide +kernel
theorem dX8_inventory_28 : decode prog_10_method_52_code 28 = .ok (.aload_n 0, 1) := by decide +kernel
theorem dX8_inventory_29 : decode prog_10_method_52_code 29 = .ok (.iload_n 1, 1) := by decide +kernel
theorem dX8_inventory_30 : decode prog_10_method_52_code 30 = .ok (.iconst 2, 1) := by decide +kernel
theorem dX8_inventory_31 : decode prog_10_method_52_code 31 = .ok (.invokevirtual 46, 3) := by decide +kernel
theorem dX8_inventory_34 : decode prog_10_method_52_code 34 = .ok (.invokevirtual 103, 3) := by decide +kernel
theorem dX8_inventory_37 : decode prog_10_method_52_code 37 = .ok (.iinc 1 1, 3) := by decide +kernel
theorem dX8_inventory_40 : decode prog_10_method_52_code 40 = .ok (.goto (-38), 3) := by decide +kernel
theorem dX8_inventory_43 : decode prog_10_method_52_code 43 = .ok (.aload_n 0, 1) := by decide +kernel
theorem dX8_inventory_44 : decode prog_10_method_52_code 44 = .ok (.getfield 7, 3) := by decide +kernel
theorem dX8_inventory_47 : decode prog_10_method_52_code 47 = .ok (.bipush 6, 2) := by decide +kernel
theorem dX8_inventory_49 : decode prog_10_method_52_code 49 = .ok (.aload_n 0, 1) := by decide +kernel
theorem dX8_inventory_50 : decode prog_10_method_52_code 50 = .ok (.invokevirtual 244, 3) := by decide +kernel
theorem dX8_inventory_53 : decode prog_10_method_52_code 53 = .ok (.iastore, 1) := by decide +kernel
theorem dX8_inventory_54 : decode prog_10_method_52_code 54 = .ok (.return_, 1) := by decide +kernel
theorem dX8_soils_0 : decode prog_10_method_14_code 0 = .ok (.iconst 0, 1) := by decide +kernel
theorem dX8_soils_1 : decode prog_10_method_14_code 1 = .ok (.istore_n 1, 1) := by decide +kernel
theorem dX8_soils_2 : decode prog_10_method_14_code 2 = .ok (.iconst 0, 1) := by decide +kernel
theorem dX8_soils_3 : decode prog_10_method_14_code 3 = .ok (.istore_n 2, 1) := by decide +kernel
theorem dX8_soils_4 : decode prog_10_method_14_code 4 = .ok (.iload_n 2, 1) := by decide +kernel
theorem dX8_soils_5 : decode prog_10_method_14_code 5 = .ok (.bipush 6, 2) := by decide +kernel
theorem dX8_soils_7 : decode prog_10_method_14_code 7 = .ok (.if_icmp .ge 21, 3) := by decide +kernel
theorem dX8_soils_10 : decode prog_10_method_14_code 10 = .ok (.iload_n 1, 1) := by decide +kernel
theorem dX8_soils_11 : decode prog_10_method_14_code 11 = .ok (.aload_n 0, 1) := by decide +kernel
theorem dX8_soils_12 : decode prog_10_method_14_code 12 = .ok (.getfield 7, 3) := by decide +kernel
theorem dX8_soils_15 : decode prog_10_method_14_code 15 = .ok (.bipush 14, 2) := by decide +kernel
theorem dX8_soils_17 : decode prog_10_method_14_code 17 = .ok (.iload_n 2, 1) := by decide +kernel
theorem dX8_soils_18 : decode prog_10_method_14_code 18 = .ok (.iadd, 1) := by decide +kernel
theorem dX8_soils_19 : decode prog_10_method_14_code 19 = .ok (.iaload, 1) := by decide +kernel
theorem dX8_soils_20 : decode prog_10_method_14_code 20 = .ok (.iadd, 1) := by decide +kernel
theorem dX8_soils_21 : decode prog_10_method_14_code 21 = .ok (.istore_n 1, 1) := by decide +kernel
theorem dX8_soils_22 : decode prog_10_method_14_code 22 = .ok (.iinc 2 1, 3) := by decide +kernel
theorem dX8_soils_25 : decode prog_10_method_14_code 25 = .ok (.goto (-21), 3) := by decide +kernel
theorem dX8_soils_28 : decode prog_10_method_14_code 28 = .ok (.iload_n 1, 1) := by decide +kernel
theorem dX8_soils_29 : decode prog_10_method_14_code 29 = .ok (.ireturn, 1) := by decide +kernel
theorem dX8_days_0 : decode prog_10_method_73_code 0 = .ok (.aload_n 0, 1) := by decide +kernel
theorem dX8_days_1 : decode prog_10_method_73_code 1 = .ok (.iload_n 1, 1) := by decide +kernel
theorem dX8_days_2 : decode prog_10_method_73_code 2 = .ok (.iconst 1, 1) := by decide +kernel
theorem dX8_days_3 : decode prog_10_method_73_code 3 = .ok (.sipush 400, 3) := by decide +kernel
theorem dX8_days_6 : decode prog_10_method_73_code 6 = .ok (.invokestatic 42, 3) := by decide +kernel
theorem dX8_days_9 : decode prog_10_method_73_code 9 = .ok (.ifCond .ne 7, 3) := by decide +kernel
theorem dX8_days_12 : decode prog_10_method_73_code 12 = .ok (.iconst 1, 1) := by decide +kernel
theorem dX8_days_13 : decode prog_10_method_73_code 13 = .ok (.goto 4, 3) := by decide +kernel
theorem dX8_days_16 : decode prog_10_method_73_code 16 = .ok (.iconst 0, 1) := by decide +kernel
theorem dX8_days_17 : decode prog_10_method_73_code 17 = .ok (.putfield 39, 3) := by decide +kernel
theorem dX8_days_20 : decode prog_10_method_73_code 20 = .ok (.aload_n 0, 1) := by decide +kernel
theorem dX8_days_21 : decode prog_10_method_73_code 21 = .ok (.getfield 39, 3) := by decide +kernel
theorem dX8_days_24 : decode prog_10_method_73_code 24 = .ok (.ifCond .le 5, 3) := by decide +kernel
theorem dX8_days_27 : decode prog_10_method_73_code 27 = .ok (.iconst 0, 1) := by decide +kernel
theorem dX8_days_28 : decode prog_10_method_73_code 28 = .ok (.ireturn, 1) := by decide +kernel
theorem dX8_days_29 : decode prog_10_method_73_code 29 = .ok (.aload_n 0, 1) := by decide +kernel
theorem dX8_days_30 : decode prog_10_method_73_code 30 = .ok (.invokevirtual 295, 3) := by decide +kernel
theorem dX8_days_33 : decode prog_10_method_73_code 33 = .ok (.aload_n 0, 1) := by decide +kernel
theorem dX8_days_34 : decode prog_10_method_73_code 34 = .ok (.iload_n 1, 1) := by decide +kernel
theorem dX8_days_35 : decode prog_10_method_73_code 35 = .ok (.iconst 1, 1) := by decide +kernel
theorem dX8_days_36 : decode prog_10_method_73_code 36 = .ok (.invokevirtual 298, 3) := by decide +kernel
theorem dX8_days_39 : decode prog_10_method_73_code 39 = .ok (.ireturn, 1) := by decide +kernel
theorem dX8_goes_0 : decode prog_10_method_58_code 0 = .ok (.iconst 0, 1) := by decide +kernel
theorem dX8_goes_1 : decode prog_10_method_58_code 1 = .ok (.istore_n 3, 1) := by decide +kernel
theorem dX8_goes_2 : decode prog_10_method_58_code 2 = .ok (.iconst 0, 1) := by decide +kernel
theorem dX8_goes_3 : decode prog_10_method_58_code 3 = .ok (.istore 4, 2) := by decide +kernel
theorem dX8_goes_5 : decode prog_10_method_58_code 5 = .ok (.iload 4, 2) := by decide +kernel
theorem dX8_goes_7 : decode prog_10_method_58_code 7 = .ok (.iload_n 1, 1) := by decide +kernel
theorem dX8_goes_8 : decode prog_10_method_58_code 8 = .ok (.if_icmp .ge 64, 3) := by decide +kernel
theorem dX8_goes_11 : decode prog_10_method_58_code 11 = .ok (.aload_n 0, 1) := by decide +kernel
theorem dX8_goes_12 : decode prog_10_method_58_code 12 = .ok (.invokevirtual 268, 3) := by decide +kernel
theorem dX8_goes_15 : decode prog_10_method_58_code 15 = .ok (.iload_n 2, 1) := by decide +kernel
theorem dX8_goes_16 : decode prog_10_method_58_code 16 = .ok (.ifCond .eq 7, 3) := by decide +kernel
theorem dX8_goes_19 : decode prog_10_method_58_code 19 = .ok (.aload_n 0, 1) := by decide +kernel
theorem dX8_goes_20 : decode prog_10_method_58_code 20 = .ok (.invokevirtual 271, 3) := by decide +kernel
theorem dX8_goes_23 : decode prog_10_method_58_code 23 = .ok (.aload_n 0, 1) := by decide +kernel
theorem dX8_goes_24 : decode prog_10_method_58_code 24 = .ok (.getfield 7, 3) := by decide +kernel
theorem dX8_goes_27 : decode prog_10_method_58_code 27 = .ok (.iconst 4, 1) := by decide +kernel
theorem dX8_goes_28 : decode prog_10_method_58_code 28 = .ok (.iaload, 1) := by decide +kernel
theorem dX8_goes_29 : decode prog_10_method_58_code 29 = .ok (.sipush 182, 3) := by decide +kernel
theorem dX8_goes_32 : decode prog_10_method_58_code 32 = .ok (.irem, 1) := by decide +kernel
theorem dX8_goes_33 : decode prog_10_method_58_code 33 = .ok (.sipush 181, 3) := by decide +kernel
theorem dX8_goes_36 : decode prog_10_method_58_code 36 = .ok (.if_icmp .ne 10, 3) := by decide +kernel
theorem dX8_goes_39 : decode prog_10_method_58_code 39 = .ok (.aload_n 0, 1) := by decide +kernel
theorem dX8_goes_40 : decode prog_10_method_58_code 40 = .ok (.invokevirtual 274, 3) := by decide +kernel
theorem dX8_goes_43 : decode prog_10_method_58_code 43 = .ok (.iinc 3 1, 3) := by decide +kernel
theorem dX8_goes_46 : decode prog_10_method_58_code 46 = .ok (.aload_n 0, 1) := by decide +kernel
theorem dX8_goes_47 : decode prog_10_method_58_code 47 = .ok (.getfield 7, 3) := by decide +kernel
theorem dX8_goes_50 : decode prog_10_method_58_code 50 = .ok (.iconst 4, 1) := by decide +kernel
theorem dX8_goes_51 : decode prog_10_method_58_code 51 = .ok (.sipush 9999, 3) := by decide +kernel
theorem dX8_goes_54 : decode prog_10_method_58_code 54 = .ok (.aload_n 0, 1) := by decide +kernel
theorem dX8_goes_55 : decode prog_10_method_58_code 55 = .ok (.getfield 7, 3) := by decide +kernel
theorem dX8_goes_58 : decode prog_10_method_58_code 58 = .ok (.iconst 4, 1) := by decide +kernel
theorem dX8_goes_59 : decode prog_10_method_58_code 59 = .ok (.iaload, 1) := by decide +kernel
theorem dX8_goes_60 : decode prog_10_method_58_code 60 = .ok (.iconst 1, 1) := by decide +kernel
theorem dX8_goes_61 : decode prog_10_method_58_code 61 = .ok (.iadd, 1) := by decide +kernel
theorem dX8_goes_62 : decode prog_10_method_58_code 62 = .ok (.invokestatic 222, 3) := by decide +kernel
theorem dX8_goes_65 : decode prog_10_method_58_code 65 = .ok (.iastore, 1) := by decide +kernel
theorem dX8_goes_66 : decode prog_10_method_58_code 66 = .ok (.iinc 4 1, 3) := by decide +kernel
theorem dX8_goes_69 : decode prog_10_method_58_code 69 = .ok (.goto (-64), 3) := by decide +kernel
theorem dX8_goes_72 : decode prog_10_method_58_code 72 = .ok (.iload_n 3, 1) := by decide +kernel
theorem dX8_goes_73 : decode prog_10_method_58_code 73 = .ok (.ireturn, 1) := by decide +kernel
theorem dX8_moves_0 : decode prog_10_method_54_code 0 = .ok (.iconst 0, 1) := by decide +kernel
theorem dX8_moves_1 : decode prog_10_method_54_code 1 = .ok (.istore_n 1, 1) := by decide +kernel
theorem dX8_moves_2 : decode prog_10_method_54_code 2 = .ok (.iload_n 1, 1) := by decide +kernel
theorem dX8_moves_3 : decode prog_10_method_54_code 3 = .ok (.aload_n 0, 1) := by decide +kernel
theorem dX8_moves_4 : decode prog_10_method_54_code 4 = .ok (.getfield 7, 3) := by decide +kernel
theorem dX8_moves_7 : decode prog_10_method_54_code 7 = .ok (.iconst 3, 1) := by decide +kernel
theorem dX8_moves_8 : decode prog_10_method_54_code 8 = .ok (.iaload, 1) := by decide +kernel
theorem dX8_moves_9 : decode prog_10_method_54_code 9 = .ok (.if_icmp .ge 86, 3) := by decide +kernel
theorem dX8_moves_12 : decode prog_10_method_54_code 12 = .ok (.aload_n 0, 1) := by decide +kernel
theorem dX8_moves_13 : decode prog_10_method_54_code 13 = .ok (.iload_n 1, 1) := by decide +kernel
theorem dX8_moves_14 : decode prog_10_method_54_code 14 = .ok (.invokevirtual 247, 3) := by decide +kernel
theorem dX8_moves_17 : decode prog_10_method_54_code 17 = .ok (.aload_n 0, 1) := by decide +kernel
theorem dX8_moves_18 : decode prog_10_method_54_code 18 = .ok (.iload_n 1, 1) := by decide +kernel
theorem dX8_moves_19 : decode prog_10_method_54_code 19 = .ok (.iconst 1, 1) := by decide +kernel
theorem dX8_moves_20 : decode prog_10_method_54_code 20 = .ok (.invokevirtual 46, 3) := by decide +kernel
theorem dX8_moves_23 : decode prog_10_method_54_code 23 = .ok (.istore_n 2, 1) := by decide +kernel
theorem dX8_moves_24 : decode prog_10_method_54_code 24 = .ok (.aload_n 0, 1) := by decide +kernel
theorem dX8_moves_25 : decode prog_10_method_54_code 25 = .ok (.iload_n 1, 1) := by decide +kernel
theorem dX8_moves_26 : decode prog_10_method_54_code 26 = .ok (.iconst 2, 1) := by decide +kernel
theorem dX8_moves_27 : decode prog_10_method_54_code 27 = .ok (.bipush 99, 2) := by decide +kernel
theorem dX8_moves_29 : decode prog_10_method_54_code 29 = .ok (.aload_n 0, 1) := by decide +kernel
theorem dX8_moves_30 : decode prog_10_method_54_code 30 = .ok (.iload_n 1, 1) := by decide +kernel
theorem dX8_moves_31 : decode prog_10_method_54_code 31 = .ok (.iconst 2, 1) := by decide +kernel
theorem dX8_moves_32 : decode prog_10_method_54_code 32 = .ok (.invokevirtual 46, 3) := by decide +kernel
theorem dX8_moves_35 : decode prog_10_method_54_code 35 = .ok (.aload_n 0, 1) := by decide +kernel
theorem dX8_moves_36 : decode prog_10_method_54_code 36 = .ok (.getfield 207, 3) := by decide +kernel
theorem dX8_moves_39 : decode prog_10_method_54_code 39 = .ok (.iadd, 1) := by decide +kernel
theorem dX8_moves_40 : decode prog_10_method_54_code 40 = .ok (.invokestatic 222, 3) := by decide +kernel
theorem dX8_moves_43 : decode prog_10_method_54_code 43 = .ok (.invokevirtual 103, 3) := by decide +kernel
theorem dX8_moves_46 : decode prog_10_method_54_code 46 = .ok (.aload_n 0, 1) := by decide +kernel
theorem dX8_moves_47 : decode prog_10_method_54_code 47 = .ok (.getfield 7, 3) := by decide +kernel
theorem dX8_moves_50 : decode prog_10_method_54_code 50 = .ok (.bipush 14, 2) := by decide +kernel
theorem dX8_moves_52 : decode prog_10_method_54_code 52 = .ok (.iload_n 2, 1) := by decide +kernel
theorem dX8_moves_53 : decode prog_10_method_54_code 53 = .ok (.iadd, 1) := by decide +kernel
theorem dX8_moves_54 : decode prog_10_method_54_code 54 = .ok (.bipush 99, 2) := by decide +kernel
theorem dX8_moves_56 : decode prog_10_method_54_code 56 = .ok (.aload_n 0, 1) := by decide +kernel
theorem dX8_moves_57 : decode prog_10_method_54_code 57 = .ok (.getfield 7, 3) := by decide +kernel
theorem dX8_moves_60 : decode prog_10_method_54_code 60 = .ok (.bipush 14, 2) := by decide +kernel
theorem dX8_moves_62 : decode prog_10_method_54_code 62 = .ok (.iload_n 2, 1) := by decide +kernel
theorem dX8_moves_63 : decode prog_10_method_54_code 63 = .ok (.iadd, 1) := by decide +kernel
theorem dX8_moves_64 : decode prog_10_method_54_code 64 = .ok (.iaload, 1) := by decide +kernel
theorem dX8_moves_65 : decode prog_10_method_54_code 65 = .ok (.aload_n 0, 1) := by decide +kernel
theorem dX8_moves_66 : decode prog_10_method_54_code 66 = .ok (.getfield 213, 3) := by decide +kernel
theorem dX8_moves_69 : decode prog_10_method_54_code 69 = .ok (.iadd, 1) := by decide +kernel
theorem dX8_moves_70 : decode prog_10_method_54_code 70 = .ok (.invokestatic 222, 3) := by decide +kernel
theorem dX8_moves_73 : decode prog_10_method_54_code 73 = .ok (.iastore, 1) := by decide +kernel
theorem dX8_moves_74 : decode prog_10_method_54_code 74 = .ok (.aload_n 0, 1) := by decide +kernel
theorem dX8_moves_75 : decode prog_10_method_54_code 75 = .ok (.iload_n 1, 1) := by decide +kernel
theorem dX8_moves_76 : decode prog_10_method_54_code 76 = .ok (.iconst 1, 1) := by decide +kernel
theorem dX8_moves_77 : decode prog_10_method_54_code 77 = .ok (.iload_n 2, 1) := by decide +kernel
theorem dX8_moves_78 : decode prog_10_method_54_code 78 = .ok (.aload_n 0, 1) := by decide +kernel
theorem dX8_moves_79 : decode prog_10_method_54_code 79 = .ok (.getfield 210, 3) := by decide +kernel
theorem dX8_moves_82 : decode prog_10_method_54_code 82 = .ok (.iadd, 1) := by decide +kernel
theorem dX8_moves_83 : decode prog_10_method_54_code 83 = .ok (.bipush 6, 2) := by decide +kernel
theorem dX8_moves_85 : decode prog_10_method_54_code 85 = .ok (.irem, 1) := by decide +kernel
theorem dX8_moves_86 : decode prog_10_method_54_code 86 = .ok (.invokevirtual 103, 3) := by decide +kernel
theorem dX8_moves_89 : decode prog_10_method_54_code 89 = .ok (.iinc 1 1, 3) := by decide +kernel
theorem dX8_moves_92 : decode prog_10_method_54_code 92 = .ok (.goto (-90), 3) := by decide +kernel
theorem dX8_moves_95 : decode prog_10_method_54_code 95 = .ok (.return_, 1) := by decide +kernel
theorem dX8_storms_0 : decode prog_10_method_55_code 0 = .ok (.aload_n 0, 1) := by decide +kernel
theorem dX8_storms_1 : decode prog_10_method_55_code 1 = .ok (.bipush 100, 2) := by decide +kernel
theorem dX8_storms_3 : decode prog_10_method_55_code 3 = .ok (.invokevirtual 250, 3) := by decide +kernel
theorem dX8_storms_6 : decode prog_10_method_55_code 6 = .ok (.aload_n 0, 1) := by decide +kernel
theorem dX8_storms_7 : decode prog_10_method_55_code 7 = .ok (.getfield 7, 3) := by decide +kernel
theorem dX8_storms_10 : decode prog_10_method_55_code 10 = .ok (.iconst 5, 1) := by decide +kernel
theorem dX8_storms_11 : decode prog_10_method_55_code 11 = .ok (.iaload, 1) := by decide +kernel
theorem dX8_storms_12 : decode prog_10_method_55_code 12 = .ok (.if_icmp .lt 4, 3) := by decide +kernel
theorem dX8_storms_15 : decode prog_10_method_55_code 15 = .ok (.return_, 1) := by decide +kernel
theorem dX8_storms_16 : decode prog_10_method_55_code 16 = .ok (.aload_n 0, 1) := by decide +kernel
theorem dX8_storms_17 : decode prog_10_method_55_code 17 = .ok (.bipush 6, 2) := by decide +kernel
theorem dX8_storms_19 : decode prog_10_method_55_code 19 = .ok (.invokevirtual 250, 3) := by decide +kernel
theorem dX8_storms_22 : decode prog_10_method_55_code 22 = .ok (.istore_n 1, 1) := by decide +kernel
theorem dX8_storms_23 : decode prog_10_method_55_code 23 = .ok (.iconst 0, 1) := by decide +kernel
theorem dX8_storms_24 : decode prog_10_method_55_code 24 = .ok (.istore_n 2, 1) := by decide +kernel
theorem dX8_storms_25 : decode prog_10_method_55_code 25 = .ok (.iload_n 2, 1) := by decide +kernel
theorem dX8_storms_26 : decode prog_10_method_55_code 26 = .ok (.aload_n 0, 1) := by decide +kernel
theorem dX8_storms_27 : decode prog_10_method_55_code 27 = .ok (.getfield 7, 3) := by decide +kernel
theorem dX8_storms_30 : decode prog_10_method_55_code 30 = .ok (.iconst 3, 1) := by decide +kernel
theorem dX8_storms_31 : decode prog_10_method_55_code 31 = .ok (.iaload, 1) := by decide +kernel
theorem dX8_storms_32 : decode prog_10_method_55_code 32 = .ok (.if_icmp .ge 38, 3) := by decide +kernel
theorem dX8_storms_35 : decode prog_10_method_55_code 35 = .ok (.aload_n 0, 1) := by decide +kernel
theorem dX8_storms_36 : decode prog_10_method_55_code 36 = .ok (.iload_n 2, 1) := by decide +kernel
theorem dX8_storms_37 : decode prog_10_method_55_code 37 = .ok (.iconst 1, 1) := by decide +kernel
theorem dX8_storms_38 : decode prog_10_method_55_code 38 = .ok (.invokevirtual 46, 3) := by decide +kernel
theorem dX8_storms_41 : decode prog_10_method_55_code 41 = .ok (.iload_n 1, 1) := by decide +kernel
theorem dX8_storms_42 : decode prog_10_method_55_code 42 = .ok (.if_icmp .ne 22, 3) := by decide +kernel
theorem dX8_storms_45 : decode prog_10_method_55_code 45 = .ok (.aload_n 0, 1) := by decide +kernel
theorem dX8_storms_46 : decode prog_10_method_55_code 46 = .ok (.iload_n 2, 1) := by decide +kernel
theorem dX8_storms_47 : decode prog_10_method_55_code 47 = .ok (.iconst 2, 1) := by decide +kernel
theorem dX8_storms_48 : decode prog_10_method_55_code 48 = .ok (.bipush 99, 2) := by decide +kernel
theorem dX8_storms_50 : decode prog_10_method_55_code 50 = .ok (.aload_n 0, 1) := by decide +kernel
theorem dX8_storms_51 : decode prog_10_method_55_code 51 = .ok (.iload_n 2, 1) := by decide +kernel
theorem dX8_storms_52 : decode prog_10_method_55_code 52 = .ok (.iconst 2, 1) := by decide +kernel
theorem dX8_storms_53 : decode prog_10_method_55_code 53 = .ok (.invokevirtual 46, 3) := by decide +kernel
theorem dX8_storms_56 : decode prog_10_method_55_code 56 = .ok (.iconst 2, 1) := by decide +kernel
theorem dX8_storms_57 : decode prog_10_method_55_code 57 = .ok (.iadd, 1) := by decide +kernel
theorem dX8_storms_58 : decode prog_10_method_55_code 58 = .ok (.invokestatic 222, 3) := by decide +kernel
theorem dX8_storms_61 : decode prog_10_method_55_code 61 = .ok (.invokevirtual 103, 3) := by decide +kernel
theorem dX8_storms_64 : decode prog_10_method_55_code 64 = .ok (.iinc 2 1, 3) := by decide +kernel
theorem dX8_storms_67 : decode prog_10_method_55_code 67 = .ok (.goto (-42), 3) := by decide +kernel
theorem dX8_storms_70 : decode prog_10_method_55_code 70 = .ok (.return_, 1) := by decide +kernel
theorem dX8_draw_0 : decode prog_10_method_53_code 0 = .ok (.aload_n 0, 1) := by decide +kernel
theorem dX8_draw_1 : decode prog_10_method_53_code 1 = .ok (.getfield 7, 3) := by decide +kernel
theorem dX8_draw_4 : decode prog_10_method_53_code 4 = .ok (.bipush 12, 2) := by decide +kernel
theorem dX8_draw_6 : decode prog_10_method_53_code 6 = .ok (.ldc 246, 2) := by decide +kernel
theorem dX8_draw_8 : decode prog_10_method_53_code 8 = .ok (.aload_n 0, 1) := by decide +kernel
theorem dX8_draw_9 : decode prog_10_method_53_code 9 = .ok (.getfield 7, 3) := by decide +kernel
theorem dX8_draw_12 : decode prog_10_method_53_code 12 = .ok (.bipush 12, 2) := by decide +kernel
theorem dX8_draw_14 : decode prog_10_method_53_code 14 = .ok (.iaload, 1) := by decide +kernel
theorem dX8_draw_15 : decode prog_10_method_53_code 15 = .ok (.imul, 1) := by decide +kernel
theorem dX8_draw_16 : decode prog_10_method_53_code 16 = .ok (.sipush 12345, 3) := by decide +kernel
theorem dX8_draw_19 : decode prog_10_method_53_code 19 = .ok (.iadd, 1) := by decide +kernel
theorem dX8_draw_20 : decode prog_10_method_53_code 20 = .ok (.iastore, 1) := by decide +kernel
theorem dX8_draw_21 : decode prog_10_method_53_code 21 = .ok (.aload_n 0, 1) := by decide +kernel
theorem dX8_draw_22 : decode prog_10_method_53_code 22 = .ok (.getfield 7, 3) := by decide +kernel
theorem dX8_draw_25 : decode prog_10_method_53_code 25 = .ok (.bipush 12, 2) := by decide +kernel
theorem dX8_draw_27 : decode prog_10_method_53_code 27 = .ok (.iaload, 1) := by decide +kernel
theorem dX8_draw_28 : decode prog_10_method_53_code 28 = .ok (.bipush 16, 2) := by decide +kernel
theorem dX8_draw_30 : decode prog_10_method_53_code 30 = .ok (.iushr, 1) := by decide +kernel
theorem dX8_draw_31 : decode prog_10_method_53_code 31 = .ok (.sipush 32767, 3) := by decide +kernel
theorem dX8_draw_34 : decode prog_10_method_53_code 34 = .ok (.iand, 1) := by decide +kernel
theorem dX8_draw_35 : decode prog_10_method_53_code 35 = .ok (.iload_n 1, 1) := by decide +kernel
theorem dX8_draw_36 : decode prog_10_method_53_code 36 = .ok (.irem, 1) := by decide +kernel
theorem dX8_draw_37 : decode prog_10_method_53_code 37 = .ok (.ireturn, 1) := by decide +kernel
theorem dX8_leaves_0 : decode prog_10_method_57_code 0 = .ok (.aload_n 0, 1) := by decide +kernel
theorem dX8_leaves_1 : decode prog_10_method_57_code 1 = .ok (.invokevirtual 216, 3) := by decide +kernel
theorem dX8_leaves_4 : decode prog_10_method_57_code 4 = .ok (.istore_n 1, 1) := by decide +kernel
theorem dX8_leaves_5 : decode prog_10_method_57_code 5 = .ok (.aload_n 0, 1) := by decide +kernel
theorem dX8_leaves_6 : decode prog_10_method_57_code 6 = .ok (.invokevirtual 253, 3) := by decide +kernel
theorem dX8_leaves_9 : decode prog_10_method_57_code 9 = .ok (.istore_n 2, 1) := by decide +kernel
theorem dX8_leaves_10 : decode prog_10_method_57_code 10 = .ok (.aload_n 0, 1) := by decide +kernel
theorem dX8_leaves_11 : decode prog_10_method_57_code 11 = .ok (.invokevirtual 259, 3) := by decide +kernel
theorem dX8_leaves_14 : decode prog_10_method_57_code 14 = .ok (.istore_n 3, 1) := by decide +kernel
theorem dX8_leaves_15 : decode prog_10_method_57_code 15 = .ok (.aload_n 0, 1) := by decide +kernel
theorem dX8_leaves_16 : decode prog_10_method_57_code 16 = .ok (.getfield 7, 3) := by decide +kernel
theorem dX8_leaves_19 : decode prog_10_method_57_code 19 = .ok (.bipush 9, 2) := by decide +kernel
theorem dX8_leaves_21 : decode prog_10_method_57_code 21 = .ok (.iload_n 1, 1) := by decide +kernel
theorem dX8_leaves_22 : decode prog_10_method_57_code 22 = .ok (.iadd, 1) := by decide +kernel
theorem dX8_leaves_23 : decode prog_10_method_57_code 23 = .ok (.sipush 9999, 3) := by decide +kernel
theorem dX8_leaves_26 : decode prog_10_method_57_code 26 = .ok (.aload_n 0, 1) := by decide +kernel
theorem dX8_leaves_27 : decode prog_10_method_57_code 27 = .ok (.getfield 7, 3) := by decide +kernel
theorem dX8_leaves_30 : decode prog_10_method_57_code 30 = .ok (.bipush 9, 2) := by decide +kernel
theorem dX8_leaves_32 : decode prog_10_method_57_code 32 = .ok (.iload_n 1, 1) := by decide +kernel
theorem dX8_leaves_33 : decode prog_10_method_57_code 33 = .ok (.iadd, 1) := by decide +kernel
theorem dX8_leaves_34 : decode prog_10_method_57_code 34 = .ok (.iaload, 1) := by decide +kernel
theorem dX8_leaves_35 : decode prog_10_method_57_code 35 = .ok (.iload_n 3, 1) := by decide +kernel
theorem dX8_leaves_36 : decode prog_10_method_57_code 36 = .ok (.iadd, 1) := by decide +kernel
theorem dX8_leaves_37 : decode prog_10_method_57_code 37 = .ok (.invokestatic 222, 3) := by decide +kernel
theorem dX8_leaves_40 : decode prog_10_method_57_code 40 = .ok (.iastore, 1) := by decide +kernel
theorem dX8_leaves_41 : decode prog_10_method_57_code 41 = .ok (.sipush 239, 3) := by decide +kernel
theorem dX8_leaves_44 : decode prog_10_method_57_code 44 = .ok (.istore 4, 2) := by decide +kernel
theorem dX8_leaves_46 : decode prog_10_method_57_code 46 = .ok (.iload 4, 2) := by decide +kernel
theorem dX8_leaves_48 : decode prog_10_method_57_code 48 = .ok (.iconst 4, 1) := by decide +kernel
theorem dX8_leaves_49 : decode prog_10_method_57_code 49 = .ok (.if_icmp .lt 31, 3) := by decide +kernel
theorem dX8_leaves_52 : decode prog_10_method_57_code 52 = .ok (.aload_n 0, 1) := by decide +kernel
theorem dX8_leaves_53 : decode prog_10_method_57_code 53 = .ok (.getfield 7, 3) := by decide +kernel
theorem dX8_leaves_56 : decode prog_10_method_57_code 56 = .ok (.bipush 110, 2) := by decide +kernel
theorem dX8_leaves_58 : decode prog_10_method_57_code 58 = .ok (.iload 4, 2) := by decide +kernel
theorem dX8_leaves_60 : decode prog_10_method_57_code 60 = .ok (.iadd, 1) := by decide +kernel
theorem dX8_leaves_61 : decode prog_10_method_57_code 61 = .ok (.aload_n 0, 1) := by decide +kernel
theorem dX8_leaves_62 : decode prog_10_method_57_code 62 = .ok (.getfield 7, 3) := by decide +kernel
theorem dX8_leaves_65 : decode prog_10_method_57_code 65 = .ok (.bipush 110, 2) := by decide +kernel
theorem dX8_leaves_67 : decode prog_10_method_57_code 67 = .ok (.iload 4, 2) := by decide +kernel
theorem dX8_leaves_69 : decode prog_10_method_57_code 69 = .ok (.iadd, 1) := by decide +kernel
theorem dX8_leaves_70 : decode prog_10_method_57_code 70 = .ok (.iconst 4, 1) := by decide +kernel
theorem dX8_leaves_71 : decode prog_10_method_57_code 71 = .ok (.isub, 1) := by decide +kernel
theorem dX8_leaves_72 : decode prog_10_method_57_code 72 = .ok (.iaload, 1) := by decide +kernel
theorem dX8_leaves_73 : decode prog_10_method_57_code 73 = .ok (.iastore, 1) := by decide +kernel
theorem dX8_leaves_74 : decode prog_10_method_57_code 74 = .ok (.iinc 4 (-1), 3) := by decide +kernel
theorem dX8_leaves_77 : decode prog_10_method_57_code 77 = .ok (.goto (-31), 3) := by decide +kernel
theorem dX8_leaves_80 : decode prog_10_method_57_code 80 = .ok (.aload_n 0, 1) := by decide +kernel
theorem dX8_leaves_81 : decode prog_10_method_57_code 81 = .ok (.getfield 7, 3) := by decide +kernel
theorem dX8_leaves_84 : decode prog_10_method_57_code 84 = .ok (.bipush 110, 2) := by decide +kernel
theorem dX8_leaves_86 : decode prog_10_method_57_code 86 = .ok (.aload_n 0, 1) := by decide +kernel
theorem dX8_leaves_87 : decode prog_10_method_57_code 87 = .ok (.getfield 7, 3) := by decide +kernel
theorem dX8_leaves_90 : decode prog_10_method_57_code 90 = .ok (.iconst 4, 1) := by decide +kernel
theorem dX8_leaves_91 : decode prog_10_method_57_code 91 = .ok (.iaload, 1) := by decide +kernel
theorem dX8_leaves_92 : decode prog_10_method_57_code 92 = .ok (.iastore, 1) := by decide +kernel
theorem dX8_leaves_93 : decode prog_10_method_57_code 93 = .ok (.aload_n 0, 1) := by decide +kernel
theorem dX8_leaves_94 : decode prog_10_method_57_code 94 = .ok (.getfield 7, 3) := by decide +kernel
theorem dX8_leaves_97 : decode prog_10_method_57_code 97 = .ok (.bipush 111, 2) := by decide +kernel
theorem dX8_leaves_99 : decode prog_10_method_57_code 99 = .ok (.iload_n 1, 1) := by decide +kernel
theorem dX8_leaves_100 : decode prog_10_method_57_code 100 = .ok (.iastore, 1) := by decide +kernel
theorem dX8_leaves_101 : decode prog_10_method_57_code 101 = .ok (.aload_n 0, 1) := by decide +kernel
theorem dX8_leaves_102 : decode prog_10_method_57_code 102 = .ok (.getfield 7, 3) := by decide +kernel
theorem dX8_leaves_105 : decode prog_10_method_57_code 105 = .ok (.bipush 112, 2) := by decide +kernel
theorem dX8_leaves_107 : decode prog_10_method_57_code 107 = .ok (.iload_n 2, 1) := by decide +kernel
theorem dX8_leaves_108 : decode prog_10_method_57_code 108 = .ok (.invokestatic 262, 3) := by decide +kernel
theorem dX8_leaves_111 : decode prog_10_method_57_code 111 = .ok (.iastore, 1) := by decide +kernel
theorem dX8_leaves_112 : decode prog_10_method_57_code 112 = .ok (.aload_n 0, 1) := by decide +kernel
theorem dX8_leaves_113 : decode prog_10_method_57_code 113 = .ok (.getfield 7, 3) := by decide +kernel
theorem dX8_leaves_116 : decode prog_10_method_57_code 116 = .ok (.bipush 113, 2) := by decide +kernel
theorem dX8_leaves_118 : decode prog_10_method_57_code 118 = .ok (.iload_n 3, 1) := by decide +kernel
theorem dX8_leaves_119 : decode prog_10_method_57_code 119 = .ok (.iastore, 1) := by decide +kernel
theorem dX8_leaves_120 : decode prog_10_method_57_code 120 = .ok (.aload_n 0, 1) := by decide +kernel
theorem dX8_leaves_121 : decode prog_10_method_57_code 121 = .ok (.getfield 7, 3) := by decide +kernel
theorem dX8_leaves_124 : decode prog_10_method_57_code 124 = .ok (.bipush 11, 2) := by decide +kernel
theorem dX8_leaves_126 : decode prog_10_method_57_code 126 = .ok (.bipush 60, 2) := by decide +kernel
theorem dX8_leaves_128 : decode prog_10_method_57_code 128 = .ok (.aload_n 0, 1) := by decide +kernel
theorem dX8_leaves_129 : decode prog_10_method_57_code 129 = .ok (.getfield 7, 3) := by decide +kernel
theorem dX8_leaves_132 : decode prog_10_method_57_code 132 = .ok (.bipush 11, 2) := by decide +kernel
theorem dX8_leaves_134 : decode prog_10_method_57_code 134 = .ok (.iaload, 1) := by decide +kernel
theorem dX8_leaves_135 : decode prog_10_method_57_code 135 = .ok (.iconst 1, 1) := by decide +kernel
theorem dX8_leaves_136 : decode prog_10_method_57_code 136 = .ok (.iadd, 1) := by decide +kernel
theorem dX8_leaves_137 : decode prog_10_method_57_code 137 = .ok (.invokestatic 222, 3) := by decide +kernel
theorem dX8_leaves_140 : decode prog_10_method_57_code 140 = .ok (.iastore, 1) := by decide +kernel
theorem dX8_leaves_141 : decode prog_10_method_57_code 141 = .ok (.aload_n 0, 1) := by decide +kernel
theorem dX8_leaves_142 : decode prog_10_method_57_code 142 = .ok (.invokevirtual 265, 3) := by decide +kernel
theorem dX8_leaves_145 : decode prog_10_method_57_code 145 = .ok (.return_, 1) := by decide +kernel
theorem dX8_owedNow_0 : decode prog_10_method_56_code 0 = .ok (.aload_n 0, 1) := by decide +kernel
theorem dX8_owedNow_1 : decode prog_10_method_56_code 1 = .ok (.aload_n 0, 1) := by decide +kernel
theorem dX8_owedNow_2 : decode prog_10_method_56_code 2 = .ok (.invokevirtual 253, 3) := by decide +kernel
theorem dX8_owedNow_5 : decode prog_10_method_56_code 5 = .ok (.invokevirtual 256, 3) := by decide +kernel
theorem dX8_owedNow_8 : decode prog_10_method_56_code 8 = .ok (.iconst 0, 1) := by decide +kernel
theorem dX8_owedNow_9 : decode prog_10_method_56_code 9 = .ok (.aload_n 0, 1) := by decide +kernel
theorem dX8_owedNow_10 : decode prog_10_method_56_code 10 = .ok (.invokevirtual 244, 3) := by decide +kernel
theorem dX8_owedNow_13 : decode prog_10_method_56_code 13 = .ok (.aload_n 0, 1) := by decide +kernel
theorem dX8_owedNow_14 : decode prog_10_method_56_code 14 = .ok (.getfield 7, 3) := by decide +kernel
theorem dX8_owedNow_17 : decode prog_10_method_56_code 17 = .ok (.bipush 6, 2) := by decide +kernel
theorem dX8_owedNow_19 : decode prog_10_method_56_code 19 = .ok (.iaload, 1) := by decide +kernel
theorem dX8_owedNow_20 : decode prog_10_method_56_code 20 = .ok (.isub, 1) := by decide +kernel
theorem dX8_owedNow_21 : decode prog_10_method_56_code 21 = .ok (.invokestatic 219, 3) := by decide +kernel
theorem dX8_owedNow_24 : decode prog_10_method_56_code 24 = .ok (.iadd, 1) := by decide +kernel
theorem dX8_owedNow_25 : decode prog_10_method_56_code 25 = .ok (.istore_n 1, 1) := by decide +kernel
theorem dX8_owedNow_26 : decode prog_10_method_56_code 26 = .ok (.iconst 0, 1) := by decide +kernel
theorem dX8_owedNow_27 : decode prog_10_method_56_code 27 = .ok (.istore_n 2, 1) := by decide +kernel
theorem dX8_owedNow_28 : decode prog_10_method_56_code 28 = .ok (.iload_n 2, 1) := by decide +kernel
theorem dX8_owedNow_29 : decode prog_10_method_56_code 29 = .ok (.aload_n 0, 1) := by decide +kernel
theorem dX8_owedNow_30 : decode prog_10_method_56_code 30 = .ok (.getfield 7, 3) := by decide +kernel
theorem dX8_owedNow_33 : decode prog_10_method_56_code 33 = .ok (.iconst 3, 1) := by decide +kernel
theorem dX8_owedNow_34 : decode prog_10_method_56_code 34 = .ok (.iaload, 1) := by decide +kernel
theorem dX8_owedNow_35 : decode prog_10_method_56_code 35 = .ok (.if_icmp .ge 17, 3) := by decide +kernel
theorem dX8_owedNow_38 : decode prog_10_method_56_code 38 = .ok (.iload_n 1, 1) := by decide +kernel
theorem dX8_owedNow_39 : decode prog_10_method_56_code 39 = .ok (.aload_n 0, 1) := by decide +kernel
theorem dX8_owedNow_40 : decode prog_10_method_56_code 40 = .ok (.iload_n 2, 1) := by decide +kernel
theorem dX8_owedNow_41 : decode prog_10_method_56_code 41 = .ok (.invokevirtual 228, 3) := by decide +kernel
theorem dX8_owedNow_44 : decode prog_10_method_56_code 44 = .ok (.iadd, 1) := by decide +kernel
theorem dX8_owedNow_45 : decode prog_10_method_56_code 45 = .ok (.istore_n 1, 1) := by decide +kernel
theorem dX8_owedNow_46 : decode prog_10_method_56_code 46 = .ok (.iinc 2 1, 3) := by decide +kernel
theorem dX8_owedNow_49 : decode prog_10_method_56_code 49 = .ok (.goto (-21), 3) := by decide +kernel
theorem dX8_owedNow_52 : decode prog_10_method_56_code 52 = .ok (.iload_n 1, 1) := by decide +kernel
theorem dX8_owedNow_53 : decode prog_10_method_56_code 53 = .ok (.ireturn, 1) := by decide +kernel
theorem dX8_valueOf_0 : decode prog_10_method_51_code 0 = .ok (.iconst 0, 1) := by decide +kernel
theorem dX8_valueOf_1 : decode prog_10_method_51_code 1 = .ok (.istore_n 2, 1) := by decide +kernel
theorem dX8_valueOf_2 : decode prog_10_method_51_code 2 = .ok (.iconst 0, 1) := by decide +kernel
theorem dX8_valueOf_3 : decode prog_10_method_51_code 3 = .ok (.istore_n 3, 1) := by decide +kernel
theorem dX8_valueOf_4 : decode prog_10_method_51_code 4 = .ok (.iload_n 3, 1) := by decide +kernel
theorem dX8_valueOf_5 : decode prog_10_method_51_code 5 = .ok (.aload_n 0, 1) := by decide +kernel
theorem dX8_valueOf_6 : decode prog_10_method_51_code 6 = .ok (.getfield 7, 3) := by decide +kernel
theorem dX8_valueOf_9 : decode prog_10_method_51_code 9 = .ok (.iconst 3, 1) := by decide +kernel
theorem dX8_valueOf_10 : decode prog_10_method_51_code 10 = .ok (.iaload, 1) := by decide +kernel
theorem dX8_valueOf_11 : decode prog_10_method_51_code 11 = .ok (.if_icmp .ge 30, 3) := by decide +kernel
theorem dX8_valueOf_14 : decode prog_10_method_51_code 14 = .ok (.iload_n 2, 1) := by decide +kernel
theorem dX8_valueOf_15 : decode prog_10_method_51_code 15 = .ok (.iload_n 1, 1) := by decide +kernel
theorem dX8_valueOf_16 : decode prog_10_method_51_code 16 = .ok (.iload_n 3, 1) := by decide +kernel
theorem dX8_valueOf_17 : decode prog_10_method_51_code 17 = .ok (.invokestatic 240, 3) := by decide +kernel
theorem dX8_valueOf_20 : decode prog_10_method_51_code 20 = .ok (.ifCond .eq 12, 3) := by decide +kernel
theorem dX8_valueOf_23 : decode prog_10_method_51_code 23 = .ok (.aload_n 0, 1) := by decide +kernel
theorem dX8_valueOf_24 : decode prog_10_method_51_code 24 = .ok (.iload_n 3, 1) := by decide +kernel
theorem dX8_valueOf_25 : decode prog_10_method_51_code 25 = .ok (.iconst 3, 1) := by decide +kernel
theorem dX8_valueOf_26 : decode prog_10_method_51_code 26 = .ok (.invokevirtual 46, 3) := by decide +kernel
theorem dX8_valueOf_29 : decode prog_10_method_51_code 29 = .ok (.goto 4, 3) := by decide +kernel
theorem dX8_valueOf_32 : decode prog_10_method_51_code 32 = .ok (.iconst 0, 1) := by decide +kernel
theorem dX8_valueOf_33 : decode prog_10_method_51_code 33 = .ok (.iadd, 1) := by decide +kernel
theorem dX8_valueOf_34 : decode prog_10_method_51_code 34 = .ok (.istore_n 2, 1) := by decide +kernel
theorem dX8_valueOf_35 : decode prog_10_method_51_code 35 = .ok (.iinc 3 1, 3) := by decide +kernel
theorem dX8_valueOf_38 : decode prog_10_method_51_code 38 = .ok (.goto (-34), 3) := by decide +kernel
theorem dX8_valueOf_41 : decode prog_10_method_51_code 41 = .ok (.iload_n 2, 1) := by decide +kernel
theorem dX8_valueOf_42 : decode prog_10_method_51_code 42 = .ok (.ireturn, 1) := by decide +kernel
theorem dX8_isOf_0 : decode prog_10_method_6_code 0 = .ok (.iload_n 0, 1) := by decide +kernel
theorem dX8_isOf_1 : decode prog_10_method_6_code 1 = .ok (.iload_n 1, 1) := by decide +kernel
theorem dX8_isOf_2 : decode prog_10_method_6_code 2 = .ok (.ishr, 1) := by decide +kernel
theorem dX8_isOf_3 : decode prog_10_method_6_code 3 = .ok (.iconst 1, 1) := by decide +kernel
theorem dX8_isOf_4 : decode prog_10_method_6_code 4 = .ok (.iand, 1) := by decide +kernel
theorem dX8_isOf_5 : decode prog_10_method_6_code 5 = .ok (.iconst 1, 1) := by decide +kernel
theorem dX8_isOf_6 : decode prog_10_method_6_code 6 = .ok (.if_icmp .ne 7, 3) := by decide +kernel
theorem dX8_isOf_9 : decode prog_10_method_6_code 9 = .ok (.iconst 1, 1) := by decide +kernel
theorem dX8_isOf_10 : decode prog_10_method_6_code 10 = .ok (.goto 4, 3) := by decide +kernel
theorem dX8_isOf_13 : decode prog_10_method_6_code 13 = .ok (.iconst 0, 1) := by decide +kernel
theorem dX8_isOf_14 : decode prog_10_method_6_code 14 = .ok (.ireturn, 1) := by decide +kernel
theorem dX8_ahead_0 : decode prog_10_method_74_code 0 = .ok (.aload_n 0, 1) := by decide +kernel
theorem dX8_ahead_1 : decode prog_10_method_74_code 1 = .ok (.aload_n 0, 1) := by decide +kernel
theorem dX8_ahead_2 : decode prog_10_method_74_code 2 = .ok (.iload_n 1, 1) := by decide +kernel
theorem dX8_ahead_3 : decode prog_10_method_74_code 3 = .ok (.invokevirtual 277, 3) := by decide +kernel
theorem dX8_ahead_6 : decode prog_10_method_74_code 6 = .ok (.ifCond .ne 7, 3) := by decide +kernel
theorem dX8_ahead_9 : decode prog_10_method_74_code 9 = .ok (.iconst 1, 1) := by decide +kernel
theorem dX8_ahead_10 : decode prog_10_method_74_code 10 = .ok (.goto 32, 3) := by decide +kernel
theorem dX8_ahead_13 : decode prog_10_method_74_code 13 = .ok (.iload_n 2, 1) := by decide +kernel
theorem dX8_ahead_14 : decode prog_10_method_74_code 14 = .ok (.iconst 0, 1) := by decide +kernel
theorem dX8_ahead_15 : decode prog_10_method_74_code 15 = .ok (.sipush 400, 3) := by decide +kernel
theorem dX8_ahead_18 : decode prog_10_method_74_code 18 = .ok (.invokestatic 42, 3) := by decide +kernel
theorem dX8_ahead_21 : decode prog_10_method_74_code 21 = .ok (.ifCond .ne 7, 3) := by decide +kernel
theorem dX8_ahead_24 : decode prog_10_method_74_code 24 = .ok (.iconst 2, 1) := by decide +kernel
theorem dX8_ahead_25 : decode prog_10_method_74_code 25 = .ok (.goto 17, 3) := by decide +kernel
theorem dX8_ahead_28 : decode prog_10_method_74_code 28 = .ok (.iload_n 3, 1) := by decide +kernel
theorem dX8_ahead_29 : decode prog_10_method_74_code 29 = .ok (.iconst 0, 1) := by decide +kernel
theorem dX8_ahead_30 : decode prog_10_method_74_code 30 = .ok (.iconst 2, 1) := by decide +kernel
theorem dX8_ahead_31 : decode prog_10_method_74_code 31 = .ok (.invokestatic 42, 3) := by decide +kernel
theorem dX8_ahead_34 : decode prog_10_method_74_code 34 = .ok (.ifCond .ne 7, 3) := by decide +kernel
theorem dX8_ahead_37 : decode prog_10_method_74_code 37 = .ok (.iconst 3, 1) := by decide +kernel
theorem dX8_ahead_38 : decode prog_10_method_74_code 38 = .ok (.goto 4, 3) := by decide +kernel
theorem dX8_ahead_41 : decode prog_10_method_74_code 41 = .ok (.iconst 0, 1) := by decide +kernel
theorem dX8_ahead_42 : decode prog_10_method_74_code 42 = .ok (.putfield 39, 3) := by decide +kernel
theorem dX8_ahead_45 : decode prog_10_method_74_code 45 = .ok (.aload_n 0, 1) := by decide +kernel
theorem dX8_ahead_46 : decode prog_10_method_74_code 46 = .ok (.getfield 39, 3) := by decide +kernel
theorem dX8_ahead_49 : decode prog_10_method_74_code 49 = .ok (.ifCond .le 5, 3) := by decide +kernel
theorem dX8_ahead_52 : decode prog_10_method_74_code 52 = .ok (.iconst 0, 1) := by decide +kernel
theorem dX8_ahead_53 : decode prog_10_method_74_code 53 = .ok (.ireturn, 1) := by decide +kernel
theorem dX8_ahead_54 : decode prog_10_method_74_code 54 = .ok (.aload_n 0, 1) := by decide +kernel
theorem dX8_ahead_55 : decode prog_10_method_74_code 55 = .ok (.invokevirtual 145, 3) := by decide +kernel
theorem dX8_ahead_58 : decode prog_10_method_74_code 58 = .ok (.aload_n 0, 1) := by decide +kernel
theorem dX8_ahead_59 : decode prog_10_method_74_code 59 = .ok (.iload_n 2, 1) := by decide +kernel
theorem dX8_ahead_60 : decode prog_10_method_74_code 60 = .ok (.iconst 0, 1) := by decide +kernel
theorem dX8_ahead_61 : decode prog_10_method_74_code 61 = .ok (.invokevirtual 298, 3) := by decide +kernel
theorem dX8_ahead_64 : decode prog_10_method_74_code 64 = .ok (.istore 4, 2) := by decide +kernel
theorem dX8_ahead_66 : decode prog_10_method_74_code 66 = .ok (.iload_n 3, 1) := by decide +kernel
theorem dX8_ahead_67 : decode prog_10_method_74_code 67 = .ok (.ifCond .ne 12, 3) := by decide +kernel
theorem dX8_ahead_70 : decode prog_10_method_74_code 70 = .ok (.aload_n 0, 1) := by decide +kernel
theorem dX8_ahead_71 : decode prog_10_method_74_code 71 = .ok (.iload_n 1, 1) := by decide +kernel
theorem dX8_ahead_72 : decode prog_10_method_74_code 72 = .ok (.iconst 1, 1) := by decide +kernel
theorem dX8_ahead_73 : decode prog_10_method_74_code 73 = .ok (.invokevirtual 46, 3) := by decide +kernel
theorem dX8_ahead_76 : decode prog_10_method_74_code 76 = .ok (.goto 30, 3) := by decide +kernel
theorem dX8_ahead_79 : decode prog_10_method_74_code 79 = .ok (.iload_n 3, 1) := by decide +kernel
theorem dX8_ahead_80 : decode prog_10_method_74_code 80 = .ok (.iconst 1, 1) := by decide +kernel
theorem dX8_ahead_81 : decode prog_10_method_74_code 81 = .ok (.if_icmp .ne 12, 3) := by decide +kernel
theorem dX8_ahead_84 : decode prog_10_method_74_code 84 = .ok (.aload_n 0, 1) := by decide +kernel
theorem dX8_ahead_85 : decode prog_10_method_74_code 85 = .ok (.iload_n 1, 1) := by decide +kernel
theorem dX8_ahead_86 : decode prog_10_method_74_code 86 = .ok (.iconst 2, 1) := by decide +kernel
theorem dX8_ahead_87 : decode prog_10_method_74_code 87 = .ok (.invokevirtual 46, 3) := by decide +kernel
theorem dX8_ahead_90 : decode prog_10_method_74_code 90 = .ok (.goto 16, 3) := by decide +kernel
theorem dX8_ahead_93 : decode prog_10_method_74_code 93 = .ok (.aload_n 0, 1) := by decide +kernel
theorem dX8_ahead_94 : decode prog_10_method_74_code 94 = .ok (.iload_n 1, 1) := by decide +kernel
theorem dX8_ahead_95 : decode prog_10_method_74_code 95 = .ok (.invokevirtual 237, 3) := by decide +kernel
theorem dX8_ahead_98 : decode prog_10_method_74_code 98 = .ok (.ifCond .eq 7, 3) := by decide +kernel
theorem dX8_ahead_101 : decode prog_10_method_74_code 101 = .ok (.iconst 1, 1) := by decide +kernel
theorem dX8_ahead_102 : decode prog_10_method_74_code 102 = .ok (.goto 4, 3) := by decide +kernel
theorem dX8_ahead_105 : decode prog_10_method_74_code 105 = .ok (.iconst 0, 1) := by decide +kernel
theorem dX8_ahead_106 : decode prog_10_method_74_code 106 = .ok (.istore 5, 2) := by decide +kernel
theorem dX8_ahead_108 : decode prog_10_method_74_code 108 = .ok (.aload_n 0, 1) := by decide +kernel
theorem dX8_ahead_109 : decode prog_10_method_74_code 109 = .ok (.invokevirtual 155, 3) := by decide +kernel
theorem dX8_ahead_112 : decode prog_10_method_74_code 112 = .ok (.iload 5, 2) := by decide +kernel
theorem dX8_ahead_114 : decode prog_10_method_74_code 114 = .ok (.ireturn, 1) := by decide +kernel
theorem dX8_missing_0 : decode prog_10_method_75_code 0 = .ok (.aload_n 0, 1) := by decide +kernel
theorem dX8_missing_1 : decode prog_10_method_75_code 1 = .ok (.iconst 0, 1) := by decide +kernel
theorem dX8_missing_2 : decode prog_10_method_75_code 2 = .ok (.putfield 39, 3) := by decide +kernel
theorem dX8_missing_5 : decode prog_10_method_75_code 5 = .ok (.aload_n 0, 1) := by decide +kernel
theorem dX8_missing_6 : decode prog_10_method_75_code 6 = .ok (.invokevirtual 253, 3) := by decide +kernel
theorem dX8_missing_9 : decode prog_10_method_75_code 9 = .ok (.ireturn, 1) := by decide +kernel
theorem dX8_worse_0 : decode prog_10_method_76_code 0 = .ok (.aload_n 0, 1) := by decide +kernel
theorem dX8_worse_1 : decode prog_10_method_76_code 1 = .ok (.iconst 0, 1) := by decide +kernel
theorem dX8_worse_2 : decode prog_10_method_76_code 2 = .ok (.putfield 39, 3) := by decide +kernel
theorem dX8_worse_5 : decode prog_10_method_76_code 5 = .ok (.iconst 0, 1) := by decide +kernel
theorem dX8_worse_6 : decode prog_10_method_76_code 6 = .ok (.istore_n 1, 1) := by decide +kernel
theorem dX8_worse_7 : decode prog_10_method_76_code 7 = .ok (.iconst 0, 1) := by decide +kernel
theorem dX8_worse_8 : decode prog_10_method_76_code 8 = .ok (.istore_n 2, 1) := by decide +kernel
theorem dX8_worse_9 : decode prog_10_method_76_code 9 = .ok (.iload_n 2, 1) := by decide +kernel
theorem dX8_worse_10 : decode prog_10_method_76_code 10 = .ok (.aload_n 0, 1) := by decide +kernel
theorem dX8_worse_11 : decode prog_10_method_76_code 11 = .ok (.getfield 7, 3) := by decide +kernel
theorem dX8_worse_14 : decode prog_10_method_76_code 14 = .ok (.iconst 3, 1) := by decide +kernel
theorem dX8_worse_15 : decode prog_10_method_76_code 15 = .ok (.iaload, 1) := by decide +kernel
theorem dX8_worse_16 : decode prog_10_method_76_code 16 = .ok (.if_icmp .ge 27, 3) := by decide +kernel
theorem dX8_worse_19 : decode prog_10_method_76_code 19 = .ok (.iload_n 1, 1) := by decide +kernel
theorem dX8_worse_20 : decode prog_10_method_76_code 20 = .ok (.aload_n 0, 1) := by decide +kernel
theorem dX8_worse_21 : decode prog_10_method_76_code 21 = .ok (.iload_n 2, 1) := by decide +kernel
theorem dX8_worse_22 : decode prog_10_method_76_code 22 = .ok (.invokevirtual 228, 3) := by decide +kernel
theorem dX8_worse_25 : decode prog_10_method_76_code 25 = .ok (.ifCond .le 9, 3) := by decide +kernel
theorem dX8_worse_28 : decode prog_10_method_76_code 28 = .ok (.iconst 1, 1) := by decide +kernel
theorem dX8_worse_29 : decode prog_10_method_76_code 29 = .ok (.iload_n 2, 1) := by decide +kernel
theorem dX8_worse_30 : decode prog_10_method_76_code 30 = .ok (.ishl, 1) := by decide +kernel
theorem dX8_worse_31 : decode prog_10_method_76_code 31 = .ok (.goto 4, 3) := by decide +kernel
theorem dX8_worse_34 : decode prog_10_method_76_code 34 = .ok (.iconst 0, 1) := by decide +kernel
theorem dX8_worse_35 : decode prog_10_method_76_code 35 = .ok (.ior, 1) := by decide +kernel
theorem dX8_worse_36 : decode prog_10_method_76_code 36 = .ok (.istore_n 1, 1) := by decide +kernel
theorem dX8_worse_37 : decode prog_10_method_76_code 37 = .ok (.iinc 2 1, 3) := by decide +kernel
theorem dX8_worse_40 : decode prog_10_method_76_code 40 = .ok (.goto (-31), 3) := by decide +kernel
theorem dX8_worse_43 : decode prog_10_method_76_code 43 = .ok (.iload_n 1, 1) := by decide +kernel
theorem dX8_worse_44 : decode prog_10_method_76_code 44 = .ok (.ireturn, 1) := by decide +kernel
theorem dX8_mislaid_0 : decode prog_10_method_77_code 0 = .ok (.aload_n 0, 1) := by decide +kernel
theorem dX8_mislaid_1 : decode prog_10_method_77_code 1 = .ok (.iconst 0, 1) := by decide +kernel
theorem dX8_mislaid_2 : decode prog_10_method_77_code 2 = .ok (.putfield 39, 3) := by decide +kernel
theorem dX8_mislaid_5 : decode prog_10_method_77_code 5 = .ok (.iconst 0, 1) := by decide +kernel
theorem dX8_mislaid_6 : decode prog_10_method_77_code 6 = .ok (.istore_n 1, 1) := by decide +kernel
theorem dX8_mislaid_7 : decode prog_10_method_77_code 7 = .ok (.iconst 0, 1) := by decide +kernel
theorem dX8_mislaid_8 : decode prog_10_method_77_code 8 = .ok (.istore_n 2, 1) := by decide +kernel
theorem dX8_mislaid_9 : decode prog_10_method_77_code 9 = .ok (.iload_n 2, 1) := by decide +kernel
theorem dX8_mislaid_10 : decode prog_10_method_77_code 10 = .ok (.aload_n 0, 1) := by decide +kernel
theorem dX8_mislaid_11 : decode prog_10_method_77_code 11 = .ok (.getfield 7, 3) := by decide +kernel
theorem dX8_mislaid_14 : decode prog_10_method_77_code 14 = .ok (.iconst 3, 1) := by decide +kernel
theorem dX8_mislaid_15 : decode prog_10_method_77_code 15 = .ok (.iaload, 1) := by decide +kernel
theorem dX8_mislaid_16 : decode prog_10_method_77_code 16 = .ok (.if_icmp .ge 34, 3) := by decide +kernel
theorem dX8_mislaid_19 : decode prog_10_method_77_code 19 = .ok (.iload_n 1, 1) := by decide +kernel
theorem dX8_mislaid_20 : decode prog_10_method_77_code 20 = .ok (.aload_n 0, 1) := by decide +kernel
theorem dX8_mislaid_21 : decode prog_10_method_77_code 21 = .ok (.iload_n 2, 1) := by decide +kernel
theorem dX8_mislaid_22 : decode prog_10_method_77_code 22 = .ok (.iconst 1, 1) := by decide +kernel
theorem dX8_mislaid_23 : decode prog_10_method_77_code 23 = .ok (.invokevirtual 46, 3) := by decide +kernel
theorem dX8_mislaid_26 : decode prog_10_method_77_code 26 = .ok (.aload_n 0, 1) := by decide +kernel
theorem dX8_mislaid_27 : decode prog_10_method_77_code 27 = .ok (.iload_n 2, 1) := by decide +kernel
theorem dX8_mislaid_28 : decode prog_10_method_77_code 28 = .ok (.iconst 0, 1) := by decide +kernel
theorem dX8_mislaid_29 : decode prog_10_method_77_code 29 = .ok (.invokevirtual 46, 3) := by decide +kernel
theorem dX8_mislaid_32 : decode prog_10_method_77_code 32 = .ok (.if_icmp .eq 9, 3) := by decide +kernel
theorem dX8_mislaid_35 : decode prog_10_method_77_code 35 = .ok (.iconst 1, 1) := by decide +kernel
theorem dX8_mislaid_36 : decode prog_10_method_77_code 36 = .ok (.iload_n 2, 1) := by decide +kernel
theorem dX8_mislaid_37 : decode prog_10_method_77_code 37 = .ok (.ishl, 1) := by decide +kernel
theorem dX8_mislaid_38 : decode prog_10_method_77_code 38 = .ok (.goto 4, 3) := by decide +kernel
theorem dX8_mislaid_41 : decode prog_10_method_77_code 41 = .ok (.iconst 0, 1) := by decide +kernel
theorem dX8_mislaid_42 : decode prog_10_method_77_code 42 = .ok (.ior, 1) := by decide +kernel
theorem dX8_mislaid_43 : decode prog_10_method_77_code 43 = .ok (.istore_n 1, 1) := by decide +kernel
theorem dX8_mislaid_44 : decode prog_10_method_77_code 44 = .ok (.iinc 2 1, 3) := by decide +kernel
theorem dX8_mislaid_47 : decode prog_10_method_77_code 47 = .ok (.goto (-38), 3) := by decide +kernel
theorem dX8_mislaid_50 : decode prog_10_method_77_code 50 = .ok (.iload_n 1, 1) := by decide +kernel
theorem dX8_mislaid_51 : decode prog_10_method_77_code 51 = .ok (.ireturn, 1) := by decide +kernel
theorem dX8_work_0 : decode prog_10_method_78_code 0 = .ok (.aload_n 0, 1) := by decide +kernel
theorem dX8_work_1 : decode prog_10_method_78_code 1 = .ok (.iconst 0, 1) := by decide +kernel
theorem dX8_work_2 : decode prog_10_method_78_code 2 = .ok (.putfield 39, 3) := by decide +kernel
theorem dX8_work_5 : decode prog_10_method_78_code 5 = .ok (.aload_n 0, 1) := by decide +kernel
theorem dX8_work_6 : decode prog_10_method_78_code 6 = .ok (.invokevirtual 286, 3) := by decide +kernel
theorem dX8_work_9 : decode prog_10_method_78_code 9 = .ok (.ireturn, 1) := by decide +kernel
theorem dX8_first_0 : decode prog_10_method_79_code 0 = .ok (.aload_n 0, 1) := by decide +kernel
theorem dX8_first_1 : decode prog_10_method_79_code 1 = .ok (.iconst 0, 1) := by decide +kernel
theorem dX8_first_2 : decode prog_10_method_79_code 2 = .ok (.putfield 39, 3) := by decide +kernel
theorem dX8_first_5 : decode prog_10_method_79_code 5 = .ok (.aload_n 0, 1) := by decide +kernel
theorem dX8_first_6 : decode prog_10_method_79_code 6 = .ok (.invokevirtual 145, 3) := by decide +kernel
theorem dX8_first_9 : decode prog_10_method_79_code 9 = .ok (.iconst (-1), 1) := by decide +kernel
theorem dX8_first_10 : decode prog_10_method_79_code 10 = .ok (.istore_n 2, 1) := by decide +kernel
theorem dX8_first_11 : decode prog_10_method_79_code 11 = .ok (.iconst 0, 1) := by decide +kernel
theorem dX8_first_12 : decode prog_10_method_79_code 12 = .ok (.istore_n 3, 1) := by decide +kernel
theorem dX8_first_13 : decode prog_10_method_79_code 13 = .ok (.iload_n 3, 1) := by decide +kernel
theorem dX8_first_14 : decode prog_10_method_79_code 14 = .ok (.sipush 400, 3) := by decide +kernel
theorem dX8_first_17 : decode prog_10_method_79_code 17 = .ok (.if_icmp .gt 45, 3) := by decide +kernel
theorem dX8_first_20 : decode prog_10_method_79_code 20 = .ok (.iload_n 2, 1) := by decide +kernel
theorem dX8_first_21 : decode prog_10_method_79_code 21 = .ok (.iconst (-1), 1) := by decide +kernel
theorem dX8_first_22 : decode prog_10_method_79_code 22 = .ok (.if_icmp .ne 40, 3) := by decide +kernel
theorem dX8_first_25 : decode prog_10_method_79_code 25 = .ok (.aload_n 0, 1) := by decide +kernel
theorem dX8_first_26 : decode prog_10_method_79_code 26 = .ok (.invokevirtual 253, 3) := by decide +kernel
theorem dX8_first_29 : decode prog_10_method_79_code 29 = .ok (.ifCond .eq 19, 3) := by decide +kernel
theorem dX8_first_32 : decode prog_10_method_79_code 32 = .ok (.iload_n 1, 1) := by decide +kernel
theorem dX8_first_33 : decode prog_10_method_79_code 33 = .ok (.ifCond .eq 13, 3) := by decide +kernel
theorem dX8_first_36 : decode prog_10_method_79_code 36 = .ok (.aload_n 0, 1) := by decide +kernel
theorem dX8_first_37 : decode prog_10_method_79_code 37 = .ok (.invokevirtual 253, 3) := by decide +kernel
theorem dX8_first_40 : decode prog_10_method_79_code 40 = .ok (.invokestatic 302, 3) := by decide +kernel
theorem dX8_first_43 : decode prog_10_method_79_code 43 = .ok (.goto 4, 3) := by decide +kernel
theorem dX8_first_46 : decode prog_10_method_79_code 46 = .ok (.iload_n 3, 1) := by decide +kernel
theorem dX8_first_47 : decode prog_10_method_79_code 47 = .ok (.istore_n 2, 1) := by decide +kernel
theorem dX8_first_48 : decode prog_10_method_79_code 48 = .ok (.aload_n 0, 1) := by decide +kernel
theorem dX8_first_49 : decode prog_10_method_79_code 49 = .ok (.iconst 1, 1) := by decide +kernel
theorem dX8_first_50 : decode prog_10_method_79_code 50 = .ok (.iconst 0, 1) := by decide +kernel
theorem dX8_first_51 : decode prog_10_method_79_code 51 = .ok (.invokevirtual 298, 3) := by decide +kernel
theorem dX8_first_54 : decode prog_10_method_79_code 54 = .ok (.istore 4, 2) := by decide +kernel
theorem dX8_first_56 : decode prog_10_method_79_code 56 = .ok (.iinc 3 1, 3) := by decide +kernel
theorem dX8_first_59 : decode prog_10_method_79_code 59 = .ok (.goto (-46), 3) := by decide +kernel
theorem dX8_first_62 : decode prog_10_method_79_code 62 = .ok (.aload_n 0, 1) := by decide +kernel
theorem dX8_first_63 : decode prog_10_method_79_code 63 = .ok (.invokevirtual 155, 3) := by decide +kernel
theorem dX8_first_66 : decode prog_10_method_79_code 66 = .ok (.iload_n 2, 1) := by decide +kernel
theorem dX8_first_67 : decode prog_10_method_79_code 67 = .ok (.ireturn, 1) := by decide +kernel
theorem dX8_leastOf_0 : decode prog_10_method_80_code 0 = .ok (.iconst 0, 1) := by decide +kernel
theorem dX8_leastOf_1 : decode prog_10_method_80_code 1 = .ok (.istore_n 1, 1) := by decide +kernel
theorem dX8_leastOf_2 : decode prog_10_method_80_code 2 = .ok (.iload_n 0, 1) := by decide +kernel
theorem dX8_leastOf_3 : decode prog_10_method_80_code 3 = .ok (.iload_n 1, 1) := by decide +kernel
theorem dX8_leastOf_4 : decode prog_10_method_80_code 4 = .ok (.invokestatic 240, 3) := by decide +kernel
theorem dX8_leastOf_7 : decode prog_10_method_80_code 7 = .ok (.ifCond .ne 9, 3) := by decide +kernel
theorem dX8_leastOf_10 : decode prog_10_method_80_code 10 = .ok (.iinc 1 1, 3) := by decide +kernel
theorem dX8_leastOf_13 : decode prog_10_method_80_code 13 = .ok (.goto (-11), 3) := by decide +kernel
theorem dX8_leastOf_16 : decode prog_10_method_80_code 16 = .ok (.iload_n 1, 1) := by decide +kernel
theorem dX8_leastOf_17 : decode prog_10_method_80_code 17 = .ok (.ireturn, 1) := by decide +kernel
theorem dX8_round_0 : decode prog_10_method_82_code 0 = .ok (.aload_n 0, 1) := by decide +kernel
theorem dX8_round_1 : decode prog_10_method_82_code 1 = .ok (.iconst 0, 1) := by decide +kernel
theorem dX8_round_2 : decode prog_10_method_82_code 2 = .ok (.putfield 39, 3) := by decide +kernel
theorem dX8_round_5 : decode prog_10_method_82_code 5 = .ok (.aload_n 0, 1) := by decide +kernel
theorem dX8_round_6 : decode prog_10_method_82_code 6 = .ok (.invokevirtual 145, 3) := by decide +kernel
theorem dX8_round_9 : decode prog_10_method_82_code 9 = .ok (.iconst (-1), 1) := by decide +kernel
theorem dX8_round_10 : decode prog_10_method_82_code 10 = .ok (.istore_n 1, 1) := by decide +kernel
theorem dX8_round_11 : decode prog_10_method_82_code 11 = .ok (.iconst 1, 1) := by decide +kernel
theorem dX8_round_12 : decode prog_10_method_82_code 12 = .ok (.istore_n 2, 1) := by decide +kernel
theorem dX8_round_13 : decode prog_10_method_82_code 13 = .ok (.iload_n 2, 1) := by decide +kernel
theorem dX8_round_14 : decode prog_10_method_82_code 14 = .ok (.bipush 60, 2) := by decide +kernel
theorem dX8_round_16 : decode prog_10_method_82_code 16 = .ok (.if_icmp .gt 30, 3) := by decide +kernel
theorem dX8_round_19 : decode prog_10_method_82_code 19 = .ok (.iload_n 1, 1) := by decide +kernel
theorem dX8_round_20 : decode prog_10_method_82_code 20 = .ok (.iconst (-1), 1) := by decide +kernel
theorem dX8_round_21 : decode prog_10_method_82_code 21 = .ok (.if_icmp .ne 25, 3) := by decide +kernel
theorem dX8_round_24 : decode prog_10_method_82_code 24 = .ok (.aload_n 0, 1) := by decide +kernel
theorem dX8_round_25 : decode prog_10_method_82_code 25 = .ok (.iconst 1, 1) := by decide +kernel
theorem dX8_round_26 : decode prog_10_method_82_code 26 = .ok (.iconst 0, 1) := by decide +kernel
theorem dX8_round_27 : decode prog_10_method_82_code 27 = .ok (.invokevirtual 298, 3) := by decide +kernel
theorem dX8_round_30 : decode prog_10_method_82_code 30 = .ok (.istore_n 3, 1) := by decide +kernel
theorem dX8_round_31 : decode prog_10_method_82_code 31 = .ok (.aload_n 0, 1) := by decide +kernel
theorem dX8_round_32 : decode prog_10_method_82_code 32 = .ok (.invokevirtual 305, 3) := by decide +kernel
theorem dX8_round_35 : decode prog_10_method_82_code 35 = .ok (.ifCond .eq 5, 3) := by decide +kernel
theorem dX8_round_38 : decode prog_10_method_82_code 38 = .ok (.iload_n 2, 1) := by decide +kernel
theorem dX8_round_39 : decode prog_10_method_82_code 39 = .ok (.istore_n 1, 1) := by decide +kernel
theorem dX8_round_40 : decode prog_10_method_82_code 40 = .ok (.iinc 2 1, 3) := by decide +kernel
theorem dX8_round_43 : decode prog_10_method_82_code 43 = .ok (.goto (-30), 3) := by decide +kernel
theorem dX8_round_46 : decode prog_10_method_82_code 46 = .ok (.aload_n 0, 1) := by decide +kernel
theorem dX8_round_47 : decode prog_10_method_82_code 47 = .ok (.invokevirtual 155, 3) := by decide +kernel
theorem dX8_round_50 : decode prog_10_method_82_code 50 = .ok (.iload_n 1, 1) := by decide +kernel
theorem dX8_round_51 : decode prog_10_method_82_code 51 = .ok (.ireturn, 1) := by decide +kernel
theorem dX8_areThere_0 : decode prog_10_method_81_code 0 = .ok (.iconst 0, 1) := by decide +kernel
theorem dX8_areThere_1 : decode prog_10_method_81_code 1 = .ok (.istore_n 1, 1) := by decide +kernel
theorem dX8_areThere_2 : decode prog_10_method_81_code 2 = .ok (.iload_n 1, 1) := by decide +kernel
theorem dX8_areThere_3 : decode prog_10_method_81_code 3 = .ok (.aload_n 0, 1) := by decide +kernel
theorem dX8_areThere_4 : decode prog_10_method_81_code 4 = .ok (.getfield 7, 3) := by decide +kernel
theorem dX8_areThere_7 : decode prog_10_method_81_code 7 = .ok (.iconst 3, 1) := by decide +kernel
theorem dX8_areThere_8 : decode prog_10_method_81_code 8 = .ok (.iaload, 1) := by decide +kernel
theorem dX8_areThere_9 : decode prog_10_method_81_code 9 = .ok (.if_icmp .ge 34, 3) := by decide +kernel
theorem dX8_areThere_12 : decode prog_10_method_81_code 12 = .ok (.aload_n 0, 1) := by decide +kernel
theorem dX8_areThere_13 : decode prog_10_method_81_code 13 = .ok (.iload_n 1, 1) := by decide +kernel
theorem dX8_areThere_14 : decode prog_10_method_81_code 14 = .ok (.iconst 1, 1) := by decide +kernel
theorem dX8_areThere_15 : decode prog_10_method_81_code 15 = .ok (.invokevirtual 46, 3) := by decide +kernel
theorem dX8_areThere_18 : decode prog_10_method_81_code 18 = .ok (.aload_n 0, 1) := by decide +kernel
theorem dX8_areThere_19 : decode prog_10_method_81_code 19 = .ok (.getfield 16, 3) := by decide +kernel
theorem dX8_areThere_22 : decode prog_10_method_81_code 22 = .ok (.bipush 26, 2) := by decide +kernel
theorem dX8_areThere_24 : decode prog_10_method_81_code 24 = .ok (.bipush 7, 2) := by decide +kernel
theorem dX8_areThere_26 : decode prog_10_method_81_code 26 = .ok (.iload_n 1, 1) := by decide +kernel
theorem dX8_areThere_27 : decode prog_10_method_81_code 27 = .ok (.imul, 1) := by decide +kernel
theorem dX8_areThere_28 : decode prog_10_method_81_code 28 = .ok (.iadd, 1) := by decide +kernel
theorem dX8_areThere_29 : decode prog_10_method_81_code 29 = .ok (.iconst 1, 1) := by decide +kernel
theorem dX8_areThere_30 : decode prog_10_method_81_code 30 = .ok (.iadd, 1) := by decide +kernel
theorem dX8_areThere_31 : decode prog_10_method_81_code 31 = .ok (.iaload, 1) := by decide +kernel
theorem dX8_areThere_32 : decode prog_10_method_81_code 32 = .ok (.if_icmp .eq 5, 3) := by decide +kernel
theorem dX8_areThere_35 : decode prog_10_method_81_code 35 = .ok (.iconst 0, 1) := by decide +kernel
theorem dX8_areThere_36 : decode prog_10_method_81_code 36 = .ok (.ireturn, 1) := by decide +kernel
theorem dX8_areThere_37 : decode prog_10_method_81_code 37 = .ok (.iinc 1 1, 3) := by decide +kernel
theorem dX8_areThere_40 : decode prog_10_method_81_code 40 = .ok (.goto (-38), 3) := by decide +kernel
theorem dX8_areThere_43 : decode prog_10_method_81_code 43 = .ok (.iconst 1, 1) := by decide +kernel
theorem dX8_areThere_44 : decode prog_10_method_81_code 44 = .ok (.ireturn, 1) := by decide +kernel
theorem dX8_worst_0 : decode prog_10_method_83_code 0 = .ok (.aload_n 0, 1) := by decide +kernel
theorem dX8_worst_1 : decode prog_10_method_83_code 1 = .ok (.iload_n 1, 1) := by decide +kernel
theorem dX8_worst_2 : decode prog_10_method_83_code 2 = .ok (.iconst 0, 1) := by decide +kernel
theorem dX8_worst_3 : decode prog_10_method_83_code 3 = .ok (.sipush 400, 3) := by decide +kernel
theorem dX8_worst_6 : decode prog_10_method_83_code 6 = .ok (.invokestatic 42, 3) := by decide +kernel
theorem dX8_worst_9 : decode prog_10_method_83_code 9 = .ok (.ifCond .ne 7, 3) := by decide +kernel
theorem dX8_worst_12 : decode prog_10_method_83_code 12 = .ok (.iconst 1, 1) := by decide +kernel
theorem dX8_worst_13 : decode prog_10_method_83_code 13 = .ok (.goto 4, 3) := by decide +kernel
theorem dX8_worst_16 : decode prog_10_method_83_code 16 = .ok (.iconst 0, 1) := by decide +kernel
theorem dX8_worst_17 : decode prog_10_method_83_code 17 = .ok (.putfield 39, 3) := by decide +kernel
theorem dX8_worst_20 : decode prog_10_method_83_code 20 = .ok (.aload_n 0, 1) := by decide +kernel
theorem dX8_worst_21 : decode prog_10_method_83_code 21 = .ok (.getfield 39, 3) := by decide +kernel
theorem dX8_worst_24 : decode prog_10_method_83_code 24 = .ok (.ifCond .le 5, 3) := by decide +kernel
theorem dX8_worst_27 : decode prog_10_method_83_code 27 = .ok (.iconst 0, 1) := by decide +kernel
theorem dX8_worst_28 : decode prog_10_method_83_code 28 = .ok (.ireturn, 1) := by decide +kernel
theorem dX8_worst_29 : decode prog_10_method_83_code 29 = .ok (.aload_n 0, 1) := by decide +kernel
theorem dX8_worst_30 : decode prog_10_method_83_code 30 = .ok (.invokevirtual 145, 3) := by decide +kernel
theorem dX8_worst_33 : decode prog_10_method_83_code 33 = .ok (.aload_n 0, 1) := by decide +kernel
theorem dX8_worst_34 : decode prog_10_method_83_code 34 = .ok (.iload_n 1, 1) := by decide +kernel
theorem dX8_worst_35 : decode prog_10_method_83_code 35 = .ok (.iconst 0, 1) := by decide +kernel
theorem dX8_worst_36 : decode prog_10_method_83_code 36 = .ok (.invokevirtual 298, 3) := by decide +kernel
theorem dX8_worst_39 : decode prog_10_method_83_code 39 = .ok (.istore_n 2, 1) := by decide +kernel
theorem dX8_worst_40 : decode prog_10_method_83_code 40 = .ok (.iconst (-1), 1) := by decide +kernel
theorem dX8_worst_41 : decode prog_10_method_83_code 41 = .ok (.istore_n 3, 1) := by decide +kernel
theorem dX8_worst_42 : decode prog_10_method_83_code 42 = .ok (.iconst 0, 1) := by decide +kernel
theorem dX8_worst_43 : decode prog_10_method_83_code 43 = .ok (.istore 4, 2) := by decide +kernel
theorem dX8_worst_45 : decode prog_10_method_83_code 45 = .ok (.iload 4, 2) := by decide +kernel
theorem dX8_worst_47 : decode prog_10_method_83_code 47 = .ok (.aload_n 0, 1) := by decide +kernel
theorem dX8_worst_48 : decode prog_10_method_83_code 48 = .ok (.getfield 7, 3) := by decide +kernel
theorem dX8_worst_51 : decode prog_10_method_83_code 51 = .ok (.iconst 3, 1) := by decide +kernel
theorem dX8_worst_52 : decode prog_10_method_83_code 52 = .ok (.iaload, 1) := by decide +kernel
theorem dX8_worst_53 : decode prog_10_method_83_code 53 = .ok (.if_icmp .ge 33, 3) := by decide +kernel
theorem dX8_worst_56 : decode prog_10_method_83_code 56 = .ok (.iload_n 3, 1) := by decide +kernel
theorem dX8_worst_57 : decode prog_10_method_83_code 57 = .ok (.iconst (-1), 1) := by decide +kernel
theorem dX8_worst_58 : decode prog_10_method_83_code 58 = .ok (.if_icmp .eq 19, 3) := by decide +kernel
theorem dX8_worst_61 : decode prog_10_method_83_code 61 = .ok (.aload_n 0, 1) := by decide +kernel
theorem dX8_worst_62 : decode prog_10_method_83_code 62 = .ok (.iload 4, 2) := by decide +kernel
theorem dX8_worst_64 : decode prog_10_method_83_code 64 = .ok (.iconst 2, 1) := by decide +kernel
theorem dX8_worst_65 : decode prog_10_method_83_code 65 = .ok (.invokevirtual 46, 3) := by decide +kernel
theorem dX8_worst_68 : decode prog_10_method_83_code 68 = .ok (.aload_n 0, 1) := by decide +kernel
theorem dX8_worst_69 : decode prog_10_method_83_code 69 = .ok (.iload_n 3, 1) := by decide +kernel
theorem dX8_worst_70 : decode prog_10_method_83_code 70 = .ok (.iconst 2, 1) := by decide +kernel
theorem dX8_worst_71 : decode prog_10_method_83_code 71 = .ok (.invokevirtual 46, 3) := by decide +kernel
theorem dX8_worst_74 : decode prog_10_method_83_code 74 = .ok (.if_icmp .le 6, 3) := by decide +kernel
theorem dX8_worst_77 : decode prog_10_method_83_code 77 = .ok (.iload 4, 2) := by decide +kernel
theorem dX8_worst_79 : decode prog_10_method_83_code 79 = .ok (.istore_n 3, 1) := by decide +kernel
theorem dX8_worst_80 : decode prog_10_method_83_code 80 = .ok (.iinc 4 1, 3) := by decide +kernel
theorem dX8_worst_83 : decode prog_10_method_83_code 83 = .ok (.goto (-38), 3) := by decide +kernel
theorem dX8_worst_86 : decode prog_10_method_83_code 86 = .ok (.aload_n 0, 1) := by decide +kernel
theorem dX8_worst_87 : decode prog_10_method_83_code 87 = .ok (.invokevirtual 155, 3) := by decide +kernel
theorem dX8_worst_90 : decode prog_10_method_83_code 90 = .ok (.iload_n 3, 1) := by decide +kernel
theorem dX8_worst_91 : decode prog_10_method_83_code 91 = .ok (.ireturn, 1) := by decide +kernel
theorem dX8_saves_0 : decode prog_10_method_84_code 0 = .ok (.aload_n 0, 1) := by decide +kernel
theorem dX8_saves_1 : decode prog_10_method_84_code 1 = .ok (.iload_n 1, 1) := by decide +kernel
theorem dX8_saves_2 : decode prog_10_method_84_code 2 = .ok (.iconst 0, 1) := by decide +kernel
theorem dX8_saves_3 : decode prog_10_method_84_code 3 = .ok (.bipush 99, 2) := by decide +kernel
theorem dX8_saves_5 : decode prog_10_method_84_code 5 = .ok (.invokestatic 42, 3) := by decide +kernel
theorem dX8_saves_8 : decode prog_10_method_84_code 8 = .ok (.ifCond .ne 7, 3) := by decide +kernel
theorem dX8_saves_11 : decode prog_10_method_84_code 11 = .ok (.iconst 1, 1) := by decide +kernel
theorem dX8_saves_12 : decode prog_10_method_84_code 12 = .ok (.goto 4, 3) := by decide +kernel
theorem dX8_saves_15 : decode prog_10_method_84_code 15 = .ok (.iconst 0, 1) := by decide +kernel
theorem dX8_saves_16 : decode prog_10_method_84_code 16 = .ok (.putfield 39, 3) := by decide +kernel
theorem dX8_saves_19 : decode prog_10_method_84_code 19 = .ok (.aload_n 0, 1) := by decide +kernel
theorem dX8_saves_20 : decode prog_10_method_84_code 20 = .ok (.getfield 39, 3) := by decide +kernel
theorem dX8_saves_23 : decode prog_10_method_84_code 23 = .ok (.ifCond .le 5, 3) := by decide +kernel
theorem dX8_saves_26 : decode prog_10_method_84_code 26 = .ok (.iconst 0, 1) := by decide +kernel
theorem dX8_saves_27 : decode prog_10_method_84_code 27 = .ok (.ireturn, 1) := by decide +kernel
theorem dX8_saves_28 : decode prog_10_method_84_code 28 = .ok (.iconst 0, 1) := by decide +kernel
theorem dX8_saves_29 : decode prog_10_method_84_code 29 = .ok (.istore_n 3, 1) := by decide +kernel
theorem dX8_saves_30 : decode prog_10_method_84_code 30 = .ok (.iconst 0, 1) := by decide +kernel
theorem dX8_saves_31 : decode prog_10_method_84_code 31 = .ok (.istore 4, 2) := by decide +kernel
theorem dX8_saves_33 : decode prog_10_method_84_code 33 = .ok (.iload 4, 2) := by decide +kernel
theorem dX8_saves_35 : decode prog_10_method_84_code 35 = .ok (.aload_n 0, 1) := by decide +kernel
theorem dX8_saves_36 : decode prog_10_method_84_code 36 = .ok (.getfield 7, 3) := by decide +kernel
theorem dX8_saves_39 : decode prog_10_method_84_code 39 = .ok (.iconst 3, 1) := by decide +kernel
theorem dX8_saves_40 : decode prog_10_method_84_code 40 = .ok (.iaload, 1) := by decide +kernel
theorem dX8_saves_41 : decode prog_10_method_84_code 41 = .ok (.if_icmp .ge 29, 3) := by decide +kernel
theorem dX8_saves_44 : decode prog_10_method_84_code 44 = .ok (.iload_n 3, 1) := by decide +kernel
theorem dX8_saves_45 : decode prog_10_method_84_code 45 = .ok (.aload_n 0, 1) := by decide +kernel
theorem dX8_saves_46 : decode prog_10_method_84_code 46 = .ok (.iload 4, 2) := by decide +kernel
theorem dX8_saves_48 : decode prog_10_method_84_code 48 = .ok (.invokevirtual 234, 3) := by decide +kernel
theorem dX8_saves_51 : decode prog_10_method_84_code 51 = .ok (.ifCond .le 10, 3) := by decide +kernel
theorem dX8_saves_54 : decode prog_10_method_84_code 54 = .ok (.iconst 1, 1) := by decide +kernel
theorem dX8_saves_55 : decode prog_10_method_84_code 55 = .ok (.iload 4, 2) := by decide +kernel
theorem dX8_saves_57 : decode prog_10_method_84_code 57 = .ok (.ishl, 1) := by decide +kernel
theorem dX8_saves_58 : decode prog_10_method_84_code 58 = .ok (.goto 4, 3) := by decide +kernel
theorem dX8_saves_61 : decode prog_10_method_84_code 61 = .ok (.iconst 0, 1) := by decide +kernel
theorem dX8_saves_62 : decode prog_10_method_84_code 62 = .ok (.ior, 1) := by decide +kernel
theorem dX8_saves_63 : decode prog_10_method_84_code 63 = .ok (.istore_n 3, 1) := by decide +kernel
theorem dX8_saves_64 : decode prog_10_method_84_code 64 = .ok (.iinc 4 1, 3) := by decide +kernel
theorem dX8_saves_67 : decode prog_10_method_84_code 67 = .ok (.goto (-34), 3) := by decide +kernel
theorem dX8_saves_70 : decode prog_10_method_84_code 70 = .ok (.iconst 0, 1) := by decide +kernel
theorem dX8_saves_71 : decode prog_10_method_84_code 71 = .ok (.istore 4, 2) := by decide +kernel
theorem dX8_saves_73 : decode prog_10_method_84_code 73 = .ok (.iconst 1, 1) := by decide +kernel
theorem dX8_saves_74 : decode prog_10_method_84_code 74 = .ok (.istore 5, 2) := by decide +kernel
theorem dX8_saves_76 : decode prog_10_method_84_code 76 = .ok (.iload 5, 2) := by decide +kernel
theorem dX8_saves_78 : decode prog_10_method_84_code 78 = .ok (.iload_n 3, 1) := by decide +kernel
theorem dX8_saves_79 : decode prog_10_method_84_code 79 = .ok (.if_icmp .gt 94, 3) := by decide +kernel
theorem dX8_saves_82 : decode prog_10_method_84_code 82 = .ok (.iload 5, 2) := by decide +kernel
theorem dX8_saves_84 : decode prog_10_method_84_code 84 = .ok (.iload_n 3, 1) := by decide +kernel
theorem dX8_saves_85 : decode prog_10_method_84_code 85 = .ok (.iconst (-1), 1) := by decide +kernel
theorem dX8_saves_86 : decode prog_10_method_84_code 86 = .ok (.ixor, 1) := by decide +kernel
theorem dX8_saves_87 : decode prog_10_method_84_code 87 = .ok (.iand, 1) := by decide +kernel
theorem dX8_saves_88 : decode prog_10_method_84_code 88 = .ok (.ifCond .ne 79, 3) := by decide +kernel
theorem dX8_saves_91 : decode prog_10_method_84_code 91 = .ok (.aload_n 0, 1) := by decide +kernel
theorem dX8_saves_92 : decode prog_10_method_84_code 92 = .ok (.iload 5, 2) := by decide +kernel
theorem dX8_saves_94 : decode prog_10_method_84_code 94 = .ok (.invokevirtual 256, 3) := by decide +kernel
theorem dX8_saves_97 : decode prog_10_method_84_code 97 = .ok (.aload_n 0, 1) := by decide +kernel
theorem dX8_saves_98 : decode prog_10_method_84_code 98 = .ok (.iload 4, 2) := by decide +kernel
theorem dX8_saves_100 : decode prog_10_method_84_code 100 = .ok (.invokevirtual 256, 3) := by decide +kernel
theorem dX8_saves_103 : decode prog_10_method_84_code 103 = .ok (.if_icmp .gt 6, 3) := by decide +kernel
theorem dX8_saves_106 : decode prog_10_method_84_code 106 = .ok (.goto 61, 3) := by decide +kernel
theorem dX8_saves_109 : decode prog_10_method_84_code 109 = .ok (.iconst 0, 1) := by decide +kernel
theorem dX8_saves_110 : decode prog_10_method_84_code 110 = .ok (.istore 6, 2) := by decide +kernel
theorem dX8_saves_112 : decode prog_10_method_84_code 112 = .ok (.iconst 0, 1) := by decide +kernel
theorem dX8_saves_113 : decode prog_10_method_84_code 113 = .ok (.istore 7, 2) := by decide +kernel
theorem dX8_saves_115 : decode prog_10_method_84_code 115 = .ok (.iload 7, 2) := by decide +kernel
theorem dX8_saves_117 : decode prog_10_method_84_code 117 = .ok (.aload_n 0, 1) := by decide +kernel
theorem dX8_saves_118 : decode prog_10_method_84_code 118 = .ok (.getfield 7, 3) := by decide +kernel
theorem dX8_saves_121 : decode prog_10_method_84_code 121 = .ok (.iconst 3, 1) := by decide +kernel
theorem dX8_saves_122 : decode prog_10_method_84_code 122 = .ok (.iaload, 1) := by decide +kernel
theorem dX8_saves_123 : decode prog_10_method_84_code 123 = .ok (.if_icmp .ge 34, 3) := by decide +kernel
theorem dX8_saves_126 : decode prog_10_method_84_code 126 = .ok (.iload 6, 2) := by decide +kernel
theorem dX8_saves_128 : decode prog_10_method_84_code 128 = .ok (.iload 5, 2) := by decide +kernel
theorem dX8_saves_130 : decode prog_10_method_84_code 130 = .ok (.iload 7, 2) := by decide +kernel
theorem dX8_saves_132 : decode prog_10_method_84_code 132 = .ok (.invokestatic 240, 3) := by decide +kernel
theorem dX8_saves_135 : decode prog_10_method_84_code 135 = .ok (.ifCond .eq 12, 3) := by decide +kernel
theorem dX8_saves_138 : decode prog_10_method_84_code 138 = .ok (.aload_n 0, 1) := by decide +kernel
theorem dX8_saves_139 : decode prog_10_method_84_code 139 = .ok (.iload 7, 2) := by decide +kernel
theorem dX8_saves_141 : decode prog_10_method_84_code 141 = .ok (.invokevirtual 234, 3) := by decide +kernel
theorem dX8_saves_144 : decode prog_10_method_84_code 144 = .ok (.goto 4, 3) := by decide +kernel
theorem dX8_saves_147 : decode prog_10_method_84_code 147 = .ok (.iconst 0, 1) := by decide +kernel
theorem dX8_saves_148 : decode prog_10_method_84_code 148 = .ok (.iadd, 1) := by decide +kernel
theorem dX8_saves_149 : decode prog_10_method_84_code 149 = .ok (.istore 6, 2) := by decide +kernel
theorem dX8_saves_151 : decode prog_10_method_84_code 151 = .ok (.iinc 7 1, 3) := by decide +kernel
theorem dX8_saves_154 : decode prog_10_method_84_code 154 = .ok (.goto (-39), 3) := by decide +kernel
theorem dX8_saves_157 : decode prog_10_method_84_code 157 = .ok (.iload 6, 2) := by decide +kernel
theorem dX8_saves_159 : decode prog_10_method_84_code 159 = .ok (.iload_n 1, 1) := by decide +kernel
theorem dX8_saves_160 : decode prog_10_method_84_code 160 = .ok (.if_icmp .gt 7, 3) := by decide +kernel
theorem dX8_saves_163 : decode prog_10_method_84_code 163 = .ok (.iload 5, 2) := by decide +kernel
theorem dX8_saves_165 : decode prog_10_method_84_code 165 = .ok (.istore 4, 2) := by decide +kernel
theorem dX8_saves_167 : decode prog_10_method_84_code 167 = .ok (.iinc 5 1, 3) := by decide +kernel
theorem dX8_saves_170 : decode prog_10_method_84_code 170 = .ok (.goto (-94), 3) := by decide +kernel
theorem dX8_saves_173 : decode prog_10_method_84_code 173 = .ok (.iload_n 2, 1) := by decide +kernel
theorem dX8_saves_174 : decode prog_10_method_84_code 174 = .ok (.ifCond .eq 12, 3) := by decide +kernel
theorem dX8_saves_177 : decode prog_10_method_84_code 177 = .ok (.aload_n 0, 1) := by decide +kernel
theorem dX8_saves_178 : decode prog_10_method_84_code 178 = .ok (.iload 4, 2) := by decide +kernel
theorem dX8_saves_180 : decode prog_10_method_84_code 180 = .ok (.invokevirtual 256, 3) := by decide +kernel
theorem dX8_saves_183 : decode prog_10_method_84_code 183 = .ok (.goto 5, 3) := by decide +kernel
theorem dX8_saves_186 : decode prog_10_method_84_code 186 = .ok (.iload 4, 2) := by decide +kernel
theorem dX8_saves_188 : decode prog_10_method_84_code 188 = .ok (.ireturn, 1) := by decide +kernel
theorem dX8_search_0 : decode prog_10_method_88_code 0 = .ok (.aload_n 0, 1) := by decide +kernel
theorem dX8_search_1 : decode prog_10_method_88_code 1 = .ok (.iconst 0, 1) := by decide +kernel
theorem dX8_search_2 : decode prog_10_method_88_code 2 = .ok (.putfield 39, 3) := by decide +kernel
theorem dX8_search_5 : decode prog_10_method_88_code 5 = .ok (.iload_n 1, 1) := by decide +kernel
theorem dX8_search_6 : decode prog_10_method_88_code 6 = .ok (.invokestatic 280, 3) := by decide +kernel
theorem dX8_search_9 : decode prog_10_method_88_code 9 = .ok (.ifCond .ne 5, 3) := by decide +kernel
theorem dX8_search_12 : decode prog_10_method_88_code 12 = .ok (.iconst (-1), 1) := by decide +kernel
theorem dX8_search_13 : decode prog_10_method_88_code 13 = .ok (.ireturn, 1) := by decide +kernel
theorem dX8_search_14 : decode prog_10_method_88_code 14 = .ok (.aload_n 0, 1) := by decide +kernel
theorem dX8_search_15 : decode prog_10_method_88_code 15 = .ok (.invokevirtual 315, 3) := by decide +kernel
theorem dX8_search_18 : decode prog_10_method_88_code 18 = .ok (.iconst 0, 1) := by decide +kernel
theorem dX8_search_19 : decode prog_10_method_88_code 19 = .ok (.istore_n 2, 1) := by decide +kernel
theorem dX8_search_20 : decode prog_10_method_88_code 20 = .ok (.iconst 0, 1) := by decide +kernel
theorem dX8_search_21 : decode prog_10_method_88_code 21 = .ok (.istore_n 3, 1) := by decide +kernel
theorem dX8_search_22 : decode prog_10_method_88_code 22 = .ok (.iconst 0, 1) := by decide +kernel
theorem dX8_search_23 : decode prog_10_method_88_code 23 = .ok (.istore 4, 2) := by decide +kernel
theorem dX8_search_25 : decode prog_10_method_88_code 25 = .ok (.iload 4, 2) := by decide +kernel
theorem dX8_search_27 : decode prog_10_method_88_code 27 = .ok (.iload_n 1, 1) := by decide +kernel
theorem dX8_search_28 : decode prog_10_method_88_code 28 = .ok (.if_icmp .gt 46, 3) := by decide +kernel
theorem dX8_search_31 : decode prog_10_method_88_code 31 = .ok (.iconst 0, 1) := by decide +kernel
theorem dX8_search_32 : decode prog_10_method_88_code 32 = .ok (.istore_n 3, 1) := by decide +kernel
theorem dX8_search_33 : decode prog_10_method_88_code 33 = .ok (.iload_n 2, 1) := by decide +kernel
theorem dX8_search_34 : decode prog_10_method_88_code 34 = .ok (.iload_n 3, 1) := by decide +kernel
theorem dX8_search_35 : decode prog_10_method_88_code 35 = .ok (.invokestatic 240, 3) := by decide +kernel
theorem dX8_search_38 : decode prog_10_method_88_code 38 = .ok (.ifCond .ne 18, 3) := by decide +kernel
theorem dX8_search_41 : decode prog_10_method_88_code 41 = .ok (.aload_n 0, 1) := by decide +kernel
theorem dX8_search_42 : decode prog_10_method_88_code 42 = .ok (.iload_n 2, 1) := by decide +kernel
theorem dX8_search_43 : decode prog_10_method_88_code 43 = .ok (.iload_n 3, 1) := by decide +kernel
theorem dX8_search_44 : decode prog_10_method_88_code 44 = .ok (.invokevirtual 312, 3) := by decide +kernel
theorem dX8_search_47 : decode prog_10_method_88_code 47 = .ok (.aload_n 0, 1) := by decide +kernel
theorem dX8_search_48 : decode prog_10_method_88_code 48 = .ok (.getfield 32, 3) := by decide +kernel
theorem dX8_search_51 : decode prog_10_method_88_code 51 = .ok (.iload_n 2, 1) := by decide +kernel
theorem dX8_search_52 : decode prog_10_method_88_code 52 = .ok (.iaload, 1) := by decide +kernel
theorem dX8_search_53 : decode prog_10_method_88_code 53 = .ok (.if_icmp .eq 9, 3) := by decide +kernel
theorem dX8_search_56 : decode prog_10_method_88_code 56 = .ok (.iinc 3 1, 3) := by decide +kernel
theorem dX8_search_59 : decode prog_10_method_88_code 59 = .ok (.goto (-26), 3) := by decide +kernel
theorem dX8_search_62 : decode prog_10_method_88_code 62 = .ok (.iload_n 2, 1) := by decide +kernel
theorem dX8_search_63 : decode prog_10_method_88_code 63 = .ok (.iconst 1, 1) := by decide +kernel
theorem dX8_search_64 : decode prog_10_method_88_code 64 = .ok (.iload_n 3, 1) := by decide +kernel
theorem dX8_search_65 : decode prog_10_method_88_code 65 = .ok (.ishl, 1) := by decide +kernel
theorem dX8_search_66 : decode prog_10_method_88_code 66 = .ok (.ior, 1) := by decide +kernel
theorem dX8_search_67 : decode prog_10_method_88_code 67 = .ok (.istore_n 2, 1) := by decide +kernel
theorem dX8_search_68 : decode prog_10_method_88_code 68 = .ok (.iinc 4 1, 3) := by decide +kernel
theorem dX8_search_71 : decode prog_10_method_88_code 71 = .ok (.goto (-46), 3) := by decide +kernel
theorem dX8_search_74 : decode prog_10_method_88_code 74 = .ok (.iload_n 3, 1) := by decide +kernel
theorem dX8_search_75 : decode prog_10_method_88_code 75 = .ok (.ireturn, 1) := by decide +kernel
theorem dX8_searches_0 : decode prog_10_method_87_code 0 = .ok (.aload_n 0, 1) := by decide +kernel
theorem dX8_searches_1 : decode prog_10_method_87_code 1 = .ok (.getfield 32, 3) := by decide +kernel
theorem dX8_searches_4 : decode prog_10_method_87_code 4 = .ok (.bipush 63, 2) := by decide +kernel
theorem dX8_searches_6 : decode prog_10_method_87_code 6 = .ok (.iconst 0, 1) := by decide +kernel
theorem dX8_searches_7 : decode prog_10_method_87_code 7 = .ok (.iastore, 1) := by decide +kernel
theorem dX8_searches_8 : decode prog_10_method_87_code 8 = .ok (.bipush 62, 2) := by decide +kernel
theorem dX8_searches_10 : decode prog_10_method_87_code 10 = .ok (.istore_n 1, 1) := by decide +kernel
theorem dX8_searches_11 : decode prog_10_method_87_code 11 = .ok (.iload_n 1, 1) := by decide +kernel
theorem dX8_searches_12 : decode prog_10_method_87_code 12 = .ok (.ifCond .lt 61, 3) := by decide +kernel
theorem dX8_searches_15 : decode prog_10_method_87_code 15 = .ok (.aload_n 0, 1) := by decide +kernel
theorem dX8_searches_16 : decode prog_10_method_87_code 16 = .ok (.getfield 32, 3) := by decide +kernel
theorem dX8_searches_19 : decode prog_10_method_87_code 19 = .ok (.iload_n 1, 1) := by decide +kernel
theorem dX8_searches_20 : decode prog_10_method_87_code 20 = .ok (.ldc_w 311, 3) := by decide +kernel
theorem dX8_searches_23 : decode prog_10_method_87_code 23 = .ok (.iastore, 1) := by decide +kernel
theorem dX8_searches_24 : decode prog_10_method_87_code 24 = .ok (.iconst 0, 1) := by decide +kernel
theorem dX8_searches_25 : decode prog_10_method_87_code 25 = .ok (.istore_n 2, 1) := by decide +kernel
theorem dX8_searches_26 : decode prog_10_method_87_code 26 = .ok (.iload_n 2, 1) := by decide +kernel
theorem dX8_searches_27 : decode prog_10_method_87_code 27 = .ok (.bipush 6, 2) := by decide +kernel
theorem dX8_searches_29 : decode prog_10_method_87_code 29 = .ok (.if_icmp .ge 38, 3) := by decide +kernel
theorem dX8_searches_32 : decode prog_10_method_87_code 32 = .ok (.iload_n 1, 1) := by decide +kernel
theorem dX8_searches_33 : decode prog_10_method_87_code 33 = .ok (.iload_n 2, 1) := by decide +kernel
theorem dX8_searches_34 : decode prog_10_method_87_code 34 = .ok (.invokestatic 240, 3) := by decide +kernel
theorem dX8_searches_37 : decode prog_10_method_87_code 37 = .ok (.ifCond .ne 24, 3) := by decide +kernel
theorem dX8_searches_40 : decode prog_10_method_87_code 40 = .ok (.aload_n 0, 1) := by decide +kernel
theorem dX8_searches_41 : decode prog_10_method_87_code 41 = .ok (.getfield 32, 3) := by decide +kernel
theorem dX8_searches_44 : decode prog_10_method_87_code 44 = .ok (.iload_n 1, 1) := by decide +kernel
theorem dX8_searches_45 : decode prog_10_method_87_code 45 = .ok (.aload_n 0, 1) := by decide +kernel
theorem dX8_searches_46 : decode prog_10_method_87_code 46 = .ok (.getfield 32, 3) := by decide +kernel
theorem dX8_searches_49 : decode prog_10_method_87_code 49 = .ok (.iload_n 1, 1) := by decide +kernel
theorem dX8_searches_50 : decode prog_10_method_87_code 50 = .ok (.iaload, 1) := by decide +kernel
theorem dX8_searches_51 : decode prog_10_method_87_code 51 = .ok (.aload_n 0, 1) := by decide +kernel
theorem dX8_searches_52 : decode prog_10_method_87_code 52 = .ok (.iload_n 1, 1) := by decide +kernel
theorem dX8_searches_53 : decode prog_10_method_87_code 53 = .ok (.iload_n 2, 1) := by decide +kernel
theorem dX8_searches_54 : decode prog_10_method_87_code 54 = .ok (.invokevirtual 312, 3) := by decide +kernel
theorem dX8_searches_57 : decode prog_10_method_87_code 57 = .ok (.invokestatic 222, 3) := by decide +kernel
theorem dX8_searches_60 : decode prog_10_method_87_code 60 = .ok (.iastore, 1) := by decide +kernel
theorem dX8_searches_61 : decode prog_10_method_87_code 61 = .ok (.iinc 2 1, 3) := by decide +kernel
theorem dX8_searches_64 : decode prog_10_method_87_code 64 = .ok (.goto (-38), 3) := by decide +kernel
theorem dX8_searches_67 : decode prog_10_method_87_code 67 = .ok (.iinc 1 (-1), 3) := by decide +kernel
theorem dX8_searches_70 : decode prog_10_method_87_code 70 = .ok (.goto (-59), 3) := by decide +kernel
theorem dX8_searches_73 : decode prog_10_method_87_code 73 = .ok (.return_, 1) := by decide +kernel
theorem dX8_by_0 : decode prog_10_method_86_code 0 = .ok (.aload_n 0, 1) := by decide +kernel
theorem dX8_by_1 : decode prog_10_method_86_code 1 = .ok (.iload_n 2, 1) := by decide +kernel
theorem dX8_by_2 : decode prog_10_method_86_code 2 = .ok (.iconst 1, 1) := by decide +kernel
theorem dX8_by_3 : decode prog_10_method_86_code 3 = .ok (.invokevirtual 283, 3) := by decide +kernel
theorem dX8_by_6 : decode prog_10_method_86_code 6 = .ok (.invokestatic 262, 3) := by decide +kernel
theorem dX8_by_9 : decode prog_10_method_86_code 9 = .ok (.iconst 1, 1) := by decide +kernel
theorem dX8_by_10 : decode prog_10_method_86_code 10 = .ok (.iadd, 1) := by decide +kernel
theorem dX8_by_11 : decode prog_10_method_86_code 11 = .ok (.aload_n 0, 1) := by decide +kernel
theorem dX8_by_12 : decode prog_10_method_86_code 12 = .ok (.iload_n 1, 1) := by decide +kernel
theorem dX8_by_13 : decode prog_10_method_86_code 13 = .ok (.iconst 1, 1) := by decide +kernel
theorem dX8_by_14 : decode prog_10_method_86_code 14 = .ok (.iload_n 2, 1) := by decide +kernel
theorem dX8_by_15 : decode prog_10_method_86_code 15 = .ok (.ishl, 1) := by decide +kernel
theorem dX8_by_16 : decode prog_10_method_86_code 16 = .ok (.ior, 1) := by decide +kernel
theorem dX8_by_17 : decode prog_10_method_86_code 17 = .ok (.invokevirtual 308, 3) := by decide +kernel
theorem dX8_by_20 : decode prog_10_method_86_code 20 = .ok (.imul, 1) := by decide +kernel
theorem dX8_by_21 : decode prog_10_method_86_code 21 = .ok (.aload_n 0, 1) := by decide +kernel
theorem dX8_by_22 : decode prog_10_method_86_code 22 = .ok (.getfield 32, 3) := by decide +kernel
theorem dX8_by_25 : decode prog_10_method_86_code 25 = .ok (.iload_n 1, 1) := by decide +kernel
theorem dX8_by_26 : decode prog_10_method_86_code 26 = .ok (.iconst 1, 1) := by decide +kernel
theorem dX8_by_27 : decode prog_10_method_86_code 27 = .ok (.iload_n 2, 1) := by decide +kernel
theorem dX8_by_28 : decode prog_10_method_86_code 28 = .ok (.ishl, 1) := by decide +kernel
theorem dX8_by_29 : decode prog_10_method_86_code 29 = .ok (.ior, 1) := by decide +kernel
theorem dX8_by_30 : decode prog_10_method_86_code 30 = .ok (.iaload, 1) := by decide +kernel
theorem dX8_by_31 : decode prog_10_method_86_code 31 = .ok (.iadd, 1) := by decide +kernel
theorem dX8_by_32 : decode prog_10_method_86_code 32 = .ok (.ireturn, 1) := by decide +kernel
theorem dX8_costsOf_0 : decode prog_10_method_85_code 0 = .ok (.iconst 0, 1) := by decide +kernel
theorem dX8_costsOf_1 : decode prog_10_method_85_code 1 = .ok (.istore_n 2, 1) := by decide +kernel
theorem dX8_costsOf_2 : decode prog_10_method_85_code 2 = .ok (.iconst 0, 1) := by decide +kernel
theorem dX8_costsOf_3 : decode prog_10_method_85_code 3 = .ok (.istore_n 3, 1) := by decide +kernel
theorem dX8_costsOf_4 : decode prog_10_method_85_code 4 = .ok (.iload_n 3, 1) := by decide +kernel
theorem dX8_costsOf_5 : decode prog_10_method_85_code 5 = .ok (.bipush 6, 2) := by decide +kernel
theorem dX8_costsOf_7 : decode prog_10_method_85_code 7 = .ok (.if_icmp .ge 35, 3) := by decide +kernel
theorem dX8_costsOf_10 : decode prog_10_method_85_code 10 = .ok (.iload_n 2, 1) := by decide +kernel
theorem dX8_costsOf_11 : decode prog_10_method_85_code 11 = .ok (.iload_n 1, 1) := by decide +kernel
theorem dX8_costsOf_12 : decode prog_10_method_85_code 12 = .ok (.iload_n 3, 1) := by decide +kernel
theorem dX8_costsOf_13 : decode prog_10_method_85_code 13 = .ok (.invokestatic 240, 3) := by decide +kernel
theorem dX8_costsOf_16 : decode prog_10_method_85_code 16 = .ok (.ifCond .eq 17, 3) := by decide +kernel
theorem dX8_costsOf_19 : decode prog_10_method_85_code 19 = .ok (.aload_n 0, 1) := by decide +kernel
theorem dX8_costsOf_20 : decode prog_10_method_85_code 20 = .ok (.getfield 7, 3) := by decide +kernel
theorem dX8_costsOf_23 : decode prog_10_method_85_code 23 = .ok (.bipush 14, 2) := by decide +kernel
theorem dX8_costsOf_25 : decode prog_10_method_85_code 25 = .ok (.iload_n 3, 1) := by decide +kernel
theorem dX8_costsOf_26 : decode prog_10_method_85_code 26 = .ok (.iadd, 1) := by decide +kernel
theorem dX8_costsOf_27 : decode prog_10_method_85_code 27 = .ok (.iaload, 1) := by decide +kernel
theorem dX8_costsOf_28 : decode prog_10_method_85_code 28 = .ok (.iconst 1, 1) := by decide +kernel
theorem dX8_costsOf_29 : decode prog_10_method_85_code 29 = .ok (.iadd, 1) := by decide +kernel
theorem dX8_costsOf_30 : decode prog_10_method_85_code 30 = .ok (.goto 4, 3) := by decide +kernel
theorem dX8_costsOf_33 : decode prog_10_method_85_code 33 = .ok (.iconst 0, 1) := by decide +kernel
theorem dX8_costsOf_34 : decode prog_10_method_85_code 34 = .ok (.iadd, 1) := by decide +kernel
theorem dX8_costsOf_35 : decode prog_10_method_85_code 35 = .ok (.istore_n 2, 1) := by decide +kernel
theorem dX8_costsOf_36 : decode prog_10_method_85_code 36 = .ok (.iinc 3 1, 3) := by decide +kernel
theorem dX8_costsOf_39 : decode prog_10_method_85_code 39 = .ok (.goto (-35), 3) := by decide +kernel
theorem dX8_costsOf_42 : decode prog_10_method_85_code 42 = .ok (.iload_n 2, 1) := by decide +kernel
theorem dX8_costsOf_43 : decode prog_10_method_85_code 43 = .ok (.ireturn, 1) := by decide +kernel
theorem dX8_costs_0 : decode prog_10_method_89_code 0 = .ok (.aload_n 0, 1) := by decide +kernel
theorem dX8_costs_1 : decode prog_10_method_89_code 1 = .ok (.iconst 0, 1) := by decide +kernel
theorem dX8_costs_2 : decode prog_10_method_89_code 2 = .ok (.putfield 39, 3) := by decide +kernel
theorem dX8_costs_5 : decode prog_10_method_89_code 5 = .ok (.aload_n 0, 1) := by decide +kernel
theorem dX8_costs_6 : decode prog_10_method_89_code 6 = .ok (.invokevirtual 315, 3) := by decide +kernel
theorem dX8_costs_9 : decode prog_10_method_89_code 9 = .ok (.aload_n 0, 1) := by decide +kernel
theorem dX8_costs_10 : decode prog_10_method_89_code 10 = .ok (.getfield 32, 3) := by decide +kernel
theorem dX8_costs_13 : decode prog_10_method_89_code 13 = .ok (.iconst 0, 1) := by decide +kernel
theorem dX8_costs_14 : decode prog_10_method_89_code 14 = .ok (.iaload, 1) := by decide +kernel
theorem dX8_costs_15 : decode prog_10_method_89_code 15 = .ok (.ireturn, 1) := by decide +kernel
theorem dX8_calm_0 : decode prog_10_method_90_code 0 = .ok (.aload_n 0, 1) := by decide +kernel
theorem dX8_calm_1 : decode prog_10_method_90_code 1 = .ok (.iload_n 1, 1) := by decide +kernel
theorem dX8_calm_2 : decode prog_10_method_90_code 2 = .ok (.iconst 0, 1) := by decide +kernel
theorem dX8_calm_3 : decode prog_10_method_90_code 3 = .ok (.bipush 6, 2) := by decide +kernel
theorem dX8_calm_5 : decode prog_10_method_90_code 5 = .ok (.invokestatic 42, 3) := by decide +kernel
theorem dX8_calm_8 : decode prog_10_method_90_code 8 = .ok (.ifCond .ne 7, 3) := by decide +kernel
theorem dX8_calm_11 : decode prog_10_method_90_code 11 = .ok (.iconst 1, 1) := by decide +kernel
theorem dX8_calm_12 : decode prog_10_method_90_code 12 = .ok (.goto 4, 3) := by decide +kernel
theorem dX8_calm_15 : decode prog_10_method_90_code 15 = .ok (.iconst 0, 1) := by decide +kernel
theorem dX8_calm_16 : decode prog_10_method_90_code 16 = .ok (.putfield 39, 3) := by decide +kernel
theorem dX8_calm_19 : decode prog_10_method_90_code 19 = .ok (.aload_n 0, 1) := by decide +kernel
theorem dX8_calm_20 : decode prog_10_method_90_code 20 = .ok (.getfield 39, 3) := by decide +kernel
theorem dX8_calm_23 : decode prog_10_method_90_code 23 = .ok (.ifCond .le 5, 3) := by decide +kernel
theorem dX8_calm_26 : decode prog_10_method_90_code 26 = .ok (.iconst 0, 1) := by decide +kernel
theorem dX8_calm_27 : decode prog_10_method_90_code 27 = .ok (.ireturn, 1) := by decide +kernel
theorem dX8_calm_28 : decode prog_10_method_90_code 28 = .ok (.lconst 0, 1) := by decide +kernel
theorem dX8_calm_29 : decode prog_10_method_90_code 29 = .ok (.lstore_n 3, 1) := by decide +kernel
theorem dX8_calm_30 : decode prog_10_method_90_code 30 = .ok (.lconst 1, 1) := by decide +kernel
theorem dX8_calm_31 : decode prog_10_method_90_code 31 = .ok (.lstore 5, 2) := by decide +kernel
theorem dX8_calm_33 : decode prog_10_method_90_code 33 = .ok (.iconst 0, 1) := by decide +kernel
theorem dX8_calm_34 : decode prog_10_method_90_code 34 = .ok (.istore 7, 2) := by decide +kernel
theorem dX8_calm_36 : decode prog_10_method_90_code 36 = .ok (.iload 7, 2) := by decide +kernel
theorem dX8_calm_38 : decode prog_10_method_90_code 38 = .ok (.iload_n 1, 1) := by decide +kernel
theorem dX8_calm_39 : decode prog_10_method_90_code 39 = .ok (.if_icmp .ge 17, 3) := by decide +kernel
theorem dX8_calm_42 : decode prog_10_method_90_code 42 = .ok (.lload 5, 2) := by decide +kernel
theorem dX8_calm_44 : decode prog_10_method_90_code 44 = .ok (.ldc2_w 318, 3) := by decide +kernel
theorem dX8_calm_47 : decode prog_10_method_90_code 47 = .ok (.lmul, 1) := by decide +kernel
theorem dX8_calm_48 : decode prog_10_method_90_code 48 = .ok (.lstore 5, 2) := by decide +kernel
theorem dX8_calm_50 : decode prog_10_method_90_code 50 = .ok (.iinc 7 1, 3) := by decide +kernel
theorem dX8_calm_53 : decode prog_10_method_90_code 53 = .ok (.goto (-17), 3) := by decide +kernel
theorem dX8_calm_56 : decode prog_10_method_90_code 56 = .ok (.iconst 0, 1) := by decide +kernel
theorem dX8_calm_57 : decode prog_10_method_90_code 57 = .ok (.istore 7, 2) := by decide +kernel
theorem dX8_calm_59 : decode prog_10_method_90_code 59 = .ok (.iload 7, 2) := by decide +kernel
theorem dX8_calm_61 : decode prog_10_method_90_code 61 = .ok (.iconst 1, 1) := by decide +kernel
theorem dX8_calm_62 : decode prog_10_method_90_code 62 = .ok (.iload_n 1, 1) := by decide +kernel
theorem dX8_calm_63 : decode prog_10_method_90_code 63 = .ok (.ishl, 1) := by decide +kernel
theorem dX8_calm_64 : decode prog_10_method_90_code 64 = .ok (.if_icmp .ge 79, 3) := by decide +kernel
theorem dX8_calm_67 : decode prog_10_method_90_code 67 = .ok (.iload 7, 2) := by decide +kernel
theorem dX8_calm_69 : decode prog_10_method_90_code 69 = .ok (.invokestatic 262, 3) := by decide +kernel
theorem dX8_calm_72 : decode prog_10_method_90_code 72 = .ok (.iload_n 2, 1) := by decide +kernel
theorem dX8_calm_73 : decode prog_10_method_90_code 73 = .ok (.if_icmp .ge 6, 3) := by decide +kernel
theorem dX8_calm_76 : decode prog_10_method_90_code 76 = .ok (.goto 61, 3) := by decide +kernel
theorem dX8_calm_79 : decode prog_10_method_90_code 79 = .ok (.lconst 1, 1) := by decide +kernel
theorem dX8_calm_80 : decode prog_10_method_90_code 80 = .ok (.lstore 8, 2) := by decide +kernel
theorem dX8_calm_82 : decode prog_10_method_90_code 82 = .ok (.iconst 0, 1) := by decide +kernel
theorem dX8_calm_83 : decode prog_10_method_90_code 83 = .ok (.istore 10, 2) := by decide +kernel
theorem dX8_calm_85 : decode prog_10_method_90_code 85 = .ok (.iload 10, 2) := by decide +kernel
theorem dX8_calm_87 : decode prog_10_method_90_code 87 = .ok (.iload_n 1, 1) := by decide +kernel
theorem dX8_calm_88 : decode prog_10_method_90_code 88 = .ok (.if_icmp .ge 44, 3) := by decide +kernel
theorem dX8_calm_91 : decode prog_10_method_90_code 91 = .ok (.lload 8, 2) := by decide +kernel
theorem dX8_calm_93 : decode prog_10_method_90_code 93 = .ok (.iload 7, 2) := by decide +kernel
theorem dX8_calm_95 : decode prog_10_method_90_code 95 = .ok (.iload 10, 2) := by decide +kernel
theorem dX8_calm_97 : decode prog_10_method_90_code 97 = .ok (.invokestatic 240, 3) := by decide +kernel
theorem dX8_calm_100 : decode prog_10_method_90_code 100 = .ok (.ifCond .eq 16, 3) := by decide +kernel
theorem dX8_calm_103 : decode prog_10_method_90_code 103 = .ok (.bipush 100, 2) := by decide +kernel
theorem dX8_calm_105 : decode prog_10_method_90_code 105 = .ok (.aload_n 0, 1) := by decide +kernel
theorem dX8_calm_106 : decode prog_10_method_90_code 106 = .ok (.getfield 7, 3) := by decide +kernel
theorem dX8_calm_109 : decode prog_10_method_90_code 109 = .ok (.iconst 5, 1) := by decide +kernel
theorem dX8_calm_110 : decode prog_10_method_90_code 110 = .ok (.iaload, 1) := by decide +kernel
theorem dX8_calm_111 : decode prog_10_method_90_code 111 = .ok (.isub, 1) := by decide +kernel
theorem dX8_calm_112 : decode prog_10_method_90_code 112 = .ok (.i2l, 1) := by decide +kernel
theorem dX8_calm_113 : decode prog_10_method_90_code 113 = .ok (.goto 10, 3) := by decide +kernel
theorem dX8_calm_116 : decode prog_10_method_90_code 116 = .ok (.aload_n 0, 1) := by decide +kernel
theorem dX8_calm_117 : decode prog_10_method_90_code 117 = .ok (.getfield 7, 3) := by decide +kernel
theorem dX8_calm_120 : decode prog_10_method_90_code 120 = .ok (.iconst 5, 1) := by decide +kernel
theorem dX8_calm_121 : decode prog_10_method_90_code 121 = .ok (.iaload, 1) := by decide +kernel
theorem dX8_calm_122 : decode prog_10_method_90_code 122 = .ok (.i2l, 1) := by decide +kernel
theorem dX8_calm_123 : decode prog_10_method_90_code 123 = .ok (.lmul, 1) := by decide +kernel
theorem dX8_calm_124 : decode prog_10_method_90_code 124 = .ok (.lstore 8, 2) := by decide +kernel
theorem dX8_calm_126 : decode prog_10_method_90_code 126 = .ok (.iinc 10 1, 3) := by decide +kernel
theorem dX8_calm_129 : decode prog_10_method_90_code 129 = .ok (.goto (-44), 3) := by decide +kernel
theorem dX8_calm_132 : decode prog_10_method_90_code 132 = .ok (.lload_n 3, 1) := by decide +kernel
theorem dX8_calm_133 : decode prog_10_method_90_code 133 = .ok (.lload 8, 2) := by decide +kernel
theorem dX8_calm_135 : decode prog_10_method_90_code 135 = .ok (.ladd, 1) := by decide +kernel
theorem dX8_calm_136 : decode prog_10_method_90_code 136 = .ok (.lstore_n 3, 1) := by decide +kernel
theorem dX8_calm_137 : decode prog_10_method_90_code 137 = .ok (.iinc 7 1, 3) := by decide +kernel
theorem dX8_calm_140 : decode prog_10_method_90_code 140 = .ok (.goto (-81), 3) := by decide +kernel
theorem dX8_calm_143 : decode prog_10_method_90_code 143 = .ok (.lload_n 3, 1) := by decide +kernel
theorem dX8_calm_144 : decode prog_10_method_90_code 144 = .ok (.ldc2_w 320, 3) := by decide +kernel
theorem dX8_calm_147 : decode prog_10_method_90_code 147 = .ok (.lmul, 1) := by decide +kernel
theorem dX8_calm_148 : decode prog_10_method_90_code 148 = .ok (.lload 5, 2) := by decide +kernel
theorem dX8_calm_150 : decode prog_10_method_90_code 150 = .ok (.ldiv, 1) := by decide +kernel
theorem dX8_calm_151 : decode prog_10_method_90_code 151 = .ok (.l2i, 1) := by decide +kernel
theorem dX8_calm_152 : decode prog_10_method_90_code 152 = .ok (.ireturn, 1) := by decide +kernel
theorem dX8_boats_0 : decode prog_10_method_91_code 0 = .ok (.aload_n 0, 1) := by decide +kernel
theorem dX8_boats_1 : decode prog_10_method_91_code 1 = .ok (.iload_n 1, 1) := by decide +kernel
theorem dX8_boats_2 : decode prog_10_method_91_code 2 = .ok (.iconst 0, 1) := by decide +kernel
theorem dX8_boats_3 : decode prog_10_method_91_code 3 = .ok (.sipush 999, 3) := by decide +kernel
theorem dX8_boats_6 : decode prog_10_method_91_code 6 = .ok (.invokestatic 42, 3) := by decide +kernel
theorem dX8_boats_9 : decode prog_10_method_91_code 9 = .ok (.ifCond .eq 23, 3) := by decide +kernel
theorem dX8_boats_12 : decode prog_10_method_91_code 12 = .ok (.iload_n 2, 1) := by decide +kernel
theorem dX8_boats_13 : decode prog_10_method_91_code 13 = .ok (.iconst 1, 1) := by decide +kernel
theorem dX8_boats_14 : decode prog_10_method_91_code 14 = .ok (.bipush 99, 2) := by decide +kernel
theorem dX8_boats_16 : decode prog_10_method_91_code 16 = .ok (.invokestatic 42, 3) := by decide +kernel
theorem dX8_boats_19 : decode prog_10_method_91_code 19 = .ok (.ifCond .eq 13, 3) := by decide +kernel
theorem dX8_boats_22 : decode prog_10_method_91_code 22 = .ok (.iload_n 3, 1) := by decide +kernel
theorem dX8_boats_23 : decode prog_10_method_91_code 23 = .ok (.iconst 1, 1) := by decide +kernel
theorem dX8_boats_24 : decode prog_10_method_91_code 24 = .ok (.bipush 9, 2) := by decide +kernel
theorem dX8_boats_26 : decode prog_10_method_91_code 26 = .ok (.invokestatic 42, 3) := by decide +kernel
theorem dX8_boats_29 : decode prog_10_method_91_code 29 = .ok (.ifCond .ne 7, 3) := by decide +kernel
theorem dX8_boats_32 : decode prog_10_method_91_code 32 = .ok (.iconst 1, 1) := by decide +kernel
theorem dX8_boats_33 : decode prog_10_method_91_code 33 = .ok (.goto 4, 3) := by decide +kernel
theorem dX8_boats_36 : decode prog_10_method_91_code 36 = .ok (.iconst 0, 1) := by decide +kernel
theorem dX8_boats_37 : decode prog_10_method_91_code 37 = .ok (.putfield 39, 3) := by decide +kernel
theorem dX8_boats_40 : decode prog_10_method_91_code 40 = .ok (.aload_n 0, 1) := by decide +kernel
theorem dX8_boats_41 : decode prog_10_method_91_code 41 = .ok (.getfield 39, 3) := by decide +kernel
theorem dX8_boats_44 : decode prog_10_method_91_code 44 = .ok (.ifCond .le 7, 3) := by decide +kernel
theorem dX8_boats_47 : decode prog_10_method_91_code 47 = .ok (.iconst 0, 1) := by decide +kernel
theorem dX8_boats_48 : decode prog_10_method_91_code 48 = .ok (.goto 10, 3) := by decide +kernel
theorem dX8_boats_51 : decode prog_10_method_91_code 51 = .ok (.iload_n 1, 1) := by decide +kernel
theorem dX8_boats_52 : decode prog_10_method_91_code 52 = .ok (.iload_n 2, 1) := by decide +kernel
theorem dX8_boats_53 : decode prog_10_method_91_code 53 = .ok (.iload_n 3, 1) := by decide +kernel
theorem dX8_boats_54 : decode prog_10_method_91_code 54 = .ok (.imul, 1) := by decide +kernel
theorem dX8_boats_55 : decode prog_10_method_91_code 55 = .ok (.invokestatic 231, 3) := by decide +kernel
theorem dX8_boats_58 : decode prog_10_method_91_code 58 = .ok (.ireturn, 1) := by decide +kernel
theorem dX8_rests_0 : decode prog_10_method_93_code 0 = .ok (.aload_n 0, 1) := by decide +kernel
theorem dX8_rests_1 : decode prog_10_method_93_code 1 = .ok (.iconst 0, 1) := by decide +kernel
theorem dX8_rests_2 : decode prog_10_method_93_code 2 = .ok (.putfield 39, 3) := by decide +kernel
theorem dX8_rests_5 : decode prog_10_method_93_code 5 = .ok (.iconst 0, 1) := by decide +kernel
theorem dX8_rests_6 : decode prog_10_method_93_code 6 = .ok (.istore_n 1, 1) := by decide +kernel
theorem dX8_rests_7 : decode prog_10_method_93_code 7 = .ok (.iconst 0, 1) := by decide +kernel
theorem dX8_rests_8 : decode prog_10_method_93_code 8 = .ok (.istore_n 2, 1) := by decide +kernel
theorem dX8_rests_9 : decode prog_10_method_93_code 9 = .ok (.iload_n 2, 1) := by decide +kernel
theorem dX8_rests_10 : decode prog_10_method_93_code 10 = .ok (.iconst 4, 1) := by decide +kernel
theorem dX8_rests_11 : decode prog_10_method_93_code 11 = .ok (.if_icmp .ge 62, 3) := by decide +kernel
theorem dX8_rests_14 : decode prog_10_method_93_code 14 = .ok (.iload_n 2, 1) := by decide +kernel
theorem dX8_rests_15 : decode prog_10_method_93_code 15 = .ok (.iconst 2, 1) := by decide +kernel
theorem dX8_rests_16 : decode prog_10_method_93_code 16 = .ok (.idiv, 1) := by decide +kernel
theorem dX8_rests_17 : decode prog_10_method_93_code 17 = .ok (.istore_n 3, 1) := by decide +kernel
theorem dX8_rests_18 : decode prog_10_method_93_code 18 = .ok (.iload_n 2, 1) := by decide +kernel
theorem dX8_rests_19 : decode prog_10_method_93_code 19 = .ok (.iconst 2, 1) := by decide +kernel
theorem dX8_rests_20 : decode prog_10_method_93_code 20 = .ok (.irem, 1) := by decide +kernel
theorem dX8_rests_21 : decode prog_10_method_93_code 21 = .ok (.istore 4, 2) := by decide +kernel
theorem dX8_rests_23 : decode prog_10_method_93_code 23 = .ok (.aload_n 0, 1) := by decide +kernel
theorem dX8_rests_24 : decode prog_10_method_93_code 24 = .ok (.iconst 1, 1) := by decide +kernel
theorem dX8_rests_25 : decode prog_10_method_93_code 25 = .ok (.iload_n 3, 1) := by decide +kernel
theorem dX8_rests_26 : decode prog_10_method_93_code 26 = .ok (.isub, 1) := by decide +kernel
theorem dX8_rests_27 : decode prog_10_method_93_code 27 = .ok (.iload 4, 2) := by decide +kernel
theorem dX8_rests_29 : decode prog_10_method_93_code 29 = .ok (.invokevirtual 322, 3) := by decide +kernel
theorem dX8_rests_32 : decode prog_10_method_93_code 32 = .ok (.aload_n 0, 1) := by decide +kernel
theorem dX8_rests_33 : decode prog_10_method_93_code 33 = .ok (.iload_n 3, 1) := by decide +kernel
theorem dX8_rests_34 : decode prog_10_method_93_code 34 = .ok (.iload 4, 2) := by decide +kernel
theorem dX8_rests_36 : decode prog_10_method_93_code 36 = .ok (.invokevirtual 322, 3) := by decide +kernel
theorem dX8_rests_39 : decode prog_10_method_93_code 39 = .ok (.if_icmp .lt 28, 3) := by decide +kernel
theorem dX8_rests_42 : decode prog_10_method_93_code 42 = .ok (.aload_n 0, 1) := by decide +kernel
theorem dX8_rests_43 : decode prog_10_method_93_code 43 = .ok (.iconst 1, 1) := by decide +kernel
theorem dX8_rests_44 : decode prog_10_method_93_code 44 = .ok (.iload 4, 2) := by decide +kernel
theorem dX8_rests_46 : decode prog_10_method_93_code 46 = .ok (.isub, 1) := by decide +kernel
theorem dX8_rests_47 : decode prog_10_method_93_code 47 = .ok (.iload_n 3, 1) := by decide +kernel
theorem dX8_rests_48 : decode prog_10_method_93_code 48 = .ok (.invokevirtual 322, 3) := by decide +kernel
theorem dX8_rests_51 : decode prog_10_method_93_code 51 = .ok (.aload_n 0, 1) := by decide +kernel
theorem dX8_rests_52 : decode prog_10_method_93_code 52 = .ok (.iload 4, 2) := by decide +kernel
theorem dX8_rests_54 : decode prog_10_method_93_code 54 = .ok (.iload_n 3, 1) := by decide +kernel
theorem dX8_rests_55 : decode prog_10_method_93_code 55 = .ok (.invokevirtual 322, 3) := by decide +kernel
theorem dX8_rests_58 : decode prog_10_method_93_code 58 = .ok (.if_icmp .lt 9, 3) := by decide +kernel
theorem dX8_rests_61 : decode prog_10_method_93_code 61 = .ok (.iload_n 1, 1) := by decide +kernel
theorem dX8_rests_62 : decode prog_10_method_93_code 62 = .ok (.iconst 1, 1) := by decide +kernel
theorem dX8_rests_63 : decode prog_10_method_93_code 63 = .ok (.iload_n 2, 1) := by decide +kernel
theorem dX8_rests_64 : decode prog_10_method_93_code 64 = .ok (.ishl, 1) := by decide +kernel
theorem dX8_rests_65 : decode prog_10_method_93_code 65 = .ok (.ior, 1) := by decide +kernel
theorem dX8_rests_66 : decode prog_10_method_93_code 66 = .ok (.istore_n 1, 1) := by decide +kernel
theorem dX8_rests_67 : decode prog_10_method_93_code 67 = .ok (.iinc 2 1, 3) := by decide +kernel
theorem dX8_rests_70 : decode prog_10_method_93_code 70 = .ok (.goto (-61), 3) := by decide +kernel
theorem dX8_rests_73 : decode prog_10_method_93_code 73 = .ok (.iload_n 1, 1) := by decide +kernel
theorem dX8_rests_74 : decode prog_10_method_93_code 74 = .ok (.ireturn, 1) := by decide +kernel
theorem dX8_pays_0 : decode prog_10_method_92_code 0 = .ok (.iload_n 1, 1) := by decide +kernel
theorem dX8_pays_1 : decode prog_10_method_92_code 1 = .ok (.ifCond .ne 23, 3) := by decide +kernel
theorem dX8_pays_4 : decode prog_10_method_92_code 4 = .ok (.iload_n 2, 1) := by decide +kernel
theorem dX8_pays_5 : decode prog_10_method_92_code 5 = .ok (.ifCond .ne 14, 3) := by decide +kernel
theorem dX8_pays_8 : decode prog_10_method_92_code 8 = .ok (.aload_n 0, 1) := by decide +kernel
theorem dX8_pays_9 : decode prog_10_method_92_code 9 = .ok (.invokevirtual 286, 3) := by decide +kernel
theorem dX8_pays_12 : decode prog_10_method_92_code 12 = .ok (.iconst 2, 1) := by decide +kernel
theorem dX8_pays_13 : decode prog_10_method_92_code 13 = .ok (.invokestatic 231, 3) := by decide +kernel
theorem dX8_pays_16 : decode prog_10_method_92_code 16 = .ok (.goto 7, 3) := by decide +kernel
theorem dX8_pays_19 : decode prog_10_method_92_code 19 = .ok (.aload_n 0, 1) := by decide +kernel
theorem dX8_pays_20 : decode prog_10_method_92_code 20 = .ok (.invokevirtual 286, 3) := by decide +kernel
theorem dX8_pays_23 : decode prog_10_method_92_code 23 = .ok (.ireturn, 1) := by decide +kernel
theorem dX8_pays_24 : decode prog_10_method_92_code 24 = .ok (.iload_n 2, 1) := by decide +kernel
theorem dX8_pays_25 : decode prog_10_method_92_code 25 = .ok (.ifCond .ne 7, 3) := by decide +kernel
theorem dX8_pays_28 : decode prog_10_method_92_code 28 = .ok (.iconst 0, 1) := by decide +kernel
theorem dX8_pays_29 : decode prog_10_method_92_code 29 = .ok (.goto 11, 3) := by decide +kernel
theorem dX8_pays_32 : decode prog_10_method_92_code 32 = .ok (.aload_n 0, 1) := by decide +kernel
theorem dX8_pays_33 : decode prog_10_method_92_code 33 = .ok (.aload_n 0, 1) := by decide +kernel
theorem dX8_pays_34 : decode prog_10_method_92_code 34 = .ok (.invokevirtual 253, 3) := by decide +kernel
theorem dX8_pays_37 : decode prog_10_method_92_code 37 = .ok (.invokevirtual 256, 3) := by decide +kernel
theorem dX8_pays_40 : decode prog_10_method_92_code 40 = .ok (.ireturn, 1) := by decide +kernel
theorem dX8_due_0 : decode prog_10_method_94_code 0 = .ok (.aload_n 0, 1) := by decide +kernel
theorem dX8_due_1 : decode prog_10_method_94_code 1 = .ok (.iconst 0, 1) := by decide +kernel
theorem dX8_due_2 : decode prog_10_method_94_code 2 = .ok (.putfield 39, 3) := by decide +kernel
theorem dX8_due_5 : decode prog_10_method_94_code 5 = .ok (.aload_n 0, 1) := by decide +kernel
theorem dX8_due_6 : decode prog_10_method_94_code 6 = .ok (.invokevirtual 259, 3) := by decide +kernel
theorem dX8_due_9 : decode prog_10_method_94_code 9 = .ok (.ireturn, 1) := by decide +kernel
theorem dX8_lighten_0 : decode prog_10_method_95_code 0 = .ok (.aload_n 0, 1) := by decide +kernel
theorem dX8_lighten_1 : decode prog_10_method_95_code 1 = .ok (.iload_n 1, 1) := by decide +kernel
theorem dX8_lighten_2 : decode prog_10_method_95_code 2 = .ok (.iconst 0, 1) := by decide +kernel
theorem dX8_lighten_3 : decode prog_10_method_95_code 3 = .ok (.sipush 9999, 3) := by decide +kernel
theorem dX8_lighten_6 : decode prog_10_method_95_code 6 = .ok (.invokestatic 42, 3) := by decide +kernel
theorem dX8_lighten_9 : decode prog_10_method_95_code 9 = .ok (.ifCond .ne 7, 3) := by decide +kernel
theorem dX8_lighten_12 : decode prog_10_method_95_code 12 = .ok (.iconst 1, 1) := by decide +kernel
theorem dX8_lighten_13 : decode prog_10_method_95_code 13 = .ok (.goto 4, 3) := by decide +kernel
theorem dX8_lighten_16 : decode prog_10_method_95_code 16 = .ok (.iconst 0, 1) := by decide +kernel
theorem dX8_lighten_17 : decode prog_10_method_95_code 17 = .ok (.putfield 39, 3) := by decide +kernel
theorem dX8_lighten_20 : decode prog_10_method_95_code 20 = .ok (.aload_n 0, 1) := by decide +kernel
theorem dX8_lighten_21 : decode prog_10_method_95_code 21 = .ok (.getfield 39, 3) := by decide +kernel
theorem dX8_lighten_24 : decode prog_10_method_95_code 24 = .ok (.ifCond .le 5, 3) := by decide +kernel
theorem dX8_lighten_27 : decode prog_10_method_95_code 27 = .ok (.iconst 0, 1) := by decide +kernel
theorem dX8_lighten_28 : decode prog_10_method_95_code 28 = .ok (.ireturn, 1) := by decide +kernel
theorem dX8_lighten_29 : decode prog_10_method_95_code 29 = .ok (.aload_n 0, 1) := by decide +kernel
theorem dX8_lighten_30 : decode prog_10_method_95_code 30 = .ok (.invokevirtual 259, 3) := by decide +kernel
theorem dX8_lighten_33 : decode prog_10_method_95_code 33 = .ok (.istore_n 2, 1) := by decide +kernel
theorem dX8_lighten_34 : decode prog_10_method_95_code 34 = .ok (.iconst (-1), 1) := by decide +kernel
theorem dX8_lighten_35 : decode prog_10_method_95_code 35 = .ok (.istore_n 3, 1) := by decide +kernel
theorem dX8_lighten_36 : decode prog_10_method_95_code 36 = .ok (.iconst 0, 1) := by decide +kernel
theorem dX8_lighten_37 : decode prog_10_method_95_code 37 = .ok (.istore 4, 2) := by decide +kernel
theorem dX8_lighten_39 : decode prog_10_method_95_code 39 = .ok (.iload 4, 2) := by decide +kernel
theorem dX8_lighten_41 : decode prog_10_method_95_code 41 = .ok (.iconst 1, 1) := by decide +kernel
theorem dX8_lighten_42 : decode prog_10_method_95_code 42 = .ok (.aload_n 0, 1) := by decide +kernel
theorem dX8_lighten_43 : decode prog_10_method_95_code 43 = .ok (.getfield 7, 3) := by decide +kernel
theorem dX8_lighten_46 : decode prog_10_method_95_code 46 = .ok (.iconst 3, 1) := by decide +kernel
theorem dX8_lighten_47 : decode prog_10_method_95_code 47 = .ok (.iaload, 1) := by decide +kernel
theorem dX8_lighten_48 : decode prog_10_method_95_code 48 = .ok (.ishl, 1) := by decide +kernel
theorem dX8_lighten_49 : decode prog_10_method_95_code 49 = .ok (.if_icmp .ge 98, 3) := by decide +kernel
theorem dX8_lighten_52 : decode prog_10_method_95_code 52 = .ok (.iload_n 3, 1) := by decide +kernel
theorem dX8_lighten_53 : decode prog_10_method_95_code 53 = .ok (.iconst (-1), 1) := by decide +kernel
theorem dX8_lighten_54 : decode prog_10_method_95_code 54 = .ok (.if_icmp .eq 18, 3) := by decide +kernel
theorem dX8_lighten_57 : decode prog_10_method_95_code 57 = .ok (.iload 4, 2) := by decide +kernel
theorem dX8_lighten_59 : decode prog_10_method_95_code 59 = .ok (.invokestatic 262, 3) := by decide +kernel
theorem dX8_lighten_62 : decode prog_10_method_95_code 62 = .ok (.iload_n 3, 1) := by decide +kernel
theorem dX8_lighten_63 : decode prog_10_method_95_code 63 = .ok (.invokestatic 262, 3) := by decide +kernel
theorem dX8_lighten_66 : decode prog_10_method_95_code 66 = .ok (.if_icmp .lt 6, 3) := by decide +kernel
theorem dX8_lighten_69 : decode prog_10_method_95_code 69 = .ok (.goto 72, 3) := by decide +kernel
theorem dX8_lighten_72 : decode prog_10_method_95_code 72 = .ok (.iload_n 2, 1) := by decide +kernel
theorem dX8_lighten_73 : decode prog_10_method_95_code 73 = .ok (.aload_n 0, 1) := by decide +kernel
theorem dX8_lighten_74 : decode prog_10_method_95_code 74 = .ok (.iload 4, 2) := by decide +kernel
theorem dX8_lighten_76 : decode prog_10_method_95_code 76 = .ok (.aload_n 0, 1) := by decide +kernel
theorem dX8_lighten_77 : decode prog_10_method_95_code 77 = .ok (.invokevirtual 253, 3) := by decide +kernel
theorem dX8_lighten_80 : decode prog_10_method_95_code 80 = .ok (.iand, 1) := by decide +kernel
theorem dX8_lighten_81 : decode prog_10_method_95_code 81 = .ok (.invokevirtual 256, 3) := by decide +kernel
theorem dX8_lighten_84 : decode prog_10_method_95_code 84 = .ok (.isub, 1) := by decide +kernel
theorem dX8_lighten_85 : decode prog_10_method_95_code 85 = .ok (.istore 5, 2) := by decide +kernel
theorem dX8_lighten_87 : decode prog_10_method_95_code 87 = .ok (.iconst 0, 1) := by decide +kernel
theorem dX8_lighten_88 : decode prog_10_method_95_code 88 = .ok (.istore 6, 2) := by decide +kernel
theorem dX8_lighten_90 : decode prog_10_method_95_code 90 = .ok (.iload 6, 2) := by decide +kernel
theorem dX8_lighten_92 : decode prog_10_method_95_code 92 = .ok (.aload_n 0, 1) := by decide +kernel
theorem dX8_lighten_93 : decode prog_10_method_95_code 93 = .ok (.getfield 7, 3) := by decide +kernel
theorem dX8_lighten_96 : decode prog_10_method_95_code 96 = .ok (.iconst 3, 1) := by decide +kernel
theorem dX8_lighten_97 : decode prog_10_method_95_code 97 = .ok (.iaload, 1) := by decide +kernel
theorem dX8_lighten_98 : decode prog_10_method_95_code 98 = .ok (.if_icmp .ge 34, 3) := by decide +kernel
theorem dX8_lighten_101 : decode prog_10_method_95_code 101 = .ok (.iload 5, 2) := by decide +kernel
theorem dX8_lighten_103 : decode prog_10_method_95_code 103 = .ok (.iload 4, 2) := by decide +kernel
theorem dX8_lighten_105 : decode prog_10_method_95_code 105 = .ok (.iload 6, 2) := by decide +kernel
theorem dX8_lighten_107 : decode prog_10_method_95_code 107 = .ok (.invokestatic 240, 3) := by decide +kernel
theorem dX8_lighten_110 : decode prog_10_method_95_code 110 = .ok (.ifCond .eq 12, 3) := by decide +kernel
theorem dX8_lighten_113 : decode prog_10_method_95_code 113 = .ok (.aload_n 0, 1) := by decide +kernel
theorem dX8_lighten_114 : decode prog_10_method_95_code 114 = .ok (.iload 6, 2) := by decide +kernel
theorem dX8_lighten_116 : decode prog_10_method_95_code 116 = .ok (.invokevirtual 228, 3) := by decide +kernel
theorem dX8_lighten_119 : decode prog_10_method_95_code 119 = .ok (.goto 4, 3) := by decide +kernel
theorem dX8_lighten_122 : decode prog_10_method_95_code 122 = .ok (.iconst 0, 1) := by decide +kernel
theorem dX8_lighten_123 : decode prog_10_method_95_code 123 = .ok (.isub, 1) := by decide +kernel
theorem dX8_lighten_124 : decode prog_10_method_95_code 124 = .ok (.istore 5, 2) := by decide +kernel
theorem dX8_lighten_126 : decode prog_10_method_95_code 126 = .ok (.iinc 6 1, 3) := by decide +kernel
theorem dX8_lighten_129 : decode prog_10_method_95_code 129 = .ok (.goto (-39), 3) := by decide +kernel
theorem dX8_lighten_132 : decode prog_10_method_95_code 132 = .ok (.iload 5, 2) := by decide +kernel
theorem dX8_lighten_134 : decode prog_10_method_95_code 134 = .ok (.iload_n 1, 1) := by decide +kernel
theorem dX8_lighten_135 : decode prog_10_method_95_code 135 = .ok (.if_icmp .gt 6, 3) := by decide +kernel
theorem dX8_lighten_138 : decode prog_10_method_95_code 138 = .ok (.iload 4, 2) := by decide +kernel
theorem dX8_lighten_140 : decode prog_10_method_95_code 140 = .ok (.istore_n 3, 1) := by decide +kernel
theorem dX8_lighten_141 : decode prog_10_method_95_code 141 = .ok (.iinc 4 1, 3) := by decide +kernel
theorem dX8_lighten_144 : decode prog_10_method_95_code 144 = .ok (.goto (-105), 3) := by decide +kernel
theorem dX8_lighten_147 : decode prog_10_method_95_code 147 = .ok (.iload_n 3, 1) := by decide +kernel
theorem dX8_lighten_148 : decode prog_10_method_95_code 148 = .ok (.ireturn, 1) := by decide +kernel
theorem dX8_wearing_0 : decode prog_10_method_96_code 0 = .ok (.aload_n 0, 1) := by decide +kernel
theorem dX8_wearing_1 : decode prog_10_method_96_code 1 = .ok (.aload_n 0, 1) := by decide +kernel
theorem dX8_wearing_2 : decode prog_10_method_96_code 2 = .ok (.iload_n 1, 1) := by decide +kernel
theorem dX8_wearing_3 : decode prog_10_method_96_code 3 = .ok (.invokevirtual 277, 3) := by decide +kernel
theorem dX8_wearing_6 : decode prog_10_method_96_code 6 = .ok (.ifCond .ne 7, 3) := by decide +kernel
theorem dX8_wearing_9 : decode prog_10_method_96_code 9 = .ok (.iconst 1, 1) := by decide +kernel
theorem dX8_wearing_10 : decode prog_10_method_96_code 10 = .ok (.goto 4, 3) := by decide +kernel
theorem dX8_wearing_13 : decode prog_10_method_96_code 13 = .ok (.iconst 0, 1) := by decide +kernel
theorem dX8_wearing_14 : decode prog_10_method_96_code 14 = .ok (.putfield 39, 3) := by decide +kernel
theorem dX8_wearing_17 : decode prog_10_method_96_code 17 = .ok (.aload_n 0, 1) := by decide +kernel
theorem dX8_wearing_18 : decode prog_10_method_96_code 18 = .ok (.getfield 39, 3) := by decide +kernel
theorem dX8_wearing_21 : decode prog_10_method_96_code 21 = .ok (.ifCond .le 5, 3) := by decide +kernel
theorem dX8_wearing_24 : decode prog_10_method_96_code 24 = .ok (.iconst 0, 1) := by decide +kernel
theorem dX8_wearing_25 : decode prog_10_method_96_code 25 = .ok (.ireturn, 1) := by decide +kernel
theorem dX8_wearing_26 : decode prog_10_method_96_code 26 = .ok (.aload_n 0, 1) := by decide +kernel
theorem dX8_wearing_27 : decode prog_10_method_96_code 27 = .ok (.invokevirtual 145, 3) := by decide +kernel
theorem dX8_wearing_30 : decode prog_10_method_96_code 30 = .ok (.aload_n 0, 1) := by decide +kernel
theorem dX8_wearing_31 : decode prog_10_method_96_code 31 = .ok (.iload_n 1, 1) := by decide +kernel
theorem dX8_wearing_32 : decode prog_10_method_96_code 32 = .ok (.iconst 2, 1) := by decide +kernel
theorem dX8_wearing_33 : decode prog_10_method_96_code 33 = .ok (.invokevirtual 46, 3) := by decide +kernel
theorem dX8_wearing_36 : decode prog_10_method_96_code 36 = .ok (.istore_n 2, 1) := by decide +kernel
theorem dX8_wearing_37 : decode prog_10_method_96_code 37 = .ok (.aload_n 0, 1) := by decide +kernel
theorem dX8_wearing_38 : decode prog_10_method_96_code 38 = .ok (.sipush 182, 3) := by decide +kernel
theorem dX8_wearing_41 : decode prog_10_method_96_code 41 = .ok (.aload_n 0, 1) := by decide +kernel
theorem dX8_wearing_42 : decode prog_10_method_96_code 42 = .ok (.getfield 7, 3) := by decide +kernel
theorem dX8_wearing_45 : decode prog_10_method_96_code 45 = .ok (.iconst 4, 1) := by decide +kernel
theorem dX8_wearing_46 : decode prog_10_method_96_code 46 = .ok (.iaload, 1) := by decide +kernel
theorem dX8_wearing_47 : decode prog_10_method_96_code 47 = .ok (.sipush 182, 3) := by decide +kernel
theorem dX8_wearing_50 : decode prog_10_method_96_code 50 = .ok (.irem, 1) := by decide +kernel
theorem dX8_wearing_51 : decode prog_10_method_96_code 51 = .ok (.isub, 1) := by decide +kernel
theorem dX8_wearing_52 : decode prog_10_method_96_code 52 = .ok (.iconst 0, 1) := by decide +kernel
theorem dX8_wearing_53 : decode prog_10_method_96_code 53 = .ok (.invokevirtual 298, 3) := by decide +kernel
theorem dX8_wearing_56 : decode prog_10_method_96_code 56 = .ok (.istore_n 3, 1) := by decide +kernel
theorem dX8_wearing_57 : decode prog_10_method_96_code 57 = .ok (.aload_n 0, 1) := by decide +kernel
theorem dX8_wearing_58 : decode prog_10_method_96_code 58 = .ok (.iload_n 1, 1) := by decide +kernel
theorem dX8_wearing_59 : decode prog_10_method_96_code 59 = .ok (.iconst 2, 1) := by decide +kernel
theorem dX8_wearing_60 : decode prog_10_method_96_code 60 = .ok (.invokevirtual 46, 3) := by decide +kernel
theorem dX8_wearing_63 : decode prog_10_method_96_code 63 = .ok (.iload_n 2, 1) := by decide +kernel
theorem dX8_wearing_64 : decode prog_10_method_96_code 64 = .ok (.isub, 1) := by decide +kernel
theorem dX8_wearing_65 : decode prog_10_method_96_code 65 = .ok (.istore 4, 2) := by decide +kernel
theorem dX8_wearing_67 : decode prog_10_method_96_code 67 = .ok (.aload_n 0, 1) := by decide +kernel
theorem dX8_wearing_68 : decode prog_10_method_96_code 68 = .ok (.invokevirtual 155, 3) := by decide +kernel
theorem dX8_wearing_71 : decode prog_10_method_96_code 71 = .ok (.iload 4, 2) := by decide +kernel
theorem dX8_wearing_73 : decode prog_10_method_96_code 73 = .ok (.ireturn, 1) := by decide +kernel
theorem dX8_meets_0 : decode prog_10_method_97_code 0 = .ok (.aload_n 0, 1) := by decide +kernel
theorem dX8_meets_1 : decode prog_10_method_97_code 1 = .ok (.aload_n 0, 1) := by decide +kernel
theorem dX8_meets_2 : decode prog_10_method_97_code 2 = .ok (.iload_n 1, 1) := by decide +kernel
theorem dX8_meets_3 : decode prog_10_method_97_code 3 = .ok (.invokevirtual 277, 3) := by decide +kernel
theorem dX8_meets_6 : decode prog_10_method_97_code 6 = .ok (.ifCond .eq 11, 3) := by decide +kernel
theorem dX8_meets_9 : decode prog_10_method_97_code 9 = .ok (.aload_n 0, 1) := by decide +kernel
theorem dX8_meets_10 : decode prog_10_method_97_code 10 = .ok (.iload_n 2, 1) := by decide +kernel
theorem dX8_meets_11 : decode prog_10_method_97_code 11 = .ok (.invokevirtual 277, 3) := by decide +kernel
theorem dX8_meets_14 : decode prog_10_method_97_code 14 = .ok (.ifCond .ne 7, 3) := by decide +kernel
theorem dX8_meets_17 : decode prog_10_method_97_code 17 = .ok (.iconst 1, 1) := by decide +kernel
theorem dX8_meets_18 : decode prog_10_method_97_code 18 = .ok (.goto 13, 3) := by decide +kernel
theorem dX8_meets_21 : decode prog_10_method_97_code 21 = .ok (.iload_n 1, 1) := by decide +kernel
theorem dX8_meets_22 : decode prog_10_method_97_code 22 = .ok (.iload_n 2, 1) := by decide +kernel
theorem dX8_meets_23 : decode prog_10_method_97_code 23 = .ok (.if_icmp .ne 7, 3) := by decide +kernel
theorem dX8_meets_26 : decode prog_10_method_97_code 26 = .ok (.iconst 2, 1) := by decide +kernel
theorem dX8_meets_27 : decode prog_10_method_97_code 27 = .ok (.goto 4, 3) := by decide +kernel
theorem dX8_meets_30 : decode prog_10_method_97_code 30 = .ok (.iconst 0, 1) := by decide +kernel
theorem dX8_meets_31 : decode prog_10_method_97_code 31 = .ok (.putfield 39, 3) := by decide +kernel
theorem dX8_meets_34 : decode prog_10_method_97_code 34 = .ok (.aload_n 0, 1) := by decide +kernel
theorem dX8_meets_35 : decode prog_10_method_97_code 35 = .ok (.getfield 39, 3) := by decide +kernel
theorem dX8_meets_38 : decode prog_10_method_97_code 38 = .ok (.ifCond .le 5, 3) := by decide +kernel
theorem dX8_meets_41 : decode prog_10_method_97_code 41 = .ok (.iconst 0, 1) := by decide +kernel
theorem dX8_meets_42 : decode prog_10_method_97_code 42 = .ok (.ireturn, 1) := by decide +kernel
theorem dX8_meets_43 : decode prog_10_method_97_code 43 = .ok (.aload_n 0, 1) := by decide +kernel
theorem dX8_meets_44 : decode prog_10_method_97_code 44 = .ok (.invokevirtual 145, 3) := by decide +kernel
theorem dX8_meets_47 : decode prog_10_method_97_code 47 = .ok (.iconst (-1), 1) := by decide +kernel
theorem dX8_meets_48 : decode prog_10_method_97_code 48 = .ok (.istore_n 3, 1) := by decide +kernel
theorem dX8_meets_49 : decode prog_10_method_97_code 49 = .ok (.iconst 0, 1) := by decide +kernel
theorem dX8_meets_50 : decode prog_10_method_97_code 50 = .ok (.istore 4, 2) := by decide +kernel
theorem dX8_meets_52 : decode prog_10_method_97_code 52 = .ok (.iload 4, 2) := by decide +kernel
theorem dX8_meets_54 : decode prog_10_method_97_code 54 = .ok (.sipush 400, 3) := by decide +kernel
theorem dX8_meets_57 : decode prog_10_method_97_code 57 = .ok (.if_icmp .gt 40, 3) := by decide +kernel
theorem dX8_meets_60 : decode prog_10_method_97_code 60 = .ok (.iload_n 3, 1) := by decide +kernel
theorem dX8_meets_61 : decode prog_10_method_97_code 61 = .ok (.iconst (-1), 1) := by decide +kernel
theorem dX8_meets_62 : decode prog_10_method_97_code 62 = .ok (.if_icmp .ne 35, 3) := by decide +kernel
theorem dX8_meets_65 : decode prog_10_method_97_code 65 = .ok (.aload_n 0, 1) := by decide +kernel
theorem dX8_meets_66 : decode prog_10_method_97_code 66 = .ok (.iload_n 1, 1) := by decide +kernel
theorem dX8_meets_67 : decode prog_10_method_97_code 67 = .ok (.iconst 1, 1) := by decide +kernel
theorem dX8_meets_68 : decode prog_10_method_97_code 68 = .ok (.invokevirtual 46, 3) := by decide +kernel
theorem dX8_meets_71 : decode prog_10_method_97_code 71 = .ok (.aload_n 0, 1) := by decide +kernel
theorem dX8_meets_72 : decode prog_10_method_97_code 72 = .ok (.iload_n 2, 1) := by decide +kernel
theorem dX8_meets_73 : decode prog_10_method_97_code 73 = .ok (.iconst 1, 1) := by decide +kernel
theorem dX8_meets_74 : decode prog_10_method_97_code 74 = .ok (.invokevirtual 46, 3) := by decide +kernel
theorem dX8_meets_77 : decode prog_10_method_97_code 77 = .ok (.if_icmp .ne 6, 3) := by decide +kernel
theorem dX8_meets_80 : decode prog_10_method_97_code 80 = .ok (.iload 4, 2) := by decide +kernel
theorem dX8_meets_82 : decode prog_10_method_97_code 82 = .ok (.istore_n 3, 1) := by decide +kernel
theorem dX8_meets_83 : decode prog_10_method_97_code 83 = .ok (.aload_n 0, 1) := by decide +kernel
theorem dX8_meets_84 : decode prog_10_method_97_code 84 = .ok (.iconst 1, 1) := by decide +kernel
theorem dX8_meets_85 : decode prog_10_method_97_code 85 = .ok (.iconst 0, 1) := by decide +kernel
theorem dX8_meets_86 : decode prog_10_method_97_code 86 = .ok (.invokevirtual 298, 3) := by decide +kernel
theorem dX8_meets_89 : decode prog_10_method_97_code 89 = .ok (.istore 5, 2) := by decide +kernel
theorem dX8_meets_91 : decode prog_10_method_97_code 91 = .ok (.iinc 4 1, 3) := by decide +kernel
theorem dX8_meets_94 : decode prog_10_method_97_code 94 = .ok (.goto (-42), 3) := by decide +kernel
theorem dX8_meets_97 : decode prog_10_method_97_code 97 = .ok (.aload_n 0, 1) := by decide +kernel
theorem dX8_meets_98 : decode prog_10_method_97_code 98 = .ok (.invokevirtual 155, 3) := by decide +kernel
theorem dX8_meets_101 : decode prog_10_method_97_code 101 = .ok (.iload_n 3, 1) := by decide +kernel
theorem dX8_meets_102 : decode prog_10_method_97_code 102 = .ok (.ireturn, 1) := by decide +kernel
theorem dX8_visits_0 : decode prog_10_method_98_code 0 = .ok (.aload_n 0, 1) := by decide +kernel
theorem dX8_visits_1 : decode prog_10_method_98_code 1 = .ok (.aload_n 0, 1) := by decide +kernel
theorem dX8_visits_2 : decode prog_10_method_98_code 2 = .ok (.iload_n 1, 1) := by decide +kernel
theorem dX8_visits_3 : decode prog_10_method_98_code 3 = .ok (.invokevirtual 277, 3) := by decide +kernel
theorem dX8_visits_6 : decode prog_10_method_98_code 6 = .ok (.ifCond .ne 7, 3) := by decide +kernel
theorem dX8_visits_9 : decode prog_10_method_98_code 9 = .ok (.iconst 1, 1) := by decide +kernel
theorem dX8_visits_10 : decode prog_10_method_98_code 10 = .ok (.goto 18, 3) := by decide +kernel
theorem dX8_visits_13 : decode prog_10_method_98_code 13 = .ok (.iload_n 2, 1) := by decide +kernel
theorem dX8_visits_14 : decode prog_10_method_98_code 14 = .ok (.iconst 0, 1) := by decide +kernel
theorem dX8_visits_15 : decode prog_10_method_98_code 15 = .ok (.bipush 60, 2) := by decide +kernel
theorem dX8_visits_17 : decode prog_10_method_98_code 17 = .ok (.invokestatic 42, 3) := by decide +kernel
theorem dX8_visits_20 : decode prog_10_method_98_code 20 = .ok (.ifCond .ne 7, 3) := by decide +kernel
theorem dX8_visits_23 : decode prog_10_method_98_code 23 = .ok (.iconst 2, 1) := by decide +kernel
theorem dX8_visits_24 : decode prog_10_method_98_code 24 = .ok (.goto 4, 3) := by decide +kernel
theorem dX8_visits_27 : decode prog_10_method_98_code 27 = .ok (.iconst 0, 1) := by decide +kernel
theorem dX8_visits_28 : decode prog_10_method_98_code 28 = .ok (.putfield 39, 3) := by decide +kernel
theorem dX8_visits_31 : decode prog_10_method_98_code 31 = .ok (.aload_n 0, 1) := by decide +kernel
theorem dX8_visits_32 : decode prog_10_method_98_code 32 = .ok (.getfield 39, 3) := by decide +kernel
theorem dX8_visits_35 : decode prog_10_method_98_code 35 = .ok (.ifCond .le 5, 3) := by decide +kernel
theorem dX8_visits_38 : decode prog_10_method_98_code 38 = .ok (.iconst 0, 1) := by decide +kernel
theorem dX8_visits_39 : decode prog_10_method_98_code 39 = .ok (.ireturn, 1) := by decide +kernel
theorem dX8_visits_40 : decode prog_10_method_98_code 40 = .ok (.aload_n 0, 1) := by decide +kernel
theorem dX8_visits_41 : decode prog_10_method_98_code 41 = .ok (.invokevirtual 145, 3) := by decide +kernel
theorem dX8_visits_44 : decode prog_10_method_98_code 44 = .ok (.iconst 0, 1) := by decide +kernel
theorem dX8_visits_45 : decode prog_10_method_98_code 45 = .ok (.istore_n 3, 1) := by decide +kernel
theorem dX8_visits_46 : decode prog_10_method_98_code 46 = .ok (.iconst 0, 1) := by decide +kernel
theorem dX8_visits_47 : decode prog_10_method_98_code 47 = .ok (.istore 4, 2) := by decide +kernel
theorem dX8_visits_49 : decode prog_10_method_98_code 49 = .ok (.iload 4, 2) := by decide +kernel
theorem dX8_visits_51 : decode prog_10_method_98_code 51 = .ok (.iload_n 2, 1) := by decide +kernel
theorem dX8_visits_52 : decode prog_10_method_98_code 52 = .ok (.if_icmp .gt 28, 3) := by decide +kernel
theorem dX8_visits_55 : decode prog_10_method_98_code 55 = .ok (.iload_n 3, 1) := by decide +kernel
theorem dX8_visits_56 : decode prog_10_method_98_code 56 = .ok (.iconst 1, 1) := by decide +kernel
theorem dX8_visits_57 : decode prog_10_method_98_code 57 = .ok (.aload_n 0, 1) := by decide +kernel
theorem dX8_visits_58 : decode prog_10_method_98_code 58 = .ok (.iload_n 1, 1) := by decide +kernel
theorem dX8_visits_59 : decode prog_10_method_98_code 59 = .ok (.iconst 1, 1) := by decide +kernel
theorem dX8_visits_60 : decode prog_10_method_98_code 60 = .ok (.invokevirtual 46, 3) := by decide +kernel
theorem dX8_visits_63 : decode prog_10_method_98_code 63 = .ok (.ishl, 1) := by decide +kernel
theorem dX8_visits_64 : decode prog_10_method_98_code 64 = .ok (.ior, 1) := by decide +kernel
theorem dX8_visits_65 : decode prog_10_method_98_code 65 = .ok (.istore_n 3, 1) := by decide +kernel
theorem dX8_visits_66 : decode prog_10_method_98_code 66 = .ok (.aload_n 0, 1) := by decide +kernel
theorem dX8_visits_67 : decode prog_10_method_98_code 67 = .ok (.iconst 1, 1) := by decide +kernel
theorem dX8_visits_68 : decode prog_10_method_98_code 68 = .ok (.iconst 0, 1) := by decide +kernel
theorem dX8_visits_69 : decode prog_10_method_98_code 69 = .ok (.invokevirtual 298, 3) := by decide +kernel
theorem dX8_visits_72 : decode prog_10_method_98_code 72 = .ok (.istore 5, 2) := by decide +kernel
theorem dX8_visits_74 : decode prog_10_method_98_code 74 = .ok (.iinc 4 1, 3) := by decide +kernel
theorem dX8_visits_77 : decode prog_10_method_98_code 77 = .ok (.goto (-28), 3) := by decide +kernel
theorem dX8_visits_80 : decode prog_10_method_98_code 80 = .ok (.aload_n 0, 1) := by decide +kernel
theorem dX8_visits_81 : decode prog_10_method_98_code 81 = .ok (.invokevirtual 155, 3) := by decide +kernel
theorem dX8_visits_84 : decode prog_10_method_98_code 84 = .ok (.iload_n 3, 1) := by decide +kernel
theorem dX8_visits_85 : decode prog_10_method_98_code 85 = .ok (.ireturn, 1) := by decide +kernel
theorem dX8_stays_0 : decode prog_10_method_99_code 0 = .ok (.aload_n 0, 1) := by decide +kernel
theorem dX8_stays_1 : decode prog_10_method_99_code 1 = .ok (.aload_n 0, 1) := by decide +kernel
theorem dX8_stays_2 : decode prog_10_method_99_code 2 = .ok (.iload_n 1, 1) := by decide +kernel
theorem dX8_stays_3 : decode prog_10_method_99_code 3 = .ok (.invokevirtual 277, 3) := by decide +kernel
theorem dX8_stays_6 : decode prog_10_method_99_code 6 = .ok (.ifCond .ne 7, 3) := by decide +kernel
theorem dX8_stays_9 : decode prog_10_method_99_code 9 = .ok (.iconst 1, 1) := by decide +kernel
theorem dX8_stays_10 : decode prog_10_method_99_code 10 = .ok (.goto 4, 3) := by decide +kernel
theorem dX8_stays_13 : decode prog_10_method_99_code 13 = .ok (.iconst 0, 1) := by decide +kernel
theorem dX8_stays_14 : decode prog_10_method_99_code 14 = .ok (.putfield 39, 3) := by decide +kernel
theorem dX8_stays_17 : decode prog_10_method_99_code 17 = .ok (.aload_n 0, 1) := by decide +kernel
theorem dX8_stays_18 : decode prog_10_method_99_code 18 = .ok (.getfield 39, 3) := by decide +kernel
theorem dX8_stays_21 : decode prog_10_method_99_code 21 = .ok (.ifCond .le 5, 3) := by decide +kernel
theorem dX8_stays_24 : decode prog_10_method_99_code 24 = .ok (.iconst 0, 1) := by decide +kernel
theorem dX8_stays_25 : decode prog_10_method_99_code 25 = .ok (.ireturn, 1) := by decide +kernel
theorem dX8_stays_26 : decode prog_10_method_99_code 26 = .ok (.aload_n 0, 1) := by decide +kernel
theorem dX8_stays_27 : decode prog_10_method_99_code 27 = .ok (.invokevirtual 145, 3) := by decide +kernel
theorem dX8_stays_30 : decode prog_10_method_99_code 30 = .ok (.aload_n 0, 1) := by decide +kernel
theorem dX8_stays_31 : decode prog_10_method_99_code 31 = .ok (.iload_n 1, 1) := by decide +kernel
theorem dX8_stays_32 : decode prog_10_method_99_code 32 = .ok (.iconst 1, 1) := by decide +kernel
theorem dX8_stays_33 : decode prog_10_method_99_code 33 = .ok (.invokevirtual 46, 3) := by decide +kernel
theorem dX8_stays_36 : decode prog_10_method_99_code 36 = .ok (.istore_n 2, 1) := by decide +kernel
theorem dX8_stays_37 : decode prog_10_method_99_code 37 = .ok (.iconst (-1), 1) := by decide +kernel
theorem dX8_stays_38 : decode prog_10_method_99_code 38 = .ok (.istore_n 3, 1) := by decide +kernel
theorem dX8_stays_39 : decode prog_10_method_99_code 39 = .ok (.iconst 1, 1) := by decide +kernel
theorem dX8_stays_40 : decode prog_10_method_99_code 40 = .ok (.istore 4, 2) := by decide +kernel
theorem dX8_stays_42 : decode prog_10_method_99_code 42 = .ok (.iload 4, 2) := by decide +kernel
theorem dX8_stays_44 : decode prog_10_method_99_code 44 = .ok (.sipush 400, 3) := by decide +kernel
theorem dX8_stays_47 : decode prog_10_method_99_code 47 = .ok (.if_icmp .gt 35, 3) := by decide +kernel
theorem dX8_stays_50 : decode prog_10_method_99_code 50 = .ok (.iload_n 3, 1) := by decide +kernel
theorem dX8_stays_51 : decode prog_10_method_99_code 51 = .ok (.iconst (-1), 1) := by decide +kernel
theorem dX8_stays_52 : decode prog_10_method_99_code 52 = .ok (.if_icmp .ne 30, 3) := by decide +kernel
theorem dX8_stays_55 : decode prog_10_method_99_code 55 = .ok (.aload_n 0, 1) := by decide +kernel
theorem dX8_stays_56 : decode prog_10_method_99_code 56 = .ok (.iconst 1, 1) := by decide +kernel
theorem dX8_stays_57 : decode prog_10_method_99_code 57 = .ok (.iconst 0, 1) := by decide +kernel
theorem dX8_stays_58 : decode prog_10_method_99_code 58 = .ok (.invokevirtual 298, 3) := by decide +kernel
theorem dX8_stays_61 : decode prog_10_method_99_code 61 = .ok (.istore 5, 2) := by decide +kernel
theorem dX8_stays_63 : decode prog_10_method_99_code 63 = .ok (.aload_n 0, 1) := by decide +kernel
theorem dX8_stays_64 : decode prog_10_method_99_code 64 = .ok (.iload_n 1, 1) := by decide +kernel
theorem dX8_stays_65 : decode prog_10_method_99_code 65 = .ok (.iconst 1, 1) := by decide +kernel
theorem dX8_stays_66 : decode prog_10_method_99_code 66 = .ok (.invokevirtual 46, 3) := by decide +kernel
theorem dX8_stays_69 : decode prog_10_method_99_code 69 = .ok (.iload_n 2, 1) := by decide +kernel
theorem dX8_stays_70 : decode prog_10_method_99_code 70 = .ok (.if_icmp .eq 6, 3) := by decide +kernel
theorem dX8_stays_73 : decode prog_10_method_99_code 73 = .ok (.iload 4, 2) := by decide +kernel
theorem dX8_stays_75 : decode prog_10_method_99_code 75 = .ok (.istore_n 3, 1) := by decide +kernel
theorem dX8_stays_76 : decode prog_10_method_99_code 76 = .ok (.iinc 4 1, 3) := by decide +kernel
theorem dX8_stays_79 : decode prog_10_method_99_code 79 = .ok (.goto (-37), 3) := by decide +kernel
theorem dX8_stays_82 : decode prog_10_method_99_code 82 = .ok (.aload_n 0, 1) := by decide +kernel
theorem dX8_stays_83 : decode prog_10_method_99_code 83 = .ok (.invokevirtual 155, 3) := by decide +kernel
theorem dX8_stays_86 : decode prog_10_method_99_code 86 = .ok (.iload_n 3, 1) := by decide +kernel
theorem dX8_stays_87 : decode prog_10_method_99_code 87 = .ok (.ireturn, 1) := by decide +kernel
theorem dX8_crowd_0 : decode prog_10_method_100_code 0 = .ok (.aload_n 0, 1) := by decide +kernel
theorem dX8_crowd_1 : decode prog_10_method_100_code 1 = .ok (.iload_n 1, 1) := by decide +kernel
theorem dX8_crowd_2 : decode prog_10_method_100_code 2 = .ok (.iconst 0, 1) := by decide +kernel
theorem dX8_crowd_3 : decode prog_10_method_100_code 3 = .ok (.sipush 400, 3) := by decide +kernel
theorem dX8_crowd_6 : decode prog_10_method_100_code 6 = .ok (.invokestatic 42, 3) := by decide +kernel
theorem dX8_crowd_9 : decode prog_10_method_100_code 9 = .ok (.ifCond .ne 7, 3) := by decide +kernel
theorem dX8_crowd_12 : decode prog_10_method_100_code 12 = .ok (.iconst 1, 1) := by decide +kernel
theorem dX8_crowd_13 : decode prog_10_method_100_code 13 = .ok (.goto 4, 3) := by decide +kernel
theorem dX8_crowd_16 : decode prog_10_method_100_code 16 = .ok (.iconst 0, 1) := by decide +kernel
theorem dX8_crowd_17 : decode prog_10_method_100_code 17 = .ok (.putfield 39, 3) := by decide +kernel
theorem dX8_crowd_20 : decode prog_10_method_100_code 20 = .ok (.aload_n 0, 1) := by decide +kernel
theorem dX8_crowd_21 : decode prog_10_method_100_code 21 = .ok (.getfield 39, 3) := by decide +kernel
theorem dX8_crowd_24 : decode prog_10_method_100_code 24 = .ok (.ifCond .le 5, 3) := by decide +kernel
theorem dX8_crowd_27 : decode prog_10_method_100_code 27 = .ok (.iconst 0, 1) := by decide +kernel
theorem dX8_crowd_28 : decode prog_10_method_100_code 28 = .ok (.ireturn, 1) := by decide +kernel
theorem dX8_crowd_29 : decode prog_10_method_100_code 29 = .ok (.aload_n 0, 1) := by decide +kernel
theorem dX8_crowd_30 : decode prog_10_method_100_code 30 = .ok (.invokevirtual 145, 3) := by decide +kernel
theorem dX8_crowd_33 : decode prog_10_method_100_code 33 = .ok (.aload_n 0, 1) := by decide +kernel
theorem dX8_crowd_34 : decode prog_10_method_100_code 34 = .ok (.iload_n 1, 1) := by decide +kernel
theorem dX8_crowd_35 : decode prog_10_method_100_code 35 = .ok (.iconst 0, 1) := by decide +kernel
theorem dX8_crowd_36 : decode prog_10_method_100_code 36 = .ok (.invokevirtual 298, 3) := by decide +kernel
theorem dX8_crowd_39 : decode prog_10_method_100_code 39 = .ok (.istore_n 2, 1) := by decide +kernel
theorem dX8_crowd_40 : decode prog_10_method_100_code 40 = .ok (.iconst 0, 1) := by decide +kernel
theorem dX8_crowd_41 : decode prog_10_method_100_code 41 = .ok (.istore_n 3, 1) := by decide +kernel
theorem dX8_crowd_42 : decode prog_10_method_100_code 42 = .ok (.iconst 0, 1) := by decide +kernel
theorem dX8_crowd_43 : decode prog_10_method_100_code 43 = .ok (.istore 4, 2) := by decide +kernel
theorem dX8_crowd_45 : decode prog_10_method_100_code 45 = .ok (.iload 4, 2) := by decide +kernel
theorem dX8_crowd_47 : decode prog_10_method_100_code 47 = .ok (.bipush 6, 2) := by decide +kernel
theorem dX8_crowd_49 : decode prog_10_method_100_code 49 = .ok (.if_icmp .ge 24, 3) := by decide +kernel
theorem dX8_crowd_52 : decode prog_10_method_100_code 52 = .ok (.iload_n 3, 1) := by decide +kernel
theorem dX8_crowd_53 : decode prog_10_method_100_code 53 = .ok (.aload_n 0, 1) := by decide +kernel
theorem dX8_crowd_54 : decode prog_10_method_100_code 54 = .ok (.iload 4, 2) := by decide +kernel
theorem dX8_crowd_56 : decode prog_10_method_100_code 56 = .ok (.iconst 1, 1) := by decide +kernel
theorem dX8_crowd_57 : decode prog_10_method_100_code 57 = .ok (.invokevirtual 283, 3) := by decide +kernel
theorem dX8_crowd_60 : decode prog_10_method_100_code 60 = .ok (.invokestatic 262, 3) := by decide +kernel
theorem dX8_crowd_63 : decode prog_10_method_100_code 63 = .ok (.invokestatic 219, 3) := by decide +kernel
theorem dX8_crowd_66 : decode prog_10_method_100_code 66 = .ok (.istore_n 3, 1) := by decide +kernel
theorem dX8_crowd_67 : decode prog_10_method_100_code 67 = .ok (.iinc 4 1, 3) := by decide +kernel
theorem dX8_crowd_70 : decode prog_10_method_100_code 70 = .ok (.goto (-25), 3) := by decide +kernel
theorem dX8_crowd_73 : decode prog_10_method_100_code 73 = .ok (.aload_n 0, 1) := by decide +kernel
theorem dX8_crowd_74 : decode prog_10_method_100_code 74 = .ok (.invokevirtual 155, 3) := by decide +kernel
theorem dX8_crowd_77 : decode prog_10_method_100_code 77 = .ok (.iload_n 3, 1) := by decide +kernel
theorem dX8_crowd_78 : decode prog_10_method_100_code 78 = .ok (.ireturn, 1) := by decide +kernel
theorem dX8_parted_0 : decode prog_10_method_101_code 0 = .ok (.aload_n 0, 1) := by decide +kernel
theorem dX8_parted_1 : decode prog_10_method_101_code 1 = .ok (.iconst 0, 1) := by decide +kernel
theorem dX8_parted_2 : decode prog_10_method_101_code 2 = .ok (.putfield 39, 3) := by decide +kernel
theorem dX8_parted_5 : decode prog_10_method_101_code 5 = .ok (.aload_n 0, 1) := by decide +kernel
theorem dX8_parted_6 : decode prog_10_method_101_code 6 = .ok (.iconst 3, 1) := by decide +kernel
theorem dX8_parted_7 : decode prog_10_method_101_code 7 = .ok (.invokevirtual 325, 3) := by decide +kernel
theorem dX8_parted_10 : decode prog_10_method_101_code 10 = .ok (.istore_n 2, 1) := by decide +kernel
theorem dX8_parted_11 : decode prog_10_method_101_code 11 = .ok (.iconst 0, 1) := by decide +kernel
theorem dX8_parted_12 : decode prog_10_method_101_code 12 = .ok (.istore_n 3, 1) := by decide +kernel
theorem dX8_parted_13 : decode prog_10_method_101_code 13 = .ok (.iload_n 2, 1) := by decide +kernel
theorem dX8_parted_14 : decode prog_10_method_101_code 14 = .ok (.istore 4, 2) := by decide +kernel
theorem dX8_parted_16 : decode prog_10_method_101_code 16 = .ok (.iconst 1, 1) := by decide +kernel
theorem dX8_parted_17 : decode prog_10_method_101_code 17 = .ok (.istore 5, 2) := by decide +kernel
theorem dX8_parted_19 : decode prog_10_method_101_code 19 = .ok (.iload 5, 2) := by decide +kernel
theorem dX8_parted_21 : decode prog_10_method_101_code 21 = .ok (.iconst 1, 1) := by decide +kernel
theorem dX8_parted_22 : decode prog_10_method_101_code 22 = .ok (.aload_n 0, 1) := by decide +kernel
theorem dX8_parted_23 : decode prog_10_method_101_code 23 = .ok (.getfield 7, 3) := by decide +kernel
theorem dX8_parted_26 : decode prog_10_method_101_code 26 = .ok (.iconst 3, 1) := by decide +kernel
theorem dX8_parted_27 : decode prog_10_method_101_code 27 = .ok (.iaload, 1) := by decide +kernel
theorem dX8_parted_28 : decode prog_10_method_101_code 28 = .ok (.ishl, 1) := by decide +kernel
theorem dX8_parted_29 : decode prog_10_method_101_code 29 = .ok (.if_icmp .ge 53, 3) := by decide +kernel
theorem dX8_parted_32 : decode prog_10_method_101_code 32 = .ok (.iload_n 2, 1) := by decide +kernel
theorem dX8_parted_33 : decode prog_10_method_101_code 33 = .ok (.iconst 2, 1) := by decide +kernel
theorem dX8_parted_34 : decode prog_10_method_101_code 34 = .ok (.aload_n 0, 1) := by decide +kernel
theorem dX8_parted_35 : decode prog_10_method_101_code 35 = .ok (.iload 5, 2) := by decide +kernel
theorem dX8_parted_37 : decode prog_10_method_101_code 37 = .ok (.invokevirtual 256, 3) := by decide +kernel
theorem dX8_parted_40 : decode prog_10_method_101_code 40 = .ok (.imul, 1) := by decide +kernel
theorem dX8_parted_41 : decode prog_10_method_101_code 41 = .ok (.isub, 1) := by decide +kernel
theorem dX8_parted_42 : decode prog_10_method_101_code 42 = .ok (.istore 6, 2) := by decide +kernel
theorem dX8_parted_44 : decode prog_10_method_101_code 44 = .ok (.iload 6, 2) := by decide +kernel
theorem dX8_parted_46 : decode prog_10_method_101_code 46 = .ok (.ifCond .ge 9, 3) := by decide +kernel
theorem dX8_parted_49 : decode prog_10_method_101_code 49 = .ok (.iload 6, 2) := by decide +kernel
theorem dX8_parted_51 : decode prog_10_method_101_code 51 = .ok (.ineg, 1) := by decide +kernel
theorem dX8_parted_52 : decode prog_10_method_101_code 52 = .ok (.goto 5, 3) := by decide +kernel
theorem dX8_parted_55 : decode prog_10_method_101_code 55 = .ok (.iload 6, 2) := by decide +kernel
theorem dX8_parted_57 : decode prog_10_method_101_code 57 = .ok (.istore 6, 2) := by decide +kernel
theorem dX8_parted_59 : decode prog_10_method_101_code 59 = .ok (.iload 6, 2) := by decide +kernel
theorem dX8_parted_61 : decode prog_10_method_101_code 61 = .ok (.iload 4, 2) := by decide +kernel
theorem dX8_parted_63 : decode prog_10_method_101_code 63 = .ok (.if_icmp .lt 6, 3) := by decide +kernel
theorem dX8_parted_66 : decode prog_10_method_101_code 66 = .ok (.goto 10, 3) := by decide +kernel
theorem dX8_parted_69 : decode prog_10_method_101_code 69 = .ok (.iload 6, 2) := by decide +kernel
theorem dX8_parted_71 : decode prog_10_method_101_code 71 = .ok (.istore 4, 2) := by decide +kernel
theorem dX8_parted_73 : decode prog_10_method_101_code 73 = .ok (.iload 5, 2) := by decide +kernel
theorem dX8_parted_75 : decode prog_10_method_101_code 75 = .ok (.istore_n 3, 1) := by decide +kernel
theorem dX8_parted_76 : decode prog_10_method_101_code 76 = .ok (.iinc 5 1, 3) := by decide +kernel
theorem dX8_parted_79 : decode prog_10_method_101_code 79 = .ok (.goto (-60), 3) := by decide +kernel
theorem dX8_parted_82 : decode prog_10_method_101_code 82 = .ok (.iload_n 1, 1) := by decide +kernel
theorem dX8_parted_83 : decode prog_10_method_101_code 83 = .ok (.ifCond .eq 7, 3) := by decide +kernel
theorem dX8_parted_86 : decode prog_10_method_101_code 86 = .ok (.iload_n 3, 1) := by decide +kernel
theorem dX8_parted_87 : decode prog_10_method_101_code 87 = .ok (.goto 5, 3) := by decide +kernel
theorem dX8_parted_90 : decode prog_10_method_101_code 90 = .ok (.iload 4, 2) := by decide +kernel
theorem dX8_parted_92 : decode prog_10_method_101_code 92 = .ok (.ireturn, 1) := by decide +kernel
theorem dX8_together_0 : decode prog_10_method_15_code 0 = .ok (.iconst 0, 1) := by decide +kernel
theorem dX8_together_1 : decode prog_10_method_15_code 1 = .ok (.istore_n 2, 1) := by decide +kernel
theorem dX8_together_2 : decode prog_10_method_15_code 2 = .ok (.iconst 0, 1) := by decide +kernel
theorem dX8_together_3 : decode prog_10_method_15_code 3 = .ok (.istore_n 3, 1) := by decide +kernel
theorem dX8_together_4 : decode prog_10_method_15_code 4 = .ok (.iload_n 3, 1) := by decide +kernel
theorem dX8_together_5 : decode prog_10_method_15_code 5 = .ok (.aload_n 0, 1) := by decide +kernel
theorem dX8_together_6 : decode prog_10_method_15_code 6 = .ok (.getfield 7, 3) := by decide +kernel
theorem dX8_together_9 : decode prog_10_method_15_code 9 = .ok (.iconst 3, 1) := by decide +kernel
theorem dX8_together_10 : decode prog_10_method_15_code 10 = .ok (.iaload, 1) := by decide +kernel
theorem dX8_together_11 : decode prog_10_method_15_code 11 = .ok (.if_icmp .ge 18, 3) := by decide +kernel
theorem dX8_together_14 : decode prog_10_method_15_code 14 = .ok (.iload_n 2, 1) := by decide +kernel
theorem dX8_together_15 : decode prog_10_method_15_code 15 = .ok (.aload_n 0, 1) := by decide +kernel
theorem dX8_together_16 : decode prog_10_method_15_code 16 = .ok (.iload_n 3, 1) := by decide +kernel
theorem dX8_together_17 : decode prog_10_method_15_code 17 = .ok (.iload_n 1, 1) := by decide +kernel
theorem dX8_together_18 : decode prog_10_method_15_code 18 = .ok (.invokevirtual 46, 3) := by decide +kernel
theorem dX8_together_21 : decode prog_10_method_15_code 21 = .ok (.iadd, 1) := by decide +kernel
theorem dX8_together_22 : decode prog_10_method_15_code 22 = .ok (.istore_n 2, 1) := by decide +kernel
theorem dX8_together_23 : decode prog_10_method_15_code 23 = .ok (.iinc 3 1, 3) := by decide +kernel
theorem dX8_together_26 : decode prog_10_method_15_code 26 = .ok (.goto (-22), 3) := by decide +kernel
theorem dX8_together_29 : decode prog_10_method_15_code 29 = .ok (.iload_n 2, 1) := by decide +kernel
theorem dX8_together_30 : decode prog_10_method_15_code 30 = .ok (.ireturn, 1) := by decide +kernel
theorem dX8_clash_0 : decode prog_10_method_102_code 0 = .ok (.aload_n 0, 1) := by decide +kernel
theorem dX8_clash_1 : decode prog_10_method_102_code 1 = .ok (.iconst 0, 1) := by decide +kernel
theorem dX8_clash_2 : decode prog_10_method_102_code 2 = .ok (.putfield 39, 3) := by decide +kernel
theorem dX8_clash_5 : decode prog_10_method_102_code 5 = .ok (.iconst 0, 1) := by decide +kernel
theorem dX8_clash_6 : decode prog_10_method_102_code 6 = .ok (.istore_n 1, 1) := by decide +kernel
theorem dX8_clash_7 : decode prog_10_method_102_code 7 = .ok (.iconst 0, 1) := by decide +kernel
theorem dX8_clash_8 : decode prog_10_method_102_code 8 = .ok (.istore_n 2, 1) := by decide +kernel
theorem dX8_clash_9 : decode prog_10_method_102_code 9 = .ok (.iload_n 2, 1) := by decide +kernel
theorem dX8_clash_10 : decode prog_10_method_102_code 10 = .ok (.bipush 6, 2) := by decide +kernel
theorem dX8_clash_12 : decode prog_10_method_102_code 12 = .ok (.if_icmp .ge 40, 3) := by decide +kernel
theorem dX8_clash_15 : decode prog_10_method_102_code 15 = .ok (.iload_n 1, 1) := by decide +kernel
theorem dX8_clash_16 : decode prog_10_method_102_code 16 = .ok (.aload_n 0, 1) := by decide +kernel
theorem dX8_clash_17 : decode prog_10_method_102_code 17 = .ok (.iload_n 2, 1) := by decide +kernel
theorem dX8_clash_18 : decode prog_10_method_102_code 18 = .ok (.iconst 0, 1) := by decide +kernel
theorem dX8_clash_19 : decode prog_10_method_102_code 19 = .ok (.invokevirtual 283, 3) := by decide +kernel
theorem dX8_clash_22 : decode prog_10_method_102_code 22 = .ok (.invokestatic 262, 3) := by decide +kernel
theorem dX8_clash_25 : decode prog_10_method_102_code 25 = .ok (.aload_n 0, 1) := by decide +kernel
theorem dX8_clash_26 : decode prog_10_method_102_code 26 = .ok (.getfield 7, 3) := by decide +kernel
theorem dX8_clash_29 : decode prog_10_method_102_code 29 = .ok (.bipush 20, 2) := by decide +kernel
theorem dX8_clash_31 : decode prog_10_method_102_code 31 = .ok (.iload_n 2, 1) := by decide +kernel
theorem dX8_clash_32 : decode prog_10_method_102_code 32 = .ok (.iadd, 1) := by decide +kernel
theorem dX8_clash_33 : decode prog_10_method_102_code 33 = .ok (.iaload, 1) := by decide +kernel
theorem dX8_clash_34 : decode prog_10_method_102_code 34 = .ok (.if_icmp .le 9, 3) := by decide +kernel
theorem dX8_clash_37 : decode prog_10_method_102_code 37 = .ok (.iconst 1, 1) := by decide +kernel
theorem dX8_clash_38 : decode prog_10_method_102_code 38 = .ok (.iload_n 2, 1) := by decide +kernel
theorem dX8_clash_39 : decode prog_10_method_102_code 39 = .ok (.ishl, 1) := by decide +kernel
theorem dX8_clash_40 : decode prog_10_method_102_code 40 = .ok (.goto 4, 3) := by decide +kernel
theorem dX8_clash_43 : decode prog_10_method_102_code 43 = .ok (.iconst 0, 1) := by decide +kernel
theorem dX8_clash_44 : decode prog_10_method_102_code 44 = .ok (.ior, 1) := by decide +kernel
theorem dX8_clash_45 : decode prog_10_method_102_code 45 = .ok (.istore_n 1, 1) := by decide +kernel
theorem dX8_clash_46 : decode prog_10_method_102_code 46 = .ok (.iinc 2 1, 3) := by decide +kernel
theorem dX8_clash_49 : decode prog_10_method_102_code 49 = .ok (.goto (-40), 3) := by decide +kernel
theorem dX8_clash_52 : decode prog_10_method_102_code 52 = .ok (.iload_n 1, 1) := by decide +kernel
theorem dX8_clash_53 : decode prog_10_method_102_code 53 = .ok (.ireturn, 1) := by decide +kernel
theorem dX8_full_0 : decode prog_10_method_103_code 0 = .ok (.aload_n 0, 1) := by decide +kernel
theorem dX8_full_1 : decode prog_10_method_103_code 1 = .ok (.iconst 0, 1) := by decide +kernel
theorem dX8_full_2 : decode prog_10_method_103_code 2 = .ok (.putfield 39, 3) := by decide +kernel
theorem dX8_full_5 : decode prog_10_method_103_code 5 = .ok (.iconst 0, 1) := by decide +kernel
theorem dX8_full_6 : decode prog_10_method_103_code 6 = .ok (.istore_n 1, 1) := by decide +kernel
theorem dX8_full_7 : decode prog_10_method_103_code 7 = .ok (.iconst 0, 1) := by decide +kernel
theorem dX8_full_8 : decode prog_10_method_103_code 8 = .ok (.istore_n 2, 1) := by decide +kernel
theorem dX8_full_9 : decode prog_10_method_103_code 9 = .ok (.iload_n 2, 1) := by decide +kernel
theorem dX8_full_10 : decode prog_10_method_103_code 10 = .ok (.bipush 6, 2) := by decide +kernel
theorem dX8_full_12 : decode prog_10_method_103_code 12 = .ok (.if_icmp .ge 40, 3) := by decide +kernel
theorem dX8_full_15 : decode prog_10_method_103_code 15 = .ok (.iload_n 1, 1) := by decide +kernel
theorem dX8_full_16 : decode prog_10_method_103_code 16 = .ok (.aload_n 0, 1) := by decide +kernel
theorem dX8_full_17 : decode prog_10_method_103_code 17 = .ok (.iload_n 2, 1) := by decide +kernel
theorem dX8_full_18 : decode prog_10_method_103_code 18 = .ok (.iconst 1, 1) := by decide +kernel
theorem dX8_full_19 : decode prog_10_method_103_code 19 = .ok (.invokevirtual 283, 3) := by decide +kernel
theorem dX8_full_22 : decode prog_10_method_103_code 22 = .ok (.invokestatic 262, 3) := by decide +kernel
theorem dX8_full_25 : decode prog_10_method_103_code 25 = .ok (.aload_n 0, 1) := by decide +kernel
theorem dX8_full_26 : decode prog_10_method_103_code 26 = .ok (.getfield 7, 3) := by decide +kernel
theorem dX8_full_29 : decode prog_10_method_103_code 29 = .ok (.bipush 20, 2) := by decide +kernel
theorem dX8_full_31 : decode prog_10_method_103_code 31 = .ok (.iload_n 2, 1) := by decide +kernel
theorem dX8_full_32 : decode prog_10_method_103_code 32 = .ok (.iadd, 1) := by decide +kernel
theorem dX8_full_33 : decode prog_10_method_103_code 33 = .ok (.iaload, 1) := by decide +kernel
theorem dX8_full_34 : decode prog_10_method_103_code 34 = .ok (.if_icmp .lt 9, 3) := by decide +kernel
theorem dX8_full_37 : decode prog_10_method_103_code 37 = .ok (.iconst 1, 1) := by decide +kernel
theorem dX8_full_38 : decode prog_10_method_103_code 38 = .ok (.iload_n 2, 1) := by decide +kernel
theorem dX8_full_39 : decode prog_10_method_103_code 39 = .ok (.ishl, 1) := by decide +kernel
theorem dX8_full_40 : decode prog_10_method_103_code 40 = .ok (.goto 4, 3) := by decide +kernel
theorem dX8_full_43 : decode prog_10_method_103_code 43 = .ok (.iconst 0, 1) := by decide +kernel
theorem dX8_full_44 : decode prog_10_method_103_code 44 = .ok (.ior, 1) := by decide +kernel
theorem dX8_full_45 : decode prog_10_method_103_code 45 = .ok (.istore_n 1, 1) := by decide +kernel
theorem dX8_full_46 : decode prog_10_method_103_code 46 = .ok (.iinc 2 1, 3) := by decide +kernel
theorem dX8_full_49 : decode prog_10_method_103_code 49 = .ok (.goto (-40), 3) := by decide +kernel
theorem dX8_full_52 : decode prog_10_method_103_code 52 = .ok (.iload_n 1, 1) := by decide +kernel
theorem dX8_full_53 : decode prog_10_method_103_code 53 = .ok (.ireturn, 1) := by decide +kernel
theorem dX8_settles_0 : decode prog_10_method_104_code 0 = .ok (.aload_n 0, 1) := by decide +kernel
theorem dX8_settles_1 : decode prog_10_method_104_code 1 = .ok (.iconst 0, 1) := by decide +kernel
theorem dX8_settles_2 : decode prog_10_method_104_code 2 = .ok (.putfield 39, 3) := by decide +kernel
theorem dX8_settles_5 : decode prog_10_method_104_code 5 = .ok (.aload_n 0, 1) := by decide +kernel
theorem dX8_settles_6 : decode prog_10_method_104_code 6 = .ok (.getfield 7, 3) := by decide +kernel
theorem dX8_settles_9 : decode prog_10_method_104_code 9 = .ok (.bipush 9, 2) := by decide +kernel
theorem dX8_settles_11 : decode prog_10_method_104_code 11 = .ok (.iaload, 1) := by decide +kernel
theorem dX8_settles_12 : decode prog_10_method_104_code 12 = .ok (.aload_n 0, 1) := by decide +kernel
theorem dX8_settles_13 : decode prog_10_method_104_code 13 = .ok (.getfield 7, 3) := by decide +kernel
theorem dX8_settles_16 : decode prog_10_method_104_code 16 = .ok (.bipush 10, 2) := by decide +kernel
theorem dX8_settles_18 : decode prog_10_method_104_code 18 = .ok (.iaload, 1) := by decide +kernel
theorem dX8_settles_19 : decode prog_10_method_104_code 19 = .ok (.isub, 1) := by decide +kernel
theorem dX8_settles_20 : decode prog_10_method_104_code 20 = .ok (.ireturn, 1) := by decide +kernel
theorem dX8_richest_0 : decode prog_10_method_105_code 0 = .ok (.aload_n 0, 1) := by decide +kernel
theorem dX8_richest_1 : decode prog_10_method_105_code 1 = .ok (.iconst 0, 1) := by decide +kernel
theorem dX8_richest_2 : decode prog_10_method_105_code 2 = .ok (.putfield 39, 3) := by decide +kernel
theorem dX8_richest_5 : decode prog_10_method_105_code 5 = .ok (.iconst 0, 1) := by decide +kernel
theorem dX8_richest_6 : decode prog_10_method_105_code 6 = .ok (.istore_n 1, 1) := by decide +kernel
theorem dX8_richest_7 : decode prog_10_method_105_code 7 = .ok (.iconst 1, 1) := by decide +kernel
theorem dX8_richest_8 : decode prog_10_method_105_code 8 = .ok (.istore_n 2, 1) := by decide +kernel
theorem dX8_richest_9 : decode prog_10_method_105_code 9 = .ok (.iload_n 2, 1) := by decide +kernel
theorem dX8_richest_10 : decode prog_10_method_105_code 10 = .ok (.bipush 6, 2) := by decide +kernel
theorem dX8_richest_12 : decode prog_10_method_105_code 12 = .ok (.if_icmp .ge 34, 3) := by decide +kernel
theorem dX8_richest_15 : decode prog_10_method_105_code 15 = .ok (.aload_n 0, 1) := by decide +kernel
theorem dX8_richest_16 : decode prog_10_method_105_code 16 = .ok (.aload_n 0, 1) := by decide +kernel
theorem dX8_richest_17 : decode prog_10_method_105_code 17 = .ok (.iload_n 2, 1) := by decide +kernel
theorem dX8_richest_18 : decode prog_10_method_105_code 18 = .ok (.iconst 1, 1) := by decide +kernel
theorem dX8_richest_19 : decode prog_10_method_105_code 19 = .ok (.invokevirtual 283, 3) := by decide +kernel
theorem dX8_richest_22 : decode prog_10_method_105_code 22 = .ok (.invokevirtual 256, 3) := by decide +kernel
theorem dX8_richest_25 : decode prog_10_method_105_code 25 = .ok (.aload_n 0, 1) := by decide +kernel
theorem dX8_richest_26 : decode prog_10_method_105_code 26 = .ok (.aload_n 0, 1) := by decide +kernel
theorem dX8_richest_27 : decode prog_10_method_105_code 27 = .ok (.iload_n 1, 1) := by decide +kernel
theorem dX8_richest_28 : decode prog_10_method_105_code 28 = .ok (.iconst 1, 1) := by decide +kernel
theorem dX8_richest_29 : decode prog_10_method_105_code 29 = .ok (.invokevirtual 283, 3) := by decide +kernel
theorem dX8_richest_32 : decode prog_10_method_105_code 32 = .ok (.invokevirtual 256, 3) := by decide +kernel
theorem dX8_richest_35 : decode prog_10_method_105_code 35 = .ok (.if_icmp .le 5, 3) := by decide +kernel
theorem dX8_richest_38 : decode prog_10_method_105_code 38 = .ok (.iload_n 2, 1) := by decide +kernel
theorem dX8_richest_39 : decode prog_10_method_105_code 39 = .ok (.istore_n 1, 1) := by decide +kernel
theorem dX8_richest_40 : decode prog_10_method_105_code 40 = .ok (.iinc 2 1, 3) := by decide +kernel
theorem dX8_richest_43 : decode prog_10_method_105_code 43 = .ok (.goto (-34), 3) := by decide +kernel
theorem dX8_richest_46 : decode prog_10_method_105_code 46 = .ok (.iload_n 1, 1) := by decide +kernel
theorem dX8_richest_47 : decode prog_10_method_105_code 47 = .ok (.ireturn, 1) := by decide +kernel
theorem dX8_traces_0 : decode prog_10_method_109_code 0 = .ok (.aload_n 0, 1) := by decide +kernel
theorem dX8_traces_1 : decode prog_10_method_109_code 1 = .ok (.invokevirtual 331, 3) := by decide +kernel
theorem dX8_traces_4 : decode prog_10_method_109_code 4 = .ok (.istore_n 2, 1) := by decide +kernel
theorem dX8_traces_5 : decode prog_10_method_109_code 5 = .ok (.aload_n 0, 1) := by decide +kernel
theorem dX8_traces_6 : decode prog_10_method_109_code 6 = .ok (.iload_n 2, 1) := by decide +kernel
theorem dX8_traces_7 : decode prog_10_method_109_code 7 = .ok (.iconst (-1), 1) := by decide +kernel
theorem dX8_traces_8 : decode prog_10_method_109_code 8 = .ok (.if_icmp .ne 7, 3) := by decide +kernel
theorem dX8_traces_11 : decode prog_10_method_109_code 11 = .ok (.iconst 1, 1) := by decide +kernel
theorem dX8_traces_12 : decode prog_10_method_109_code 12 = .ok (.goto 4, 3) := by decide +kernel
theorem dX8_traces_15 : decode prog_10_method_109_code 15 = .ok (.iconst 0, 1) := by decide +kernel
theorem dX8_traces_16 : decode prog_10_method_109_code 16 = .ok (.putfield 39, 3) := by decide +kernel
theorem dX8_traces_19 : decode prog_10_method_109_code 19 = .ok (.aload_n 0, 1) := by decide +kernel
theorem dX8_traces_20 : decode prog_10_method_109_code 20 = .ok (.getfield 39, 3) := by decide +kernel
theorem dX8_traces_23 : decode prog_10_method_109_code 23 = .ok (.ifCond .gt 7, 3) := by decide +kernel
theorem dX8_traces_26 : decode prog_10_method_109_code 26 = .ok (.iload_n 1, 1) := by decide +kernel
theorem dX8_traces_27 : decode prog_10_method_109_code 27 = .ok (.ifCond .ne 16, 3) := by decide +kernel
theorem dX8_traces_30 : decode prog_10_method_109_code 30 = .ok (.aload_n 0, 1) := by decide +kernel
theorem dX8_traces_31 : decode prog_10_method_109_code 31 = .ok (.getfield 39, 3) := by decide +kernel
theorem dX8_traces_34 : decode prog_10_method_109_code 34 = .ok (.ifCond .le 7, 3) := by decide +kernel
theorem dX8_traces_37 : decode prog_10_method_109_code 37 = .ok (.iconst 0, 1) := by decide +kernel
theorem dX8_traces_38 : decode prog_10_method_109_code 38 = .ok (.goto 4, 3) := by decide +kernel
theorem dX8_traces_41 : decode prog_10_method_109_code 41 = .ok (.iload_n 2, 1) := by decide +kernel
theorem dX8_traces_42 : decode prog_10_method_109_code 42 = .ok (.ireturn, 1) := by decide +kernel
theorem dX8_traces_43 : decode prog_10_method_109_code 43 = .ok (.iconst 0, 1) := by decide +kernel
theorem dX8_traces_44 : decode prog_10_method_109_code 44 = .ok (.istore_n 3, 1) := by decide +kernel
theorem dX8_traces_45 : decode prog_10_method_109_code 45 = .ok (.iconst 0, 1) := by decide +kernel
theorem dX8_traces_46 : decode prog_10_method_109_code 46 = .ok (.istore 4, 2) := by decide +kernel
theorem dX8_traces_48 : decode prog_10_method_109_code 48 = .ok (.iload 4, 2) := by decide +kernel
theorem dX8_traces_50 : decode prog_10_method_109_code 50 = .ok (.bipush 6, 2) := by decide +kernel
theorem dX8_traces_52 : decode prog_10_method_109_code 52 = .ok (.if_icmp .ge 34, 3) := by decide +kernel
theorem dX8_traces_55 : decode prog_10_method_109_code 55 = .ok (.iload_n 3, 1) := by decide +kernel
theorem dX8_traces_56 : decode prog_10_method_109_code 56 = .ok (.iload_n 2, 1) := by decide +kernel
theorem dX8_traces_57 : decode prog_10_method_109_code 57 = .ok (.ifCond .le 20, 3) := by decide +kernel
theorem dX8_traces_60 : decode prog_10_method_109_code 60 = .ok (.aload_n 0, 1) := by decide +kernel
theorem dX8_traces_61 : decode prog_10_method_109_code 61 = .ok (.iload 4, 2) := by decide +kernel
theorem dX8_traces_63 : decode prog_10_method_109_code 63 = .ok (.invokevirtual 334, 3) := by decide +kernel
theorem dX8_traces_66 : decode prog_10_method_109_code 66 = .ok (.iload_n 2, 1) := by decide +kernel
theorem dX8_traces_67 : decode prog_10_method_109_code 67 = .ok (.if_icmp .ne 10, 3) := by decide +kernel
theorem dX8_traces_70 : decode prog_10_method_109_code 70 = .ok (.iconst 1, 1) := by decide +kernel
theorem dX8_traces_71 : decode prog_10_method_109_code 71 = .ok (.iload 4, 2) := by decide +kernel
theorem dX8_traces_73 : decode prog_10_method_109_code 73 = .ok (.ishl, 1) := by decide +kernel
theorem dX8_traces_74 : decode prog_10_method_109_code 74 = .ok (.goto 4, 3) := by decide +kernel
theorem dX8_traces_77 : decode prog_10_method_109_code 77 = .ok (.iconst 0, 1) := by decide +kernel
theorem dX8_traces_78 : decode prog_10_method_109_code 78 = .ok (.ior, 1) := by decide +kernel
theorem dX8_traces_79 : decode prog_10_method_109_code 79 = .ok (.istore_n 3, 1) := by decide +kernel
theorem dX8_traces_80 : decode prog_10_method_109_code 80 = .ok (.iinc 4 1, 3) := by decide +kernel
theorem dX8_traces_83 : decode prog_10_method_109_code 83 = .ok (.goto (-35), 3) := by decide +kernel
theorem dX8_traces_86 : decode prog_10_method_109_code 86 = .ok (.iload_n 3, 1) := by decide +kernel
theorem dX8_traces_87 : decode prog_10_method_109_code 87 = .ok (.ireturn, 1) := by decide +kernel
theorem dX8_told_0 : decode prog_10_method_107_code 0 = .ok (.aload_n 0, 1) := by decide +kernel
theorem dX8_told_1 : decode prog_10_method_107_code 1 = .ok (.getfield 50, 3) := by decide +kernel
theorem dX8_told_4 : decode prog_10_method_107_code 4 = .ok (.istore_n 1, 1) := by decide +kernel
theorem dX8_told_5 : decode prog_10_method_107_code 5 = .ok (.aload_n 0, 1) := by decide +kernel
theorem dX8_told_6 : decode prog_10_method_107_code 6 = .ok (.iconst 0, 1) := by decide +kernel
theorem dX8_told_7 : decode prog_10_method_107_code 7 = .ok (.putfield 50, 3) := by decide +kernel
theorem dX8_told_10 : decode prog_10_method_107_code 10 = .ok (.iload_n 1, 1) := by decide +kernel
theorem dX8_told_11 : decode prog_10_method_107_code 11 = .ok (.iconst 2, 1) := by decide +kernel
theorem dX8_told_12 : decode prog_10_method_107_code 12 = .ok (.irem, 1) := by decide +kernel
theorem dX8_told_13 : decode prog_10_method_107_code 13 = .ok (.ifCond .ne 13, 3) := by decide +kernel
theorem dX8_told_16 : decode prog_10_method_107_code 16 = .ok (.iload_n 1, 1) := by decide +kernel
theorem dX8_told_17 : decode prog_10_method_107_code 17 = .ok (.bipush 40, 2) := by decide +kernel
theorem dX8_told_19 : decode prog_10_method_107_code 19 = .ok (.if_icmp .gt 7, 3) := by decide +kernel
theorem dX8_told_22 : decode prog_10_method_107_code 22 = .ok (.iconst 1, 1) := by decide +kernel
theorem dX8_told_23 : decode prog_10_method_107_code 23 = .ok (.goto 4, 3) := by decide +kernel
theorem dX8_told_26 : decode prog_10_method_107_code 26 = .ok (.iconst 0, 1) := by decide +kernel
theorem dX8_told_27 : decode prog_10_method_107_code 27 = .ok (.istore_n 2, 1) := by decide +kernel
theorem dX8_told_28 : decode prog_10_method_107_code 28 = .ok (.iconst 0, 1) := by decide +kernel
theorem dX8_told_29 : decode prog_10_method_107_code 29 = .ok (.istore_n 3, 1) := by decide +kernel
theorem dX8_told_30 : decode prog_10_method_107_code 30 = .ok (.iload_n 3, 1) := by decide +kernel
theorem dX8_told_31 : decode prog_10_method_107_code 31 = .ok (.iload_n 1, 1) := by decide +kernel
theorem dX8_told_32 : decode prog_10_method_107_code 32 = .ok (.if_icmp .ge 40, 3) := by decide +kernel
theorem dX8_told_35 : decode prog_10_method_107_code 35 = .ok (.iload_n 2, 1) := by decide +kernel
theorem dX8_told_36 : decode prog_10_method_107_code 36 = .ok (.ifCond .eq 36, 3) := by decide +kernel
theorem dX8_told_39 : decode prog_10_method_107_code 39 = .ok (.aload_n 0, 1) := by decide +kernel
theorem dX8_told_40 : decode prog_10_method_107_code 40 = .ok (.getfield 22, 3) := by decide +kernel
theorem dX8_told_43 : decode prog_10_method_107_code 43 = .ok (.iload_n 3, 1) := by decide +kernel
theorem dX8_told_44 : decode prog_10_method_107_code 44 = .ok (.iaload, 1) := by decide +kernel
theorem dX8_told_45 : decode prog_10_method_107_code 45 = .ok (.iload_n 3, 1) := by decide +kernel
theorem dX8_told_46 : decode prog_10_method_107_code 46 = .ok (.iconst 2, 1) := by decide +kernel
theorem dX8_told_47 : decode prog_10_method_107_code 47 = .ok (.irem, 1) := by decide +kernel
theorem dX8_told_48 : decode prog_10_method_107_code 48 = .ok (.ifCond .ne 8, 3) := by decide +kernel
theorem dX8_told_51 : decode prog_10_method_107_code 51 = .ok (.bipush 6, 2) := by decide +kernel
theorem dX8_told_53 : decode prog_10_method_107_code 53 = .ok (.goto 4, 3) := by decide +kernel
theorem dX8_told_56 : decode prog_10_method_107_code 56 = .ok (.iconst 2, 1) := by decide +kernel
theorem dX8_told_57 : decode prog_10_method_107_code 57 = .ok (.if_icmp .ge 7, 3) := by decide +kernel
theorem dX8_told_60 : decode prog_10_method_107_code 60 = .ok (.iconst 1, 1) := by decide +kernel
theorem dX8_told_61 : decode prog_10_method_107_code 61 = .ok (.goto 4, 3) := by decide +kernel
theorem dX8_told_64 : decode prog_10_method_107_code 64 = .ok (.iconst 0, 1) := by decide +kernel
theorem dX8_told_65 : decode prog_10_method_107_code 65 = .ok (.istore_n 2, 1) := by decide +kernel
theorem dX8_told_66 : decode prog_10_method_107_code 66 = .ok (.iinc 3 1, 3) := by decide +kernel
theorem dX8_told_69 : decode prog_10_method_107_code 69 = .ok (.goto (-39), 3) := by decide +kernel
theorem dX8_told_72 : decode prog_10_method_107_code 72 = .ok (.iload_n 2, 1) := by decide +kernel
theorem dX8_told_73 : decode prog_10_method_107_code 73 = .ok (.ifCond .ne 5, 3) := by decide +kernel
theorem dX8_told_76 : decode prog_10_method_107_code 76 = .ok (.iconst (-1), 1) := by decide +kernel
theorem dX8_told_77 : decode prog_10_method_107_code 77 = .ok (.ireturn, 1) := by decide +kernel
theorem dX8_told_78 : decode prog_10_method_107_code 78 = .ok (.iconst 0, 1) := by decide +kernel
theorem dX8_told_79 : decode prog_10_method_107_code 79 = .ok (.istore_n 3, 1) := by decide +kernel
theorem dX8_told_80 : decode prog_10_method_107_code 80 = .ok (.iconst 0, 1) := by decide +kernel
theorem dX8_told_81 : decode prog_10_method_107_code 81 = .ok (.istore 4, 2) := by decide +kernel
theorem dX8_told_83 : decode prog_10_method_107_code 83 = .ok (.iload 4, 2) := by decide +kernel
theorem dX8_told_85 : decode prog_10_method_107_code 85 = .ok (.bipush 36, 2) := by decide +kernel
theorem dX8_told_87 : decode prog_10_method_107_code 87 = .ok (.if_icmp .ge 105, 3) := by decide +kernel
theorem dX8_told_90 : decode prog_10_method_107_code 90 = .ok (.aload_n 0, 1) := by decide +kernel
theorem dX8_told_91 : decode prog_10_method_107_code 91 = .ok (.getfield 35, 3) := by decide +kernel
theorem dX8_told_94 : decode prog_10_method_107_code 94 = .ok (.iload 4, 2) := by decide +kernel
theorem dX8_told_96 : decode prog_10_method_107_code 96 = .ok (.iconst 1, 1) := by decide +kernel
theorem dX8_told_97 : decode prog_10_method_107_code 97 = .ok (.bastore, 1) := by decide +kernel
theorem dX8_told_98 : decode prog_10_method_107_code 98 = .ok (.iconst 0, 1) := by decide +kernel
theorem dX8_told_99 : decode prog_10_method_107_code 99 = .ok (.istore 5, 2) := by decide +kernel
theorem dX8_told_101 : decode prog_10_method_107_code 101 = .ok (.iload 5, 2) := by decide +kernel
theorem dX8_told_103 : decode prog_10_method_107_code 103 = .ok (.iload_n 1, 1) := by decide +kernel
theorem dX8_told_104 : decode prog_10_method_107_code 104 = .ok (.if_icmp .ge 64, 3) := by decide +kernel
theorem dX8_told_107 : decode prog_10_method_107_code 107 = .ok (.aload_n 0, 1) := by decide +kernel
theorem dX8_told_108 : decode prog_10_method_107_code 108 = .ok (.getfield 35, 3) := by decide +kernel
theorem dX8_told_111 : decode prog_10_method_107_code 111 = .ok (.iload 4, 2) := by decide +kernel
theorem dX8_told_113 : decode prog_10_method_107_code 113 = .ok (.baload, 1) := by decide +kernel
theorem dX8_told_114 : decode prog_10_method_107_code 114 = .ok (.ifCond .eq 54, 3) := by decide +kernel
theorem dX8_told_117 : decode prog_10_method_107_code 117 = .ok (.aload_n 0, 1) := by decide +kernel
theorem dX8_told_118 : decode prog_10_method_107_code 118 = .ok (.getfield 35, 3) := by decide +kernel
theorem dX8_told_121 : decode prog_10_method_107_code 121 = .ok (.iload 4, 2) := by decide +kernel
theorem dX8_told_123 : decode prog_10_method_107_code 123 = .ok (.iload 4, 2) := by decide +kernel
theorem dX8_told_125 : decode prog_10_method_107_code 125 = .ok (.aload_n 0, 1) := by decide +kernel
theorem dX8_told_126 : decode prog_10_method_107_code 126 = .ok (.getfield 22, 3) := by decide +kernel
theorem dX8_told_129 : decode prog_10_method_107_code 129 = .ok (.iload 5, 2) := by decide +kernel
theorem dX8_told_131 : decode prog_10_method_107_code 131 = .ok (.iaload, 1) := by decide +kernel
theorem dX8_told_132 : decode prog_10_method_107_code 132 = .ok (.invokestatic 328, 3) := by decide +kernel
theorem dX8_told_135 : decode prog_10_method_107_code 135 = .ok (.aload_n 0, 1) := by decide +kernel
theorem dX8_told_136 : decode prog_10_method_107_code 136 = .ok (.getfield 22, 3) := by decide +kernel
theorem dX8_told_139 : decode prog_10_method_107_code 139 = .ok (.iload 5, 2) := by decide +kernel
theorem dX8_told_141 : decode prog_10_method_107_code 141 = .ok (.iconst 1, 1) := by decide +kernel
theorem dX8_told_142 : decode prog_10_method_107_code 142 = .ok (.iadd, 1) := by decide +kernel
theorem dX8_told_143 : decode prog_10_method_107_code 143 = .ok (.iaload, 1) := by decide +kernel
theorem dX8_told_144 : decode prog_10_method_107_code 144 = .ok (.iconst 1, 1) := by decide +kernel
theorem dX8_told_145 : decode prog_10_method_107_code 145 = .ok (.if_icmp .ne 7, 3) := by decide +kernel
theorem dX8_told_148 : decode prog_10_method_107_code 148 = .ok (.iconst 1, 1) := by decide +kernel
theorem dX8_told_149 : decode prog_10_method_107_code 149 = .ok (.goto 4, 3) := by decide +kernel
theorem dX8_told_152 : decode prog_10_method_107_code 152 = .ok (.iconst 0, 1) := by decide +kernel
theorem dX8_told_153 : decode prog_10_method_107_code 153 = .ok (.if_icmp .ne 7, 3) := by decide +kernel
theorem dX8_told_156 : decode prog_10_method_107_code 156 = .ok (.iconst 1, 1) := by decide +kernel
theorem dX8_told_157 : decode prog_10_method_107_code 157 = .ok (.goto 4, 3) := by decide +kernel
theorem dX8_told_160 : decode prog_10_method_107_code 160 = .ok (.iconst 0, 1) := by decide +kernel
theorem dX8_told_161 : decode prog_10_method_107_code 161 = .ok (.bastore, 1) := by decide +kernel
theorem dX8_told_162 : decode prog_10_method_107_code 162 = .ok (.iinc 5 2, 3) := by decide +kernel
theorem dX8_told_165 : decode prog_10_method_107_code 165 = .ok (.goto (-64), 3) := by decide +kernel
theorem dX8_told_168 : decode prog_10_method_107_code 168 = .ok (.iload_n 3, 1) := by decide +kernel
theorem dX8_told_169 : decode prog_10_method_107_code 169 = .ok (.aload_n 0, 1) := by decide +kernel
theorem dX8_told_170 : decode prog_10_method_107_code 170 = .ok (.getfield 35, 3) := by decide +kernel
theorem dX8_told_173 : decode prog_10_method_107_code 173 = .ok (.iload 4, 2) := by decide +kernel
theorem dX8_told_175 : decode prog_10_method_107_code 175 = .ok (.baload, 1) := by decide +kernel
theorem dX8_told_176 : decode prog_10_method_107_code 176 = .ok (.ifCond .eq 7, 3) := by decide +kernel
theorem dX8_told_179 : decode prog_10_method_107_code 179 = .ok (.iconst 1, 1) := by decide +kernel
theorem dX8_told_180 : decode prog_10_method_107_code 180 = .ok (.goto 4, 3) := by decide +kernel
theorem dX8_told_183 : decode prog_10_method_107_code 183 = .ok (.iconst 0, 1) := by decide +kernel
theorem dX8_told_184 : decode prog_10_method_107_code 184 = .ok (.iadd, 1) := by decide +kernel
theorem dX8_told_185 : decode prog_10_method_107_code 185 = .ok (.istore_n 3, 1) := by decide +kernel
theorem dX8_told_186 : decode prog_10_method_107_code 186 = .ok (.iinc 4 1, 3) := by decide +kernel
theorem dX8_told_189 : decode prog_10_method_107_code 189 = .ok (.goto (-106), 3) := by decide +kernel
theorem dX8_told_192 : decode prog_10_method_107_code 192 = .ok (.iload_n 3, 1) := by decide +kernel
theorem dX8_told_193 : decode prog_10_method_107_code 193 = .ok (.ireturn, 1) := by decide +kernel
theorem dX8_passes_0 : decode prog_10_method_106_code 0 = .ok (.iload_n 0, 1) := by decide +kernel
theorem dX8_passes_1 : decode prog_10_method_106_code 1 = .ok (.bipush 6, 2) := by decide +kernel
theorem dX8_passes_3 : decode prog_10_method_106_code 3 = .ok (.idiv, 1) := by decide +kernel
theorem dX8_passes_4 : decode prog_10_method_106_code 4 = .ok (.istore_n 2, 1) := by decide +kernel
theorem dX8_passes_5 : decode prog_10_method_106_code 5 = .ok (.iload_n 0, 1) := by decide +kernel
theorem dX8_passes_6 : decode prog_10_method_106_code 6 = .ok (.bipush 6, 2) := by decide +kernel
theorem dX8_passes_8 : decode prog_10_method_106_code 8 = .ok (.irem, 1) := by decide +kernel
theorem dX8_passes_9 : decode prog_10_method_106_code 9 = .ok (.iload_n 2, 1) := by decide +kernel
theorem dX8_passes_10 : decode prog_10_method_106_code 10 = .ok (.isub, 1) := by decide +kernel
theorem dX8_passes_11 : decode prog_10_method_106_code 11 = .ok (.bipush 6, 2) := by decide +kernel
theorem dX8_passes_13 : decode prog_10_method_106_code 13 = .ok (.iadd, 1) := by decide +kernel
theorem dX8_passes_14 : decode prog_10_method_106_code 14 = .ok (.bipush 6, 2) := by decide +kernel
theorem dX8_passes_16 : decode prog_10_method_106_code 16 = .ok (.irem, 1) := by decide +kernel
theorem dX8_passes_17 : decode prog_10_method_106_code 17 = .ok (.istore_n 3, 1) := by decide +kernel
theorem dX8_passes_18 : decode prog_10_method_106_code 18 = .ok (.iload_n 1, 1) := by decide +kernel
theorem dX8_passes_19 : decode prog_10_method_106_code 19 = .ok (.iload_n 2, 1) := by decide +kernel
theorem dX8_passes_20 : decode prog_10_method_106_code 20 = .ok (.isub, 1) := by decide +kernel
theorem dX8_passes_21 : decode prog_10_method_106_code 21 = .ok (.bipush 6, 2) := by decide +kernel
theorem dX8_passes_23 : decode prog_10_method_106_code 23 = .ok (.iadd, 1) := by decide +kernel
theorem dX8_passes_24 : decode prog_10_method_106_code 24 = .ok (.bipush 6, 2) := by decide +kernel
theorem dX8_passes_26 : decode prog_10_method_106_code 26 = .ok (.irem, 1) := by decide +kernel
theorem dX8_passes_27 : decode prog_10_method_106_code 27 = .ok (.iload_n 3, 1) := by decide +kernel
theorem dX8_passes_28 : decode prog_10_method_106_code 28 = .ok (.if_icmp .gt 7, 3) := by decide +kernel
theorem dX8_passes_31 : decode prog_10_method_106_code 31 = .ok (.iconst 1, 1) := by decide +kernel
theorem dX8_passes_32 : decode prog_10_method_106_code 32 = .ok (.goto 4, 3) := by decide +kernel
theorem dX8_passes_35 : decode prog_10_method_106_code 35 = .ok (.iconst 0, 1) := by decide +kernel
theorem dX8_passes_36 : decode prog_10_method_106_code 36 = .ok (.ireturn, 1) := by decide +kernel
theorem dX8_passing_0 : decode prog_10_method_108_code 0 = .ok (.iconst 0, 1) := by decide +kernel
theorem dX8_passing_1 : decode prog_10_method_108_code 1 = .ok (.istore_n 2, 1) := by decide +kernel
theorem dX8_passing_2 : decode prog_10_method_108_code 2 = .ok (.iconst 0, 1) := by decide +kernel
theorem dX8_passing_3 : decode prog_10_method_108_code 3 = .ok (.istore_n 3, 1) := by decide +kernel
theorem dX8_passing_4 : decode prog_10_method_108_code 4 = .ok (.iload_n 3, 1) := by decide +kernel
theorem dX8_passing_5 : decode prog_10_method_108_code 5 = .ok (.bipush 36, 2) := by decide +kernel
theorem dX8_passing_7 : decode prog_10_method_108_code 7 = .ok (.if_icmp .ge 34, 3) := by decide +kernel
theorem dX8_passing_10 : decode prog_10_method_108_code 10 = .ok (.iload_n 2, 1) := by decide +kernel
theorem dX8_passing_11 : decode prog_10_method_108_code 11 = .ok (.aload_n 0, 1) := by decide +kernel
theorem dX8_passing_12 : decode prog_10_method_108_code 12 = .ok (.getfield 35, 3) := by decide +kernel
theorem dX8_passing_15 : decode prog_10_method_108_code 15 = .ok (.iload_n 3, 1) := by decide +kernel
theorem dX8_passing_16 : decode prog_10_method_108_code 16 = .ok (.baload, 1) := by decide +kernel
theorem dX8_passing_17 : decode prog_10_method_108_code 17 = .ok (.ifCond .eq 15, 3) := by decide +kernel
theorem dX8_passing_20 : decode prog_10_method_108_code 20 = .ok (.iload_n 3, 1) := by decide +kernel
theorem dX8_passing_21 : decode prog_10_method_108_code 21 = .ok (.iload_n 1, 1) := by decide +kernel
theorem dX8_passing_22 : decode prog_10_method_108_code 22 = .ok (.invokestatic 328, 3) := by decide +kernel
theorem dX8_passing_25 : decode prog_10_method_108_code 25 = .ok (.ifCond .eq 7, 3) := by decide +kernel
theorem dX8_passing_28 : decode prog_10_method_108_code 28 = .ok (.iconst 1, 1) := by decide +kernel
theorem dX8_passing_29 : decode prog_10_method_108_code 29 = .ok (.goto 4, 3) := by decide +kernel
theorem dX8_passing_32 : decode prog_10_method_108_code 32 = .ok (.iconst 0, 1) := by decide +kernel
theorem dX8_passing_33 : decode prog_10_method_108_code 33 = .ok (.iadd, 1) := by decide +kernel
theorem dX8_passing_34 : decode prog_10_method_108_code 34 = .ok (.istore_n 2, 1) := by decide +kernel
theorem dX8_passing_35 : decode prog_10_method_108_code 35 = .ok (.iinc 3 1, 3) := by decide +kernel
theorem dX8_passing_38 : decode prog_10_method_108_code 38 = .ok (.goto (-34), 3) := by decide +kernel
theorem dX8_passing_41 : decode prog_10_method_108_code 41 = .ok (.iload_n 2, 1) := by decide +kernel
theorem dX8_passing_42 : decode prog_10_method_108_code 42 = .ok (.ireturn, 1) := by decide +kernel
theorem dX8_look_0 : decode prog_10_method_110_code 0 = .ok (.aload_n 0, 1) := by decide +kernel
theorem dX8_look_1 : decode prog_10_method_110_code 1 = .ok (.invokevirtual 331, 3) := by decide +kernel
theorem dX8_look_4 : decode prog_10_method_110_code 4 = .ok (.istore_n 1, 1) := by decide +kernel
theorem dX8_look_5 : decode prog_10_method_110_code 5 = .ok (.aload_n 0, 1) := by decide +kernel
theorem dX8_look_6 : decode prog_10_method_110_code 6 = .ok (.iload_n 1, 1) := by decide +kernel
theorem dX8_look_7 : decode prog_10_method_110_code 7 = .ok (.iconst (-1), 1) := by decide +kernel
theorem dX8_look_8 : decode prog_10_method_110_code 8 = .ok (.if_icmp .ne 7, 3) := by decide +kernel
theorem dX8_look_11 : decode prog_10_method_110_code 11 = .ok (.iconst 1, 1) := by decide +kernel
theorem dX8_look_12 : decode prog_10_method_110_code 12 = .ok (.goto 4, 3) := by decide +kernel
theorem dX8_look_15 : decode prog_10_method_110_code 15 = .ok (.iconst 0, 1) := by decide +kernel
theorem dX8_look_16 : decode prog_10_method_110_code 16 = .ok (.putfield 39, 3) := by decide +kernel
theorem dX8_look_19 : decode prog_10_method_110_code 19 = .ok (.aload_n 0, 1) := by decide +kernel
theorem dX8_look_20 : decode prog_10_method_110_code 20 = .ok (.getfield 39, 3) := by decide +kernel
theorem dX8_look_23 : decode prog_10_method_110_code 23 = .ok (.ifCond .le 5, 3) := by decide +kernel
theorem dX8_look_26 : decode prog_10_method_110_code 26 = .ok (.iconst 0, 1) := by decide +kernel
theorem dX8_look_27 : decode prog_10_method_110_code 27 = .ok (.ireturn, 1) := by decide +kernel
theorem dX8_look_28 : decode prog_10_method_110_code 28 = .ok (.iconst (-1), 1) := by decide +kernel
theorem dX8_look_29 : decode prog_10_method_110_code 29 = .ok (.istore_n 2, 1) := by decide +kernel
theorem dX8_look_30 : decode prog_10_method_110_code 30 = .ok (.ldc_w 311, 3) := by decide +kernel
theorem dX8_look_33 : decode prog_10_method_110_code 33 = .ok (.istore_n 3, 1) := by decide +kernel
theorem dX8_look_34 : decode prog_10_method_110_code 34 = .ok (.iconst 0, 1) := by decide +kernel
theorem dX8_look_35 : decode prog_10_method_110_code 35 = .ok (.istore 4, 2) := by decide +kernel
theorem dX8_look_37 : decode prog_10_method_110_code 37 = .ok (.iload 4, 2) := by decide +kernel
theorem dX8_look_39 : decode prog_10_method_110_code 39 = .ok (.bipush 6, 2) := by decide +kernel
theorem dX8_look_41 : decode prog_10_method_110_code 41 = .ok (.if_icmp .ge 51, 3) := by decide +kernel
theorem dX8_look_44 : decode prog_10_method_110_code 44 = .ok (.iload_n 1, 1) := by decide +kernel
theorem dX8_look_45 : decode prog_10_method_110_code 45 = .ok (.iconst 1, 1) := by decide +kernel
theorem dX8_look_46 : decode prog_10_method_110_code 46 = .ok (.if_icmp .le 46, 3) := by decide +kernel
theorem dX8_look_49 : decode prog_10_method_110_code 49 = .ok (.aload_n 0, 1) := by decide +kernel
theorem dX8_look_50 : decode prog_10_method_110_code 50 = .ok (.iload 4, 2) := by decide +kernel
theorem dX8_look_52 : decode prog_10_method_110_code 52 = .ok (.invokevirtual 334, 3) := by decide +kernel
theorem dX8_look_55 : decode prog_10_method_110_code 55 = .ok (.istore 5, 2) := by decide +kernel
theorem dX8_look_57 : decode prog_10_method_110_code 57 = .ok (.iload 5, 2) := by decide +kernel
theorem dX8_look_59 : decode prog_10_method_110_code 59 = .ok (.iload_n 1, 1) := by decide +kernel
theorem dX8_look_60 : decode prog_10_method_110_code 60 = .ok (.iload 5, 2) := by decide +kernel
theorem dX8_look_62 : decode prog_10_method_110_code 62 = .ok (.isub, 1) := by decide +kernel
theorem dX8_look_63 : decode prog_10_method_110_code 63 = .ok (.invokestatic 219, 3) := by decide +kernel
theorem dX8_look_66 : decode prog_10_method_110_code 66 = .ok (.iload_n 3, 1) := by decide +kernel
theorem dX8_look_67 : decode prog_10_method_110_code 67 = .ok (.if_icmp .lt 6, 3) := by decide +kernel
theorem dX8_look_70 : decode prog_10_method_110_code 70 = .ok (.goto 16, 3) := by decide +kernel
theorem dX8_look_73 : decode prog_10_method_110_code 73 = .ok (.iload 5, 2) := by decide +kernel
theorem dX8_look_75 : decode prog_10_method_110_code 75 = .ok (.iload_n 1, 1) := by decide +kernel
theorem dX8_look_76 : decode prog_10_method_110_code 76 = .ok (.iload 5, 2) := by decide +kernel
theorem dX8_look_78 : decode prog_10_method_110_code 78 = .ok (.isub, 1) := by decide +kernel
theorem dX8_look_79 : decode prog_10_method_110_code 79 = .ok (.invokestatic 219, 3) := by decide +kernel
theorem dX8_look_82 : decode prog_10_method_110_code 82 = .ok (.istore_n 3, 1) := by decide +kernel
theorem dX8_look_83 : decode prog_10_method_110_code 83 = .ok (.iload 4, 2) := by decide +kernel
theorem dX8_look_85 : decode prog_10_method_110_code 85 = .ok (.istore_n 2, 1) := by decide +kernel
theorem dX8_look_86 : decode prog_10_method_110_code 86 = .ok (.iinc 4 1, 3) := by decide +kernel
theorem dX8_look_89 : decode prog_10_method_110_code 89 = .ok (.goto (-52), 3) := by decide +kernel
theorem dX8_look_92 : decode prog_10_method_110_code 92 = .ok (.iload_n 2, 1) := by decide +kernel
theorem dX8_look_93 : decode prog_10_method_110_code 93 = .ok (.ireturn, 1) := by decide +kernel
theorem dX8_like_0 : decode prog_10_method_111_code 0 = .ok (.aload_n 0, 1) := by decide +kernel
theorem dX8_like_1 : decode prog_10_method_111_code 1 = .ok (.iconst 0, 1) := by decide +kernel
theorem dX8_like_2 : decode prog_10_method_111_code 2 = .ok (.putfield 39, 3) := by decide +kernel
theorem dX8_like_5 : decode prog_10_method_111_code 5 = .ok (.aload_n 0, 1) := by decide +kernel
theorem dX8_like_6 : decode prog_10_method_111_code 6 = .ok (.getfield 337, 3) := by decide +kernel
theorem dX8_like_9 : decode prog_10_method_111_code 9 = .ok (.ifCond .ne 5, 3) := by decide +kernel
theorem dX8_like_12 : decode prog_10_method_111_code 12 = .ok (.iconst (-1), 1) := by decide +kernel
theorem dX8_like_13 : decode prog_10_method_111_code 13 = .ok (.ireturn, 1) := by decide +kernel
theorem dX8_like_14 : decode prog_10_method_111_code 14 = .ok (.iconst 0, 1) := by decide +kernel
theorem dX8_like_15 : decode prog_10_method_111_code 15 = .ok (.istore_n 1, 1) := by decide +kernel
theorem dX8_like_16 : decode prog_10_method_111_code 16 = .ok (.iconst 0, 1) := by decide +kernel
theorem dX8_like_17 : decode prog_10_method_111_code 17 = .ok (.istore_n 2, 1) := by decide +kernel
theorem dX8_like_18 : decode prog_10_method_111_code 18 = .ok (.iload_n 2, 1) := by decide +kernel
theorem dX8_like_19 : decode prog_10_method_111_code 19 = .ok (.aload_n 0, 1) := by decide +kernel
theorem dX8_like_20 : decode prog_10_method_111_code 20 = .ok (.getfield 7, 3) := by decide +kernel
theorem dX8_like_23 : decode prog_10_method_111_code 23 = .ok (.iconst 3, 1) := by decide +kernel
theorem dX8_like_24 : decode prog_10_method_111_code 24 = .ok (.iaload, 1) := by decide +kernel
theorem dX8_like_25 : decode prog_10_method_111_code 25 = .ok (.aload_n 0, 1) := by decide +kernel
theorem dX8_like_26 : decode prog_10_method_111_code 26 = .ok (.getfield 13, 3) := by decide +kernel
theorem dX8_like_29 : decode prog_10_method_111_code 29 = .ok (.iconst 3, 1) := by decide +kernel
theorem dX8_like_30 : decode prog_10_method_111_code 30 = .ok (.iaload, 1) := by decide +kernel
theorem dX8_like_31 : decode prog_10_method_111_code 31 = .ok (.invokestatic 222, 3) := by decide +kernel
theorem dX8_like_34 : decode prog_10_method_111_code 34 = .ok (.if_icmp .ge 63, 3) := by decide +kernel
theorem dX8_like_37 : decode prog_10_method_111_code 37 = .ok (.iload_n 1, 1) := by decide +kernel
theorem dX8_like_38 : decode prog_10_method_111_code 38 = .ok (.aload_n 0, 1) := by decide +kernel
theorem dX8_like_39 : decode prog_10_method_111_code 39 = .ok (.iload_n 2, 1) := by decide +kernel
theorem dX8_like_40 : decode prog_10_method_111_code 40 = .ok (.iconst 1, 1) := by decide +kernel
theorem dX8_like_41 : decode prog_10_method_111_code 41 = .ok (.invokevirtual 46, 3) := by decide +kernel
theorem dX8_like_44 : decode prog_10_method_111_code 44 = .ok (.aload_n 0, 1) := by decide +kernel
theorem dX8_like_45 : decode prog_10_method_111_code 45 = .ok (.getfield 13, 3) := by decide +kernel
theorem dX8_like_48 : decode prog_10_method_111_code 48 = .ok (.bipush 26, 2) := by decide +kernel
theorem dX8_like_50 : decode prog_10_method_111_code 50 = .ok (.bipush 7, 2) := by decide +kernel
theorem dX8_like_52 : decode prog_10_method_111_code 52 = .ok (.iload_n 2, 1) := by decide +kernel
theorem dX8_like_53 : decode prog_10_method_111_code 53 = .ok (.imul, 1) := by decide +kernel
theorem dX8_like_54 : decode prog_10_method_111_code 54 = .ok (.iadd, 1) := by decide +kernel
theorem dX8_like_55 : decode prog_10_method_111_code 55 = .ok (.iconst 1, 1) := by decide +kernel
theorem dX8_like_56 : decode prog_10_method_111_code 56 = .ok (.iadd, 1) := by decide +kernel
theorem dX8_like_57 : decode prog_10_method_111_code 57 = .ok (.iaload, 1) := by decide +kernel
theorem dX8_like_58 : decode prog_10_method_111_code 58 = .ok (.if_icmp .ne 30, 3) := by decide +kernel
theorem dX8_like_61 : decode prog_10_method_111_code 61 = .ok (.aload_n 0, 1) := by decide +kernel
theorem dX8_like_62 : decode prog_10_method_111_code 62 = .ok (.iload_n 2, 1) := by decide +kernel
theorem dX8_like_63 : decode prog_10_method_111_code 63 = .ok (.iconst 2, 1) := by decide +kernel
theorem dX8_like_64 : decode prog_10_method_111_code 64 = .ok (.invokevirtual 46, 3) := by decide +kernel
theorem dX8_like_67 : decode prog_10_method_111_code 67 = .ok (.aload_n 0, 1) := by decide +kernel
theorem dX8_like_68 : decode prog_10_method_111_code 68 = .ok (.getfield 13, 3) := by decide +kernel
theorem dX8_like_71 : decode prog_10_method_111_code 71 = .ok (.bipush 26, 2) := by decide +kernel
theorem dX8_like_73 : decode prog_10_method_111_code 73 = .ok (.bipush 7, 2) := by decide +kernel
theorem dX8_like_75 : decode prog_10_method_111_code 75 = .ok (.iload_n 2, 1) := by decide +kernel
theorem dX8_like_76 : decode prog_10_method_111_code 76 = .ok (.imul, 1) := by decide +kernel
theorem dX8_like_77 : decode prog_10_method_111_code 77 = .ok (.iadd, 1) := by decide +kernel
theorem dX8_like_78 : decode prog_10_method_111_code 78 = .ok (.iconst 2, 1) := by decide +kernel
theorem dX8_like_79 : decode prog_10_method_111_code 79 = .ok (.iadd, 1) := by decide +kernel
theorem dX8_like_80 : decode prog_10_method_111_code 80 = .ok (.iaload, 1) := by decide +kernel
theorem dX8_like_81 : decode prog_10_method_111_code 81 = .ok (.if_icmp .ne 7, 3) := by decide +kernel
theorem dX8_like_84 : decode prog_10_method_111_code 84 = .ok (.iconst 1, 1) := by decide +kernel
theorem dX8_like_85 : decode prog_10_method_111_code 85 = .ok (.goto 4, 3) := by decide +kernel
theorem dX8_like_88 : decode prog_10_method_111_code 88 = .ok (.iconst 0, 1) := by decide +kernel
theorem dX8_like_89 : decode prog_10_method_111_code 89 = .ok (.iadd, 1) := by decide +kernel
theorem dX8_like_90 : decode prog_10_method_111_code 90 = .ok (.istore_n 1, 1) := by decide +kernel
theorem dX8_like_91 : decode prog_10_method_111_code 91 = .ok (.iinc 2 1, 3) := by decide +kernel
theorem dX8_like_94 : decode prog_10_method_111_code 94 = .ok (.goto (-76), 3) := by decide +kernel
theorem dX8_like_97 : decode prog_10_method_111_code 97 = .ok (.iload_n 1, 1) := by decide +kernel
theorem dX8_like_98 : decode prog_10_method_111_code 98 = .ok (.ireturn, 1) := by decide +kernel
theorem dX8_trial_0 : decode prog_10_method_112_code 0 = .ok (.aload_n 0, 1) := by decide +kernel
theorem dX8_trial_1 : decode prog_10_method_112_code 1 = .ok (.iload_n 1, 1) := by decide +kernel
theorem dX8_trial_2 : decode prog_10_method_112_code 2 = .ok (.iconst 0, 1) := by decide +kernel
theorem dX8_trial_3 : decode prog_10_method_112_code 3 = .ok (.sipush 400, 3) := by decide +kernel
theorem dX8_trial_6 : decode prog_10_method_112_code 6 = .ok (.invokestatic 42, 3) := by decide +kernel
theorem dX8_trial_9 : decode prog_10_method_112_code 9 = .ok (.ifCond .ne 7, 3) := by decide +kernel
theorem dX8_trial_12 : decode prog_10_method_112_code 12 = .ok (.iconst 1, 1) := by decide +kernel
theorem dX8_trial_13 : decode prog_10_method_112_code 13 = .ok (.goto 4, 3) := by decide +kernel
theorem dX8_trial_16 : decode prog_10_method_112_code 16 = .ok (.iconst 0, 1) := by decide +kernel
theorem dX8_trial_17 : decode prog_10_method_112_code 17 = .ok (.putfield 39, 3) := by decide +kernel
theorem dX8_trial_20 : decode prog_10_method_112_code 20 = .ok (.aload_n 0, 1) := by decide +kernel
theorem dX8_trial_21 : decode prog_10_method_112_code 21 = .ok (.getfield 39, 3) := by decide +kernel
theorem dX8_trial_24 : decode prog_10_method_112_code 24 = .ok (.ifCond .le 5, 3) := by decide +kernel
theorem dX8_trial_27 : decode prog_10_method_112_code 27 = .ok (.iconst 0, 1) := by decide +kernel
theorem dX8_trial_28 : decode prog_10_method_112_code 28 = .ok (.ireturn, 1) := by decide +kernel
theorem dX8_trial_29 : decode prog_10_method_112_code 29 = .ok (.aload_n 0, 1) := by decide +kernel
theorem dX8_trial_30 : decode prog_10_method_112_code 30 = .ok (.invokevirtual 145, 3) := by decide +kernel
theorem dX8_trial_33 : decode prog_10_method_112_code 33 = .ok (.aload_n 0, 1) := by decide +kernel
theorem dX8_trial_34 : decode prog_10_method_112_code 34 = .ok (.iload_n 1, 1) := by decide +kernel
theorem dX8_trial_35 : decode prog_10_method_112_code 35 = .ok (.iconst 1, 1) := by decide +kernel
theorem dX8_trial_36 : decode prog_10_method_112_code 36 = .ok (.invokevirtual 298, 3) := by decide +kernel
theorem dX8_trial_39 : decode prog_10_method_112_code 39 = .ok (.istore_n 3, 1) := by decide +kernel
theorem dX8_trial_40 : decode prog_10_method_112_code 40 = .ok (.iload_n 2, 1) := by decide +kernel
theorem dX8_trial_41 : decode prog_10_method_112_code 41 = .ok (.ifCond .eq 21, 3) := by decide +kernel
theorem dX8_trial_44 : decode prog_10_method_112_code 44 = .ok (.aload_n 0, 1) := by decide +kernel
theorem dX8_trial_45 : decode prog_10_method_112_code 45 = .ok (.getfield 7, 3) := by decide +kernel
theorem dX8_trial_48 : decode prog_10_method_112_code 48 = .ok (.bipush 9, 2) := by decide +kernel
theorem dX8_trial_50 : decode prog_10_method_112_code 50 = .ok (.iaload, 1) := by decide +kernel
theorem dX8_trial_51 : decode prog_10_method_112_code 51 = .ok (.aload_n 0, 1) := by decide +kernel
theorem dX8_trial_52 : decode prog_10_method_112_code 52 = .ok (.getfield 7, 3) := by decide +kernel
theorem dX8_trial_55 : decode prog_10_method_112_code 55 = .ok (.bipush 10, 2) := by decide +kernel
theorem dX8_trial_57 : decode prog_10_method_112_code 57 = .ok (.iaload, 1) := by decide +kernel
theorem dX8_trial_58 : decode prog_10_method_112_code 58 = .ok (.iadd, 1) := by decide +kernel
theorem dX8_trial_59 : decode prog_10_method_112_code 59 = .ok (.goto 8, 3) := by decide +kernel
theorem dX8_trial_62 : decode prog_10_method_112_code 62 = .ok (.aload_n 0, 1) := by decide +kernel
theorem dX8_trial_63 : decode prog_10_method_112_code 63 = .ok (.iconst 2, 1) := by decide +kernel
theorem dX8_trial_64 : decode prog_10_method_112_code 64 = .ok (.invokevirtual 325, 3) := by decide +kernel
theorem dX8_trial_67 : decode prog_10_method_112_code 67 = .ok (.istore 4, 2) := by decide +kernel
theorem dX8_trial_69 : decode prog_10_method_112_code 69 = .ok (.aload_n 0, 1) := by decide +kernel
theorem dX8_trial_70 : decode prog_10_method_112_code 70 = .ok (.invokevirtual 155, 3) := by decide +kernel
theorem dX8_trial_73 : decode prog_10_method_112_code 73 = .ok (.iload 4, 2) := by decide +kernel
theorem dX8_trial_75 : decode prog_10_method_112_code 75 = .ok (.ireturn, 1) := by decide +kernel
theorem dX8_span_0 : decode prog_10_method_113_code 0 = .ok (.aload_n 0, 1) := by decide +kernel
theorem dX8_span_1 : decode prog_10_method_113_code 1 = .ok (.iload_n 1, 1) := by decide +kernel
theorem dX8_span_2 : decode prog_10_method_113_code 2 = .ok (.iconst 0, 1) := by decide +kernel
theorem dX8_span_3 : decode prog_10_method_113_code 3 = .ok (.sipush 400, 3) := by decide +kernel
theorem dX8_span_6 : decode prog_10_method_113_code 6 = .ok (.invokestatic 42, 3) := by decide +kernel
theorem dX8_span_9 : decode prog_10_method_113_code 9 = .ok (.ifCond .ne 7, 3) := by decide +kernel
theorem dX8_span_12 : decode prog_10_method_113_code 12 = .ok (.iconst 1, 1) := by decide +kernel
theorem dX8_span_13 : decode prog_10_method_113_code 13 = .ok (.goto 4, 3) := by decide +kernel
theorem dX8_span_16 : decode prog_10_method_113_code 16 = .ok (.iconst 0, 1) := by decide +kernel
theorem dX8_span_17 : decode prog_10_method_113_code 17 = .ok (.putfield 39, 3) := by decide +kernel
theorem dX8_span_20 : decode prog_10_method_113_code 20 = .ok (.aload_n 0, 1) := by decide +kernel
theorem dX8_span_21 : decode prog_10_method_113_code 21 = .ok (.getfield 39, 3) := by decide +kernel
theorem dX8_span_24 : decode prog_10_method_113_code 24 = .ok (.ifCond .le 5, 3) := by decide +kernel
theorem dX8_span_27 : decode prog_10_method_113_code 27 = .ok (.iconst 0, 1) := by decide +kernel
theorem dX8_span_28 : decode prog_10_method_113_code 28 = .ok (.ireturn, 1) := by decide +kernel
theorem dX8_span_29 : decode prog_10_method_113_code 29 = .ok (.aload_n 0, 1) := by decide +kernel
theorem dX8_span_30 : decode prog_10_method_113_code 30 = .ok (.invokevirtual 145, 3) := by decide +kernel
theorem dX8_span_33 : decode prog_10_method_113_code 33 = .ok (.iconst (-1), 1) := by decide +kernel
theorem dX8_span_34 : decode prog_10_method_113_code 34 = .ok (.istore_n 3, 1) := by decide +kernel
theorem dX8_span_35 : decode prog_10_method_113_code 35 = .ok (.iconst 1, 1) := by decide +kernel
theorem dX8_span_36 : decode prog_10_method_113_code 36 = .ok (.istore 4, 2) := by decide +kernel
theorem dX8_span_38 : decode prog_10_method_113_code 38 = .ok (.iload 4, 2) := by decide +kernel
theorem dX8_span_40 : decode prog_10_method_113_code 40 = .ok (.bipush 6, 2) := by decide +kernel
theorem dX8_span_42 : decode prog_10_method_113_code 42 = .ok (.if_icmp .gt 67, 3) := by decide +kernel
theorem dX8_span_45 : decode prog_10_method_113_code 45 = .ok (.aload_n 0, 1) := by decide +kernel
theorem dX8_span_46 : decode prog_10_method_113_code 46 = .ok (.getfield 7, 3) := by decide +kernel
theorem dX8_span_49 : decode prog_10_method_113_code 49 = .ok (.bipush 12, 2) := by decide +kernel
theorem dX8_span_51 : decode prog_10_method_113_code 51 = .ok (.iload 4, 2) := by decide +kernel
theorem dX8_span_53 : decode prog_10_method_113_code 53 = .ok (.iastore, 1) := by decide +kernel
theorem dX8_span_54 : decode prog_10_method_113_code 54 = .ok (.aload_n 0, 1) := by decide +kernel
theorem dX8_span_55 : decode prog_10_method_113_code 55 = .ok (.iload_n 1, 1) := by decide +kernel
theorem dX8_span_56 : decode prog_10_method_113_code 56 = .ok (.iconst 1, 1) := by decide +kernel
theorem dX8_span_57 : decode prog_10_method_113_code 57 = .ok (.invokevirtual 298, 3) := by decide +kernel
theorem dX8_span_60 : decode prog_10_method_113_code 60 = .ok (.istore 5, 2) := by decide +kernel
theorem dX8_span_62 : decode prog_10_method_113_code 62 = .ok (.aload_n 0, 1) := by decide +kernel
theorem dX8_span_63 : decode prog_10_method_113_code 63 = .ok (.iconst 2, 1) := by decide +kernel
theorem dX8_span_64 : decode prog_10_method_113_code 64 = .ok (.invokevirtual 325, 3) := by decide +kernel
theorem dX8_span_67 : decode prog_10_method_113_code 67 = .ok (.istore 6, 2) := by decide +kernel
theorem dX8_span_69 : decode prog_10_method_113_code 69 = .ok (.aload_n 0, 1) := by decide +kernel
theorem dX8_span_70 : decode prog_10_method_113_code 70 = .ok (.invokevirtual 155, 3) := by decide +kernel
theorem dX8_span_73 : decode prog_10_method_113_code 73 = .ok (.iload_n 3, 1) := by decide +kernel
theorem dX8_span_74 : decode prog_10_method_113_code 74 = .ok (.iconst (-1), 1) := by decide +kernel
theorem dX8_span_75 : decode prog_10_method_113_code 75 = .ok (.if_icmp .ne 8, 3) := by decide +kernel
theorem dX8_span_78 : decode prog_10_method_113_code 78 = .ok (.iload 6, 2) := by decide +kernel
theorem dX8_span_80 : decode prog_10_method_113_code 80 = .ok (.goto 22, 3) := by decide +kernel
theorem dX8_span_83 : decode prog_10_method_113_code 83 = .ok (.iload_n 2, 1) := by decide +kernel
theorem dX8_span_84 : decode prog_10_method_113_code 84 = .ok (.ifCond .eq 12, 3) := by decide +kernel
theorem dX8_span_87 : decode prog_10_method_113_code 87 = .ok (.iload_n 3, 1) := by decide +kernel
theorem dX8_span_88 : decode prog_10_method_113_code 88 = .ok (.iload 6, 2) := by decide +kernel
theorem dX8_span_90 : decode prog_10_method_113_code 90 = .ok (.invokestatic 219, 3) := by decide +kernel
theorem dX8_span_93 : decode prog_10_method_113_code 93 = .ok (.goto 9, 3) := by decide +kernel
theorem dX8_span_96 : decode prog_10_method_113_code 96 = .ok (.iload_n 3, 1) := by decide +kernel
theorem dX8_span_97 : decode prog_10_method_113_code 97 = .ok (.iload 6, 2) := by decide +kernel
theorem dX8_span_99 : decode prog_10_method_113_code 99 = .ok (.invokestatic 222, 3) := by decide +kernel
theorem dX8_span_102 : decode prog_10_method_113_code 102 = .ok (.istore_n 3, 1) := by decide +kernel
theorem dX8_span_103 : decode prog_10_method_113_code 103 = .ok (.iinc 4 1, 3) := by decide +kernel
theorem dX8_span_106 : decode prog_10_method_113_code 106 = .ok (.goto (-68), 3) := by decide +kernel
theorem dX8_span_109 : decode prog_10_method_113_code 109 = .ok (.iload_n 3, 1) := by decide +kernel
theorem dX8_span_110 : decode prog_10_method_113_code 110 = .ok (.ireturn, 1) := by decide +kernel
theorem dX8_led_0 : decode prog_10_method_115_code 0 = .ok (.aload_n 0, 1) := by decide +kernel
theorem dX8_led_1 : decode prog_10_method_115_code 1 = .ok (.iload_n 1, 1) := by decide +kernel
theorem dX8_led_2 : decode prog_10_method_115_code 2 = .ok (.iconst 0, 1) := by decide +kernel
theorem dX8_led_3 : decode prog_10_method_115_code 3 = .ok (.iconst 1, 1) := by decide +kernel
theorem dX8_led_4 : decode prog_10_method_115_code 4 = .ok (.invokestatic 42, 3) := by decide +kernel
theorem dX8_led_7 : decode prog_10_method_115_code 7 = .ok (.ifCond .ne 7, 3) := by decide +kernel
theorem dX8_led_10 : decode prog_10_method_115_code 10 = .ok (.iconst 1, 1) := by decide +kernel
theorem dX8_led_11 : decode prog_10_method_115_code 11 = .ok (.goto 4, 3) := by decide +kernel
theorem dX8_led_14 : decode prog_10_method_115_code 14 = .ok (.iconst 0, 1) := by decide +kernel
theorem dX8_led_15 : decode prog_10_method_115_code 15 = .ok (.putfield 39, 3) := by decide +kernel
theorem dX8_led_18 : decode prog_10_method_115_code 18 = .ok (.iconst 0, 1) := by decide +kernel
theorem dX8_led_19 : decode prog_10_method_115_code 19 = .ok (.istore_n 3, 1) := by decide +kernel
theorem dX8_led_20 : decode prog_10_method_115_code 20 = .ok (.iconst 0, 1) := by decide +kernel
theorem dX8_led_21 : decode prog_10_method_115_code 21 = .ok (.istore 4, 2) := by decide +kernel
theorem dX8_led_23 : decode prog_10_method_115_code 23 = .ok (.iload 4, 2) := by decide +kernel
theorem dX8_led_25 : decode prog_10_method_115_code 25 = .ok (.aload_n 0, 1) := by decide +kernel
theorem dX8_led_26 : decode prog_10_method_115_code 26 = .ok (.getfield 7, 3) := by decide +kernel
theorem dX8_led_29 : decode prog_10_method_115_code 29 = .ok (.bipush 11, 2) := by decide +kernel
theorem dX8_led_31 : decode prog_10_method_115_code 31 = .ok (.iaload, 1) := by decide +kernel
theorem dX8_led_32 : decode prog_10_method_115_code 32 = .ok (.if_icmp .ge 49, 3) := by decide +kernel
theorem dX8_led_35 : decode prog_10_method_115_code 35 = .ok (.aload_n 0, 1) := by decide +kernel
theorem dX8_led_36 : decode prog_10_method_115_code 36 = .ok (.getfield 39, 3) := by decide +kernel
theorem dX8_led_39 : decode prog_10_method_115_code 39 = .ok (.ifCond .ne 42, 3) := by decide +kernel
theorem dX8_led_42 : decode prog_10_method_115_code 42 = .ok (.iload_n 3, 1) := by decide +kernel
theorem dX8_led_43 : decode prog_10_method_115_code 43 = .ok (.aload_n 0, 1) := by decide +kernel
theorem dX8_led_44 : decode prog_10_method_115_code 44 = .ok (.iload 4, 2) := by decide +kernel
theorem dX8_led_46 : decode prog_10_method_115_code 46 = .ok (.iconst 1, 1) := by decide +kernel
theorem dX8_led_47 : decode prog_10_method_115_code 47 = .ok (.invokevirtual 340, 3) := by decide +kernel
theorem dX8_led_50 : decode prog_10_method_115_code 50 = .ok (.iload_n 1, 1) := by decide +kernel
theorem dX8_led_51 : decode prog_10_method_115_code 51 = .ok (.if_icmp .eq 7, 3) := by decide +kernel
theorem dX8_led_54 : decode prog_10_method_115_code 54 = .ok (.iconst 0, 1) := by decide +kernel
theorem dX8_led_55 : decode prog_10_method_115_code 55 = .ok (.goto 18, 3) := by decide +kernel
theorem dX8_led_58 : decode prog_10_method_115_code 58 = .ok (.iload_n 2, 1) := by decide +kernel
theorem dX8_led_59 : decode prog_10_method_115_code 59 = .ok (.ifCond .eq 13, 3) := by decide +kernel
theorem dX8_led_62 : decode prog_10_method_115_code 62 = .ok (.aload_n 0, 1) := by decide +kernel
theorem dX8_led_63 : decode prog_10_method_115_code 63 = .ok (.iload 4, 2) := by decide +kernel
theorem dX8_led_65 : decode prog_10_method_115_code 65 = .ok (.iconst 3, 1) := by decide +kernel
theorem dX8_led_66 : decode prog_10_method_115_code 66 = .ok (.invokevirtual 340, 3) := by decide +kernel
theorem dX8_led_69 : decode prog_10_method_115_code 69 = .ok (.goto 4, 3) := by decide +kernel
theorem dX8_led_72 : decode prog_10_method_115_code 72 = .ok (.iconst 1, 1) := by decide +kernel
theorem dX8_led_73 : decode prog_10_method_115_code 73 = .ok (.iadd, 1) := by decide +kernel
theorem dX8_led_74 : decode prog_10_method_115_code 74 = .ok (.istore_n 3, 1) := by decide +kernel
theorem dX8_led_75 : decode prog_10_method_115_code 75 = .ok (.iinc 4 1, 3) := by decide +kernel
theorem dX8_led_78 : decode prog_10_method_115_code 78 = .ok (.goto (-55), 3) := by decide +kernel
theorem dX8_led_81 : decode prog_10_method_115_code 81 = .ok (.iload_n 3, 1) := by decide +kernel
theorem dX8_led_82 : decode prog_10_method_115_code 82 = .ok (.ireturn, 1) := by decide +kernel
theorem dX8_logged_0 : decode prog_10_method_114_code 0 = .ok (.aload_n 0, 1) := by decide +kernel
theorem dX8_logged_1 : decode prog_10_method_114_code 1 = .ok (.getfield 7, 3) := by decide +kernel
theorem dX8_logged_4 : decode prog_10_method_114_code 4 = .ok (.bipush 110, 2) := by decide +kernel
theorem dX8_logged_6 : decode prog_10_method_114_code 6 = .ok (.iconst 4, 1) := by decide +kernel
theorem dX8_logged_7 : decode prog_10_method_114_code 7 = .ok (.iload_n 1, 1) := by decide +kernel
theorem dX8_logged_8 : decode prog_10_method_114_code 8 = .ok (.imul, 1) := by decide +kernel
theorem dX8_logged_9 : decode prog_10_method_114_code 9 = .ok (.iadd, 1) := by decide +kernel
theorem dX8_logged_10 : decode prog_10_method_114_code 10 = .ok (.iload_n 2, 1) := by decide +kernel
theorem dX8_logged_11 : decode prog_10_method_114_code 11 = .ok (.iadd, 1) := by decide +kernel
theorem dX8_logged_12 : decode prog_10_method_114_code 12 = .ok (.iaload, 1) := by decide +kernel
theorem dX8_logged_13 : decode prog_10_method_114_code 13 = .ok (.ireturn, 1) := by decide +kernel
theorem dX8_log_0 : decode prog_10_method_116_code 0 = .ok (.aload_n 0, 1) := by decide +kernel
theorem dX8_log_1 : decode prog_10_method_116_code 1 = .ok (.iload_n 2, 1) := by decide +kernel
theorem dX8_log_2 : decode prog_10_method_116_code 2 = .ok (.iconst 0, 1) := by decide +kernel
theorem dX8_log_3 : decode prog_10_method_116_code 3 = .ok (.iconst 3, 1) := by decide +kernel
theorem dX8_log_4 : decode prog_10_method_116_code 4 = .ok (.invokestatic 42, 3) := by decide +kernel
theorem dX8_log_7 : decode prog_10_method_116_code 7 = .ok (.ifCond .ne 7, 3) := by decide +kernel
theorem dX8_log_10 : decode prog_10_method_116_code 10 = .ok (.iconst 1, 1) := by decide +kernel
theorem dX8_log_11 : decode prog_10_method_116_code 11 = .ok (.goto 4, 3) := by decide +kernel
theorem dX8_log_14 : decode prog_10_method_116_code 14 = .ok (.iconst 0, 1) := by decide +kernel
theorem dX8_log_15 : decode prog_10_method_116_code 15 = .ok (.putfield 39, 3) := by decide +kernel
theorem dX8_log_18 : decode prog_10_method_116_code 18 = .ok (.aload_n 0, 1) := by decide +kernel
theorem dX8_log_19 : decode prog_10_method_116_code 19 = .ok (.getfield 39, 3) := by decide +kernel
theorem dX8_log_22 : decode prog_10_method_116_code 22 = .ok (.ifCond .le 5, 3) := by decide +kernel
theorem dX8_log_25 : decode prog_10_method_116_code 25 = .ok (.iconst 0, 1) := by decide +kernel
theorem dX8_log_26 : decode prog_10_method_116_code 26 = .ok (.ireturn, 1) := by decide +kernel
theorem dX8_log_27 : decode prog_10_method_116_code 27 = .ok (.iload_n 1, 1) := by decide +kernel
theorem dX8_log_28 : decode prog_10_method_116_code 28 = .ok (.iconst 0, 1) := by decide +kernel
theorem dX8_log_29 : decode prog_10_method_116_code 29 = .ok (.aload_n 0, 1) := by decide +kernel
theorem dX8_log_30 : decode prog_10_method_116_code 30 = .ok (.getfield 7, 3) := by decide +kernel
theorem dX8_log_33 : decode prog_10_method_116_code 33 = .ok (.bipush 11, 2) := by decide +kernel
theorem dX8_log_35 : decode prog_10_method_116_code 35 = .ok (.iaload, 1) := by decide +kernel
theorem dX8_log_36 : decode prog_10_method_116_code 36 = .ok (.iconst 1, 1) := by decide +kernel
theorem dX8_log_37 : decode prog_10_method_116_code 37 = .ok (.isub, 1) := by decide +kernel
theorem dX8_log_38 : decode prog_10_method_116_code 38 = .ok (.invokestatic 42, 3) := by decide +kernel
theorem dX8_log_41 : decode prog_10_method_116_code 41 = .ok (.ifCond .eq 12, 3) := by decide +kernel
theorem dX8_log_44 : decode prog_10_method_116_code 44 = .ok (.aload_n 0, 1) := by decide +kernel
theorem dX8_log_45 : decode prog_10_method_116_code 45 = .ok (.iload_n 1, 1) := by decide +kernel
theorem dX8_log_46 : decode prog_10_method_116_code 46 = .ok (.iload_n 2, 1) := by decide +kernel
theorem dX8_log_47 : decode prog_10_method_116_code 47 = .ok (.invokevirtual 340, 3) := by decide +kernel
theorem dX8_log_50 : decode prog_10_method_116_code 50 = .ok (.goto 4, 3) := by decide +kernel
theorem dX8_log_53 : decode prog_10_method_116_code 53 = .ok (.iconst (-1), 1) := by decide +kernel
theorem dX8_log_54 : decode prog_10_method_116_code 54 = .ok (.ireturn, 1) := by decide +kernel
theorem dX8_seed_0 : decode prog_10_method_117_code 0 = .ok (.aload_n 0, 1) := by decide +kernel
theorem dX8_seed_1 : decode prog_10_method_117_code 1 = .ok (.iconst 0, 1) := by decide +kernel
theorem dX8_seed_2 : decode prog_10_method_117_code 2 = .ok (.putfield 39, 3) := by decide +kernel
theorem dX8_seed_5 : decode prog_10_method_117_code 5 = .ok (.aload_n 0, 1) := by decide +kernel
theorem dX8_seed_6 : decode prog_10_method_117_code 6 = .ok (.getfield 7, 3) := by decide +kernel
theorem dX8_seed_9 : decode prog_10_method_117_code 9 = .ok (.bipush 12, 2) := by decide +kernel
theorem dX8_seed_11 : decode prog_10_method_117_code 11 = .ok (.iaload, 1) := by decide +kernel
theorem dX8_seed_12 : decode prog_10_method_117_code 12 = .ok (.istore_n 2, 1) := by decide +kernel
theorem dX8_seed_13 : decode prog_10_method_117_code 13 = .ok (.aload_n 0, 1) := by decide +kernel
theorem dX8_seed_14 : decode prog_10_method_117_code 14 = .ok (.getfield 7, 3) := by decide +kernel
theorem dX8_seed_17 : decode prog_10_method_117_code 17 = .ok (.bipush 12, 2) := by decide +kernel
theorem dX8_seed_19 : decode prog_10_method_117_code 19 = .ok (.iload_n 1, 1) := by decide +kernel
theorem dX8_seed_20 : decode prog_10_method_117_code 20 = .ok (.iastore, 1) := by decide +kernel
theorem dX8_seed_21 : decode prog_10_method_117_code 21 = .ok (.iload_n 2, 1) := by decide +kernel
theorem dX8_seed_22 : decode prog_10_method_117_code 22 = .ok (.ireturn, 1) := by decide +kernel
theorem dX8_undo_0 : decode prog_10_method_118_code 0 = .ok (.aload_n 0, 1) := by decide +kernel
theorem dX8_undo_1 : decode prog_10_method_118_code 1 = .ok (.iconst 0, 1) := by decide +kernel
theorem dX8_undo_2 : decode prog_10_method_118_code 2 = .ok (.putfield 39, 3) := by decide +kernel
theorem dX8_undo_5 : decode prog_10_method_118_code 5 = .ok (.aload_n 0, 1) := by decide +kernel
theorem dX8_undo_6 : decode prog_10_method_118_code 6 = .ok (.getfield 158, 3) := by decide +kernel
theorem dX8_undo_9 : decode prog_10_method_118_code 9 = .ok (.ifCond .ne 5, 3) := by decide +kernel
theorem dX8_undo_12 : decode prog_10_method_118_code 12 = .ok (.iconst 0, 1) := by decide +kernel
theorem dX8_undo_13 : decode prog_10_method_118_code 13 = .ok (.ireturn, 1) := by decide +kernel
theorem dX8_undo_14 : decode prog_10_method_118_code 14 = .ok (.aload_n 0, 1) := by decide +kernel
theorem dX8_undo_15 : decode prog_10_method_118_code 15 = .ok (.dup, 1) := by decide +kernel
theorem dX8_undo_16 : decode prog_10_method_118_code 16 = .ok (.getfield 158, 3) := by decide +kernel
theorem dX8_undo_19 : decode prog_10_method_118_code 19 = .ok (.iconst 1, 1) := by decide +kernel
theorem dX8_undo_20 : decode prog_10_method_118_code 20 = .ok (.isub, 1) := by decide +kernel
theorem dX8_undo_21 : decode prog_10_method_118_code 21 = .ok (.putfield 158, 3) := by decide +kernel
theorem dX8_undo_24 : decode prog_10_method_118_code 24 = .ok (.iconst 0, 1) := by decide +kernel
theorem dX8_undo_25 : decode prog_10_method_118_code 25 = .ok (.istore_n 1, 1) := by decide +kernel
theorem dX8_undo_26 : decode prog_10_method_118_code 26 = .ok (.iload_n 1, 1) := by decide +kernel
theorem dX8_undo_27 : decode prog_10_method_118_code 27 = .ok (.sipush 350, 3) := by decide +kernel
theorem dX8_undo_30 : decode prog_10_method_118_code 30 = .ok (.if_icmp .ge 30, 3) := by decide +kernel
theorem dX8_undo_33 : decode prog_10_method_118_code 33 = .ok (.aload_n 0, 1) := by decide +kernel
theorem dX8_undo_34 : decode prog_10_method_118_code 34 = .ok (.getfield 7, 3) := by decide +kernel
theorem dX8_undo_37 : decode prog_10_method_118_code 37 = .ok (.iload_n 1, 1) := by decide +kernel
theorem dX8_undo_38 : decode prog_10_method_118_code 38 = .ok (.aload_n 0, 1) := by decide +kernel
theorem dX8_undo_39 : decode prog_10_method_118_code 39 = .ok (.getfield 19, 3) := by decide +kernel
theorem dX8_undo_42 : decode prog_10_method_118_code 42 = .ok (.sipush 350, 3) := by decide +kernel
theorem dX8_undo_45 : decode prog_10_method_118_code 45 = .ok (.aload_n 0, 1) := by decide +kernel
theorem dX8_undo_46 : decode prog_10_method_118_code 46 = .ok (.getfield 158, 3) := by decide +kernel
theorem dX8_undo_49 : decode prog_10_method_118_code 49 = .ok (.imul, 1) := by decide +kernel
theorem dX8_undo_50 : decode prog_10_method_118_code 50 = .ok (.iload_n 1, 1) := by decide +kernel
theorem dX8_undo_51 : decode prog_10_method_118_code 51 = .ok (.iadd, 1) := by decide +kernel
theorem dX8_undo_52 : decode prog_10_method_118_code 52 = .ok (.iaload, 1) := by decide +kernel
theorem dX8_undo_53 : decode prog_10_method_118_code 53 = .ok (.iastore, 1) := by decide +kernel
theorem dX8_undo_54 : decode prog_10_method_118_code 54 = .ok (.iinc 1 1, 3) := by decide +kernel
theorem dX8_undo_57 : decode prog_10_method_118_code 57 = .ok (.goto (-31), 3) := by decide +kernel
theorem dX8_undo_60 : decode prog_10_method_118_code 60 = .ok (.iconst 1, 1) := by decide +kernel
theorem dX8_undo_61 : decode prog_10_method_118_code 61 = .ok (.ireturn, 1) := by decide +kernel
theorem dX8_image_0 : decode prog_10_method_119_code 0 = .ok (.aload_n 0, 1) := by decide +kernel
theorem dX8_image_1 : decode prog_10_method_119_code 1 = .ok (.iconst 0, 1) := by decide +kernel
theorem dX8_image_2 : decode prog_10_method_119_code 2 = .ok (.putfield 39, 3) := by decide +kernel
theorem dX8_image_5 : decode prog_10_method_119_code 5 = .ok (.iconst 0, 1) := by decide +kernel
theorem dX8_image_6 : decode prog_10_method_119_code 6 = .ok (.istore_n 1, 1) := by decide +kernel
theorem dX8_image_7 : decode prog_10_method_119_code 7 = .ok (.iload_n 1, 1) := by decide +kernel
theorem dX8_image_8 : decode prog_10_method_119_code 8 = .ok (.sipush 750, 3) := by decide +kernel
theorem dX8_image_11 : decode prog_10_method_119_code 11 = .ok (.if_icmp .ge 21, 3) := by decide +kernel
theorem dX8_image_14 : decode prog_10_method_119_code 14 = .ok (.aload_n 0, 1) := by decide +kernel
theorem dX8_image_15 : decode prog_10_method_119_code 15 = .ok (.getfield 13, 3) := by decide +kernel
theorem dX8_image_18 : decode prog_10_method_119_code 18 = .ok (.iload_n 1, 1) := by decide +kernel
theorem dX8_image_19 : decode prog_10_method_119_code 19 = .ok (.aload_n 0, 1) := by decide +kernel
theorem dX8_image_20 : decode prog_10_method_119_code 20 = .ok (.getfield 7, 3) := by decide +kernel
theorem dX8_image_23 : decode prog_10_method_119_code 23 = .ok (.iload_n 1, 1) := by decide +kernel
theorem dX8_image_24 : decode prog_10_method_119_code 24 = .ok (.iaload, 1) := by decide +kernel
theorem dX8_image_25 : decode prog_10_method_119_code 25 = .ok (.iastore, 1) := by decide +kernel
theorem dX8_image_26 : decode prog_10_method_119_code 26 = .ok (.iinc 1 1, 3) := by decide +kernel
theorem dX8_image_29 : decode prog_10_method_119_code 29 = .ok (.goto (-22), 3) := by decide +kernel
theorem dX8_image_32 : decode prog_10_method_119_code 32 = .ok (.aload_n 0, 1) := by decide +kernel
theorem dX8_image_33 : decode prog_10_method_119_code 33 = .ok (.iconst 1, 1) := by decide +kernel
theorem dX8_image_34 : decode prog_10_method_119_code 34 = .ok (.putfield 337, 3) := by decide +kernel
theorem dX8_image_37 : decode prog_10_method_119_code 37 = .ok (.return_, 1) := by decide +kernel
theorem dX8_back_0 : decode prog_10_method_120_code 0 = .ok (.aload_n 0, 1) := by decide +kernel
theorem dX8_back_1 : decode prog_10_method_120_code 1 = .ok (.iconst 0, 1) := by decide +kernel
theorem dX8_back_2 : decode prog_10_method_120_code 2 = .ok (.putfield 39, 3) := by decide +kernel
theorem dX8_back_5 : decode prog_10_method_120_code 5 = .ok (.aload_n 0, 1) := by decide +kernel
theorem dX8_back_6 : decode prog_10_method_120_code 6 = .ok (.getfield 337, 3) := by decide +kernel
theorem dX8_back_9 : decode prog_10_method_120_code 9 = .ok (.ifCond .ne 5, 3) := by decide +kernel
theorem dX8_back_12 : decode prog_10_method_120_code 12 = .ok (.iconst 0, 1) := by decide +kernel
theorem dX8_back_13 : decode prog_10_method_120_code 13 = .ok (.ireturn, 1) := by decide +kernel
theorem dX8_back_14 : decode prog_10_method_120_code 14 = .ok (.iconst 0, 1) := by decide +kernel
theorem dX8_back_15 : decode prog_10_method_120_code 15 = .ok (.istore_n 1, 1) := by decide +kernel
theorem dX8_back_16 : decode prog_10_method_120_code 16 = .ok (.iload_n 1, 1) := by decide +kernel
theorem dX8_back_17 : decode prog_10_method_120_code 17 = .ok (.sipush 750, 3) := by decide +kernel
theorem dX8_back_20 : decode prog_10_method_120_code 20 = .ok (.if_icmp .ge 21, 3) := by decide +kernel
theorem dX8_back_23 : decode prog_10_method_120_code 23 = .ok (.aload_n 0, 1) := by decide +kernel
theorem dX8_back_24 : decode prog_10_method_120_code 24 = .ok (.getfield 7, 3) := by decide +kernel
theorem dX8_back_27 : decode prog_10_method_120_code 27 = .ok (.iload_n 1, 1) := by decide +kernel
theorem dX8_back_28 : decode prog_10_method_120_code 28 = .ok (.aload_n 0, 1) := by decide +kernel
theorem dX8_back_29 : decode prog_10_method_120_code 29 = .ok (.getfield 13, 3) := by decide +kernel
theorem dX8_back_32 : decode prog_10_method_120_code 32 = .ok (.iload_n 1, 1) := by decide +kernel
theorem dX8_back_33 : decode prog_10_method_120_code 33 = .ok (.iaload, 1) := by decide +kernel
theorem dX8_back_34 : decode prog_10_method_120_code 34 = .ok (.iastore, 1) := by decide +kernel
theorem dX8_back_35 : decode prog_10_method_120_code 35 = .ok (.iinc 1 1, 3) := by decide +kernel
theorem dX8_back_38 : decode prog_10_method_120_code 38 = .ok (.goto (-22), 3) := by decide +kernel
theorem dX8_back_41 : decode prog_10_method_120_code 41 = .ok (.aload_n 0, 1) := by decide +kernel
theorem dX8_back_42 : decode prog_10_method_120_code 42 = .ok (.iconst 0, 1) := by decide +kernel
theorem dX8_back_43 : decode prog_10_method_120_code 43 = .ok (.putfield 158, 3) := by decide +kernel
theorem dX8_back_46 : decode prog_10_method_120_code 46 = .ok (.iconst 1, 1) := by decide +kernel
theorem dX8_back_47 : decode prog_10_method_120_code 47 = .ok (.ireturn, 1) := by decide +kernel
theorem dX8_count_0 : decode prog_10_method_121_code 0 = .ok (.aload_n 0, 1) := by decide +kernel
theorem dX8_count_1 : decode prog_10_method_121_code 1 = .ok (.iconst 0, 1) := by decide +kernel
theorem dX8_count_2 : decode prog_10_method_121_code 2 = .ok (.putfield 39, 3) := by decide +kernel
theorem dX8_count_5 : decode prog_10_method_121_code 5 = .ok (.iload_n 1, 1) := by decide +kernel
theorem dX8_count_6 : decode prog_10_method_121_code 6 = .ok (.ifCond .ne 10, 3) := by decide +kernel
theorem dX8_count_9 : decode prog_10_method_121_code 9 = .ok (.aload_n 0, 1) := by decide +kernel
theorem dX8_count_10 : decode prog_10_method_121_code 10 = .ok (.getfield 7, 3) := by decide +kernel
theorem dX8_count_13 : decode prog_10_method_121_code 13 = .ok (.iconst 3, 1) := by decide +kernel
theorem dX8_count_14 : decode prog_10_method_121_code 14 = .ok (.iaload, 1) := by decide +kernel
theorem dX8_count_15 : decode prog_10_method_121_code 15 = .ok (.ireturn, 1) := by decide +kernel
theorem dX8_count_16 : decode prog_10_method_121_code 16 = .ok (.iload_n 1, 1) := by decide +kernel
theorem dX8_count_17 : decode prog_10_method_121_code 17 = .ok (.iconst 1, 1) := by decide +kernel
theorem dX8_count_18 : decode prog_10_method_121_code 18 = .ok (.if_icmp .ne 10, 3) := by decide +kernel
theorem dX8_count_21 : decode prog_10_method_121_code 21 = .ok (.aload_n 0, 1) := by decide +kernel
theorem dX8_count_22 : decode prog_10_method_121_code 22 = .ok (.getfield 7, 3) := by decide +kernel
theorem dX8_count_25 : decode prog_10_method_121_code 25 = .ok (.iconst 0, 1) := by decide +kernel
theorem dX8_count_26 : decode prog_10_method_121_code 26 = .ok (.iaload, 1) := by decide +kernel
theorem dX8_count_27 : decode prog_10_method_121_code 27 = .ok (.ireturn, 1) := by decide +kernel
theorem dX8_count_28 : decode prog_10_method_121_code 28 = .ok (.iload_n 1, 1) := by decide +kernel
theorem dX8_count_29 : decode prog_10_method_121_code 29 = .ok (.iconst 2, 1) := by decide +kernel
theorem dX8_count_30 : decode prog_10_method_121_code 30 = .ok (.if_icmp .ne 10, 3) := by decide +kernel
theorem dX8_count_33 : decode prog_10_method_121_code 33 = .ok (.aload_n 0, 1) := by decide +kernel
theorem dX8_count_34 : decode prog_10_method_121_code 34 = .ok (.getfield 7, 3) := by decide +kernel
theorem dX8_count_37 : decode prog_10_method_121_code 37 = .ok (.iconst 1, 1) := by decide +kernel
theorem dX8_count_38 : decode prog_10_method_121_code 38 = .ok (.iaload, 1) := by decide +kernel
theorem dX8_count_39 : decode prog_10_method_121_code 39 = .ok (.ireturn, 1) := by decide +kernel
theorem dX8_count_40 : decode prog_10_method_121_code 40 = .ok (.iload_n 1, 1) := by decide +kernel
theorem dX8_count_41 : decode prog_10_method_121_code 41 = .ok (.iconst 3, 1) := by decide +kernel
theorem dX8_count_42 : decode prog_10_method_121_code 42 = .ok (.if_icmp .ne 10, 3) := by decide +kernel
theorem dX8_count_45 : decode prog_10_method_121_code 45 = .ok (.aload_n 0, 1) := by decide +kernel
theorem dX8_count_46 : decode prog_10_method_121_code 46 = .ok (.getfield 7, 3) := by decide +kernel
theorem dX8_count_49 : decode prog_10_method_121_code 49 = .ok (.iconst 4, 1) := by decide +kernel
theorem dX8_count_50 : decode prog_10_method_121_code 50 = .ok (.iaload, 1) := by decide +kernel
theorem dX8_count_51 : decode prog_10_method_121_code 51 = .ok (.ireturn, 1) := by decide +kernel
theorem dX8_count_52 : decode prog_10_method_121_code 52 = .ok (.iload_n 1, 1) := by decide +kernel
theorem dX8_count_53 : decode prog_10_method_121_code 53 = .ok (.iconst 4, 1) := by decide +kernel
theorem dX8_count_54 : decode prog_10_method_121_code 54 = .ok (.if_icmp .ne 8, 3) := by decide +kernel
theorem dX8_count_57 : decode prog_10_method_121_code 57 = .ok (.aload_n 0, 1) := by decide +kernel
theorem dX8_count_58 : decode prog_10_method_121_code 58 = .ok (.invokevirtual 216, 3) := by decide +kernel
theorem dX8_count_61 : decode prog_10_method_121_code 61 = .ok (.ireturn, 1) := by decide +kernel
theorem dX8_count_62 : decode prog_10_method_121_code 62 = .ok (.iload_n 1, 1) := by decide +kernel
theorem dX8_count_63 : decode prog_10_method_121_code 63 = .ok (.iconst 5, 1) := by decide +kernel
theorem dX8_count_64 : decode prog_10_method_121_code 64 = .ok (.if_icmp .ne 10, 3) := by decide +kernel
theorem dX8_count_67 : decode prog_10_method_121_code 67 = .ok (.aload_n 0, 1) := by decide +kernel
theorem dX8_count_68 : decode prog_10_method_121_code 68 = .ok (.getfield 7, 3) := by decide +kernel
theorem dX8_count_71 : decode prog_10_method_121_code 71 = .ok (.iconst 5, 1) := by decide +kernel
theorem dX8_count_72 : decode prog_10_method_121_code 72 = .ok (.iaload, 1) := by decide +kernel
theorem dX8_count_73 : decode prog_10_method_121_code 73 = .ok (.ireturn, 1) := by decide +kernel
theorem dX8_count_74 : decode prog_10_method_121_code 74 = .ok (.iload_n 1, 1) := by decide +kernel
theorem dX8_count_75 : decode prog_10_method_121_code 75 = .ok (.bipush 6, 2) := by decide +kernel
theorem dX8_count_77 : decode prog_10_method_121_code 77 = .ok (.if_icmp .ne 8, 3) := by decide +kernel
theorem dX8_count_80 : decode prog_10_method_121_code 80 = .ok (.aload_n 0, 1) := by decide +kernel
theorem dX8_count_81 : decode prog_10_method_121_code 81 = .ok (.invokevirtual 244, 3) := by decide +kernel
theorem dX8_count_84 : decode prog_10_method_121_code 84 = .ok (.ireturn, 1) := by decide +kernel
theorem dX8_count_85 : decode prog_10_method_121_code 85 = .ok (.iload_n 1, 1) := by decide +kernel
theorem dX8_count_86 : decode prog_10_method_121_code 86 = .ok (.bipush 7, 2) := by decide +kernel
theorem dX8_count_88 : decode prog_10_method_121_code 88 = .ok (.if_icmp .ne 11, 3) := by decide +kernel
theorem dX8_count_91 : decode prog_10_method_121_code 91 = .ok (.aload_n 0, 1) := by decide +kernel
theorem dX8_count_92 : decode prog_10_method_121_code 92 = .ok (.getfield 7, 3) := by decide +kernel
theorem dX8_count_95 : decode prog_10_method_121_code 95 = .ok (.bipush 6, 2) := by decide +kernel
theorem dX8_count_97 : decode prog_10_method_121_code 97 = .ok (.iaload, 1) := by decide +kernel
theorem dX8_count_98 : decode prog_10_method_121_code 98 = .ok (.ireturn, 1) := by decide +kernel
theorem dX8_count_99 : decode prog_10_method_121_code 99 = .ok (.iload_n 1, 1) := by decide +kernel
theorem dX8_count_100 : decode prog_10_method_121_code 100 = .ok (.bipush 8, 2) := by decide +kernel
theorem dX8_count_102 : decode prog_10_method_121_code 102 = .ok (.if_icmp .ne 9, 3) := by decide +kernel
theorem dX8_count_105 : decode prog_10_method_121_code 105 = .ok (.aload_n 0, 1) := by decide +kernel
theorem dX8_count_106 : decode prog_10_method_121_code 106 = .ok (.iconst 2, 1) := by decide +kernel
theorem dX8_count_107 : decode prog_10_method_121_code 107 = .ok (.invokevirtual 325, 3) := by decide +kernel
theorem dX8_count_110 : decode prog_10_method_121_code 110 = .ok (.ireturn, 1) := by decide +kernel
theorem dX8_count_111 : decode prog_10_method_121_code 111 = .ok (.iload_n 1, 1) := by decide +kernel
theorem dX8_count_112 : decode prog_10_method_121_code 112 = .ok (.bipush 9, 2) := by decide +kernel
theorem dX8_count_114 : decode prog_10_method_121_code 114 = .ok (.if_icmp .ne 9, 3) := by decide +kernel
theorem dX8_count_117 : decode prog_10_method_121_code 117 = .ok (.aload_n 0, 1) := by decide +kernel
theorem dX8_count_118 : decode prog_10_method_121_code 118 = .ok (.iconst 3, 1) := by decide +kernel
theorem dX8_count_119 : decode prog_10_method_121_code 119 = .ok (.invokevirtual 325, 3) := by decide +kernel
theorem dX8_count_122 : decode prog_10_method_121_code 122 = .ok (.ireturn, 1) := by decide +kernel
theorem dX8_count_123 : decode prog_10_method_121_code 123 = .ok (.iload_n 1, 1) := by decide +kernel
theorem dX8_count_124 : decode prog_10_method_121_code 124 = .ok (.bipush 10, 2) := by decide +kernel
theorem dX8_count_126 : decode prog_10_method_121_code 126 = .ok (.if_icmp .ne 11, 3) := by decide +kernel
theorem dX8_count_129 : decode prog_10_method_121_code 129 = .ok (.aload_n 0, 1) := by decide +kernel
theorem dX8_count_130 : decode prog_10_method_121_code 130 = .ok (.getfield 7, 3) := by decide +kernel
theorem dX8_count_133 : decode prog_10_method_121_code 133 = .ok (.bipush 11, 2) := by decide +kernel
theorem dX8_count_135 : decode prog_10_method_121_code 135 = .ok (.iaload, 1) := by decide +kernel
theorem dX8_count_136 : decode prog_10_method_121_code 136 = .ok (.ireturn, 1) := by decide +kernel
theorem dX8_count_137 : decode prog_10_method_121_code 137 = .ok (.iload_n 1, 1) := by decide +kernel
theorem dX8_count_138 : decode prog_10_method_121_code 138 = .ok (.bipush 11, 2) := by decide +kernel
theorem dX8_count_140 : decode prog_10_method_121_code 140 = .ok (.if_icmp .ne 10, 3) := by decide +kernel
theorem dX8_count_143 : decode prog_10_method_121_code 143 = .ok (.aload_n 0, 1) := by decide +kernel
theorem dX8_count_144 : decode prog_10_method_121_code 144 = .ok (.getfield 158, 3) := by decide +kernel
theorem dX8_count_147 : decode prog_10_method_121_code 147 = .ok (.goto 4, 3) := by decide +kernel
theorem dX8_count_150 : decode prog_10_method_121_code 150 = .ok (.iconst (-1), 1) := by decide +kernel
theorem dX8_count_151 : decode prog_10_method_121_code 151 = .ok (.ireturn, 1) := by decide +kernel
