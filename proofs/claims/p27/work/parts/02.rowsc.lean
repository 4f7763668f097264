theorem dX0_init_0 : decode cX0_init 0 = .ok (.aload_n 0, 1) := by decide +kernel
theorem dX0_init_1 : decode cX0_init 1 = .ok (.invokespecial 3, 3) := by decide +kernel
theorem dX0_init_4 : decode cX0_init 4 = .ok (.aload_n 0, 1) := by decide +kernel
theorem dX0_init_5 : decode cX0_init 5 = .ok (.bipush 6, 2) := by decide +kernel
theorem dX0_init_7 : decode cX0_init 7 = .ok (.newarray .int, 2) := by decide +kernel
theorem dX0_init_9 : decode cX0_init 9 = .ok (.putfield 9, 3) := by decide +kernel
theorem dX0_init_12 : decode cX0_init 12 = .ok (.aload_n 0, 1) := by decide +kernel
theorem dX0_init_13 : decode cX0_init 13 = .ok (.bipush 6, 2) := by decide +kernel
theorem dX0_init_15 : decode cX0_init 15 = .ok (.newarray .int, 2) := by decide +kernel
theorem dX0_init_17 : decode cX0_init 17 = .ok (.putfield 15, 3) := by decide +kernel
theorem dX0_init_20 : decode cX0_init 20 = .ok (.aload_n 0, 1) := by decide +kernel
theorem dX0_init_21 : decode cX0_init 21 = .ok (.bipush 6, 2) := by decide +kernel
theorem dX0_init_23 : decode cX0_init 23 = .ok (.newarray .int, 2) := by decide +kernel
theorem dX0_init_25 : decode cX0_init 25 = .ok (.putfield 18, 3) := by decide +kernel
theorem dX0_init_28 : decode cX0_init 28 = .ok (.aload_n 0, 1) := by decide +kernel
theorem dX0_init_29 : decode cX0_init 29 = .ok (.iconst 0, 1) := by decide +kernel
theorem dX0_init_30 : decode cX0_init 30 = .ok (.putfield 21, 3) := by decide +kernel
theorem dX0_init_33 : decode cX0_init 33 = .ok (.return_, 1) := by decide +kernel
theorem dX0_add_0 : decode cX0_add 0 = .ok (.aload_n 0, 1) := by decide +kernel
theorem dX0_add_1 : decode cX0_add 1 = .ok (.getfield 21, 3) := by decide +kernel
theorem dX0_add_4 : decode cX0_add 4 = .ok (.ifCond .lt 12, 3) := by decide +kernel
theorem dX0_add_7 : decode cX0_add 7 = .ok (.aload_n 0, 1) := by decide +kernel
theorem dX0_add_8 : decode cX0_add 8 = .ok (.getfield 21, 3) := by decide +kernel
theorem dX0_add_11 : decode cX0_add 11 = .ok (.bipush 6, 2) := by decide +kernel
theorem dX0_add_13 : decode cX0_add 13 = .ok (.if_icmp .lt 5, 3) := by decide +kernel
theorem dX0_add_16 : decode cX0_add 16 = .ok (.iconst (-1), 1) := by decide +kernel
theorem dX0_add_17 : decode cX0_add 17 = .ok (.ireturn, 1) := by decide +kernel
theorem dX0_add_18 : decode cX0_add 18 = .ok (.aload_n 0, 1) := by decide +kernel
theorem dX0_add_19 : decode cX0_add 19 = .ok (.getfield 9, 3) := by decide +kernel
theorem dX0_add_22 : decode cX0_add 22 = .ok (.aload_n 0, 1) := by decide +kernel
theorem dX0_add_23 : decode cX0_add 23 = .ok (.getfield 21, 3) := by decide +kernel
theorem dX0_add_26 : decode cX0_add 26 = .ok (.iload_n 1, 1) := by decide +kernel
theorem dX0_add_27 : decode cX0_add 27 = .ok (.iastore, 1) := by decide +kernel
theorem dX0_add_28 : decode cX0_add 28 = .ok (.aload_n 0, 1) := by decide +kernel
theorem dX0_add_29 : decode cX0_add 29 = .ok (.getfield 15, 3) := by decide +kernel
theorem dX0_add_32 : decode cX0_add 32 = .ok (.aload_n 0, 1) := by decide +kernel
theorem dX0_add_33 : decode cX0_add 33 = .ok (.getfield 21, 3) := by decide +kernel
theorem dX0_add_36 : decode cX0_add 36 = .ok (.iload_n 2, 1) := by decide +kernel
theorem dX0_add_37 : decode cX0_add 37 = .ok (.iastore, 1) := by decide +kernel
theorem dX0_add_38 : decode cX0_add 38 = .ok (.aload_n 0, 1) := by decide +kernel
theorem dX0_add_39 : decode cX0_add 39 = .ok (.dup, 1) := by decide +kernel
theorem dX0_add_40 : decode cX0_add 40 = .ok (.getfield 21, 3) := by decide +kernel
theorem dX0_add_43 : decode cX0_add 43 = .ok (.iconst 1, 1) := by decide +kernel
theorem dX0_add_44 : decode cX0_add 44 = .ok (.iadd, 1) := by decide +kernel
theorem dX0_add_45 : decode cX0_add 45 = .ok (.putfield 21, 3) := by decide +kernel
theorem dX0_add_48 : decode cX0_add 48 = .ok (.aload_n 0, 1) := by decide +kernel
theorem dX0_add_49 : decode cX0_add 49 = .ok (.getfield 21, 3) := by decide +kernel
theorem dX0_add_52 : decode cX0_add 52 = .ok (.iconst 1, 1) := by decide +kernel
theorem dX0_add_53 : decode cX0_add 53 = .ok (.isub, 1) := by decide +kernel
theorem dX0_add_54 : decode cX0_add 54 = .ok (.ireturn, 1) := by decide +kernel
theorem dX0_has_0 : decode cX0_has 0 = .ok (.iload_n 1, 1) := by decide +kernel
theorem dX0_has_1 : decode cX0_has 1 = .ok (.ifCond .lt 15, 3) := by decide +kernel
theorem dX0_has_4 : decode cX0_has 4 = .ok (.iload_n 1, 1) := by decide +kernel
theorem dX0_has_5 : decode cX0_has 5 = .ok (.aload_n 0, 1) := by decide +kernel
theorem dX0_has_6 : decode cX0_has 6 = .ok (.getfield 21, 3) := by decide +kernel
theorem dX0_has_9 : decode cX0_has 9 = .ok (.if_icmp .ge 7, 3) := by decide +kernel
theorem dX0_has_12 : decode cX0_has 12 = .ok (.iconst 1, 1) := by decide +kernel
theorem dX0_has_13 : decode cX0_has 13 = .ok (.goto 4, 3) := by decide +kernel
theorem dX0_has_16 : decode cX0_has 16 = .ok (.iconst 0, 1) := by decide +kernel
theorem dX0_has_17 : decode cX0_has 17 = .ok (.ireturn, 1) := by decide +kernel
theorem dX0_sumOf_0 : decode cX0_sumOf 0 = .ok (.iload_n 1, 1) := by decide +kernel
theorem dX0_sumOf_1 : decode cX0_sumOf 1 = .ok (.ifCond .lt 21, 3) := by decide +kernel
theorem dX0_sumOf_4 : decode cX0_sumOf 4 = .ok (.iload_n 1, 1) := by decide +kernel
theorem dX0_sumOf_5 : decode cX0_sumOf 5 = .ok (.aload_n 0, 1) := by decide +kernel
theorem dX0_sumOf_6 : decode cX0_sumOf 6 = .ok (.getfield 15, 3) := by decide +kernel
theorem dX0_sumOf_9 : decode cX0_sumOf 9 = .ok (.arraylength, 1) := by decide +kernel
theorem dX0_sumOf_10 : decode cX0_sumOf 10 = .ok (.if_icmp .ge 12, 3) := by decide +kernel
theorem dX0_sumOf_13 : decode cX0_sumOf 13 = .ok (.aload_n 0, 1) := by decide +kernel
theorem dX0_sumOf_14 : decode cX0_sumOf 14 = .ok (.getfield 15, 3) := by decide +kernel
theorem dX0_sumOf_17 : decode cX0_sumOf 17 = .ok (.iload_n 1, 1) := by decide +kernel
theorem dX0_sumOf_18 : decode cX0_sumOf 18 = .ok (.iaload, 1) := by decide +kernel
theorem dX0_sumOf_19 : decode cX0_sumOf 19 = .ok (.goto 4, 3) := by decide +kernel
theorem dX0_sumOf_22 : decode cX0_sumOf 22 = .ok (.iconst 0, 1) := by decide +kernel
theorem dX0_sumOf_23 : decode cX0_sumOf 23 = .ok (.ireturn, 1) := by decide +kernel
theorem dX0_useOf_0 : decode cX0_useOf 0 = .ok (.iload_n 1, 1) := by decide +kernel
theorem dX0_useOf_1 : decode cX0_useOf 1 = .ok (.ifCond .lt 21, 3) := by decide +kernel
theorem dX0_useOf_4 : decode cX0_useOf 4 = .ok (.iload_n 1, 1) := by decide +kernel
theorem dX0_useOf_5 : decode cX0_useOf 5 = .ok (.aload_n 0, 1) := by decide +kernel
theorem dX0_useOf_6 : decode cX0_useOf 6 = .ok (.getfield 18, 3) := by decide +kernel
theorem dX0_useOf_9 : decode cX0_useOf 9 = .ok (.arraylength, 1) := by decide +kernel
theorem dX0_useOf_10 : decode cX0_useOf 10 = .ok (.if_icmp .ge 12, 3) := by decide +kernel
theorem dX0_useOf_13 : decode cX0_useOf 13 = .ok (.aload_n 0, 1) := by decide +kernel
theorem dX0_useOf_14 : decode cX0_useOf 14 = .ok (.getfield 18, 3) := by decide +kernel
theorem dX0_useOf_17 : decode cX0_useOf 17 = .ok (.iload_n 1, 1) := by decide +kernel
theorem dX0_useOf_18 : decode cX0_useOf 18 = .ok (.iaload, 1) := by decide +kernel
theorem dX0_useOf_19 : decode cX0_useOf 19 = .ok (.goto 4, 3) := by decide +kernel
theorem dX0_useOf_22 : decode cX0_useOf 22 = .ok (.iconst 0, 1) := by decide +kernel
theorem dX0_useOf_23 : decode cX0_useOf 23 = .ok (.ireturn, 1) := by decide +kernel
theorem dX0_total_0 : decode cX0_total 0 = .ok (.iconst 0, 1) := by decide +kernel
theorem dX0_total_1 : decode cX0_total 1 = .ok (.istore_n 1, 1) := by decide +kernel
theorem dX0_total_2 : decode cX0_total 2 = .ok (.iconst 0, 1) := by decide +kernel
theorem dX0_total_3 : decode cX0_total 3 = .ok (.istore_n 2, 1) := by decide +kernel
theorem dX0_total_4 : decode cX0_total 4 = .ok (.iload_n 2, 1) := by decide +kernel
theorem dX0_total_5 : decode cX0_total 5 = .ok (.aload_n 0, 1) := by decide +kernel
theorem dX0_total_6 : decode cX0_total 6 = .ok (.getfield 15, 3) := by decide +kernel
theorem dX0_total_9 : decode cX0_total 9 = .ok (.arraylength, 1) := by decide +kernel
theorem dX0_total_10 : decode cX0_total 10 = .ok (.if_icmp .ge 18, 3) := by decide +kernel
theorem dX0_total_13 : decode cX0_total 13 = .ok (.iload_n 1, 1) := by decide +kernel
theorem dX0_total_14 : decode cX0_total 14 = .ok (.aload_n 0, 1) := by decide +kernel
theorem dX0_total_15 : decode cX0_total 15 = .ok (.getfield 15, 3) := by decide +kernel
theorem dX0_total_18 : decode cX0_total 18 = .ok (.iload_n 2, 1) := by decide +kernel
theorem dX0_total_19 : decode cX0_total 19 = .ok (.iaload, 1) := by decide +kernel
theorem dX0_total_20 : decode cX0_total 20 = .ok (.iadd, 1) := by decide +kernel
theorem dX0_total_21 : decode cX0_total 21 = .ok (.istore_n 1, 1) := by decide +kernel
theorem dX0_total_22 : decode cX0_total 22 = .ok (.iinc 2 1, 3) := by decide +kernel
theorem dX0_total_25 : decode cX0_total 25 = .ok (.goto (-21), 3) := by decide +kernel
theorem dX0_total_28 : decode cX0_total 28 = .ok (.iload_n 1, 1) := by decide +kernel
theorem dX0_total_29 : decode cX0_total 29 = .ok (.ireturn, 1) := by decide +kernel
theorem dX0_cover_0 : decode cX0_cover 0 = .ok (.iload_n 1, 1) := by decide +kernel
theorem dX0_cover_1 : decode cX0_cover 1 = .ok (.istore_n 3, 1) := by decide +kernel
theorem dX0_cover_2 : decode cX0_cover 2 = .ok (.iload_n 2, 1) := by decide +kernel
theorem dX0_cover_3 : decode cX0_cover 3 = .ok (.istore 4, 2) := by decide +kernel
theorem dX0_cover_5 : decode cX0_cover 5 = .ok (.iconst 0, 1) := by decide +kernel
theorem dX0_cover_6 : decode cX0_cover 6 = .ok (.istore 5, 2) := by decide +kernel
theorem dX0_cover_8 : decode cX0_cover 8 = .ok (.iload 5, 2) := by decide +kernel
theorem dX0_cover_10 : decode cX0_cover 10 = .ok (.iconst 2, 1) := by decide +kernel
theorem dX0_cover_11 : decode cX0_cover 11 = .ok (.if_icmp .gt 104, 3) := by decide +kernel
theorem dX0_cover_14 : decode cX0_cover 14 = .ok (.iconst 0, 1) := by decide +kernel
theorem dX0_cover_15 : decode cX0_cover 15 = .ok (.istore 6, 2) := by decide +kernel
theorem dX0_cover_17 : decode cX0_cover 17 = .ok (.iload 6, 2) := by decide +kernel
theorem dX0_cover_19 : decode cX0_cover 19 = .ok (.bipush 6, 2) := by decide +kernel
theorem dX0_cover_21 : decode cX0_cover 21 = .ok (.if_icmp .ge 88, 3) := by decide +kernel
theorem dX0_cover_24 : decode cX0_cover 24 = .ok (.aload_n 0, 1) := by decide +kernel
theorem dX0_cover_25 : decode cX0_cover 25 = .ok (.getfield 9, 3) := by decide +kernel
theorem dX0_cover_28 : decode cX0_cover 28 = .ok (.iload 6, 2) := by decide +kernel
theorem dX0_cover_30 : decode cX0_cover 30 = .ok (.iaload, 1) := by decide +kernel
theorem dX0_cover_31 : decode cX0_cover 31 = .ok (.iload 5, 2) := by decide +kernel
theorem dX0_cover_33 : decode cX0_cover 33 = .ok (.if_icmp .ne 70, 3) := by decide +kernel
theorem dX0_cover_36 : decode cX0_cover 36 = .ok (.iload 5, 2) := by decide +kernel
theorem dX0_cover_38 : decode cX0_cover 38 = .ok (.ifCond .ne 12, 3) := by decide +kernel
theorem dX0_cover_41 : decode cX0_cover 41 = .ok (.iload_n 3, 1) := by decide +kernel
theorem dX0_cover_42 : decode cX0_cover 42 = .ok (.iload 4, 2) := by decide +kernel
theorem dX0_cover_44 : decode cX0_cover 44 = .ok (.invokestatic 25, 3) := by decide +kernel
theorem dX0_cover_47 : decode cX0_cover 47 = .ok (.goto 4, 3) := by decide +kernel
theorem dX0_cover_50 : decode cX0_cover 50 = .ok (.iload_n 3, 1) := by decide +kernel
theorem dX0_cover_51 : decode cX0_cover 51 = .ok (.istore 7, 2) := by decide +kernel
theorem dX0_cover_53 : decode cX0_cover 53 = .ok (.aload_n 0, 1) := by decide +kernel
theorem dX0_cover_54 : decode cX0_cover 54 = .ok (.getfield 18, 3) := by decide +kernel
theorem dX0_cover_57 : decode cX0_cover 57 = .ok (.iload 6, 2) := by decide +kernel
theorem dX0_cover_59 : decode cX0_cover 59 = .ok (.aload_n 0, 1) := by decide +kernel
theorem dX0_cover_60 : decode cX0_cover 60 = .ok (.getfield 15, 3) := by decide +kernel
theorem dX0_cover_63 : decode cX0_cover 63 = .ok (.iload 6, 2) := by decide +kernel
theorem dX0_cover_65 : decode cX0_cover 65 = .ok (.iaload, 1) := by decide +kernel
theorem dX0_cover_66 : decode cX0_cover 66 = .ok (.iload 7, 2) := by decide +kernel
theorem dX0_cover_68 : decode cX0_cover 68 = .ok (.invokestatic 25, 3) := by decide +kernel
theorem dX0_cover_71 : decode cX0_cover 71 = .ok (.iastore, 1) := by decide +kernel
theorem dX0_cover_72 : decode cX0_cover 72 = .ok (.iload_n 3, 1) := by decide +kernel
theorem dX0_cover_73 : decode cX0_cover 73 = .ok (.aload_n 0, 1) := by decide +kernel
theorem dX0_cover_74 : decode cX0_cover 74 = .ok (.getfield 18, 3) := by decide +kernel
theorem dX0_cover_77 : decode cX0_cover 77 = .ok (.iload 6, 2) := by decide +kernel
theorem dX0_cover_79 : decode cX0_cover 79 = .ok (.iaload, 1) := by decide +kernel
theorem dX0_cover_80 : decode cX0_cover 80 = .ok (.isub, 1) := by decide +kernel
theorem dX0_cover_81 : decode cX0_cover 81 = .ok (.istore_n 3, 1) := by decide +kernel
theorem dX0_cover_82 : decode cX0_cover 82 = .ok (.iload 4, 2) := by decide +kernel
theorem dX0_cover_84 : decode cX0_cover 84 = .ok (.iload 5, 2) := by decide +kernel
theorem dX0_cover_86 : decode cX0_cover 86 = .ok (.ifCond .ne 13, 3) := by decide +kernel
theorem dX0_cover_89 : decode cX0_cover 89 = .ok (.aload_n 0, 1) := by decide +kernel
theorem dX0_cover_90 : decode cX0_cover 90 = .ok (.getfield 18, 3) := by decide +kernel
theorem dX0_cover_93 : decode cX0_cover 93 = .ok (.iload 6, 2) := by decide +kernel
theorem dX0_cover_95 : decode cX0_cover 95 = .ok (.iaload, 1) := by decide +kernel
theorem dX0_cover_96 : decode cX0_cover 96 = .ok (.goto 4, 3) := by decide +kernel
theorem dX0_cover_99 : decode cX0_cover 99 = .ok (.iconst 0, 1) := by decide +kernel
theorem dX0_cover_100 : decode cX0_cover 100 = .ok (.isub, 1) := by decide +kernel
theorem dX0_cover_101 : decode cX0_cover 101 = .ok (.istore 4, 2) := by decide +kernel
theorem dX0_cover_103 : decode cX0_cover 103 = .ok (.iinc 6 1, 3) := by decide +kernel
theorem dX0_cover_106 : decode cX0_cover 106 = .ok (.goto (-89), 3) := by decide +kernel
theorem dX0_cover_109 : decode cX0_cover 109 = .ok (.iinc 5 1, 3) := by decide +kernel
theorem dX0_cover_112 : decode cX0_cover 112 = .ok (.goto (-104), 3) := by decide +kernel
theorem dX0_cover_115 : decode cX0_cover 115 = .ok (.iload_n 1, 1) := by decide +kernel
theorem dX0_cover_116 : decode cX0_cover 116 = .ok (.iload_n 3, 1) := by decide +kernel
theorem dX0_cover_117 : decode cX0_cover 117 = .ok (.isub, 1) := by decide +kernel
theorem dX0_cover_118 : decode cX0_cover 118 = .ok (.ireturn, 1) := by decide +kernel
theorem dX0_takeOff_0 : decode cX0_takeOff 0 = .ok (.iload_n 1, 1) := by decide +kernel
theorem dX0_takeOff_1 : decode cX0_takeOff 1 = .ok (.istore_n 2, 1) := by decide +kernel
theorem dX0_takeOff_2 : decode cX0_takeOff 2 = .ok (.iconst 2, 1) := by decide +kernel
theorem dX0_takeOff_3 : decode cX0_takeOff 3 = .ok (.istore_n 3, 1) := by decide +kernel
theorem dX0_takeOff_4 : decode cX0_takeOff 4 = .ok (.iload_n 3, 1) := by decide +kernel
theorem dX0_takeOff_5 : decode cX0_takeOff 5 = .ok (.ifCond .lt 66, 3) := by decide +kernel
theorem dX0_takeOff_8 : decode cX0_takeOff 8 = .ok (.iconst 0, 1) := by decide +kernel
theorem dX0_takeOff_9 : decode cX0_takeOff 9 = .ok (.istore 4, 2) := by decide +kernel
theorem dX0_takeOff_11 : decode cX0_takeOff 11 = .ok (.iload 4, 2) := by decide +kernel
theorem dX0_takeOff_13 : decode cX0_takeOff 13 = .ok (.bipush 6, 2) := by decide +kernel
theorem dX0_takeOff_15 : decode cX0_takeOff 15 = .ok (.if_icmp .ge 50, 3) := by decide +kernel
theorem dX0_takeOff_18 : decode cX0_takeOff 18 = .ok (.aload_n 0, 1) := by decide +kernel
theorem dX0_takeOff_19 : decode cX0_takeOff 19 = .ok (.getfield 9, 3) := by decide +kernel
theorem dX0_takeOff_22 : decode cX0_takeOff 22 = .ok (.iload 4, 2) := by decide +kernel
theorem dX0_takeOff_24 : decode cX0_takeOff 24 = .ok (.iaload, 1) := by decide +kernel
theorem dX0_takeOff_25 : decode cX0_takeOff 25 = .ok (.iload_n 3, 1) := by decide +kernel
theorem dX0_takeOff_26 : decode cX0_takeOff 26 = .ok (.if_icmp .ne 33, 3) := by decide +kernel
theorem dX0_takeOff_29 : decode cX0_takeOff 29 = .ok (.aload_n 0, 1) := by decide +kernel
theorem dX0_takeOff_30 : decode cX0_takeOff 30 = .ok (.getfield 15, 3) := by decide +kernel
theorem dX0_takeOff_33 : decode cX0_takeOff 33 = .ok (.iload 4, 2) := by decide +kernel
theorem dX0_takeOff_35 : decode cX0_takeOff 35 = .ok (.iaload, 1) := by decide +kernel
theorem dX0_takeOff_36 : decode cX0_takeOff 36 = .ok (.iload_n 2, 1) := by decide +kernel
theorem dX0_takeOff_37 : decode cX0_takeOff 37 = .ok (.invokestatic 25, 3) := by decide +kernel
theorem dX0_takeOff_40 : decode cX0_takeOff 40 = .ok (.istore 5, 2) := by decide +kernel
theorem dX0_takeOff_42 : decode cX0_takeOff 42 = .ok (.aload_n 0, 1) := by decide +kernel
theorem dX0_takeOff_43 : decode cX0_takeOff 43 = .ok (.getfield 15, 3) := by decide +kernel
theorem dX0_takeOff_46 : decode cX0_takeOff 46 = .ok (.iload 4, 2) := by decide +kernel
theorem dX0_takeOff_48 : decode cX0_takeOff 48 = .ok (.dup2, 1) := by decide +kernel
theorem dX0_takeOff_49 : decode cX0_takeOff 49 = .ok (.iaload, 1) := by decide +kernel
theorem dX0_takeOff_50 : decode cX0_takeOff 50 = .ok (.iload 5, 2) := by decide +kernel
theorem dX0_takeOff_52 : decode cX0_takeOff 52 = .ok (.isub, 1) := by decide +kernel
theorem dX0_takeOff_53 : decode cX0_takeOff 53 = .ok (.iastore, 1) := by decide +kernel
theorem dX0_takeOff_54 : decode cX0_takeOff 54 = .ok (.iload_n 2, 1) := by decide +kernel
theorem dX0_takeOff_55 : decode cX0_takeOff 55 = .ok (.iload 5, 2) := by decide +kernel
theorem dX0_takeOff_57 : decode cX0_takeOff 57 = .ok (.isub, 1) := by decide +kernel
theorem dX0_takeOff_58 : decode cX0_takeOff 58 = .ok (.istore_n 2, 1) := by decide +kernel
theorem dX0_takeOff_59 : decode cX0_takeOff 59 = .ok (.iinc 4 1, 3) := by decide +kernel
theorem dX0_takeOff_62 : decode cX0_takeOff 62 = .ok (.goto (-51), 3) := by decide +kernel
theorem dX0_takeOff_65 : decode cX0_takeOff 65 = .ok (.iinc 3 (-1), 3) := by decide +kernel
theorem dX0_takeOff_68 : decode cX0_takeOff 68 = .ok (.goto (-64), 3) := by decide +kernel
theorem dX0_takeOff_71 : decode cX0_takeOff 71 = .ok (.return_, 1) := by decide +kernel
set_option maxRecDepth 20000 in
theorem ggX0_clear_J7_fill_53178 : GoodIn wsX0_clear wsJ7_fill_53178 := goodIn_r _ [6] (by decide +kernel) (by decide +kernel)
set_option maxRecDepth 20000 in
theorem gX0_clear_J7_fill_53178 : GoodIn wsX0_clear (va_wsS RX0 31 yJ7_fill_53178 wsJ7_fill_53178) := goodIn_app (goodIn_of _ (by decide +kernel)) ggX0_clear_J7_fill_53178
theorem dX0_clear_0 : decode cX0_clear 0 = .ok (.aload_n 0, 1) := by decide +kernel
theorem dX0_clear_1 : decode cX0_clear 1 = .ok (.getfield 15, 3) := by decide +kernel
theorem dX0_clear_4 : decode cX0_clear 4 = .ok (.iconst 0, 1) := by decide +kernel
theorem dX0_clear_5 : decode cX0_clear 5 = .ok (.invokestatic 31, 3) := by decide +kernel
theorem dX0_clear_8 : decode cX0_clear 8 = .ok (.aload_n 0, 1) := by decide +kernel
theorem dX0_clear_9 : decode cX0_clear 9 = .ok (.iconst 0, 1) := by decide +kernel
theorem dX0_clear_10 : decode cX0_clear 10 = .ok (.putfield 21, 3) := by decide +kernel
theorem dX0_clear_13 : decode cX0_clear 13 = .ok (.return_, 1) := by decide +kernel
theorem dX1_init_0 : decode cX1_init 0 = .ok (.aload_n 0, 1) := by decide +kernel
theorem dX1_init_1 : decode cX1_init 1 = .ok (.invokespecial 3, 3) := by decide +kernel
theorem dX1_init_4 : decode cX1_init 4 = .ok (.aload_n 0, 1) := by decide +kernel
theorem dX1_init_5 : decode cX1_init 5 = .ok (.bipush 8, 2) := by decide +kernel
theorem dX1_init_7 : decode cX1_init 7 = .ok (.newarray .int, 2) := by decide +kernel
theorem dX1_init_9 : decode cX1_init 9 = .ok (.putfield 9, 3) := by decide +kernel
theorem dX1_init_12 : decode cX1_init 12 = .ok (.aload_n 0, 1) := by decide +kernel
theorem dX1_init_13 : decode cX1_init 13 = .ok (.iconst 0, 1) := by decide +kernel
theorem dX1_init_14 : decode cX1_init 14 = .ok (.putfield 15, 3) := by decide +kernel
theorem dX1_init_17 : decode cX1_init 17 = .ok (.aload_n 0, 1) := by decide +kernel
theorem dX1_init_18 : decode cX1_init 18 = .ok (.iconst 0, 1) := by decide +kernel
theorem dX1_init_19 : decode cX1_init 19 = .ok (.putfield 19, 3) := by decide +kernel
theorem dX1_init_22 : decode cX1_init 22 = .ok (.return_, 1) := by decide +kernel
theorem dX1_add_0 : decode cX1_add 0 = .ok (.aload_n 0, 1) := by decide +kernel
theorem dX1_add_1 : decode cX1_add 1 = .ok (.getfield 15, 3) := by decide +kernel
theorem dX1_add_4 : decode cX1_add 4 = .ok (.ifCond .lt 15, 3) := by decide +kernel
theorem dX1_add_7 : decode cX1_add 7 = .ok (.aload_n 0, 1) := by decide +kernel
theorem dX1_add_8 : decode cX1_add 8 = .ok (.getfield 15, 3) := by decide +kernel
theorem dX1_add_11 : decode cX1_add 11 = .ok (.aload_n 0, 1) := by decide +kernel
theorem dX1_add_12 : decode cX1_add 12 = .ok (.getfield 9, 3) := by decide +kernel
theorem dX1_add_15 : decode cX1_add 15 = .ok (.arraylength, 1) := by decide +kernel
theorem dX1_add_16 : decode cX1_add 16 = .ok (.if_icmp .lt 5, 3) := by decide +kernel
theorem dX1_add_19 : decode cX1_add 19 = .ok (.iconst (-1), 1) := by decide +kernel
theorem dX1_add_20 : decode cX1_add 20 = .ok (.ireturn, 1) := by decide +kernel
theorem dX1_add_21 : decode cX1_add 21 = .ok (.aload_n 0, 1) := by decide +kernel
theorem dX1_add_22 : decode cX1_add 22 = .ok (.getfield 9, 3) := by decide +kernel
theorem dX1_add_25 : decode cX1_add 25 = .ok (.aload_n 0, 1) := by decide +kernel
theorem dX1_add_26 : decode cX1_add 26 = .ok (.getfield 15, 3) := by decide +kernel
theorem dX1_add_29 : decode cX1_add 29 = .ok (.iload_n 1, 1) := by decide +kernel
theorem dX1_add_30 : decode cX1_add 30 = .ok (.iastore, 1) := by decide +kernel
theorem dX1_add_31 : decode cX1_add 31 = .ok (.aload_n 0, 1) := by decide +kernel
theorem dX1_add_32 : decode cX1_add 32 = .ok (.dup, 1) := by decide +kernel
theorem dX1_add_33 : decode cX1_add 33 = .ok (.getfield 15, 3) := by decide +kernel
theorem dX1_add_36 : decode cX1_add 36 = .ok (.iconst 1, 1) := by decide +kernel
theorem dX1_add_37 : decode cX1_add 37 = .ok (.iadd, 1) := by decide +kernel
theorem dX1_add_38 : decode cX1_add 38 = .ok (.putfield 15, 3) := by decide +kernel
theorem dX1_add_41 : decode cX1_add 41 = .ok (.aload_n 0, 1) := by decide +kernel
theorem dX1_add_42 : decode cX1_add 42 = .ok (.getfield 15, 3) := by decide +kernel
theorem dX1_add_45 : decode cX1_add 45 = .ok (.iconst 1, 1) := by decide +kernel
theorem dX1_add_46 : decode cX1_add 46 = .ok (.isub, 1) := by decide +kernel
theorem dX1_add_47 : decode cX1_add 47 = .ok (.ireturn, 1) := by decide +kernel
theorem dX1_has_0 : decode cX1_has 0 = .ok (.iload_n 1, 1) := by decide +kernel
theorem dX1_has_1 : decode cX1_has 1 = .ok (.ifCond .lt 15, 3) := by decide +kernel
theorem dX1_has_4 : decode cX1_has 4 = .ok (.iload_n 1, 1) := by decide +kernel
theorem dX1_has_5 : decode cX1_has 5 = .ok (.aload_n 0, 1) := by decide +kernel
theorem dX1_has_6 : decode cX1_has 6 = .ok (.getfield 15, 3) := by decide +kernel
theorem dX1_has_9 : decode cX1_has 9 = .ok (.if_icmp .ge 7, 3) := by decide +kernel
theorem dX1_has_12 : decode cX1_has 12 = .ok (.iconst 1, 1) := by decide +kernel
theorem dX1_has_13 : decode cX1_has 13 = .ok (.goto 4, 3) := by decide +kernel
theorem dX1_has_16 : decode cX1_has 16 = .ok (.iconst 0, 1) := by decide +kernel
theorem dX1_has_17 : decode cX1_has 17 = .ok (.ireturn, 1) := by decide +kernel
theorem dX1_creditsOf_0 : decode cX1_creditsOf 0 = .ok (.iload_n 1, 1) := by decide +kernel
theorem dX1_creditsOf_1 : decode cX1_creditsOf 1 = .ok (.ifCond .lt 21, 3) := by decide +kernel
theorem dX1_creditsOf_4 : decode cX1_creditsOf 4 = .ok (.iload_n 1, 1) := by decide +kernel
theorem dX1_creditsOf_5 : decode cX1_creditsOf 5 = .ok (.aload_n 0, 1) := by decide +kernel
theorem dX1_creditsOf_6 : decode cX1_creditsOf 6 = .ok (.getfield 9, 3) := by decide +kernel
theorem dX1_creditsOf_9 : decode cX1_creditsOf 9 = .ok (.arraylength, 1) := by decide +kernel
theorem dX1_creditsOf_10 : decode cX1_creditsOf 10 = .ok (.if_icmp .ge 12, 3) := by decide +kernel
theorem dX1_creditsOf_13 : decode cX1_creditsOf 13 = .ok (.aload_n 0, 1) := by decide +kernel
theorem dX1_creditsOf_14 : decode cX1_creditsOf 14 = .ok (.getfield 9, 3) := by decide +kernel
theorem dX1_creditsOf_17 : decode cX1_creditsOf 17 = .ok (.iload_n 1, 1) := by decide +kernel
theorem dX1_creditsOf_18 : decode cX1_creditsOf 18 = .ok (.iaload, 1) := by decide +kernel
theorem dX1_creditsOf_19 : decode cX1_creditsOf 19 = .ok (.goto 4, 3) := by decide +kernel
theorem dX1_creditsOf_22 : decode cX1_creditsOf 22 = .ok (.iconst 0, 1) := by decide +kernel
theorem dX1_creditsOf_23 : decode cX1_creditsOf 23 = .ok (.ireturn, 1) := by decide +kernel
theorem dX1_remove_0 : decode cX1_remove 0 = .ok (.iload_n 1, 1) := by decide +kernel
theorem dX1_remove_1 : decode cX1_remove 1 = .ok (.ifCond .lt 19, 3) := by decide +kernel
theorem dX1_remove_4 : decode cX1_remove 4 = .ok (.iload_n 1, 1) := by decide +kernel
theorem dX1_remove_5 : decode cX1_remove 5 = .ok (.aload_n 0, 1) := by decide +kernel
theorem dX1_remove_6 : decode cX1_remove 6 = .ok (.getfield 9, 3) := by decide +kernel
theorem dX1_remove_9 : decode cX1_remove 9 = .ok (.arraylength, 1) := by decide +kernel
theorem dX1_remove_10 : decode cX1_remove 10 = .ok (.if_icmp .ge 10, 3) := by decide +kernel
theorem dX1_remove_13 : decode cX1_remove 13 = .ok (.aload_n 0, 1) := by decide +kernel
theorem dX1_remove_14 : decode cX1_remove 14 = .ok (.getfield 9, 3) := by decide +kernel
theorem dX1_remove_17 : decode cX1_remove 17 = .ok (.iload_n 1, 1) := by decide +kernel
theorem dX1_remove_18 : decode cX1_remove 18 = .ok (.iconst 0, 1) := by decide +kernel
theorem dX1_remove_19 : decode cX1_remove 19 = .ok (.iastore, 1) := by decide +kernel
theorem dX1_remove_20 : decode cX1_remove 20 = .ok (.return_, 1) := by decide +kernel
theorem dX1_total_0 : decode cX1_total 0 = .ok (.iconst 0, 1) := by decide +kernel
theorem dX1_total_1 : decode cX1_total 1 = .ok (.istore_n 1, 1) := by decide +kernel
theorem dX1_total_2 : decode cX1_total 2 = .ok (.iconst 0, 1) := by decide +kernel
theorem dX1_total_3 : decode cX1_total 3 = .ok (.istore_n 2, 1) := by decide +kernel
theorem dX1_total_4 : decode cX1_total 4 = .ok (.iload_n 2, 1) := by decide +kernel
theorem dX1_total_5 : decode cX1_total 5 = .ok (.aload_n 0, 1) := by decide +kernel
theorem dX1_total_6 : decode cX1_total 6 = .ok (.getfield 9, 3) := by decide +kernel
theorem dX1_total_9 : decode cX1_total 9 = .ok (.arraylength, 1) := by decide +kernel
theorem dX1_total_10 : decode cX1_total 10 = .ok (.if_icmp .ge 18, 3) := by decide +kernel
theorem dX1_total_13 : decode cX1_total 13 = .ok (.iload_n 1, 1) := by decide +kernel
theorem dX1_total_14 : decode cX1_total 14 = .ok (.aload_n 0, 1) := by decide +kernel
theorem dX1_total_15 : decode cX1_total 15 = .ok (.getfield 9, 3) := by decide +kernel
theorem dX1_total_18 : decode cX1_total 18 = .ok (.iload_n 2, 1) := by decide +kernel
theorem dX1_total_19 : decode cX1_total 19 = .ok (.iaload, 1) := by decide +kernel
theorem dX1_total_20 : decode cX1_total 20 = .ok (.iadd, 1) := by decide +kernel
theorem dX1_total_21 : decode cX1_total 21 = .ok (.istore_n 1, 1) := by decide +kernel
theorem dX1_total_22 : decode cX1_total 22 = .ok (.iinc 2 1, 3) := by decide +kernel
theorem dX1_total_25 : decode cX1_total 25 = .ok (.goto (-21), 3) := by decide +kernel
theorem dX1_total_28 : decode cX1_total 28 = .ok (.iload_n 1, 1) := by decide +kernel
theorem dX1_total_29 : decode cX1_total 29 = .ok (.ireturn, 1) := by decide +kernel
set_option maxRecDepth 20000 in
theorem ggX1_clear_J7_fill_53178 : GoodIn wsX1_clear wsJ7_fill_53178 := goodIn_r _ [7] (by decide +kernel) (by decide +kernel)
set_option maxRecDepth 20000 in
theorem gX1_clear_J7_fill_53178 : GoodIn wsX1_clear (va_wsS RX1 22 yJ7_fill_53178 wsJ7_fill_53178) := goodIn_app (goodIn_of _ (by decide +kernel)) ggX1_clear_J7_fill_53178
theorem dX1_clear_0 : decode cX1_clear 0 = .ok (.aload_n 0, 1) := by decide +kernel
theorem dX1_clear_1 : decode cX1_clear 1 = .ok (.getfield 9, 3) := by decide +kernel
theorem dX1_clear_4 : decode cX1_clear 4 = .ok (.iconst 0, 1) := by decide +kernel
theorem dX1_clear_5 : decode cX1_clear 5 = .ok (.invokestatic 22, 3) := by decide +kernel
theorem dX1_clear_8 : decode cX1_clear 8 = .ok (.aload_n 0, 1) := by decide +kernel
theorem dX1_clear_9 : decode cX1_clear 9 = .ok (.iconst 0, 1) := by decide +kernel
theorem dX1_clear_10 : decode cX1_clear 10 = .ok (.putfield 15, 3) := by decide +kernel
theorem dX1_clear_13 : decode cX1_clear 13 = .ok (.aload_n 0, 1) := by decide +kernel
theorem dX1_clear_14 : decode cX1_clear 14 = .ok (.iconst 0, 1) := by decide +kernel
theorem dX1_clear_15 : decode cX1_clear 15 = .ok (.putfield 19, 3) := by decide +kernel
theorem dX1_clear_18 : decode cX1_clear 18 = .ok (.return_, 1) := by decide +kernel
theorem dX2_init_0 : decode cX2_init 0 = .ok (.aload_n 0, 1) := by decide +kernel
theorem dX2_init_1 : decode cX2_init 1 = .ok (.invokespecial 3, 3) := by decide +kernel
theorem dX2_init_4 : decode cX2_init 4 = .ok (.aload_n 0, 1) := by decide +kernel
theorem dX2_init_5 : decode cX2_init 5 = .ok (.iconst 0, 1) := by decide +kernel
theorem dX2_init_6 : decode cX2_init 6 = .ok (.putfield 9, 3) := by decide +kernel
theorem dX2_init_9 : decode cX2_init 9 = .ok (.aload_n 0, 1) := by decide +kernel
theorem dX2_init_10 : decode cX2_init 10 = .ok (.iconst 0, 1) := by decide +kernel
theorem dX2_init_11 : decode cX2_init 11 = .ok (.putfield 15, 3) := by decide +kernel
theorem dX2_init_14 : decode cX2_init 14 = .ok (.aload_n 0, 1) := by decide +kernel
theorem dX2_init_15 : decode cX2_init 15 = .ok (.iconst 0, 1) := by decide +kernel
theorem dX2_init_16 : decode cX2_init 16 = .ok (.putfield 18, 3) := by decide +kernel
theorem dX2_init_19 : decode cX2_init 19 = .ok (.aload_n 0, 1) := by decide +kernel
theorem dX2_init_20 : decode cX2_init 20 = .ok (.iconst 0, 1) := by decide +kernel
theorem dX2_init_21 : decode cX2_init 21 = .ok (.putfield 21, 3) := by decide +kernel
theorem dX2_init_24 : decode cX2_init 24 = .ok (.aload_n 0, 1) := by decide +kernel
theorem dX2_init_25 : decode cX2_init 25 = .ok (.iconst 0, 1) := by decide +kernel
theorem dX2_init_26 : decode cX2_init 26 = .ok (.putfield 24, 3) := by decide +kernel
theorem dX2_init_29 : decode cX2_init 29 = .ok (.return_, 1) := by decide +kernel
theorem dX2_start_0 : decode cX2_start 0 = .ok (.aload_n 0, 1) := by decide +kernel
theorem dX2_start_1 : decode cX2_start 1 = .ok (.iload_n 1, 1) := by decide +kernel
theorem dX2_start_2 : decode cX2_start 2 = .ok (.putfield 9, 3) := by decide +kernel
theorem dX2_start_5 : decode cX2_start 5 = .ok (.aload_n 0, 1) := by decide +kernel
theorem dX2_start_6 : decode cX2_start 6 = .ok (.iload_n 2, 1) := by decide +kernel
theorem dX2_start_7 : decode cX2_start 7 = .ok (.putfield 15, 3) := by decide +kernel
theorem dX2_start_10 : decode cX2_start 10 = .ok (.aload_n 0, 1) := by decide +kernel
theorem dX2_start_11 : decode cX2_start 11 = .ok (.iload_n 3, 1) := by decide +kernel
theorem dX2_start_12 : decode cX2_start 12 = .ok (.putfield 18, 3) := by decide +kernel
theorem dX2_start_15 : decode cX2_start 15 = .ok (.aload_n 0, 1) := by decide +kernel
theorem dX2_start_16 : decode cX2_start 16 = .ok (.iload 4, 2) := by decide +kernel
theorem dX2_start_18 : decode cX2_start 18 = .ok (.putfield 21, 3) := by decide +kernel
theorem dX2_start_21 : decode cX2_start 21 = .ok (.aload_n 0, 1) := by decide +kernel
theorem dX2_start_22 : decode cX2_start 22 = .ok (.iconst 0, 1) := by decide +kernel
theorem dX2_start_23 : decode cX2_start 23 = .ok (.putfield 24, 3) := by decide +kernel
theorem dX2_start_26 : decode cX2_start 26 = .ok (.return_, 1) := by decide +kernel
theorem dX2_isLateAt_0 : decode cX2_isLateAt 0 = .ok (.iload_n 1, 1) := by decide +kernel
theorem dX2_isLateAt_1 : decode cX2_isLateAt 1 = .ok (.aload_n 0, 1) := by decide +kernel
theorem dX2_isLateAt_2 : decode cX2_isLateAt 2 = .ok (.getfield 9, 3) := by decide +kernel
theorem dX2_isLateAt_5 : decode cX2_isLateAt 5 = .ok (.isub, 1) := by decide +kernel
theorem dX2_isLateAt_6 : decode cX2_isLateAt 6 = .ok (.istore_n 2, 1) := by decide +kernel
theorem dX2_isLateAt_7 : decode cX2_isLateAt 7 = .ok (.iload_n 2, 1) := by decide +kernel
theorem dX2_isLateAt_8 : decode cX2_isLateAt 8 = .ok (.iconst 2, 1) := by decide +kernel
theorem dX2_isLateAt_9 : decode cX2_isLateAt 9 = .ok (.idiv, 1) := by decide +kernel
theorem dX2_isLateAt_10 : decode cX2_isLateAt 10 = .ok (.istore_n 3, 1) := by decide +kernel
theorem dX2_isLateAt_11 : decode cX2_isLateAt 11 = .ok (.iload_n 2, 1) := by decide +kernel
theorem dX2_isLateAt_12 : decode cX2_isLateAt 12 = .ok (.iconst 2, 1) := by decide +kernel
theorem dX2_isLateAt_13 : decode cX2_isLateAt 13 = .ok (.irem, 1) := by decide +kernel
theorem dX2_isLateAt_14 : decode cX2_isLateAt 14 = .ok (.ifCond .ne 16, 3) := by decide +kernel
theorem dX2_isLateAt_17 : decode cX2_isLateAt 17 = .ok (.iload_n 3, 1) := by decide +kernel
theorem dX2_isLateAt_18 : decode cX2_isLateAt 18 = .ok (.iconst 1, 1) := by decide +kernel
theorem dX2_isLateAt_19 : decode cX2_isLateAt 19 = .ok (.if_icmp .lt 11, 3) := by decide +kernel
theorem dX2_isLateAt_22 : decode cX2_isLateAt 22 = .ok (.iload_n 3, 1) := by decide +kernel
theorem dX2_isLateAt_23 : decode cX2_isLateAt 23 = .ok (.aload_n 0, 1) := by decide +kernel
theorem dX2_isLateAt_24 : decode cX2_isLateAt 24 = .ok (.getfield 15, 3) := by decide +kernel
theorem dX2_isLateAt_27 : decode cX2_isLateAt 27 = .ok (.if_icmp .le 5, 3) := by decide +kernel
theorem dX2_isLateAt_30 : decode cX2_isLateAt 30 = .ok (.iconst 0, 1) := by decide +kernel
theorem dX2_isLateAt_31 : decode cX2_isLateAt 31 = .ok (.ireturn, 1) := by decide +kernel
theorem dX2_isLateAt_32 : decode cX2_isLateAt 32 = .ok (.aload_n 0, 1) := by decide +kernel
theorem dX2_isLateAt_33 : decode cX2_isLateAt 33 = .ok (.getfield 24, 3) := by decide +kernel
theorem dX2_isLateAt_36 : decode cX2_isLateAt 36 = .ok (.aload_n 0, 1) := by decide +kernel
theorem dX2_isLateAt_37 : decode cX2_isLateAt 37 = .ok (.getfield 18, 3) := by decide +kernel
theorem dX2_isLateAt_40 : decode cX2_isLateAt 40 = .ok (.aload_n 0, 1) := by decide +kernel
theorem dX2_isLateAt_41 : decode cX2_isLateAt 41 = .ok (.getfield 21, 3) := by decide +kernel
theorem dX2_isLateAt_44 : decode cX2_isLateAt 44 = .ok (.iload_n 3, 1) := by decide +kernel
theorem dX2_isLateAt_45 : decode cX2_isLateAt 45 = .ok (.iconst 1, 1) := by decide +kernel
theorem dX2_isLateAt_46 : decode cX2_isLateAt 46 = .ok (.isub, 1) := by decide +kernel
theorem dX2_isLateAt_47 : decode cX2_isLateAt 47 = .ok (.imul, 1) := by decide +kernel
theorem dX2_isLateAt_48 : decode cX2_isLateAt 48 = .ok (.iadd, 1) := by decide +kernel
theorem dX2_isLateAt_49 : decode cX2_isLateAt 49 = .ok (.if_icmp .ge 7, 3) := by decide +kernel
theorem dX2_isLateAt_52 : decode cX2_isLateAt 52 = .ok (.iconst 1, 1) := by decide +kernel
theorem dX2_isLateAt_53 : decode cX2_isLateAt 53 = .ok (.goto 4, 3) := by decide +kernel
theorem dX2_isLateAt_56 : decode cX2_isLateAt 56 = .ok (.iconst 0, 1) := by decide +kernel
theorem dX2_isLateAt_57 : decode cX2_isLateAt 57 = .ok (.ireturn, 1) := by decide +kernel
set_option maxRecDepth 20000 in
theorem ggX3_init_X1_init : GoodIn wsX3_init wsX1_init := goodIn_r _ [25, 26, 2, 3, 27, 28, 29, 30, 46, 47, 48] (by decide +kernel) (by decide +kernel)
set_option maxRecDepth 20000 in
theorem gX3_init_X1_init_n9 : GoodIn wsX3_init (wsX1_init) := ggX3_init_X1_init
set_option maxRecDepth 20000 in
theorem ggX3_init_X0_init : GoodIn wsX3_init wsX0_init := goodIn_r _ [32, 33, 2, 3, 27, 34, 35, 36, 37, 60, 61, 62, 63] (by decide +kernel) (by decide +kernel)
set_option maxRecDepth 20000 in
theorem gX3_init_X0_init_n18 : GoodIn wsX3_init (wsX0_init) := ggX3_init_X0_init
set_option maxRecDepth 20000 in
theorem ggX3_init_X2_init : GoodIn wsX3_init wsX2_init := goodIn_r _ [39, 40, 2, 3, 41, 42, 43, 44, 45, 64, 65, 66, 67, 68] (by decide +kernel) (by decide +kernel)
set_option maxRecDepth 20000 in
theorem gX3_init_X2_init_n25 : GoodIn wsX3_init (wsX2_init) := ggX3_init_X2_init
theorem dX3_init_0 : decode cX3_init 0 = .ok (.aload_n 0, 1) := by decide +kernel
theorem dX3_init_1 : decode cX3_init 1 = .ok (.invokespecial 1, 3) := by decide +kernel
theorem dX3_init_4 : decode cX3_init 4 = .ok (.aload_n 0, 1) := by decide +kernel
theorem dX3_init_5 : decode cX3_init 5 = .ok (.new 7, 3) := by decide +kernel
theorem dX3_init_8 : decode cX3_init 8 = .ok (.dup, 1) := by decide +kernel
theorem dX3_init_9 : decode cX3_init 9 = .ok (.invokespecial 9, 3) := by decide +kernel
theorem dX3_init_12 : decode cX3_init 12 = .ok (.putfield 10, 3) := by decide +kernel
theorem dX3_init_15 : decode cX3_init 15 = .ok (.aload_n 0, 1) := by decide +kernel
theorem dX3_init_16 : decode cX3_init 16 = .ok (.new 16, 3) := by decide +kernel
theorem dX3_init_19 : decode cX3_init 19 = .ok (.dup, 1) := by decide +kernel
theorem dX3_init_20 : decode cX3_init 20 = .ok (.invokespecial 18, 3) := by decide +kernel
theorem dX3_init_23 : decode cX3_init 23 = .ok (.putfield 19, 3) := by decide +kernel
theorem dX3_init_26 : decode cX3_init 26 = .ok (.aload_n 0, 1) := by decide +kernel
theorem dX3_init_27 : decode cX3_init 27 = .ok (.new 23, 3) := by decide +kernel
theorem dX3_init_30 : decode cX3_init 30 = .ok (.dup, 1) := by decide +kernel
theorem dX3_init_31 : decode cX3_init 31 = .ok (.invokespecial 25, 3) := by decide +kernel
theorem dX3_init_34 : decode cX3_init 34 = .ok (.putfield 26, 3) := by decide +kernel
theorem dX3_init_37 : decode cX3_init 37 = .ok (.aload_n 0, 1) := by decide +kernel
theorem dX3_init_38 : decode cX3_init 38 = .ok (.iconst 0, 1) := by decide +kernel
theorem dX3_init_39 : decode cX3_init 39 = .ok (.putfield 30, 3) := by decide +kernel
theorem dX3_init_42 : decode cX3_init 42 = .ok (.aload_n 0, 1) := by decide +kernel
theorem dX3_init_43 : decode cX3_init 43 = .ok (.iconst 1, 1) := by decide +kernel
theorem dX3_init_44 : decode cX3_init 44 = .ok (.putfield 34, 3) := by decide +kernel
theorem dX3_init_47 : decode cX3_init 47 = .ok (.aload_n 0, 1) := by decide +kernel
theorem dX3_init_48 : decode cX3_init 48 = .ok (.iconst 0, 1) := by decide +kernel
theorem dX3_init_49 : decode cX3_init 49 = .ok (.putfield 38, 3) := by decide +kernel
theorem dX3_init_52 : decode cX3_init 52 = .ok (.aload_n 0, 1) := by decide +kernel
theorem dX3_init_53 : decode cX3_init 53 = .ok (.iconst 0, 1) := by decide +kernel
theorem dX3_init_54 : decode cX3_init 54 = .ok (.putfield 41, 3) := by decide +kernel
theorem dX3_init_57 : decode cX3_init 57 = .ok (.aload_n 0, 1) := by decide +kernel
theorem dX3_init_58 : decode cX3_init 58 = .ok (.iconst 0, 1) := by decide +kernel
theorem dX3_init_59 : decode cX3_init 59 = .ok (.putfield 44, 3) := by decide +kernel
theorem dX3_init_62 : decode cX3_init 62 = .ok (.aload_n 0, 1) := by decide +kernel
theorem dX3_init_63 : decode cX3_init 63 = .ok (.iconst 0, 1) := by decide +kernel
theorem dX3_init_64 : decode cX3_init 64 = .ok (.putfield 47, 3) := by decide +kernel
theorem dX3_init_67 : decode cX3_init 67 = .ok (.aload_n 0, 1) := by decide +kernel
theorem dX3_init_68 : decode cX3_init 68 = .ok (.iconst 0, 1) := by decide +kernel
theorem dX3_init_69 : decode cX3_init 69 = .ok (.putfield 50, 3) := by decide +kernel
theorem dX3_init_72 : decode cX3_init 72 = .ok (.aload_n 0, 1) := by decide +kernel
theorem dX3_init_73 : decode cX3_init 73 = .ok (.iconst 0, 1) := by decide +kernel
theorem dX3_init_74 : decode cX3_init 74 = .ok (.putfield 53, 3) := by decide +kernel
theorem dX3_init_77 : decode cX3_init 77 = .ok (.return_, 1) := by decide +kernel
set_option maxRecDepth 20000 in
theorem ggX3_beginTerm_X1_clear : GoodIn wsX3_beginTerm wsX1_clear := goodIn_r _ [16, 17, 18, 19, 20, 21, 22, 23, 43, 44, 45] (by decide +kernel) (by decide +kernel)
set_option maxRecDepth 20000 in
theorem gX3_beginTerm_X1_clear : GoodIn wsX3_beginTerm (wsV RX3 56 RX1 yX1_clear wsX1_clear) := goodIn_app (goodIn_of _ (by decide +kernel)) ggX3_beginTerm_X1_clear
set_option maxRecDepth 20000 in
theorem ggX3_beginTerm_X0_clear : GoodIn wsX3_beginTerm wsX0_clear := goodIn_r _ [28, 29, 30, 31, 21, 22, 23, 46, 47, 48, 49] (by decide +kernel) (by decide +kernel)
set_option maxRecDepth 20000 in
theorem gX3_beginTerm_X0_clear : GoodIn wsX3_beginTerm (wsV RX3 59 RX0 yX0_clear wsX0_clear) := goodIn_app (goodIn_of _ (by decide +kernel)) ggX3_beginTerm_X0_clear
theorem dX3_beginTerm_0 : decode cX3_beginTerm 0 = .ok (.aload_n 0, 1) := by decide +kernel
theorem dX3_beginTerm_1 : decode cX3_beginTerm 1 = .ok (.getfield 10, 3) := by decide +kernel
theorem dX3_beginTerm_4 : decode cX3_beginTerm 4 = .ok (.invokevirtual 56, 3) := by decide +kernel
theorem dX3_beginTerm_7 : decode cX3_beginTerm 7 = .ok (.aload_n 0, 1) := by decide +kernel
theorem dX3_beginTerm_8 : decode cX3_beginTerm 8 = .ok (.getfield 19, 3) := by decide +kernel
theorem dX3_beginTerm_11 : decode cX3_beginTerm 11 = .ok (.invokevirtual 59, 3) := by decide +kernel
theorem dX3_beginTerm_14 : decode cX3_beginTerm 14 = .ok (.aload_n 0, 1) := by decide +kernel
theorem dX3_beginTerm_15 : decode cX3_beginTerm 15 = .ok (.iconst 0, 1) := by decide +kernel
theorem dX3_beginTerm_16 : decode cX3_beginTerm 16 = .ok (.putfield 47, 3) := by decide +kernel
theorem dX3_beginTerm_19 : decode cX3_beginTerm 19 = .ok (.aload_n 0, 1) := by decide +kernel
theorem dX3_beginTerm_20 : decode cX3_beginTerm 20 = .ok (.iconst 0, 1) := by decide +kernel
theorem dX3_beginTerm_21 : decode cX3_beginTerm 21 = .ok (.putfield 50, 3) := by decide +kernel
theorem dX3_beginTerm_24 : decode cX3_beginTerm 24 = .ok (.aload_n 0, 1) := by decide +kernel
theorem dX3_beginTerm_25 : decode cX3_beginTerm 25 = .ok (.iconst 0, 1) := by decide +kernel
theorem dX3_beginTerm_26 : decode cX3_beginTerm 26 = .ok (.putfield 44, 3) := by decide +kernel
theorem dX3_beginTerm_29 : decode cX3_beginTerm 29 = .ok (.aload_n 0, 1) := by decide +kernel
theorem dX3_beginTerm_30 : decode cX3_beginTerm 30 = .ok (.iload_n 1, 1) := by decide +kernel
theorem dX3_beginTerm_31 : decode cX3_beginTerm 31 = .ok (.iconst 0, 1) := by decide +kernel
theorem dX3_beginTerm_32 : decode cX3_beginTerm 32 = .ok (.invokestatic 60, 3) := by decide +kernel
theorem dX3_beginTerm_35 : decode cX3_beginTerm 35 = .ok (.putfield 41, 3) := by decide +kernel
theorem dX3_beginTerm_38 : decode cX3_beginTerm 38 = .ok (.aload_n 0, 1) := by decide +kernel
theorem dX3_beginTerm_39 : decode cX3_beginTerm 39 = .ok (.iload_n 1, 1) := by decide +kernel
theorem dX3_beginTerm_40 : decode cX3_beginTerm 40 = .ok (.ineg, 1) := by decide +kernel
theorem dX3_beginTerm_41 : decode cX3_beginTerm 41 = .ok (.iconst 0, 1) := by decide +kernel
theorem dX3_beginTerm_42 : decode cX3_beginTerm 42 = .ok (.invokestatic 60, 3) := by decide +kernel
theorem dX3_beginTerm_45 : decode cX3_beginTerm 45 = .ok (.putfield 53, 3) := by decide +kernel
theorem dX3_beginTerm_48 : decode cX3_beginTerm 48 = .ok (.return_, 1) := by decide +kernel
set_option maxRecDepth 20000 in
theorem ggX4_init_X3_init : GoodIn wsX4_init wsX3_init := goodIn_r _ [18, 19, 2, 3, 20, 21, 22, 23, 24, 25, 26, 27, 28, 29, 30, 31, 32, 33, 34, 35, 36, 37, 38, 39, 40, 41, 42, 6, 43, 44, 45, 46, 47, 48, 49, 50, 51, 52, 53, 54, 55, 56, 57, 58, 59, 60, 85, 86, 87, 74, 75, 76, 77, 78, 79, 80, 81, 82, 83, 84, 88, 89, 90, 91, 92, 93, 94, 95, 96] (by decide +kernel) (by decide +kernel)
set_option maxRecDepth 20000 in
theorem gX4_init_X3_init_n41 : GoodIn wsX4_init (wsX3_init) := ggX4_init_X3_init
set_option maxRecDepth 20000 in
theorem ggX4_init_J7_fill_53178 : GoodIn wsX4_init wsJ7_fill_53178 := goodIn_r _ [64] (by decide +kernel) (by decide +kernel)
set_option maxRecDepth 20000 in
theorem gX4_init_J7_fill_53178 : GoodIn wsX4_init (va_wsS RX4 42 yJ7_fill_53178 wsJ7_fill_53178) := goodIn_app (goodIn_of _ (by decide +kernel)) ggX4_init_J7_fill_53178
theorem dX4_init_0 : decode cX4_init 0 = .ok (.aload_n 0, 1) := by decide +kernel
theorem dX4_init_1 : decode cX4_init 1 = .ok (.invokespecial 3, 3) := by decide +kernel
theorem dX4_init_4 : decode cX4_init 4 = .ok (.aload_n 0, 1) := by decide +kernel
theorem dX4_init_5 : decode cX4_init 5 = .ok (.iconst 4, 1) := by decide +kernel
theorem dX4_init_6 : decode cX4_init 6 = .ok (.anewarray 9, 3) := by decide +kernel
theorem dX4_init_9 : decode cX4_init 9 = .ok (.putfield 11, 3) := by decide +kernel
theorem dX4_init_12 : decode cX4_init 12 = .ok (.aload_n 0, 1) := by decide +kernel
theorem dX4_init_13 : decode cX4_init 13 = .ok (.iconst 4, 1) := by decide +kernel
theorem dX4_init_14 : decode cX4_init 14 = .ok (.newarray .int, 2) := by decide +kernel
theorem dX4_init_16 : decode cX4_init 16 = .ok (.putfield 15, 3) := by decide +kernel
theorem dX4_init_19 : decode cX4_init 19 = .ok (.aload_n 0, 1) := by decide +kernel
theorem dX4_init_20 : decode cX4_init 20 = .ok (.bipush 16, 2) := by decide +kernel
theorem dX4_init_22 : decode cX4_init 22 = .ok (.newarray .int, 2) := by decide +kernel
theorem dX4_init_24 : decode cX4_init 24 = .ok (.putfield 19, 3) := by decide +kernel
theorem dX4_init_27 : decode cX4_init 27 = .ok (.aload_n 0, 1) := by decide +kernel
theorem dX4_init_28 : decode cX4_init 28 = .ok (.bipush 12, 2) := by decide +kernel
theorem dX4_init_30 : decode cX4_init 30 = .ok (.putfield 22, 3) := by decide +kernel
theorem dX4_init_33 : decode cX4_init 33 = .ok (.aload_n 0, 1) := by decide +kernel
theorem dX4_init_34 : decode cX4_init 34 = .ok (.bipush 18, 2) := by decide +kernel
theorem dX4_init_36 : decode cX4_init 36 = .ok (.putfield 26, 3) := by decide +kernel
theorem dX4_init_39 : decode cX4_init 39 = .ok (.aload_n 0, 1) := by decide +kernel
theorem dX4_init_40 : decode cX4_init 40 = .ok (.sipush 2500, 3) := by decide +kernel
theorem dX4_init_43 : decode cX4_init 43 = .ok (.putfield 29, 3) := by decide +kernel
theorem dX4_init_46 : decode cX4_init 46 = .ok (.aload_n 0, 1) := by decide +kernel
theorem dX4_init_47 : decode cX4_init 47 = .ok (.iconst 0, 1) := by decide +kernel
theorem dX4_init_48 : decode cX4_init 48 = .ok (.putfield 32, 3) := by decide +kernel
theorem dX4_init_51 : decode cX4_init 51 = .ok (.aload_n 0, 1) := by decide +kernel
theorem dX4_init_52 : decode cX4_init 52 = .ok (.iconst 0, 1) := by decide +kernel
theorem dX4_init_53 : decode cX4_init 53 = .ok (.putfield 35, 3) := by decide +kernel
theorem dX4_init_56 : decode cX4_init 56 = .ok (.aload_n 0, 1) := by decide +kernel
theorem dX4_init_57 : decode cX4_init 57 = .ok (.iconst 0, 1) := by decide +kernel
theorem dX4_init_58 : decode cX4_init 58 = .ok (.putfield 38, 3) := by decide +kernel
theorem dX4_init_61 : decode cX4_init 61 = .ok (.iconst 0, 1) := by decide +kernel
theorem dX4_init_62 : decode cX4_init 62 = .ok (.istore_n 1, 1) := by decide +kernel
theorem dX4_init_63 : decode cX4_init 63 = .ok (.iload_n 1, 1) := by decide +kernel
theorem dX4_init_64 : decode cX4_init 64 = .ok (.aload_n 0, 1) := by decide +kernel
theorem dX4_init_65 : decode cX4_init 65 = .ok (.getfield 11, 3) := by decide +kernel
theorem dX4_init_68 : decode cX4_init 68 = .ok (.arraylength, 1) := by decide +kernel
theorem dX4_init_69 : decode cX4_init 69 = .ok (.if_icmp .ge 22, 3) := by decide +kernel
theorem dX4_init_72 : decode cX4_init 72 = .ok (.aload_n 0, 1) := by decide +kernel
theorem dX4_init_73 : decode cX4_init 73 = .ok (.getfield 11, 3) := by decide +kernel
theorem dX4_init_76 : decode cX4_init 76 = .ok (.iload_n 1, 1) := by decide +kernel
theorem dX4_init_77 : decode cX4_init 77 = .ok (.new 9, 3) := by decide +kernel
theorem dX4_init_80 : decode cX4_init 80 = .ok (.dup, 1) := by decide +kernel
theorem dX4_init_81 : decode cX4_init 81 = .ok (.invokespecial 41, 3) := by decide +kernel
theorem dX4_init_84 : decode cX4_init 84 = .ok (.aastore, 1) := by decide +kernel
theorem dX4_init_85 : decode cX4_init 85 = .ok (.iinc 1 1, 3) := by decide +kernel
theorem dX4_init_88 : decode cX4_init 88 = .ok (.goto (-25), 3) := by decide +kernel
theorem dX4_init_91 : decode cX4_init 91 = .ok (.aload_n 0, 1) := by decide +kernel
theorem dX4_init_92 : decode cX4_init 92 = .ok (.getfield 15, 3) := by decide +kernel
theorem dX4_init_95 : decode cX4_init 95 = .ok (.sipush 10000, 3) := by decide +kernel
theorem dX4_init_98 : decode cX4_init 98 = .ok (.invokestatic 42, 3) := by decide +kernel
theorem dX4_init_101 : decode cX4_init 101 = .ok (.aload_n 0, 1) := by decide +kernel
theorem dX4_init_102 : decode cX4_init 102 = .ok (.getfield 19, 3) := by decide +kernel
theorem dX4_init_105 : decode cX4_init 105 = .ok (.bipush 100, 2) := by decide +kernel
theorem dX4_init_107 : decode cX4_init 107 = .ok (.invokestatic 42, 3) := by decide +kernel
theorem dX4_init_110 : decode cX4_init 110 = .ok (.aload_n 0, 1) := by decide +kernel
theorem dX4_init_111 : decode cX4_init 111 = .ok (.getfield 19, 3) := by decide +kernel
theorem dX4_init_114 : decode cX4_init 114 = .ok (.iconst 0, 1) := by decide +kernel
theorem dX4_init_115 : decode cX4_init 115 = .ok (.iconst 0, 1) := by decide +kernel
theorem dX4_init_116 : decode cX4_init 116 = .ok (.iastore, 1) := by decide +kernel
theorem dX4_init_117 : decode cX4_init 117 = .ok (.aload_n 0, 1) := by decide +kernel
theorem dX4_init_118 : decode cX4_init 118 = .ok (.getfield 19, 3) := by decide +kernel
theorem dX4_init_121 : decode cX4_init 121 = .ok (.iconst 1, 1) := by decide +kernel
theorem dX4_init_122 : decode cX4_init 122 = .ok (.iconst 0, 1) := by decide +kernel
theorem dX4_init_123 : decode cX4_init 123 = .ok (.iastore, 1) := by decide +kernel
theorem dX4_init_124 : decode cX4_init 124 = .ok (.return_, 1) := by decide +kernel
set_option maxRecDepth 20000 in
theorem ggX4_setRate_X4_placeOfRate : GoodIn wsX4_setRate wsX4_placeOfRate := goodIn_r _ [8] (by decide +kernel) (by decide +kernel)
set_option maxRecDepth 20000 in
theorem gX4_setRate_X4_placeOfRate : GoodIn wsX4_setRate (va_wsS RX4 48 yX4_placeOfRate wsX4_placeOfRate) := goodIn_app (goodIn_of _ (by decide +kernel)) ggX4_setRate_X4_placeOfRate
set_option maxRecDepth 20000 in
theorem ggX4_setRate_X4_isWithin : GoodIn wsX4_setRate wsX4_isWithin := goodIn_r _ [11] (by decide +kernel) (by decide +kernel)
set_option maxRecDepth 20000 in
theorem gX4_setRate_X4_isWithin : GoodIn wsX4_setRate (va_wsS RX4 53 yX4_isWithin wsX4_isWithin) := goodIn_app (goodIn_of _ (by decide +kernel)) ggX4_setRate_X4_isWithin
theorem dX4_setRate_0 : decode cX4_setRate 0 = .ok (.iload_n 1, 1) := by decide +kernel
theorem dX4_setRate_1 : decode cX4_setRate 1 = .ok (.iload_n 2, 1) := by decide +kernel
theorem dX4_setRate_2 : decode cX4_setRate 2 = .ok (.invokestatic 48, 3) := by decide +kernel
theorem dX4_setRate_5 : decode cX4_setRate 5 = .ok (.istore 4, 2) := by decide +kernel
theorem dX4_setRate_7 : decode cX4_setRate 7 = .ok (.iload 4, 2) := by decide +kernel
theorem dX4_setRate_9 : decode cX4_setRate 9 = .ok (.ifCond .lt 23, 3) := by decide +kernel
theorem dX4_setRate_12 : decode cX4_setRate 12 = .ok (.iload 4, 2) := by decide +kernel
theorem dX4_setRate_14 : decode cX4_setRate 14 = .ok (.aload_n 0, 1) := by decide +kernel
theorem dX4_setRate_15 : decode cX4_setRate 15 = .ok (.getfield 15, 3) := by decide +kernel
theorem dX4_setRate_18 : decode cX4_setRate 18 = .ok (.arraylength, 1) := by decide +kernel
theorem dX4_setRate_19 : decode cX4_setRate 19 = .ok (.if_icmp .ge 13, 3) := by decide +kernel
theorem dX4_setRate_22 : decode cX4_setRate 22 = .ok (.iload_n 3, 1) := by decide +kernel
theorem dX4_setRate_23 : decode cX4_setRate 23 = .ok (.iconst 0, 1) := by decide +kernel
theorem dX4_setRate_24 : decode cX4_setRate 24 = .ok (.ldc 52, 2) := by decide +kernel
theorem dX4_setRate_26 : decode cX4_setRate 26 = .ok (.invokestatic 53, 3) := by decide +kernel
theorem dX4_setRate_29 : decode cX4_setRate 29 = .ok (.ifCond .ne 13, 3) := by decide +kernel
theorem dX4_setRate_32 : decode cX4_setRate 32 = .ok (.new 57, 3) := by decide +kernel
theorem dX4_setRate_35 : decode cX4_setRate 35 = .ok (.dup, 1) := by decide +kernel
theorem dX4_setRate_36 : decode cX4_setRate 36 = .ok (.ldc 59, 2) := by decide +kernel
theorem dX4_setRate_38 : decode cX4_setRate 38 = .ok (.invokespecial 61, 3) := by decide +kernel
theorem dX4_setRate_41 : decode cX4_setRate 41 = .ok (.athrow, 1) := by decide +kernel
theorem dX4_setRate_42 : decode cX4_setRate 42 = .ok (.aload_n 0, 1) := by decide +kernel
theorem dX4_setRate_43 : decode cX4_setRate 43 = .ok (.getfield 15, 3) := by decide +kernel
theorem dX4_setRate_46 : decode cX4_setRate 46 = .ok (.iload 4, 2) := by decide +kernel
theorem dX4_setRate_48 : decode cX4_setRate 48 = .ok (.iaload, 1) := by decide +kernel
theorem dX4_setRate_49 : decode cX4_setRate 49 = .ok (.istore 5, 2) := by decide +kernel
theorem dX4_setRate_51 : decode cX4_setRate 51 = .ok (.aload_n 0, 1) := by decide +kernel
theorem dX4_setRate_52 : decode cX4_setRate 52 = .ok (.getfield 15, 3) := by decide +kernel
theorem dX4_setRate_55 : decode cX4_setRate 55 = .ok (.iload 4, 2) := by decide +kernel
theorem dX4_setRate_57 : decode cX4_setRate 57 = .ok (.iload_n 3, 1) := by decide +kernel
theorem dX4_setRate_58 : decode cX4_setRate 58 = .ok (.iastore, 1) := by decide +kernel
theorem dX4_setRate_59 : decode cX4_setRate 59 = .ok (.iload 5, 2) := by decide +kernel
theorem dX4_setRate_61 : decode cX4_setRate 61 = .ok (.ireturn, 1) := by decide +kernel
set_option maxRecDepth 20000 in
theorem ggX4_setBand_X4_isWithin : GoodIn wsX4_setBand wsX4_isWithin := goodIn_r _ [8] (by decide +kernel) (by decide +kernel)
set_option maxRecDepth 20000 in
theorem gX4_setBand_X4_isWithin : GoodIn wsX4_setBand (va_wsS RX4 53 yX4_isWithin wsX4_isWithin) := goodIn_app (goodIn_of _ (by decide +kernel)) ggX4_setBand_X4_isWithin
theorem dX4_setBand_0 : decode cX4_setBand 0 = .ok (.iload_n 1, 1) := by decide +kernel
theorem dX4_setBand_1 : decode cX4_setBand 1 = .ok (.iconst 1, 1) := by decide +kernel
theorem dX4_setBand_2 : decode cX4_setBand 2 = .ok (.bipush 30, 2) := by decide +kernel
theorem dX4_setBand_4 : decode cX4_setBand 4 = .ok (.invokestatic 53, 3) := by decide +kernel
theorem dX4_setBand_7 : decode cX4_setBand 7 = .ok (.ifCond .eq 13, 3) := by decide +kernel
theorem dX4_setBand_10 : decode cX4_setBand 10 = .ok (.iload_n 2, 1) := by decide +kernel
theorem dX4_setBand_11 : decode cX4_setBand 11 = .ok (.iload_n 1, 1) := by decide +kernel
theorem dX4_setBand_12 : decode cX4_setBand 12 = .ok (.bipush 30, 2) := by decide +kernel
theorem dX4_setBand_14 : decode cX4_setBand 14 = .ok (.invokestatic 53, 3) := by decide +kernel
theorem dX4_setBand_17 : decode cX4_setBand 17 = .ok (.ifCond .ne 13, 3) := by decide +kernel
theorem dX4_setBand_20 : decode cX4_setBand 20 = .ok (.new 57, 3) := by decide +kernel
theorem dX4_setBand_23 : decode cX4_setBand 23 = .ok (.dup, 1) := by decide +kernel
theorem dX4_setBand_24 : decode cX4_setBand 24 = .ok (.ldc 64, 2) := by decide +kernel
theorem dX4_setBand_26 : decode cX4_setBand 26 = .ok (.invokespecial 61, 3) := by decide +kernel
theorem dX4_setBand_29 : decode cX4_setBand 29 = .ok (.athrow, 1) := by decide +kernel
theorem dX4_setBand_30 : decode cX4_setBand 30 = .ok (.aload_n 0, 1) := by decide +kernel
theorem dX4_setBand_31 : decode cX4_setBand 31 = .ok (.iload_n 1, 1) := by decide +kernel
theorem dX4_setBand_32 : decode cX4_setBand 32 = .ok (.putfield 22, 3) := by decide +kernel
theorem dX4_setBand_35 : decode cX4_setBand 35 = .ok (.aload_n 0, 1) := by decide +kernel
theorem dX4_setBand_36 : decode cX4_setBand 36 = .ok (.iload_n 2, 1) := by decide +kernel
theorem dX4_setBand_37 : decode cX4_setBand 37 = .ok (.putfield 26, 3) := by decide +kernel
theorem dX4_setBand_40 : decode cX4_setBand 40 = .ok (.return_, 1) := by decide +kernel
set_option maxRecDepth 20000 in
theorem ggX4_setShare_X4_isWithin : GoodIn wsX4_setShare wsX4_isWithin := goodIn_r _ [7] (by decide +kernel) (by decide +kernel)
set_option maxRecDepth 20000 in
theorem gX4_setShare_X4_isWithin : GoodIn wsX4_setShare (va_wsS RX4 53 yX4_isWithin wsX4_isWithin) := goodIn_app (goodIn_of _ (by decide +kernel)) ggX4_setShare_X4_isWithin
theorem dX4_setShare_0 : decode cX4_setShare 0 = .ok (.iload_n 1, 1) := by decide +kernel
theorem dX4_setShare_1 : decode cX4_setShare 1 = .ok (.ifCond .lt 22, 3) := by decide +kernel
theorem dX4_setShare_4 : decode cX4_setShare 4 = .ok (.iload_n 1, 1) := by decide +kernel
theorem dX4_setShare_5 : decode cX4_setShare 5 = .ok (.aload_n 0, 1) := by decide +kernel
theorem dX4_setShare_6 : decode cX4_setShare 6 = .ok (.getfield 19, 3) := by decide +kernel
theorem dX4_setShare_9 : decode cX4_setShare 9 = .ok (.arraylength, 1) := by decide +kernel
theorem dX4_setShare_10 : decode cX4_setShare 10 = .ok (.if_icmp .ge 13, 3) := by decide +kernel
theorem dX4_setShare_13 : decode cX4_setShare 13 = .ok (.iload_n 2, 1) := by decide +kernel
theorem dX4_setShare_14 : decode cX4_setShare 14 = .ok (.iconst 0, 1) := by decide +kernel
theorem dX4_setShare_15 : decode cX4_setShare 15 = .ok (.bipush 100, 2) := by decide +kernel
theorem dX4_setShare_17 : decode cX4_setShare 17 = .ok (.invokestatic 53, 3) := by decide +kernel
theorem dX4_setShare_20 : decode cX4_setShare 20 = .ok (.ifCond .ne 13, 3) := by decide +kernel
theorem dX4_setShare_23 : decode cX4_setShare 23 = .ok (.new 57, 3) := by decide +kernel
theorem dX4_setShare_26 : decode cX4_setShare 26 = .ok (.dup, 1) := by decide +kernel
theorem dX4_setShare_27 : decode cX4_setShare 27 = .ok (.ldc 66, 2) := by decide +kernel
theorem dX4_setShare_29 : decode cX4_setShare 29 = .ok (.invokespecial 61, 3) := by decide +kernel
theorem dX4_setShare_32 : decode cX4_setShare 32 = .ok (.athrow, 1) := by decide +kernel
theorem dX4_setShare_33 : decode cX4_setShare 33 = .ok (.aload_n 0, 1) := by decide +kernel
theorem dX4_setShare_34 : decode cX4_setShare 34 = .ok (.getfield 19, 3) := by decide +kernel
theorem dX4_setShare_37 : decode cX4_setShare 37 = .ok (.iload_n 1, 1) := by decide +kernel
theorem dX4_setShare_38 : decode cX4_setShare 38 = .ok (.iaload, 1) := by decide +kernel
theorem dX4_setShare_39 : decode cX4_setShare 39 = .ok (.istore_n 3, 1) := by decide +kernel
theorem dX4_setShare_40 : decode cX4_setShare 40 = .ok (.aload_n 0, 1) := by decide +kernel
theorem dX4_setShare_41 : decode cX4_setShare 41 = .ok (.getfield 19, 3) := by decide +kernel
theorem dX4_setShare_44 : decode cX4_setShare 44 = .ok (.iload_n 1, 1) := by decide +kernel
theorem dX4_setShare_45 : decode cX4_setShare 45 = .ok (.iload_n 2, 1) := by decide +kernel
theorem dX4_setShare_46 : decode cX4_setShare 46 = .ok (.iastore, 1) := by decide +kernel
theorem dX4_setShare_47 : decode cX4_setShare 47 = .ok (.iload_n 3, 1) := by decide +kernel
theorem dX4_setShare_48 : decode cX4_setShare 48 = .ok (.ireturn, 1) := by decide +kernel
set_option maxRecDepth 20000 in
theorem ggX4_setFees_X4_isWithin : GoodIn wsX4_setFees wsX4_isWithin := goodIn_r _ [10] (by decide +kernel) (by decide +kernel)
set_option maxRecDepth 20000 in
theorem gX4_setFees_X4_isWithin : GoodIn wsX4_setFees (va_wsS RX4 53 yX4_isWithin wsX4_isWithin) := goodIn_app (goodIn_of _ (by decide +kernel)) ggX4_setFees_X4_isWithin
theorem dX4_setFees_0 : decode cX4_setFees 0 = .ok (.iload_n 1, 1) := by decide +kernel
theorem dX4_setFees_1 : decode cX4_setFees 1 = .ok (.iconst 0, 1) := by decide +kernel
theorem dX4_setFees_2 : decode cX4_setFees 2 = .ok (.ldc 52, 2) := by decide +kernel
theorem dX4_setFees_4 : decode cX4_setFees 4 = .ok (.invokestatic 53, 3) := by decide +kernel
theorem dX4_setFees_7 : decode cX4_setFees 7 = .ok (.ifCond .eq 13, 3) := by decide +kernel
theorem dX4_setFees_10 : decode cX4_setFees 10 = .ok (.iload_n 2, 1) := by decide +kernel
theorem dX4_setFees_11 : decode cX4_setFees 11 = .ok (.iconst 0, 1) := by decide +kernel
theorem dX4_setFees_12 : decode cX4_setFees 12 = .ok (.ldc 68, 2) := by decide +kernel
theorem dX4_setFees_14 : decode cX4_setFees 14 = .ok (.invokestatic 53, 3) := by decide +kernel
theorem dX4_setFees_17 : decode cX4_setFees 17 = .ok (.ifCond .ne 13, 3) := by decide +kernel
theorem dX4_setFees_20 : decode cX4_setFees 20 = .ok (.new 57, 3) := by decide +kernel
theorem dX4_setFees_23 : decode cX4_setFees 23 = .ok (.dup, 1) := by decide +kernel
theorem dX4_setFees_24 : decode cX4_setFees 24 = .ok (.ldc 69, 2) := by decide +kernel
theorem dX4_setFees_26 : decode cX4_setFees 26 = .ok (.invokespecial 61, 3) := by decide +kernel
theorem dX4_setFees_29 : decode cX4_setFees 29 = .ok (.athrow, 1) := by decide +kernel
theorem dX4_setFees_30 : decode cX4_setFees 30 = .ok (.aload_n 0, 1) := by decide +kernel
theorem dX4_setFees_31 : decode cX4_setFees 31 = .ok (.iload_n 1, 1) := by decide +kernel
theorem dX4_setFees_32 : decode cX4_setFees 32 = .ok (.putfield 29, 3) := by decide +kernel
theorem dX4_setFees_35 : decode cX4_setFees 35 = .ok (.aload_n 0, 1) := by decide +kernel
theorem dX4_setFees_36 : decode cX4_setFees 36 = .ok (.iload_n 2, 1) := by decide +kernel
theorem dX4_setFees_37 : decode cX4_setFees 37 = .ok (.putfield 32, 3) := by decide +kernel
theorem dX4_setFees_40 : decode cX4_setFees 40 = .ok (.return_, 1) := by decide +kernel
set_option maxRecDepth 20000 in
theorem ggX4_setStudent_X4_studentAt : GoodIn wsX4_setStudent wsX4_studentAt := goodIn_ca (goodIn_r _ [11, 12, 13, 14, 29, 30, 31, 32, 33, 34, 35, 36, 37] (by decide +kernel) (by decide +kernel)) (goodIn_sub (fun _ h => List.mem_cons_of_mem _ (List.mem_append_right _ h)) (by decide +kernel))
set_option maxRecDepth 20000 in
theorem gX4_setStudent_X4_studentAt : GoodIn wsX4_setStudent (wsV RX4 71 RX4 yX4_studentAt wsX4_studentAt) := goodIn_app (goodIn_of _ (by decide +kernel)) ggX4_setStudent_X4_studentAt
set_option maxRecDepth 20000 in
theorem ggX4_setStudent_X4_isWithin : GoodIn wsX4_setStudent wsX4_isWithin := goodIn_r _ [17] (by decide +kernel) (by decide +kernel)
set_option maxRecDepth 20000 in
theorem gX4_setStudent_X4_isWithin : GoodIn wsX4_setStudent (va_wsS RX4 53 yX4_isWithin wsX4_isWithin) := goodIn_app (goodIn_of _ (by decide +kernel)) ggX4_setStudent_X4_isWithin
theorem dX4_setStudent_0 : decode cX4_setStudent 0 = .ok (.aload_n 0, 1) := by decide +kernel
theorem dX4_setStudent_1 : decode cX4_setStudent 1 = .ok (.iload_n 1, 1) := by decide +kernel
theorem dX4_setStudent_2 : decode cX4_setStudent 2 = .ok (.invokevirtual 71, 3) := by decide +kernel
theorem dX4_setStudent_5 : decode cX4_setStudent 5 = .ok (.astore 5, 2) := by decide +kernel
theorem dX4_setStudent_7 : decode cX4_setStudent 7 = .ok (.iload_n 2, 1) := by decide +kernel
theorem dX4_setStudent_8 : decode cX4_setStudent 8 = .ok (.iconst 0, 1) := by decide +kernel
theorem dX4_setStudent_9 : decode cX4_setStudent 9 = .ok (.iconst 1, 1) := by decide +kernel
theorem dX4_setStudent_10 : decode cX4_setStudent 10 = .ok (.invokestatic 53, 3) := by decide +kernel
theorem dX4_setStudent_13 : decode cX4_setStudent 13 = .ok (.ifCond .eq 14, 3) := by decide +kernel
theorem dX4_setStudent_16 : decode cX4_setStudent 16 = .ok (.iload 4, 2) := by decide +kernel
theorem dX4_setStudent_18 : decode cX4_setStudent 18 = .ok (.iconst 0, 1) := by decide +kernel
theorem dX4_setStudent_19 : decode cX4_setStudent 19 = .ok (.ldc 68, 2) := by decide +kernel
theorem dX4_setStudent_21 : decode cX4_setStudent 21 = .ok (.invokestatic 53, 3) := by decide +kernel
theorem dX4_setStudent_24 : decode cX4_setStudent 24 = .ok (.ifCond .ne 13, 3) := by decide +kernel
theorem dX4_setStudent_27 : decode cX4_setStudent 27 = .ok (.new 57, 3) := by decide +kernel
theorem dX4_setStudent_30 : decode cX4_setStudent 30 = .ok (.dup, 1) := by decide +kernel
theorem dX4_setStudent_31 : decode cX4_setStudent 31 = .ok (.ldc 75, 2) := by decide +kernel
theorem dX4_setStudent_33 : decode cX4_setStudent 33 = .ok (.invokespecial 61, 3) := by decide +kernel
theorem dX4_setStudent_36 : decode cX4_setStudent 36 = .ok (.athrow, 1) := by decide +kernel
theorem dX4_setStudent_37 : decode cX4_setStudent 37 = .ok (.aload 5, 2) := by decide +kernel
theorem dX4_setStudent_39 : decode cX4_setStudent 39 = .ok (.iload_n 2, 1) := by decide +kernel
theorem dX4_setStudent_40 : decode cX4_setStudent 40 = .ok (.putfield 77, 3) := by decide +kernel
theorem dX4_setStudent_43 : decode cX4_setStudent 43 = .ok (.aload 5, 2) := by decide +kernel
theorem dX4_setStudent_45 : decode cX4_setStudent 45 = .ok (.iload_n 3, 1) := by decide +kernel
theorem dX4_setStudent_46 : decode cX4_setStudent 46 = .ok (.putfield 80, 3) := by decide +kernel
theorem dX4_setStudent_49 : decode cX4_setStudent 49 = .ok (.aload 5, 2) := by decide +kernel
theorem dX4_setStudent_51 : decode cX4_setStudent 51 = .ok (.iload 4, 2) := by decide +kernel
theorem dX4_setStudent_53 : decode cX4_setStudent 53 = .ok (.putfield 84, 3) := by decide +kernel
theorem dX4_setStudent_56 : decode cX4_setStudent 56 = .ok (.return_, 1) := by decide +kernel
set_option maxRecDepth 20000 in
theorem ggX4_setSponsor_X4_studentAt : GoodIn wsX4_setSponsor wsX4_studentAt := goodIn_ca (goodIn_r _ [10, 11, 12, 13, 28, 29, 30, 31, 32, 33, 34, 35, 36] (by decide +kernel) (by decide +kernel)) (goodIn_sub (fun _ h => List.mem_cons_of_mem _ (List.mem_append_right _ h)) (by decide +kernel))
set_option maxRecDepth 20000 in
theorem gX4_setSponsor_X4_studentAt : GoodIn wsX4_setSponsor (wsV RX4 71 RX4 yX4_studentAt wsX4_studentAt) := goodIn_app (goodIn_of _ (by decide +kernel)) ggX4_setSponsor_X4_studentAt
set_option maxRecDepth 20000 in
theorem ggX4_setSponsor_X4_isWithin : GoodIn wsX4_setSponsor wsX4_isWithin := goodIn_r _ [16] (by decide +kernel) (by decide +kernel)
set_option maxRecDepth 20000 in
theorem gX4_setSponsor_X4_isWithin : GoodIn wsX4_setSponsor (va_wsS RX4 53 yX4_isWithin wsX4_isWithin) := goodIn_app (goodIn_of _ (by decide +kernel)) ggX4_setSponsor_X4_isWithin
theorem dX4_setSponsor_0 : decode cX4_setSponsor 0 = .ok (.aload_n 0, 1) := by decide +kernel
theorem dX4_setSponsor_1 : decode cX4_setSponsor 1 = .ok (.iload_n 1, 1) := by decide +kernel
theorem dX4_setSponsor_2 : decode cX4_setSponsor 2 = .ok (.invokevirtual 71, 3) := by decide +kernel
theorem dX4_setSponsor_5 : decode cX4_setSponsor 5 = .ok (.astore 4, 2) := by decide +kernel
theorem dX4_setSponsor_7 : decode cX4_setSponsor 7 = .ok (.iload_n 2, 1) := by decide +kernel
theorem dX4_setSponsor_8 : decode cX4_setSponsor 8 = .ok (.iconst 0, 1) := by decide +kernel
theorem dX4_setSponsor_9 : decode cX4_setSponsor 9 = .ok (.bipush 7, 2) := by decide +kernel
theorem dX4_setSponsor_11 : decode cX4_setSponsor 11 = .ok (.invokestatic 53, 3) := by decide +kernel
theorem dX4_setSponsor_14 : decode cX4_setSponsor 14 = .ok (.ifCond .eq 13, 3) := by decide +kernel
theorem dX4_setSponsor_17 : decode cX4_setSponsor 17 = .ok (.iload_n 3, 1) := by decide +kernel
theorem dX4_setSponsor_18 : decode cX4_setSponsor 18 = .ok (.iconst 0, 1) := by decide +kernel
theorem dX4_setSponsor_19 : decode cX4_setSponsor 19 = .ok (.ldc 68, 2) := by decide +kernel
theorem dX4_setSponsor_21 : decode cX4_setSponsor 21 = .ok (.invokestatic 53, 3) := by decide +kernel
theorem dX4_setSponsor_24 : decode cX4_setSponsor 24 = .ok (.ifCond .ne 13, 3) := by decide +kernel
theorem dX4_setSponsor_27 : decode cX4_setSponsor 27 = .ok (.new 57, 3) := by decide +kernel
theorem dX4_setSponsor_30 : decode cX4_setSponsor 30 = .ok (.dup, 1) := by decide +kernel
theorem dX4_setSponsor_31 : decode cX4_setSponsor 31 = .ok (.ldc 87, 2) := by decide +kernel
theorem dX4_setSponsor_33 : decode cX4_setSponsor 33 = .ok (.invokespecial 61, 3) := by decide +kernel
theorem dX4_setSponsor_36 : decode cX4_setSponsor 36 = .ok (.athrow, 1) := by decide +kernel
theorem dX4_setSponsor_37 : decode cX4_setSponsor 37 = .ok (.aload 4, 2) := by decide +kernel
theorem dX4_setSponsor_39 : decode cX4_setSponsor 39 = .ok (.iload_n 2, 1) := by decide +kernel
theorem dX4_setSponsor_40 : decode cX4_setSponsor 40 = .ok (.putfield 89, 3) := by decide +kernel
theorem dX4_setSponsor_43 : decode cX4_setSponsor 43 = .ok (.aload 4, 2) := by decide +kernel
theorem dX4_setSponsor_45 : decode cX4_setSponsor 45 = .ok (.iload_n 3, 1) := by decide +kernel
theorem dX4_setSponsor_46 : decode cX4_setSponsor 46 = .ok (.putfield 92, 3) := by decide +kernel
theorem dX4_setSponsor_49 : decode cX4_setSponsor 49 = .ok (.return_, 1) := by decide +kernel
set_option maxRecDepth 20000 in
theorem ggX4_take_X4_studentAt : GoodIn wsX4_take wsX4_studentAt := goodIn_ca (goodIn_r _ [10, 11, 12, 13, 35, 36, 37, 38, 39, 40, 41, 42, 43] (by decide +kernel) (by decide +kernel)) (goodIn_sub (fun _ h => List.mem_cons_of_mem _ (List.mem_append_right _ h)) (by decide +kernel))
set_option maxRecDepth 20000 in
theorem gX4_take_X4_studentAt : GoodIn wsX4_take (wsV RX4 71 RX4 yX4_studentAt wsX4_studentAt) := goodIn_app (goodIn_of _ (by decide +kernel)) ggX4_take_X4_studentAt
set_option maxRecDepth 20000 in
theorem ggX4_take_X4_isWithin : GoodIn wsX4_take wsX4_isWithin := goodIn_r _ [16] (by decide +kernel) (by decide +kernel)
set_option maxRecDepth 20000 in
theorem gX4_take_X4_isWithin : GoodIn wsX4_take (va_wsS RX4 53 yX4_isWithin wsX4_isWithin) := goodIn_app (goodIn_of _ (by decide +kernel)) ggX4_take_X4_isWithin
set_option maxRecDepth 20000 in
theorem ggX4_take_X1_add : GoodIn wsX4_take wsX1_add := goodIn_r _ [21, 22, 23, 44, 45, 46] (by decide +kernel) (by decide +kernel)
set_option maxRecDepth 20000 in
theorem gX4_take_X1_add : GoodIn wsX4_take (wsV RX4 101 RX1 yX1_add wsX1_add) := goodIn_app (goodIn_of _ (by decide +kernel)) ggX4_take_X1_add
theorem dX4_take_0 : decode cX4_take 0 = .ok (.aload_n 0, 1) := by decide +kernel
theorem dX4_take_1 : decode cX4_take 1 = .ok (.iload_n 1, 1) := by decide +kernel
theorem dX4_take_2 : decode cX4_take 2 = .ok (.invokevirtual 71, 3) := by decide +kernel
theorem dX4_take_5 : decode cX4_take 5 = .ok (.astore_n 3, 1) := by decide +kernel
theorem dX4_take_6 : decode cX4_take 6 = .ok (.iload_n 2, 1) := by decide +kernel
theorem dX4_take_7 : decode cX4_take 7 = .ok (.iconst 1, 1) := by decide +kernel
theorem dX4_take_8 : decode cX4_take 8 = .ok (.bipush 10, 2) := by decide +kernel
theorem dX4_take_10 : decode cX4_take 10 = .ok (.invokestatic 53, 3) := by decide +kernel
theorem dX4_take_13 : decode cX4_take 13 = .ok (.ifCond .ne 13, 3) := by decide +kernel
theorem dX4_take_16 : decode cX4_take 16 = .ok (.new 57, 3) := by decide +kernel
theorem dX4_take_19 : decode cX4_take 19 = .ok (.dup, 1) := by decide +kernel
theorem dX4_take_20 : decode cX4_take 20 = .ok (.ldc 95, 2) := by decide +kernel
theorem dX4_take_22 : decode cX4_take 22 = .ok (.invokespecial 61, 3) := by decide +kernel
theorem dX4_take_25 : decode cX4_take 25 = .ok (.athrow, 1) := by decide +kernel
theorem dX4_take_26 : decode cX4_take 26 = .ok (.aload_n 3, 1) := by decide +kernel
theorem dX4_take_27 : decode cX4_take 27 = .ok (.getfield 97, 3) := by decide +kernel
theorem dX4_take_30 : decode cX4_take 30 = .ok (.iload_n 2, 1) := by decide +kernel
theorem dX4_take_31 : decode cX4_take 31 = .ok (.invokevirtual 101, 3) := by decide +kernel
theorem dX4_take_34 : decode cX4_take 34 = .ok (.istore 4, 2) := by decide +kernel
theorem dX4_take_36 : decode cX4_take 36 = .ok (.iload 4, 2) := by decide +kernel
theorem dX4_take_38 : decode cX4_take 38 = .ok (.ifCond .ge 13, 3) := by decide +kernel
theorem dX4_take_41 : decode cX4_take 41 = .ok (.new 107, 3) := by decide +kernel
theorem dX4_take_44 : decode cX4_take 44 = .ok (.dup, 1) := by decide +kernel
theorem dX4_take_45 : decode cX4_take 45 = .ok (.ldc 109, 2) := by decide +kernel
theorem dX4_take_47 : decode cX4_take 47 = .ok (.invokespecial 111, 3) := by decide +kernel
theorem dX4_take_50 : decode cX4_take 50 = .ok (.athrow, 1) := by decide +kernel
theorem dX4_take_51 : decode cX4_take 51 = .ok (.iload 4, 2) := by decide +kernel
theorem dX4_take_53 : decode cX4_take 53 = .ok (.ireturn, 1) := by decide +kernel
set_option maxRecDepth 20000 in
theorem ggX4_drop_X4_studentAt : GoodIn wsX4_drop wsX4_studentAt := goodIn_ca (goodIn_r _ [10, 1, 2, 11, 69, 70, 71, 72, 73, 74, 75, 76, 77] (by decide +kernel) (by decide +kernel)) (goodIn_sub (fun _ h => List.mem_cons_of_mem _ (List.mem_append_left _ (List.mem_append_right _ h))) (by decide +kernel))
set_option maxRecDepth 20000 in
theorem gX4_drop_X4_studentAt : GoodIn wsX4_drop (wsV RX4 71 RX4 yX4_studentAt wsX4_studentAt) := goodIn_app (goodIn_of _ (by decide +kernel)) ggX4_drop_X4_studentAt
set_option maxRecDepth 20000 in
theorem ggX4_drop_X1_has : GoodIn wsX4_drop wsX1_has := goodIn_r _ [16, 17, 78, 79, 80] (by decide +kernel) (by decide +kernel)
set_option maxRecDepth 20000 in
theorem gX4_drop_X1_has : GoodIn wsX4_drop (wsV RX4 112 RX1 yX1_has wsX1_has) := goodIn_app (goodIn_of _ (by decide +kernel)) ggX4_drop_X1_has
set_option maxRecDepth 20000 in
theorem ggX4_drop_X1_creditsOf : GoodIn wsX4_drop wsX1_creditsOf := goodIn_r _ [21, 22, 78, 79, 80] (by decide +kernel) (by decide +kernel)
set_option maxRecDepth 20000 in
theorem gX4_drop_X1_creditsOf : GoodIn wsX4_drop (wsV RX4 121 RX1 yX1_creditsOf wsX1_creditsOf) := goodIn_app (goodIn_of _ (by decide +kernel)) ggX4_drop_X1_creditsOf
set_option maxRecDepth 20000 in
theorem ggX4_drop_X4_dropCourse : GoodIn wsX4_drop wsX4_dropCourse := goodIn_r _ [26, 27, 28, 5, 29, 30, 31, 9, 32, 33, 34, 35, 36, 37, 38, 39, 40, 15, 41, 22, 42, 43, 44, 45, 46, 47, 48, 49, 50, 51, 52, 53, 54, 55, 56, 57, 58, 59, 60, 61, 62, 63, 64, 65, 66, 67, 68, 78, 79, 80, 69, 70, 71, 72, 73, 74, 75, 76, 77] (by decide +kernel) (by decide +kernel)
set_option maxRecDepth 20000 in
theorem gX4_drop_X4_dropCourse : GoodIn wsX4_drop (wsV RX4 126 RX4 yX4_dropCourse wsX4_dropCourse) := goodIn_app (goodIn_of _ (by decide +kernel)) ggX4_drop_X4_dropCourse
theorem dX4_drop_0 : decode cX4_drop 0 = .ok (.aload_n 0, 1) := by decide +kernel
theorem dX4_drop_1 : decode cX4_drop 1 = .ok (.iload_n 1, 1) := by decide +kernel
theorem dX4_drop_2 : decode cX4_drop 2 = .ok (.invokevirtual 71, 3) := by decide +kernel
theorem dX4_drop_5 : decode cX4_drop 5 = .ok (.astore_n 3, 1) := by decide +kernel
theorem dX4_drop_6 : decode cX4_drop 6 = .ok (.aload_n 3, 1) := by decide +kernel
theorem dX4_drop_7 : decode cX4_drop 7 = .ok (.getfield 97, 3) := by decide +kernel
theorem dX4_drop_10 : decode cX4_drop 10 = .ok (.iload_n 2, 1) := by decide +kernel
theorem dX4_drop_11 : decode cX4_drop 11 = .ok (.invokevirtual 112, 3) := by decide +kernel
theorem dX4_drop_14 : decode cX4_drop 14 = .ok (.ifCond .ne 13, 3) := by decide +kernel
theorem dX4_drop_17 : decode cX4_drop 17 = .ok (.new 116, 3) := by decide +kernel
theorem dX4_drop_20 : decode cX4_drop 20 = .ok (.dup, 1) := by decide +kernel
theorem dX4_drop_21 : decode cX4_drop 21 = .ok (.ldc 118, 2) := by decide +kernel
theorem dX4_drop_23 : decode cX4_drop 23 = .ok (.invokespecial 120, 3) := by decide +kernel
theorem dX4_drop_26 : decode cX4_drop 26 = .ok (.athrow, 1) := by decide +kernel
theorem dX4_drop_27 : decode cX4_drop 27 = .ok (.aload_n 3, 1) := by decide +kernel
theorem dX4_drop_28 : decode cX4_drop 28 = .ok (.getfield 97, 3) := by decide +kernel
theorem dX4_drop_31 : decode cX4_drop 31 = .ok (.iload_n 2, 1) := by decide +kernel
theorem dX4_drop_32 : decode cX4_drop 32 = .ok (.invokevirtual 121, 3) := by decide +kernel
theorem dX4_drop_35 : decode cX4_drop 35 = .ok (.ifCond .ne 13, 3) := by decide +kernel
theorem dX4_drop_38 : decode cX4_drop 38 = .ok (.new 107, 3) := by decide +kernel
theorem dX4_drop_41 : decode cX4_drop 41 = .ok (.dup, 1) := by decide +kernel
theorem dX4_drop_42 : decode cX4_drop 42 = .ok (.ldc 124, 2) := by decide +kernel
theorem dX4_drop_44 : decode cX4_drop 44 = .ok (.invokespecial 111, 3) := by decide +kernel
theorem dX4_drop_47 : decode cX4_drop 47 = .ok (.athrow, 1) := by decide +kernel
theorem dX4_drop_48 : decode cX4_drop 48 = .ok (.aload_n 0, 1) := by decide +kernel
theorem dX4_drop_49 : decode cX4_drop 49 = .ok (.aload_n 3, 1) := by decide +kernel
theorem dX4_drop_50 : decode cX4_drop 50 = .ok (.iload_n 2, 1) := by decide +kernel
theorem dX4_drop_51 : decode cX4_drop 51 = .ok (.invokevirtual 126, 3) := by decide +kernel
theorem dX4_drop_54 : decode cX4_drop 54 = .ok (.ireturn, 1) := by decide +kernel
set_option maxRecDepth 20000 in
theorem ggX4_charge_X4_studentAt : GoodIn wsX4_charge wsX4_studentAt := goodIn_ca (goodIn_r _ [10, 11, 12, 13, 28, 29, 30, 31, 32, 33, 34, 35, 36] (by decide +kernel) (by decide +kernel)) (goodIn_sub (fun _ h => List.mem_cons_of_mem _ (List.mem_append_right _ h)) (by decide +kernel))
set_option maxRecDepth 20000 in
theorem gX4_charge_X4_studentAt : GoodIn wsX4_charge (wsV RX4 71 RX4 yX4_studentAt wsX4_studentAt) := goodIn_app (goodIn_of _ (by decide +kernel)) ggX4_charge_X4_studentAt
set_option maxRecDepth 20000 in
theorem ggX4_charge_X4_isWithin : GoodIn wsX4_charge wsX4_isWithin := goodIn_r _ [16] (by decide +kernel) (by decide +kernel)
set_option maxRecDepth 20000 in
theorem gX4_charge_X4_isWithin : GoodIn wsX4_charge (va_wsS RX4 53 yX4_isWithin wsX4_isWithin) := goodIn_app (goodIn_of _ (by decide +kernel)) ggX4_charge_X4_isWithin
theorem dX4_charge_0 : decode cX4_charge 0 = .ok (.aload_n 0, 1) := by decide +kernel
theorem dX4_charge_1 : decode cX4_charge 1 = .ok (.iload_n 1, 1) := by decide +kernel
theorem dX4_charge_2 : decode cX4_charge 2 = .ok (.invokevirtual 71, 3) := by decide +kernel
theorem dX4_charge_5 : decode cX4_charge 5 = .ok (.astore 4, 2) := by decide +kernel
theorem dX4_charge_7 : decode cX4_charge 7 = .ok (.iload_n 2, 1) := by decide +kernel
theorem dX4_charge_8 : decode cX4_charge 8 = .ok (.iconst 1, 1) := by decide +kernel
theorem dX4_charge_9 : decode cX4_charge 9 = .ok (.if_icmp .eq 8, 3) := by decide +kernel
theorem dX4_charge_12 : decode cX4_charge 12 = .ok (.iload_n 2, 1) := by decide +kernel
theorem dX4_charge_13 : decode cX4_charge 13 = .ok (.iconst 2, 1) := by decide +kernel
theorem dX4_charge_14 : decode cX4_charge 14 = .ok (.if_icmp .ne 13, 3) := by decide +kernel
theorem dX4_charge_17 : decode cX4_charge 17 = .ok (.iload_n 3, 1) := by decide +kernel
theorem dX4_charge_18 : decode cX4_charge 18 = .ok (.iconst 1, 1) := by decide +kernel
theorem dX4_charge_19 : decode cX4_charge 19 = .ok (.ldc 68, 2) := by decide +kernel
theorem dX4_charge_21 : decode cX4_charge 21 = .ok (.invokestatic 53, 3) := by decide +kernel
theorem dX4_charge_24 : decode cX4_charge 24 = .ok (.ifCond .ne 13, 3) := by decide +kernel
theorem dX4_charge_27 : decode cX4_charge 27 = .ok (.new 57, 3) := by decide +kernel
theorem dX4_charge_30 : decode cX4_charge 30 = .ok (.dup, 1) := by decide +kernel
theorem dX4_charge_31 : decode cX4_charge 31 = .ok (.ldc 130, 2) := by decide +kernel
theorem dX4_charge_33 : decode cX4_charge 33 = .ok (.invokespecial 61, 3) := by decide +kernel
theorem dX4_charge_36 : decode cX4_charge 36 = .ok (.athrow, 1) := by decide +kernel
theorem dX4_charge_37 : decode cX4_charge 37 = .ok (.iload_n 2, 1) := by decide +kernel
theorem dX4_charge_38 : decode cX4_charge 38 = .ok (.iconst 1, 1) := by decide +kernel
theorem dX4_charge_39 : decode cX4_charge 39 = .ok (.if_icmp .ne 20, 3) := by decide +kernel
theorem dX4_charge_42 : decode cX4_charge 42 = .ok (.aload 4, 2) := by decide +kernel
theorem dX4_charge_44 : decode cX4_charge 44 = .ok (.dup, 1) := by decide +kernel
theorem dX4_charge_45 : decode cX4_charge 45 = .ok (.getfield 132, 3) := by decide +kernel
theorem dX4_charge_48 : decode cX4_charge 48 = .ok (.iload_n 3, 1) := by decide +kernel
theorem dX4_charge_49 : decode cX4_charge 49 = .ok (.iadd, 1) := by decide +kernel
theorem dX4_charge_50 : decode cX4_charge 50 = .ok (.putfield 132, 3) := by decide +kernel
theorem dX4_charge_53 : decode cX4_charge 53 = .ok (.aload 4, 2) := by decide +kernel
theorem dX4_charge_55 : decode cX4_charge 55 = .ok (.getfield 132, 3) := by decide +kernel
theorem dX4_charge_58 : decode cX4_charge 58 = .ok (.ireturn, 1) := by decide +kernel
theorem dX4_charge_59 : decode cX4_charge 59 = .ok (.aload 4, 2) := by decide +kernel
theorem dX4_charge_61 : decode cX4_charge 61 = .ok (.dup, 1) := by decide +kernel
theorem dX4_charge_62 : decode cX4_charge 62 = .ok (.getfield 135, 3) := by decide +kernel
theorem dX4_charge_65 : decode cX4_charge 65 = .ok (.iload_n 3, 1) := by decide +kernel
theorem dX4_charge_66 : decode cX4_charge 66 = .ok (.iadd, 1) := by decide +kernel
theorem dX4_charge_67 : decode cX4_charge 67 = .ok (.putfield 135, 3) := by decide +kernel
theorem dX4_charge_70 : decode cX4_charge 70 = .ok (.aload 4, 2) := by decide +kernel
theorem dX4_charge_72 : decode cX4_charge 72 = .ok (.getfield 135, 3) := by decide +kernel
theorem dX4_charge_75 : decode cX4_charge 75 = .ok (.ireturn, 1) := by decide +kernel
set_option maxRecDepth 20000 in
theorem ggX4_award_X4_studentAt : GoodIn wsX4_award wsX4_studentAt := goodIn_ca (goodIn_r _ [11, 12, 13, 14, 37, 38, 39, 40, 41, 42, 43, 44, 45] (by decide +kernel) (by decide +kernel)) (goodIn_sub (fun _ h => List.mem_cons_of_mem _ (List.mem_append_right _ h)) (by decide +kernel))
set_option maxRecDepth 20000 in
theorem gX4_award_X4_studentAt : GoodIn wsX4_award (wsV RX4 71 RX4 yX4_studentAt wsX4_studentAt) := goodIn_app (goodIn_of _ (by decide +kernel)) ggX4_award_X4_studentAt
set_option maxRecDepth 20000 in
theorem ggX4_award_X4_isWithin : GoodIn wsX4_award wsX4_isWithin := goodIn_r _ [17] (by decide +kernel) (by decide +kernel)
set_option maxRecDepth 20000 in
theorem gX4_award_X4_isWithin : GoodIn wsX4_award (va_wsS RX4 53 yX4_isWithin wsX4_isWithin) := goodIn_app (goodIn_of _ (by decide +kernel)) ggX4_award_X4_isWithin
set_option maxRecDepth 20000 in
theorem ggX4_award_X0_add : GoodIn wsX4_award wsX0_add := goodIn_r _ [22, 23, 24, 25, 46, 47, 48, 49] (by decide +kernel) (by decide +kernel)
set_option maxRecDepth 20000 in
theorem gX4_award_X0_add : GoodIn wsX4_award (wsV RX4 144 RX0 yX0_add wsX0_add) := goodIn_app (goodIn_of _ (by decide +kernel)) ggX4_award_X0_add
theorem dX4_award_0 : decode cX4_award 0 = .ok (.aload_n 0, 1) := by decide +kernel
theorem dX4_award_1 : decode cX4_award 1 = .ok (.iload_n 1, 1) := by decide +kernel
theorem dX4_award_2 : decode cX4_award 2 = .ok (.invokevirtual 71, 3) := by decide +kernel
theorem dX4_award_5 : decode cX4_award 5 = .ok (.astore 4, 2) := by decide +kernel
theorem dX4_award_7 : decode cX4_award 7 = .ok (.iload_n 2, 1) := by decide +kernel
theorem dX4_award_8 : decode cX4_award 8 = .ok (.iconst 0, 1) := by decide +kernel
theorem dX4_award_9 : decode cX4_award 9 = .ok (.iconst 2, 1) := by decide +kernel
theorem dX4_award_10 : decode cX4_award 10 = .ok (.invokestatic 53, 3) := by decide +kernel
theorem dX4_award_13 : decode cX4_award 13 = .ok (.ifCond .eq 13, 3) := by decide +kernel
theorem dX4_award_16 : decode cX4_award 16 = .ok (.iload_n 3, 1) := by decide +kernel
theorem dX4_award_17 : decode cX4_award 17 = .ok (.iconst 1, 1) := by decide +kernel
theorem dX4_award_18 : decode cX4_award 18 = .ok (.ldc 68, 2) := by decide +kernel
theorem dX4_award_20 : decode cX4_award 20 = .ok (.invokestatic 53, 3) := by decide +kernel
theorem dX4_award_23 : decode cX4_award 23 = .ok (.ifCond .ne 13, 3) := by decide +kernel
theorem dX4_award_26 : decode cX4_award 26 = .ok (.new 57, 3) := by decide +kernel
theorem dX4_award_29 : decode cX4_award 29 = .ok (.dup, 1) := by decide +kernel
theorem dX4_award_30 : decode cX4_award 30 = .ok (.ldc 138, 2) := by decide +kernel
theorem dX4_award_32 : decode cX4_award 32 = .ok (.invokespecial 61, 3) := by decide +kernel
theorem dX4_award_35 : decode cX4_award 35 = .ok (.athrow, 1) := by decide +kernel
theorem dX4_award_36 : decode cX4_award 36 = .ok (.aload 4, 2) := by decide +kernel
theorem dX4_award_38 : decode cX4_award 38 = .ok (.getfield 140, 3) := by decide +kernel
theorem dX4_award_41 : decode cX4_award 41 = .ok (.iload_n 2, 1) := by decide +kernel
theorem dX4_award_42 : decode cX4_award 42 = .ok (.iload_n 3, 1) := by decide +kernel
theorem dX4_award_43 : decode cX4_award 43 = .ok (.invokevirtual 144, 3) := by decide +kernel
theorem dX4_award_46 : decode cX4_award 46 = .ok (.istore 5, 2) := by decide +kernel
theorem dX4_award_48 : decode cX4_award 48 = .ok (.iload 5, 2) := by decide +kernel
theorem dX4_award_50 : decode cX4_award 50 = .ok (.ifCond .ge 13, 3) := by decide +kernel
theorem dX4_award_53 : decode cX4_award 53 = .ok (.new 107, 3) := by decide +kernel
theorem dX4_award_56 : decode cX4_award 56 = .ok (.dup, 1) := by decide +kernel
theorem dX4_award_57 : decode cX4_award 57 = .ok (.ldc 149, 2) := by decide +kernel
theorem dX4_award_59 : decode cX4_award 59 = .ok (.invokespecial 111, 3) := by decide +kernel
theorem dX4_award_62 : decode cX4_award 62 = .ok (.athrow, 1) := by decide +kernel
theorem dX4_award_63 : decode cX4_award 63 = .ok (.iload 5, 2) := by decide +kernel
theorem dX4_award_65 : decode cX4_award 65 = .ok (.ireturn, 1) := by decide +kernel
set_option maxRecDepth 20000 in
theorem ggX4_pay_X4_studentAt : GoodIn wsX4_pay wsX4_studentAt := goodIn_ca (goodIn_r _ [11, 12, 13, 14, 93, 94, 95, 96, 97, 98, 99, 100, 101] (by decide +kernel) (by decide +kernel)) (goodIn_sub (fun _ h => List.mem_cons_of_mem _ (List.mem_append_right _ h)) (by decide +kernel))
set_option maxRecDepth 20000 in
theorem gX4_pay_X4_studentAt : GoodIn wsX4_pay (wsV RX4 71 RX4 yX4_studentAt wsX4_studentAt) := goodIn_app (goodIn_of _ (by decide +kernel)) ggX4_pay_X4_studentAt
set_option maxRecDepth 20000 in
theorem ggX4_pay_X4_isWithin : GoodIn wsX4_pay wsX4_isWithin := goodIn_r _ [17] (by decide +kernel) (by decide +kernel)
set_option maxRecDepth 20000 in
theorem gX4_pay_X4_isWithin : GoodIn wsX4_pay (va_wsS RX4 53 yX4_isWithin wsX4_isWithin) := goodIn_app (goodIn_of _ (by decide +kernel)) ggX4_pay_X4_isWithin
set_option maxRecDepth 20000 in
theorem ggX4_pay_X4_balanceOf : GoodIn wsX4_pay wsX4_balanceOf := goodIn_r _ [21, 22, 23, 4, 24, 25, 26, 10, 27, 28, 29, 30, 31, 32, 33, 34, 35, 36, 37, 38, 39, 40, 41, 42, 43, 44, 45, 46, 47, 48, 49, 50, 51, 52, 53, 54, 55, 56, 57, 58, 59, 60, 61, 62, 63, 64, 65, 66, 67, 68, 69, 70, 71, 72, 73, 74, 75, 76, 77, 78, 79, 80, 81, 82, 83, 84, 85, 86, 87, 102, 103, 104, 93, 94, 95, 96, 97, 98, 99, 100, 101, 105, 106, 107, 108] (by decide +kernel) (by decide +kernel)
set_option maxRecDepth 20000 in
theorem gX4_pay_X4_balanceOf : GoodIn wsX4_pay (wsV RX4 165 RX4 yX4_balanceOf wsX4_balanceOf) := goodIn_app (goodIn_of _ (by decide +kernel)) ggX4_pay_X4_balanceOf
theorem dX4_pay_0 : decode cX4_pay 0 = .ok (.aload_n 0, 1) := by decide +kernel
theorem dX4_pay_1 : decode cX4_pay 1 = .ok (.iload_n 1, 1) := by decide +kernel
theorem dX4_pay_2 : decode cX4_pay 2 = .ok (.invokevirtual 71, 3) := by decide +kernel
theorem dX4_pay_5 : decode cX4_pay 5 = .ok (.astore_n 3, 1) := by decide +kernel
theorem dX4_pay_6 : decode cX4_pay 6 = .ok (.iload_n 2, 1) := by decide +kernel
theorem dX4_pay_7 : decode cX4_pay 7 = .ok (.iconst 1, 1) := by decide +kernel
theorem dX4_pay_8 : decode cX4_pay 8 = .ok (.ldc 68, 2) := by decide +kernel
theorem dX4_pay_10 : decode cX4_pay 10 = .ok (.invokestatic 53, 3) := by decide +kernel
theorem dX4_pay_13 : decode cX4_pay 13 = .ok (.ifCond .ne 13, 3) := by decide +kernel
theorem dX4_pay_16 : decode cX4_pay 16 = .ok (.new 57, 3) := by decide +kernel
theorem dX4_pay_19 : decode cX4_pay 19 = .ok (.dup, 1) := by decide +kernel
theorem dX4_pay_20 : decode cX4_pay 20 = .ok (.ldc 151, 2) := by decide +kernel
theorem dX4_pay_22 : decode cX4_pay 22 = .ok (.invokespecial 61, 3) := by decide +kernel
theorem dX4_pay_25 : decode cX4_pay 25 = .ok (.athrow, 1) := by decide +kernel
theorem dX4_pay_26 : decode cX4_pay 26 = .ok (.aload_n 3, 1) := by decide +kernel
theorem dX4_pay_27 : decode cX4_pay 27 = .ok (.dup, 1) := by decide +kernel
theorem dX4_pay_28 : decode cX4_pay 28 = .ok (.getfield 153, 3) := by decide +kernel
theorem dX4_pay_31 : decode cX4_pay 31 = .ok (.iload_n 2, 1) := by decide +kernel
theorem dX4_pay_32 : decode cX4_pay 32 = .ok (.iadd, 1) := by decide +kernel
theorem dX4_pay_33 : decode cX4_pay 33 = .ok (.putfield 153, 3) := by decide +kernel
theorem dX4_pay_36 : decode cX4_pay 36 = .ok (.aload_n 3, 1) := by decide +kernel
theorem dX4_pay_37 : decode cX4_pay 37 = .ok (.getfield 156, 3) := by decide +kernel
theorem dX4_pay_40 : decode cX4_pay 40 = .ok (.dup, 1) := by decide +kernel
theorem dX4_pay_41 : decode cX4_pay 41 = .ok (.getfield 160, 3) := by decide +kernel
theorem dX4_pay_44 : decode cX4_pay 44 = .ok (.iload_n 2, 1) := by decide +kernel
theorem dX4_pay_45 : decode cX4_pay 45 = .ok (.iadd, 1) := by decide +kernel
theorem dX4_pay_46 : decode cX4_pay 46 = .ok (.putfield 160, 3) := by decide +kernel
theorem dX4_pay_49 : decode cX4_pay 49 = .ok (.aload_n 0, 1) := by decide +kernel
theorem dX4_pay_50 : decode cX4_pay 50 = .ok (.aload_n 3, 1) := by decide +kernel
theorem dX4_pay_51 : decode cX4_pay 51 = .ok (.invokevirtual 165, 3) := by decide +kernel
theorem dX4_pay_54 : decode cX4_pay 54 = .ok (.ireturn, 1) := by decide +kernel
set_option maxRecDepth 20000 in
theorem ggX4_plan_X4_studentAt : GoodIn wsX4_plan wsX4_studentAt := goodIn_ca (goodIn_r _ [10, 11, 12, 13, 101, 102, 103, 104, 105, 106, 107, 108, 109] (by decide +kernel) (by decide +kernel)) (goodIn_sub (fun _ h => List.mem_cons_of_mem _ (List.mem_append_right _ h)) (by decide +kernel))
set_option maxRecDepth 20000 in
theorem gX4_plan_X4_studentAt : GoodIn wsX4_plan (wsV RX4 71 RX4 yX4_studentAt wsX4_studentAt) := goodIn_app (goodIn_of _ (by decide +kernel)) ggX4_plan_X4_studentAt
set_option maxRecDepth 20000 in
theorem ggX4_plan_X4_balanceOf : GoodIn wsX4_plan wsX4_balanceOf := goodIn_r _ [17, 18, 19, 20, 21, 22, 23, 9, 24, 25, 26, 27, 28, 29, 30, 31, 32, 33, 34, 35, 36, 37, 38, 39, 40, 41, 42, 43, 44, 45, 46, 47, 48, 49, 50, 51, 52, 53, 54, 55, 56, 57, 58, 59, 60, 61, 62, 63, 64, 65, 66, 67, 68, 69, 70, 71, 72, 73, 90, 91, 92, 93, 94, 95, 96, 97, 98, 99, 100, 110, 111, 112, 101, 102, 103, 104, 105, 106, 107, 108, 109, 113, 114, 115, 116] (by decide +kernel) (by decide +kernel)
set_option maxRecDepth 20000 in
theorem gX4_plan_X4_balanceOf : GoodIn wsX4_plan (wsV RX4 165 RX4 yX4_balanceOf wsX4_balanceOf) := goodIn_app (goodIn_of _ (by decide +kernel)) ggX4_plan_X4_balanceOf
set_option maxRecDepth 20000 in
theorem ggX4_plan_X4_weekNumber : GoodIn wsX4_plan wsX4_weekNumber := goodIn_r _ [77, 78, 79, 101, 102, 103, 104, 105, 106, 107, 108, 109] (by decide +kernel) (by decide +kernel)
set_option maxRecDepth 20000 in
theorem gX4_plan_X4_weekNumber : GoodIn wsX4_plan (wsV RX4 173 RX4 yX4_weekNumber wsX4_weekNumber) := goodIn_app (goodIn_of _ (by decide +kernel)) ggX4_plan_X4_weekNumber
set_option maxRecDepth 20000 in
theorem ggX4_plan_X2_start : GoodIn wsX4_plan wsX2_start := goodIn_r _ [84, 85, 86, 87, 88, 89, 117, 118, 119, 120, 121] (by decide +kernel) (by decide +kernel)
set_option maxRecDepth 20000 in
theorem gX4_plan_X2_start : GoodIn wsX4_plan (wsV RX4 177 RX2 yX2_start wsX2_start) := goodIn_app (goodIn_of _ (by decide +kernel)) ggX4_plan_X2_start
theorem dX4_plan_0 : decode cX4_plan 0 = .ok (.aload_n 0, 1) := by decide +kernel
theorem dX4_plan_1 : decode cX4_plan 1 = .ok (.iload_n 1, 1) := by decide +kernel
theorem dX4_plan_2 : decode cX4_plan 2 = .ok (.invokevirtual 71, 3) := by decide +kernel
theorem dX4_plan_5 : decode cX4_plan 5 = .ok (.astore_n 3, 1) := by decide +kernel
theorem dX4_plan_6 : decode cX4_plan 6 = .ok (.iload_n 2, 1) := by decide +kernel
theorem dX4_plan_7 : decode cX4_plan 7 = .ok (.iconst 1, 1) := by decide +kernel
theorem dX4_plan_8 : decode cX4_plan 8 = .ok (.if_icmp .lt 8, 3) := by decide +kernel
theorem dX4_plan_11 : decode cX4_plan 11 = .ok (.iload_n 2, 1) := by decide +kernel
theorem dX4_plan_12 : decode cX4_plan 12 = .ok (.iconst 4, 1) := by decide +kernel
theorem dX4_plan_13 : decode cX4_plan 13 = .ok (.if_icmp .le 13, 3) := by decide +kernel
theorem dX4_plan_16 : decode cX4_plan 16 = .ok (.new 57, 3) := by decide +kernel
theorem dX4_plan_19 : decode cX4_plan 19 = .ok (.dup, 1) := by decide +kernel
theorem dX4_plan_20 : decode cX4_plan 20 = .ok (.ldc 169, 2) := by decide +kernel
theorem dX4_plan_22 : decode cX4_plan 22 = .ok (.invokespecial 61, 3) := by decide +kernel
theorem dX4_plan_25 : decode cX4_plan 25 = .ok (.athrow, 1) := by decide +kernel
theorem dX4_plan_26 : decode cX4_plan 26 = .ok (.aload_n 0, 1) := by decide +kernel
theorem dX4_plan_27 : decode cX4_plan 27 = .ok (.aload_n 3, 1) := by decide +kernel
theorem dX4_plan_28 : decode cX4_plan 28 = .ok (.invokevirtual 165, 3) := by decide +kernel
theorem dX4_plan_31 : decode cX4_plan 31 = .ok (.istore 4, 2) := by decide +kernel
theorem dX4_plan_33 : decode cX4_plan 33 = .ok (.iload 4, 2) := by decide +kernel
theorem dX4_plan_35 : decode cX4_plan 35 = .ok (.ifCond .gt 13, 3) := by decide +kernel
theorem dX4_plan_38 : decode cX4_plan 38 = .ok (.new 107, 3) := by decide +kernel
theorem dX4_plan_41 : decode cX4_plan 41 = .ok (.dup, 1) := by decide +kernel
theorem dX4_plan_42 : decode cX4_plan 42 = .ok (.ldc 171, 2) := by decide +kernel
theorem dX4_plan_44 : decode cX4_plan 44 = .ok (.invokespecial 111, 3) := by decide +kernel
theorem dX4_plan_47 : decode cX4_plan 47 = .ok (.athrow, 1) := by decide +kernel
theorem dX4_plan_48 : decode cX4_plan 48 = .ok (.iload 4, 2) := by decide +kernel
theorem dX4_plan_50 : decode cX4_plan 50 = .ok (.iload_n 2, 1) := by decide +kernel
theorem dX4_plan_51 : decode cX4_plan 51 = .ok (.idiv, 1) := by decide +kernel
theorem dX4_plan_52 : decode cX4_plan 52 = .ok (.istore 5, 2) := by decide +kernel
theorem dX4_plan_54 : decode cX4_plan 54 = .ok (.iload 4, 2) := by decide +kernel
theorem dX4_plan_56 : decode cX4_plan 56 = .ok (.iload 5, 2) := by decide +kernel
theorem dX4_plan_58 : decode cX4_plan 58 = .ok (.iload_n 2, 1) := by decide +kernel
theorem dX4_plan_59 : decode cX4_plan 59 = .ok (.iconst 1, 1) := by decide +kernel
theorem dX4_plan_60 : decode cX4_plan 60 = .ok (.isub, 1) := by decide +kernel
theorem dX4_plan_61 : decode cX4_plan 61 = .ok (.imul, 1) := by decide +kernel
theorem dX4_plan_62 : decode cX4_plan 62 = .ok (.isub, 1) := by decide +kernel
theorem dX4_plan_63 : decode cX4_plan 63 = .ok (.istore 6, 2) := by decide +kernel
theorem dX4_plan_65 : decode cX4_plan 65 = .ok (.aload_n 3, 1) := by decide +kernel
theorem dX4_plan_66 : decode cX4_plan 66 = .ok (.getfield 156, 3) := by decide +kernel
theorem dX4_plan_69 : decode cX4_plan 69 = .ok (.aload_n 0, 1) := by decide +kernel
theorem dX4_plan_70 : decode cX4_plan 70 = .ok (.invokevirtual 173, 3) := by decide +kernel
theorem dX4_plan_73 : decode cX4_plan 73 = .ok (.iload_n 2, 1) := by decide +kernel
theorem dX4_plan_74 : decode cX4_plan 74 = .ok (.iload 6, 2) := by decide +kernel
theorem dX4_plan_76 : decode cX4_plan 76 = .ok (.iload 5, 2) := by decide +kernel
theorem dX4_plan_78 : decode cX4_plan 78 = .ok (.invokevirtual 177, 3) := by decide +kernel
theorem dX4_plan_81 : decode cX4_plan 81 = .ok (.iload 6, 2) := by decide +kernel
theorem dX4_plan_83 : decode cX4_plan 83 = .ok (.ireturn, 1) := by decide +kernel
set_option maxRecDepth 20000 in
theorem ggX4_leave_X4_studentAt : GoodIn wsX4_leave wsX4_studentAt := goodIn_ca (goodIn_r _ [7, 8, 9, 10, 82, 83, 84, 85, 86, 87, 88, 89, 90] (by decide +kernel) (by decide +kernel)) (goodIn_sub (fun _ h => List.mem_cons_of_mem _ (List.mem_append_right _ h)) (by decide +kernel))
set_option maxRecDepth 20000 in
theorem gX4_leave_X4_studentAt : GoodIn wsX4_leave (wsV RX4 71 RX4 yX4_studentAt wsX4_studentAt) := goodIn_app (goodIn_of _ (by decide +kernel)) ggX4_leave_X4_studentAt
set_option maxRecDepth 20000 in
theorem ggX4_leave_X1_creditsOf : GoodIn wsX4_leave wsX1_creditsOf := goodIn_r _ [15, 16, 91, 92, 93] (by decide +kernel) (by decide +kernel)
set_option maxRecDepth 20000 in
theorem gX4_leave_X1_creditsOf : GoodIn wsX4_leave (wsV RX4 121 RX1 yX1_creditsOf wsX1_creditsOf) := goodIn_app (goodIn_of _ (by decide +kernel)) ggX4_leave_X1_creditsOf
set_option maxRecDepth 20000 in
theorem ggX4_leave_X4_dropCourse : GoodIn wsX4_leave wsX4_dropCourse := goodIn_r _ [20, 21, 22, 1, 23, 24, 25, 6, 26, 27, 28, 29, 30, 31, 32, 33, 34, 14, 35, 16, 36, 37, 38, 39, 40, 41, 42, 43, 44, 45, 46, 47, 48, 49, 50, 51, 71, 72, 73, 74, 75, 76, 77, 78, 79, 80, 81, 91, 92, 93, 82, 83, 84, 85, 86, 87, 88, 89, 90] (by decide +kernel) (by decide +kernel)
set_option maxRecDepth 20000 in
theorem gX4_leave_X4_dropCourse : GoodIn wsX4_leave (wsV RX4 126 RX4 yX4_dropCourse wsX4_dropCourse) := goodIn_app (goodIn_of _ (by decide +kernel)) ggX4_leave_X4_dropCourse
set_option maxRecDepth 20000 in
theorem ggX4_leave_X0_total : GoodIn wsX4_leave wsX0_total := goodIn_r _ [56, 57, 94, 95, 96, 97] (by decide +kernel) (by decide +kernel)
set_option maxRecDepth 20000 in
theorem gX4_leave_X0_total : GoodIn wsX4_leave (wsV RX4 181 RX0 yX0_total wsX0_total) := goodIn_app (goodIn_of _ (by decide +kernel)) ggX4_leave_X0_total
set_option maxRecDepth 20000 in
theorem ggX4_leave_X4_aidToGiveBack : GoodIn wsX4_leave wsX4_aidToGiveBack := goodIn_r _ [61, 50, 82, 83, 84, 85, 86, 87, 88, 89, 90] (by decide +kernel) (by decide +kernel)
set_option maxRecDepth 20000 in
theorem gX4_leave_X4_aidToGiveBack : GoodIn wsX4_leave (wsV RX4 184 RX4 yX4_aidToGiveBack wsX4_aidToGiveBack) := goodIn_app (goodIn_of _ (by decide +kernel)) ggX4_leave_X4_aidToGiveBack
set_option maxRecDepth 20000 in
theorem ggX4_leave_X0_takeOff : GoodIn wsX4_leave wsX0_takeOff := goodIn_r _ [65, 66, 57, 67, 68, 69, 70, 94, 95, 96, 97] (by decide +kernel) (by decide +kernel)
set_option maxRecDepth 20000 in
theorem gX4_leave_X0_takeOff : GoodIn wsX4_leave (wsV RX4 187 RX0 yX0_takeOff wsX0_takeOff) := goodIn_app (goodIn_of _ (by decide +kernel)) ggX4_leave_X0_takeOff
theorem dX4_leave_0 : decode cX4_leave 0 = .ok (.aload_n 0, 1) := by decide +kernel
theorem dX4_leave_1 : decode cX4_leave 1 = .ok (.iload_n 1, 1) := by decide +kernel
theorem dX4_leave_2 : decode cX4_leave 2 = .ok (.invokevirtual 71, 3) := by decide +kernel
theorem dX4_leave_5 : decode cX4_leave 5 = .ok (.astore_n 2, 1) := by decide +kernel
theorem dX4_leave_6 : decode cX4_leave 6 = .ok (.iconst 0, 1) := by decide +kernel
theorem dX4_leave_7 : decode cX4_leave 7 = .ok (.istore_n 3, 1) := by decide +kernel
theorem dX4_leave_8 : decode cX4_leave 8 = .ok (.iload_n 3, 1) := by decide +kernel
theorem dX4_leave_9 : decode cX4_leave 9 = .ok (.bipush 8, 2) := by decide +kernel
theorem dX4_leave_11 : decode cX4_leave 11 = .ok (.if_icmp .ge 27, 3) := by decide +kernel
theorem dX4_leave_14 : decode cX4_leave 14 = .ok (.aload_n 2, 1) := by decide +kernel
theorem dX4_leave_15 : decode cX4_leave 15 = .ok (.getfield 97, 3) := by decide +kernel
theorem dX4_leave_18 : decode cX4_leave 18 = .ok (.iload_n 3, 1) := by decide +kernel
theorem dX4_leave_19 : decode cX4_leave 19 = .ok (.invokevirtual 121, 3) := by decide +kernel
theorem dX4_leave_22 : decode cX4_leave 22 = .ok (.ifCond .le 10, 3) := by decide +kernel
theorem dX4_leave_25 : decode cX4_leave 25 = .ok (.aload_n 0, 1) := by decide +kernel
theorem dX4_leave_26 : decode cX4_leave 26 = .ok (.aload_n 2, 1) := by decide +kernel
theorem dX4_leave_27 : decode cX4_leave 27 = .ok (.iload_n 3, 1) := by decide +kernel
theorem dX4_leave_28 : decode cX4_leave 28 = .ok (.invokevirtual 126, 3) := by decide +kernel
theorem dX4_leave_31 : decode cX4_leave 31 = .ok (.pop, 1) := by decide +kernel
theorem dX4_leave_32 : decode cX4_leave 32 = .ok (.iinc 3 1, 3) := by decide +kernel
theorem dX4_leave_35 : decode cX4_leave 35 = .ok (.goto (-27), 3) := by decide +kernel
theorem dX4_leave_38 : decode cX4_leave 38 = .ok (.aload_n 0, 1) := by decide +kernel
theorem dX4_leave_39 : decode cX4_leave 39 = .ok (.aload_n 2, 1) := by decide +kernel
theorem dX4_leave_40 : decode cX4_leave 40 = .ok (.getfield 140, 3) := by decide +kernel
theorem dX4_leave_43 : decode cX4_leave 43 = .ok (.invokevirtual 181, 3) := by decide +kernel
theorem dX4_leave_46 : decode cX4_leave 46 = .ok (.invokevirtual 184, 3) := by decide +kernel
theorem dX4_leave_49 : decode cX4_leave 49 = .ok (.istore_n 3, 1) := by decide +kernel
theorem dX4_leave_50 : decode cX4_leave 50 = .ok (.aload_n 2, 1) := by decide +kernel
theorem dX4_leave_51 : decode cX4_leave 51 = .ok (.getfield 140, 3) := by decide +kernel
theorem dX4_leave_54 : decode cX4_leave 54 = .ok (.iload_n 3, 1) := by decide +kernel
theorem dX4_leave_55 : decode cX4_leave 55 = .ok (.invokevirtual 187, 3) := by decide +kernel
theorem dX4_leave_58 : decode cX4_leave 58 = .ok (.iload_n 3, 1) := by decide +kernel
theorem dX4_leave_59 : decode cX4_leave 59 = .ok (.ireturn, 1) := by decide +kernel
set_option maxRecDepth 20000 in
theorem ggX4_closeWeek_X4_endTerm : GoodIn wsX4_closeWeek wsX4_endTerm := goodIn_ca (goodIn_r _ [9, 10, 11, 12, 8, 13, 14, 15, 16, 17, 18, 19, 20, 21, 22, 23, 24, 25, 26, 27, 28, 29, 30, 31, 32, 33, 34, 35, 36, 37, 38, 39, 40, 41, 42, 43, 44, 45, 46, 47, 48, 49, 50, 51, 52, 53, 54, 55, 56, 57, 58, 59, 60, 61, 62, 63, 64, 65, 66, 67, 68, 69, 70, 71, 72, 73, 74, 75, 76, 77, 78, 79, 80, 81, 82, 83, 84, 85, 86, 87, 88, 89, 90, 91, 92, 93, 94, 95, 96, 97, 98, 99, 100, 101, 102, 103, 104, 105, 106, 107, 108, 109, 110, 131, 132, 133, 134, 135, 136, 137, 138, 139, 140, 141, 142, 143, 144, 145, 146, 147, 148, 149, 150, 151, 152, 153, 154, 155, 156, 157] (by decide +kernel) (by decide +kernel)) (goodIn_sub (fun _ h => List.mem_cons_of_mem _ (List.mem_append_right _ h)) (by decide +kernel))
set_option maxRecDepth 20000 in
theorem gX4_closeWeek_X4_endTerm : GoodIn wsX4_closeWeek (wsV RX4 193 RX4 yX4_endTerm wsX4_endTerm) := goodIn_app (goodIn_of _ (by decide +kernel)) ggX4_closeWeek_X4_endTerm
set_option maxRecDepth 20000 in
theorem ggX4_closeWeek_X4_chargeLateFees : GoodIn wsX4_closeWeek wsX4_chargeLateFees := goodIn_ca (goodIn_r _ [114, 115, 36, 116, 10, 11, 12, 8, 13, 14, 15, 16, 117, 118, 119, 120, 4, 3, 121, 122, 123, 124, 125, 126, 127, 128, 129, 130, 140, 141, 142, 143, 144, 145, 146, 147, 148, 149, 150, 131, 132, 133, 134, 135, 136, 137, 138, 139, 158, 159, 160, 161, 162] (by decide +kernel) (by decide +kernel)) (goodIn_sub (fun _ h => List.mem_cons_of_mem _ (List.mem_append_right _ h)) (by decide +kernel))
set_option maxRecDepth 20000 in
theorem gX4_closeWeek_X4_chargeLateFees : GoodIn wsX4_closeWeek (wsV RX4 196 RX4 yX4_chargeLateFees wsX4_chargeLateFees) := goodIn_app (goodIn_of _ (by decide +kernel)) ggX4_closeWeek_X4_chargeLateFees
theorem dX4_closeWeek_0 : decode cX4_closeWeek 0 = .ok (.aload_n 0, 1) := by decide +kernel
theorem dX4_closeWeek_1 : decode cX4_closeWeek 1 = .ok (.getfield 35, 3) := by decide +kernel
theorem dX4_closeWeek_4 : decode cX4_closeWeek 4 = .ok (.bipush 15, 2) := by decide +kernel
theorem dX4_closeWeek_6 : decode cX4_closeWeek 6 = .ok (.if_icmp .lt 22, 3) := by decide +kernel
theorem dX4_closeWeek_9 : decode cX4_closeWeek 9 = .ok (.aload_n 0, 1) := by decide +kernel
theorem dX4_closeWeek_10 : decode cX4_closeWeek 10 = .ok (.getfield 38, 3) := by decide +kernel
theorem dX4_closeWeek_13 : decode cX4_closeWeek 13 = .ok (.bipush 9, 2) := by decide +kernel
theorem dX4_closeWeek_15 : decode cX4_closeWeek 15 = .ok (.if_icmp .lt 13, 3) := by decide +kernel
theorem dX4_closeWeek_18 : decode cX4_closeWeek 18 = .ok (.new 107, 3) := by decide +kernel
theorem dX4_closeWeek_21 : decode cX4_closeWeek 21 = .ok (.dup, 1) := by decide +kernel
theorem dX4_closeWeek_22 : decode cX4_closeWeek 22 = .ok (.ldc 191, 2) := by decide +kernel
theorem dX4_closeWeek_24 : decode cX4_closeWeek 24 = .ok (.invokespecial 111, 3) := by decide +kernel
theorem dX4_closeWeek_27 : decode cX4_closeWeek 27 = .ok (.athrow, 1) := by decide +kernel
theorem dX4_closeWeek_28 : decode cX4_closeWeek 28 = .ok (.aload_n 0, 1) := by decide +kernel
theorem dX4_closeWeek_29 : decode cX4_closeWeek 29 = .ok (.getfield 35, 3) := by decide +kernel
theorem dX4_closeWeek_32 : decode cX4_closeWeek 32 = .ok (.bipush 15, 2) := by decide +kernel
theorem dX4_closeWeek_34 : decode cX4_closeWeek 34 = .ok (.if_icmp .lt 25, 3) := by decide +kernel
theorem dX4_closeWeek_37 : decode cX4_closeWeek 37 = .ok (.aload_n 0, 1) := by decide +kernel
theorem dX4_closeWeek_38 : decode cX4_closeWeek 38 = .ok (.invokevirtual 193, 3) := by decide +kernel
theorem dX4_closeWeek_41 : decode cX4_closeWeek 41 = .ok (.aload_n 0, 1) := by decide +kernel
theorem dX4_closeWeek_42 : decode cX4_closeWeek 42 = .ok (.iconst 0, 1) := by decide +kernel
theorem dX4_closeWeek_43 : decode cX4_closeWeek 43 = .ok (.putfield 35, 3) := by decide +kernel
theorem dX4_closeWeek_46 : decode cX4_closeWeek 46 = .ok (.aload_n 0, 1) := by decide +kernel
theorem dX4_closeWeek_47 : decode cX4_closeWeek 47 = .ok (.dup, 1) := by decide +kernel
theorem dX4_closeWeek_48 : decode cX4_closeWeek 48 = .ok (.getfield 38, 3) := by decide +kernel
theorem dX4_closeWeek_51 : decode cX4_closeWeek 51 = .ok (.iconst 1, 1) := by decide +kernel
theorem dX4_closeWeek_52 : decode cX4_closeWeek 52 = .ok (.iadd, 1) := by decide +kernel
theorem dX4_closeWeek_53 : decode cX4_closeWeek 53 = .ok (.putfield 38, 3) := by decide +kernel
theorem dX4_closeWeek_56 : decode cX4_closeWeek 56 = .ok (.goto 13, 3) := by decide +kernel
theorem dX4_closeWeek_59 : decode cX4_closeWeek 59 = .ok (.aload_n 0, 1) := by decide +kernel
theorem dX4_closeWeek_60 : decode cX4_closeWeek 60 = .ok (.dup, 1) := by decide +kernel
theorem dX4_closeWeek_61 : decode cX4_closeWeek 61 = .ok (.getfield 35, 3) := by decide +kernel
theorem dX4_closeWeek_64 : decode cX4_closeWeek 64 = .ok (.iconst 1, 1) := by decide +kernel
theorem dX4_closeWeek_65 : decode cX4_closeWeek 65 = .ok (.iadd, 1) := by decide +kernel
theorem dX4_closeWeek_66 : decode cX4_closeWeek 66 = .ok (.putfield 35, 3) := by decide +kernel
theorem dX4_closeWeek_69 : decode cX4_closeWeek 69 = .ok (.aload_n 0, 1) := by decide +kernel
theorem dX4_closeWeek_70 : decode cX4_closeWeek 70 = .ok (.invokevirtual 196, 3) := by decide +kernel
theorem dX4_closeWeek_73 : decode cX4_closeWeek 73 = .ok (.aload_n 0, 1) := by decide +kernel
theorem dX4_closeWeek_74 : decode cX4_closeWeek 74 = .ok (.getfield 35, 3) := by decide +kernel
theorem dX4_closeWeek_77 : decode cX4_closeWeek 77 = .ok (.ireturn, 1) := by decide +kernel
theorem dX4_week_0 : decode cX4_week 0 = .ok (.aload_n 0, 1) := by decide +kernel
theorem dX4_week_1 : decode cX4_week 1 = .ok (.getfield 35, 3) := by decide +kernel
theorem dX4_week_4 : decode cX4_week 4 = .ok (.ireturn, 1) := by decide +kernel
theorem dX4_term_0 : decode cX4_term 0 = .ok (.aload_n 0, 1) := by decide +kernel
theorem dX4_term_1 : decode cX4_term 1 = .ok (.getfield 38, 3) := by decide +kernel
theorem dX4_term_4 : decode cX4_term 4 = .ok (.ireturn, 1) := by decide +kernel
set_option maxRecDepth 20000 in
theorem ggX4_credits_X4_studentAt : GoodIn wsX4_credits wsX4_studentAt := goodIn_ca (goodIn_r _ [6, 7, 8, 9, 27, 28, 29, 30, 31, 32, 33, 34, 35] (by decide +kernel) (by decide +kernel)) (goodIn_sub (fun _ h => List.mem_cons_of_mem _ (List.mem_append_right _ h)) (by decide +kernel))
set_option maxRecDepth 20000 in
theorem gX4_credits_X4_studentAt : GoodIn wsX4_credits (wsV RX4 71 RX4 yX4_studentAt wsX4_studentAt) := goodIn_app (goodIn_of _ (by decide +kernel)) ggX4_credits_X4_studentAt
set_option maxRecDepth 20000 in
theorem ggX4_credits_X1_total : GoodIn wsX4_credits wsX1_total := goodIn_r _ [14, 15, 36, 37, 38] (by decide +kernel) (by decide +kernel)
set_option maxRecDepth 20000 in
theorem gX4_credits_X1_total : GoodIn wsX4_credits (wsV RX4 199 RX1 yX1_total wsX1_total) := goodIn_app (goodIn_of _ (by decide +kernel)) ggX4_credits_X1_total
theorem dX4_credits_0 : decode cX4_credits 0 = .ok (.aload_n 0, 1) := by decide +kernel
theorem dX4_credits_1 : decode cX4_credits 1 = .ok (.iload_n 1, 1) := by decide +kernel
theorem dX4_credits_2 : decode cX4_credits 2 = .ok (.invokevirtual 71, 3) := by decide +kernel
theorem dX4_credits_5 : decode cX4_credits 5 = .ok (.getfield 97, 3) := by decide +kernel
theorem dX4_credits_8 : decode cX4_credits 8 = .ok (.invokevirtual 199, 3) := by decide +kernel
theorem dX4_credits_11 : decode cX4_credits 11 = .ok (.ireturn, 1) := by decide +kernel
set_option maxRecDepth 20000 in
theorem ggX4_charged_X4_studentAt : GoodIn wsX4_charged wsX4_studentAt := goodIn_ca (goodIn_r _ [7, 8, 9, 10, 44, 45, 46, 47, 48, 49, 50, 51, 52] (by decide +kernel) (by decide +kernel)) (goodIn_sub (fun _ h => List.mem_cons_of_mem _ (List.mem_append_right _ h)) (by decide +kernel))
set_option maxRecDepth 20000 in
theorem gX4_charged_X4_studentAt : GoodIn wsX4_charged (wsV RX4 71 RX4 yX4_studentAt wsX4_studentAt) := goodIn_app (goodIn_of _ (by decide +kernel)) ggX4_charged_X4_studentAt
set_option maxRecDepth 20000 in
theorem ggX4_charged_X4_isWithin : GoodIn wsX4_charged wsX4_isWithin := goodIn_r _ [13] (by decide +kernel) (by decide +kernel)
set_option maxRecDepth 20000 in
theorem gX4_charged_X4_isWithin : GoodIn wsX4_charged (va_wsS RX4 53 yX4_isWithin wsX4_isWithin) := goodIn_app (goodIn_of _ (by decide +kernel)) ggX4_charged_X4_isWithin
set_option maxRecDepth 20000 in
theorem ggX4_charged_X4_chargesOf : GoodIn wsX4_charged wsX4_chargesOf := goodIn_r _ [17, 18, 19, 20, 21, 22, 23, 24, 25, 6, 26, 27, 28, 29, 30, 31, 32, 33, 34, 35, 36, 37, 38, 39, 40, 41, 42, 43, 53, 54, 55, 56, 57, 58, 59, 60, 61, 62, 63, 64, 65, 66, 44, 45, 46, 47, 48, 49, 50, 51, 52] (by decide +kernel) (by decide +kernel)
set_option maxRecDepth 20000 in
theorem gX4_charged_X4_chargesOf : GoodIn wsX4_charged (wsV RX4 202 RX4 yX4_chargesOf wsX4_chargesOf) := goodIn_app (goodIn_of _ (by decide +kernel)) ggX4_charged_X4_chargesOf
theorem dX4_charged_0 : decode cX4_charged 0 = .ok (.aload_n 0, 1) := by decide +kernel
theorem dX4_charged_1 : decode cX4_charged 1 = .ok (.iload_n 1, 1) := by decide +kernel
theorem dX4_charged_2 : decode cX4_charged 2 = .ok (.invokevirtual 71, 3) := by decide +kernel
theorem dX4_charged_5 : decode cX4_charged 5 = .ok (.astore_n 3, 1) := by decide +kernel
theorem dX4_charged_6 : decode cX4_charged 6 = .ok (.iload_n 2, 1) := by decide +kernel
theorem dX4_charged_7 : decode cX4_charged 7 = .ok (.iconst 0, 1) := by decide +kernel
theorem dX4_charged_8 : decode cX4_charged 8 = .ok (.iconst 2, 1) := by decide +kernel
theorem dX4_charged_9 : decode cX4_charged 9 = .ok (.invokestatic 53, 3) := by decide +kernel
theorem dX4_charged_12 : decode cX4_charged 12 = .ok (.ifCond .ne 13, 3) := by decide +kernel
theorem dX4_charged_15 : decode cX4_charged 15 = .ok (.new 57, 3) := by decide +kernel
theorem dX4_charged_18 : decode cX4_charged 18 = .ok (.dup, 1) := by decide +kernel
theorem dX4_charged_19 : decode cX4_charged 19 = .ok (.ldc 200, 2) := by decide +kernel
theorem dX4_charged_21 : decode cX4_charged 21 = .ok (.invokespecial 61, 3) := by decide +kernel
theorem dX4_charged_24 : decode cX4_charged 24 = .ok (.athrow, 1) := by decide +kernel
theorem dX4_charged_25 : decode cX4_charged 25 = .ok (.aload_n 0, 1) := by decide +kernel
theorem dX4_charged_26 : decode cX4_charged 26 = .ok (.aload_n 3, 1) := by decide +kernel
theorem dX4_charged_27 : decode cX4_charged 27 = .ok (.iconst 1, 1) := by decide +kernel
theorem dX4_charged_28 : decode cX4_charged 28 = .ok (.iload_n 2, 1) := by decide +kernel
theorem dX4_charged_29 : decode cX4_charged 29 = .ok (.ishl, 1) := by decide +kernel
theorem dX4_charged_30 : decode cX4_charged 30 = .ok (.invokevirtual 202, 3) := by decide +kernel
theorem dX4_charged_33 : decode cX4_charged 33 = .ok (.ireturn, 1) := by decide +kernel
set_option maxRecDepth 20000 in
theorem ggX4_sponsored_X4_studentAt : GoodIn wsX4_sponsored wsX4_studentAt := goodIn_ca (goodIn_r _ [5, 6, 7, 8, 49, 50, 51, 52, 53, 54, 55, 56, 57] (by decide +kernel) (by decide +kernel)) (goodIn_sub (fun _ h => List.mem_cons_of_mem _ (List.mem_append_right _ h)) (by decide +kernel))
set_option maxRecDepth 20000 in
theorem gX4_sponsored_X4_studentAt : GoodIn wsX4_sponsored (wsV RX4 71 RX4 yX4_studentAt wsX4_studentAt) := goodIn_app (goodIn_of _ (by decide +kernel)) ggX4_sponsored_X4_studentAt
set_option maxRecDepth 20000 in
theorem ggX4_sponsored_X4_sponsorPart : GoodIn wsX4_sponsored wsX4_sponsorPart := goodIn_r _ [12, 13, 14, 15, 16, 17, 18, 19, 20, 21, 4, 22, 23, 24, 25, 26, 27, 28, 29, 30, 31, 32, 33, 34, 35, 36, 37, 38, 39, 40, 41, 42, 43, 44, 45, 46, 47, 48, 58, 59, 60, 61, 62, 63, 64, 65, 66, 67, 68, 69, 70, 71, 49, 50, 51, 52, 53, 54, 55, 56, 57] (by decide +kernel) (by decide +kernel)
set_option maxRecDepth 20000 in
theorem gX4_sponsored_X4_sponsorPart : GoodIn wsX4_sponsored (wsV RX4 205 RX4 yX4_sponsorPart wsX4_sponsorPart) := goodIn_app (goodIn_of _ (by decide +kernel)) ggX4_sponsored_X4_sponsorPart
theorem dX4_sponsored_0 : decode cX4_sponsored 0 = .ok (.aload_n 0, 1) := by decide +kernel
theorem dX4_sponsored_1 : decode cX4_sponsored 1 = .ok (.aload_n 0, 1) := by decide +kernel
theorem dX4_sponsored_2 : decode cX4_sponsored 2 = .ok (.iload_n 1, 1) := by decide +kernel
theorem dX4_sponsored_3 : decode cX4_sponsored 3 = .ok (.invokevirtual 71, 3) := by decide +kernel
theorem dX4_sponsored_6 : decode cX4_sponsored 6 = .ok (.invokevirtual 205, 3) := by decide +kernel
theorem dX4_sponsored_9 : decode cX4_sponsored 9 = .ok (.ireturn, 1) := by decide +kernel
set_option maxRecDepth 20000 in
theorem ggX4_used_X4_studentAt : GoodIn wsX4_used wsX4_studentAt := goodIn_ca (goodIn_r _ [9, 1, 2, 10, 84, 85, 86, 87, 88, 89, 90, 91, 92] (by decide +kernel) (by decide +kernel)) (goodIn_sub (fun _ h => List.mem_cons_of_mem _ (List.mem_append_right _ h)) (by decide +kernel))
set_option maxRecDepth 20000 in
theorem gX4_used_X4_studentAt : GoodIn wsX4_used (wsV RX4 71 RX4 yX4_studentAt wsX4_studentAt) := goodIn_app (goodIn_of _ (by decide +kernel)) ggX4_used_X4_studentAt
set_option maxRecDepth 20000 in
theorem ggX4_used_X0_has : GoodIn wsX4_used wsX0_has := goodIn_r _ [15, 16, 93, 94, 95, 96] (by decide +kernel) (by decide +kernel)
set_option maxRecDepth 20000 in
theorem gX4_used_X0_has : GoodIn wsX4_used (wsV RX4 208 RX0 yX0_has wsX0_has) := goodIn_app (goodIn_of _ (by decide +kernel)) ggX4_used_X0_has
set_option maxRecDepth 20000 in
theorem ggX4_used_X4_unsponsored : GoodIn wsX4_used wsX4_unsponsored := goodIn_r _ [20, 21, 22, 23, 8, 24, 25, 26, 27, 28, 29, 30, 31, 32, 33, 34, 35, 36, 37, 38, 39, 40, 41, 42, 43, 44, 45, 46, 47, 48, 49, 50, 51, 52, 53, 54, 55, 56, 57, 58, 59, 60, 73, 74, 75, 76, 77, 78, 79, 80, 81, 82, 83, 97, 98, 99, 84, 85, 86, 87, 88, 89, 90, 91, 92] (by decide +kernel) (by decide +kernel)
set_option maxRecDepth 20000 in
theorem gX4_used_X4_unsponsored : GoodIn wsX4_used (wsV RX4 211 RX4 yX4_unsponsored wsX4_unsponsored) := goodIn_app (goodIn_of _ (by decide +kernel)) ggX4_used_X4_unsponsored
set_option maxRecDepth 20000 in
theorem ggX4_used_X0_cover : GoodIn wsX4_used wsX0_cover := goodIn_r _ [64, 65, 66, 58, 59, 60, 67, 68, 93, 94, 95, 96] (by decide +kernel) (by decide +kernel)
set_option maxRecDepth 20000 in
theorem gX4_used_X0_cover : GoodIn wsX4_used (wsV RX4 214 RX0 yX0_cover wsX0_cover) := goodIn_app (goodIn_of _ (by decide +kernel)) ggX4_used_X0_cover
set_option maxRecDepth 20000 in
theorem ggX4_used_X0_useOf : GoodIn wsX4_used wsX0_useOf := goodIn_r _ [72, 67, 93, 94, 95, 96] (by decide +kernel) (by decide +kernel)
set_option maxRecDepth 20000 in
theorem gX4_used_X0_useOf : GoodIn wsX4_used (wsV RX4 217 RX0 yX0_useOf wsX0_useOf) := goodIn_app (goodIn_of _ (by decide +kernel)) ggX4_used_X0_useOf
theorem dX4_used_0 : decode cX4_used 0 = .ok (.aload_n 0, 1) := by decide +kernel
theorem dX4_used_1 : decode cX4_used 1 = .ok (.iload_n 1, 1) := by decide +kernel
theorem dX4_used_2 : decode cX4_used 2 = .ok (.invokevirtual 71, 3) := by decide +kernel
theorem dX4_used_5 : decode cX4_used 5 = .ok (.astore_n 3, 1) := by decide +kernel
theorem dX4_used_6 : decode cX4_used 6 = .ok (.aload_n 3, 1) := by decide +kernel
theorem dX4_used_7 : decode cX4_used 7 = .ok (.getfield 140, 3) := by decide +kernel
theorem dX4_used_10 : decode cX4_used 10 = .ok (.iload_n 2, 1) := by decide +kernel
theorem dX4_used_11 : decode cX4_used 11 = .ok (.invokevirtual 208, 3) := by decide +kernel
theorem dX4_used_14 : decode cX4_used 14 = .ok (.ifCond .ne 13, 3) := by decide +kernel
theorem dX4_used_17 : decode cX4_used 17 = .ok (.new 116, 3) := by decide +kernel
theorem dX4_used_20 : decode cX4_used 20 = .ok (.dup, 1) := by decide +kernel
theorem dX4_used_21 : decode cX4_used 21 = .ok (.ldc 209, 2) := by decide +kernel
theorem dX4_used_23 : decode cX4_used 23 = .ok (.invokespecial 120, 3) := by decide +kernel
theorem dX4_used_26 : decode cX4_used 26 = .ok (.athrow, 1) := by decide +kernel
theorem dX4_used_27 : decode cX4_used 27 = .ok (.aload_n 3, 1) := by decide +kernel
theorem dX4_used_28 : decode cX4_used 28 = .ok (.getfield 140, 3) := by decide +kernel
theorem dX4_used_31 : decode cX4_used 31 = .ok (.aload_n 0, 1) := by decide +kernel
theorem dX4_used_32 : decode cX4_used 32 = .ok (.aload_n 3, 1) := by decide +kernel
theorem dX4_used_33 : decode cX4_used 33 = .ok (.invokevirtual 211, 3) := by decide +kernel
theorem dX4_used_36 : decode cX4_used 36 = .ok (.aload_n 3, 1) := by decide +kernel
theorem dX4_used_37 : decode cX4_used 37 = .ok (.getfield 84, 3) := by decide +kernel
theorem dX4_used_40 : decode cX4_used 40 = .ok (.invokevirtual 214, 3) := by decide +kernel
theorem dX4_used_43 : decode cX4_used 43 = .ok (.pop, 1) := by decide +kernel
theorem dX4_used_44 : decode cX4_used 44 = .ok (.aload_n 3, 1) := by decide +kernel
theorem dX4_used_45 : decode cX4_used 45 = .ok (.getfield 140, 3) := by decide +kernel
theorem dX4_used_48 : decode cX4_used 48 = .ok (.iload_n 2, 1) := by decide +kernel
theorem dX4_used_49 : decode cX4_used 49 = .ok (.invokevirtual 217, 3) := by decide +kernel
theorem dX4_used_52 : decode cX4_used 52 = .ok (.ireturn, 1) := by decide +kernel
set_option maxRecDepth 20000 in
theorem ggX4_amountOf_X4_studentAt : GoodIn wsX4_amountOf wsX4_studentAt := goodIn_ca (goodIn_r _ [8, 1, 2, 9, 32, 33, 34, 35, 36, 37, 38, 39, 40] (by decide +kernel) (by decide +kernel)) (goodIn_sub (fun _ h => List.mem_cons_of_mem _ (List.mem_append_right _ h)) (by decide +kernel))
set_option maxRecDepth 20000 in
theorem gX4_amountOf_X4_studentAt : GoodIn wsX4_amountOf (wsV RX4 71 RX4 yX4_studentAt wsX4_studentAt) := goodIn_app (goodIn_of _ (by decide +kernel)) ggX4_amountOf_X4_studentAt
set_option maxRecDepth 20000 in
theorem ggX4_amountOf_X0_has : GoodIn wsX4_amountOf wsX0_has := goodIn_r _ [14, 15, 41, 42, 43, 44] (by decide +kernel) (by decide +kernel)
set_option maxRecDepth 20000 in
theorem gX4_amountOf_X0_has : GoodIn wsX4_amountOf (wsV RX4 208 RX0 yX0_has wsX0_has) := goodIn_app (goodIn_of _ (by decide +kernel)) ggX4_amountOf_X0_has
set_option maxRecDepth 20000 in
theorem ggX4_amountOf_X0_sumOf : GoodIn wsX4_amountOf wsX0_sumOf := goodIn_r _ [19, 20, 41, 42, 43, 44] (by decide +kernel) (by decide +kernel)
set_option maxRecDepth 20000 in
theorem gX4_amountOf_X0_sumOf : GoodIn wsX4_amountOf (wsV RX4 220 RX0 yX0_sumOf wsX0_sumOf) := goodIn_app (goodIn_of _ (by decide +kernel)) ggX4_amountOf_X0_sumOf
theorem dX4_amountOf_0 : decode cX4_amountOf 0 = .ok (.aload_n 0, 1) := by decide +kernel
theorem dX4_amountOf_1 : decode cX4_amountOf 1 = .ok (.iload_n 1, 1) := by decide +kernel
theorem dX4_amountOf_2 : decode cX4_amountOf 2 = .ok (.invokevirtual 71, 3) := by decide +kernel
theorem dX4_amountOf_5 : decode cX4_amountOf 5 = .ok (.astore_n 3, 1) := by decide +kernel
theorem dX4_amountOf_6 : decode cX4_amountOf 6 = .ok (.aload_n 3, 1) := by decide +kernel
theorem dX4_amountOf_7 : decode cX4_amountOf 7 = .ok (.getfield 140, 3) := by decide +kernel
theorem dX4_amountOf_10 : decode cX4_amountOf 10 = .ok (.iload_n 2, 1) := by decide +kernel
theorem dX4_amountOf_11 : decode cX4_amountOf 11 = .ok (.invokevirtual 208, 3) := by decide +kernel
theorem dX4_amountOf_14 : decode cX4_amountOf 14 = .ok (.ifCond .ne 13, 3) := by decide +kernel
theorem dX4_amountOf_17 : decode cX4_amountOf 17 = .ok (.new 116, 3) := by decide +kernel
theorem dX4_amountOf_20 : decode cX4_amountOf 20 = .ok (.dup, 1) := by decide +kernel
theorem dX4_amountOf_21 : decode cX4_amountOf 21 = .ok (.ldc 209, 2) := by decide +kernel
theorem dX4_amountOf_23 : decode cX4_amountOf 23 = .ok (.invokespecial 120, 3) := by decide +kernel
theorem dX4_amountOf_26 : decode cX4_amountOf 26 = .ok (.athrow, 1) := by decide +kernel
theorem dX4_amountOf_27 : decode cX4_amountOf 27 = .ok (.aload_n 3, 1) := by decide +kernel
theorem dX4_amountOf_28 : decode cX4_amountOf 28 = .ok (.getfield 140, 3) := by decide +kernel
theorem dX4_amountOf_31 : decode cX4_amountOf 31 = .ok (.iload_n 2, 1) := by decide +kernel
theorem dX4_amountOf_32 : decode cX4_amountOf 32 = .ok (.invokevirtual 220, 3) := by decide +kernel
theorem dX4_amountOf_35 : decode cX4_amountOf 35 = .ok (.ireturn, 1) := by decide +kernel
set_option maxRecDepth 20000 in
theorem ggX4_paid_X4_studentAt : GoodIn wsX4_paid wsX4_studentAt := goodIn_ca (goodIn_r _ [6, 7, 8, 9, 21, 22, 23, 24, 25, 26, 27, 28, 29] (by decide +kernel) (by decide +kernel)) (goodIn_sub (fun _ h => List.mem_cons_of_mem _ (List.mem_append_right _ h)) (by decide +kernel))
set_option maxRecDepth 20000 in
theorem gX4_paid_X4_studentAt : GoodIn wsX4_paid (wsV RX4 71 RX4 yX4_studentAt wsX4_studentAt) := goodIn_app (goodIn_of _ (by decide +kernel)) ggX4_paid_X4_studentAt
theorem dX4_paid_0 : decode cX4_paid 0 = .ok (.aload_n 0, 1) := by decide +kernel
theorem dX4_paid_1 : decode cX4_paid 1 = .ok (.iload_n 1, 1) := by decide +kernel
theorem dX4_paid_2 : decode cX4_paid 2 = .ok (.invokevirtual 71, 3) := by decide +kernel
theorem dX4_paid_5 : decode cX4_paid 5 = .ok (.getfield 153, 3) := by decide +kernel
theorem dX4_paid_8 : decode cX4_paid 8 = .ok (.ireturn, 1) := by decide +kernel
set_option maxRecDepth 20000 in
theorem ggX4_owed_X4_studentAt : GoodIn wsX4_owed wsX4_studentAt := goodIn_ca (goodIn_r _ [5, 6, 7, 8, 69, 70, 71, 72, 73, 74, 75, 76, 77] (by decide +kernel) (by decide +kernel)) (goodIn_sub (fun _ h => List.mem_cons_of_mem _ (List.mem_append_right _ h)) (by decide +kernel))
set_option maxRecDepth 20000 in
theorem gX4_owed_X4_studentAt : GoodIn wsX4_owed (wsV RX4 71 RX4 yX4_studentAt wsX4_studentAt) := goodIn_app (goodIn_of _ (by decide +kernel)) ggX4_owed_X4_studentAt
set_option maxRecDepth 20000 in
theorem ggX4_owed_X4_balanceOf : GoodIn wsX4_owed wsX4_balanceOf := goodIn_r _ [12, 13, 14, 15, 16, 17, 18, 4, 19, 20, 21, 22, 23, 24, 25, 26, 27, 28, 29, 30, 31, 32, 33, 34, 35, 36, 37, 38, 39, 40, 41, 42, 43, 44, 45, 46, 47, 48, 49, 50, 51, 52, 53, 54, 55, 56, 57, 58, 59, 60, 61, 62, 63, 64, 65, 66, 67, 68, 78, 79, 80, 81, 82, 83, 84, 85, 86, 87, 88, 89, 90, 91, 69, 70, 71, 72, 73, 74, 75, 76, 77, 92, 93, 94, 95] (by decide +kernel) (by decide +kernel)
set_option maxRecDepth 20000 in
theorem gX4_owed_X4_balanceOf : GoodIn wsX4_owed (wsV RX4 165 RX4 yX4_balanceOf wsX4_balanceOf) := goodIn_app (goodIn_of _ (by decide +kernel)) ggX4_owed_X4_balanceOf
theorem dX4_owed_0 : decode cX4_owed 0 = .ok (.aload_n 0, 1) := by decide +kernel
theorem dX4_owed_1 : decode cX4_owed 1 = .ok (.aload_n 0, 1) := by decide +kernel
theorem dX4_owed_2 : decode cX4_owed 2 = .ok (.iload_n 1, 1) := by decide +kernel
theorem dX4_owed_3 : decode cX4_owed 3 = .ok (.invokevirtual 71, 3) := by decide +kernel
theorem dX4_owed_6 : decode cX4_owed 6 = .ok (.invokevirtual 165, 3) := by decide +kernel
theorem dX4_owed_9 : decode cX4_owed 9 = .ok (.ireturn, 1) := by decide +kernel
set_option maxRecDepth 20000 in
theorem ggX4_hasHold_X4_studentAt : GoodIn wsX4_hasHold wsX4_studentAt := goodIn_ca (goodIn_r _ [6, 7, 8, 9, 70, 71, 72, 73, 74, 75, 76, 77, 78] (by decide +kernel) (by decide +kernel)) (goodIn_sub (fun _ h => List.mem_cons_of_mem _ (List.mem_append_right _ h)) (by decide +kernel))
set_option maxRecDepth 20000 in
theorem gX4_hasHold_X4_studentAt : GoodIn wsX4_hasHold (wsV RX4 71 RX4 yX4_studentAt wsX4_studentAt) := goodIn_app (goodIn_of _ (by decide +kernel)) ggX4_hasHold_X4_studentAt
set_option maxRecDepth 20000 in
theorem ggX4_hasHold_X4_balanceOf : GoodIn wsX4_hasHold wsX4_balanceOf := goodIn_r _ [13, 14, 15, 16, 17, 18, 19, 5, 20, 21, 22, 23, 24, 25, 26, 27, 28, 29, 30, 31, 32, 33, 34, 35, 36, 37, 38, 39, 40, 41, 42, 43, 44, 45, 46, 47, 48, 49, 50, 51, 52, 53, 54, 55, 56, 57, 58, 59, 60, 61, 62, 63, 64, 65, 66, 67, 68, 69, 79, 80, 81, 82, 83, 84, 85, 86, 87, 88, 89, 90, 91, 92, 70, 71, 72, 73, 74, 75, 76, 77, 78, 93, 94, 95, 96] (by decide +kernel) (by decide +kernel)
set_option maxRecDepth 20000 in
theorem gX4_hasHold_X4_balanceOf : GoodIn wsX4_hasHold (wsV RX4 165 RX4 yX4_balanceOf wsX4_balanceOf) := goodIn_app (goodIn_of _ (by decide +kernel)) ggX4_hasHold_X4_balanceOf
theorem dX4_hasHold_0 : decode cX4_hasHold 0 = .ok (.aload_n 0, 1) := by decide +kernel
theorem dX4_hasHold_1 : decode cX4_hasHold 1 = .ok (.aload_n 0, 1) := by decide +kernel
theorem dX4_hasHold_2 : decode cX4_hasHold 2 = .ok (.iload_n 1, 1) := by decide +kernel
theorem dX4_hasHold_3 : decode cX4_hasHold 3 = .ok (.invokevirtual 71, 3) := by decide +kernel
theorem dX4_hasHold_6 : decode cX4_hasHold 6 = .ok (.invokevirtual 165, 3) := by decide +kernel
theorem dX4_hasHold_9 : decode cX4_hasHold 9 = .ok (.aload_n 0, 1) := by decide +kernel
theorem dX4_hasHold_10 : decode cX4_hasHold 10 = .ok (.getfield 32, 3) := by decide +kernel
theorem dX4_hasHold_13 : decode cX4_hasHold 13 = .ok (.if_icmp .le 7, 3) := by decide +kernel
theorem dX4_hasHold_16 : decode cX4_hasHold 16 = .ok (.iconst 1, 1) := by decide +kernel
theorem dX4_hasHold_17 : decode cX4_hasHold 17 = .ok (.goto 4, 3) := by decide +kernel
theorem dX4_hasHold_20 : decode cX4_hasHold 20 = .ok (.iconst 0, 1) := by decide +kernel
theorem dX4_hasHold_21 : decode cX4_hasHold 21 = .ok (.ireturn, 1) := by decide +kernel
theorem dX4_isWithin_0 : decode cX4_isWithin 0 = .ok (.iload_n 0, 1) := by decide +kernel
theorem dX4_isWithin_1 : decode cX4_isWithin 1 = .ok (.iload_n 1, 1) := by decide +kernel
theorem dX4_isWithin_2 : decode cX4_isWithin 2 = .ok (.if_icmp .lt 12, 3) := by decide +kernel
theorem dX4_isWithin_5 : decode cX4_isWithin 5 = .ok (.iload_n 0, 1) := by decide +kernel
theorem dX4_isWithin_6 : decode cX4_isWithin 6 = .ok (.iload_n 2, 1) := by decide +kernel
theorem dX4_isWithin_7 : decode cX4_isWithin 7 = .ok (.if_icmp .gt 7, 3) := by decide +kernel
theorem dX4_isWithin_10 : decode cX4_isWithin 10 = .ok (.iconst 1, 1) := by decide +kernel
theorem dX4_isWithin_11 : decode cX4_isWithin 11 = .ok (.goto 4, 3) := by decide +kernel
theorem dX4_isWithin_14 : decode cX4_isWithin 14 = .ok (.iconst 0, 1) := by decide +kernel
theorem dX4_isWithin_15 : decode cX4_isWithin 15 = .ok (.ireturn, 1) := by decide +kernel
theorem dX4_studentAt_0 : decode cX4_studentAt 0 = .ok (.iload_n 1, 1) := by decide +kernel
theorem dX4_studentAt_1 : decode cX4_studentAt 1 = .ok (.ifCond .lt 21, 3) := by decide +kernel
theorem dX4_studentAt_4 : decode cX4_studentAt 4 = .ok (.iload_n 1, 1) := by decide +kernel
theorem dX4_studentAt_5 : decode cX4_studentAt 5 = .ok (.aload_n 0, 1) := by decide +kernel
theorem dX4_studentAt_6 : decode cX4_studentAt 6 = .ok (.getfield 11, 3) := by decide +kernel
theorem dX4_studentAt_9 : decode cX4_studentAt 9 = .ok (.arraylength, 1) := by decide +kernel
theorem dX4_studentAt_10 : decode cX4_studentAt 10 = .ok (.if_icmp .ge 12, 3) := by decide +kernel
theorem dX4_studentAt_13 : decode cX4_studentAt 13 = .ok (.aload_n 0, 1) := by decide +kernel
theorem dX4_studentAt_14 : decode cX4_studentAt 14 = .ok (.getfield 11, 3) := by decide +kernel
theorem dX4_studentAt_17 : decode cX4_studentAt 17 = .ok (.iload_n 1, 1) := by decide +kernel
theorem dX4_studentAt_18 : decode cX4_studentAt 18 = .ok (.aaload, 1) := by decide +kernel
theorem dX4_studentAt_19 : decode cX4_studentAt 19 = .ok (.goto 4, 3) := by decide +kernel
theorem dX4_studentAt_22 : decode cX4_studentAt 22 = .ok (.aconst_null, 1) := by decide +kernel
theorem dX4_studentAt_23 : decode cX4_studentAt 23 = .ok (.astore_n 2, 1) := by decide +kernel
theorem dX4_studentAt_24 : decode cX4_studentAt 24 = .ok (.aload_n 2, 1) := by decide +kernel
theorem dX4_studentAt_25 : decode cX4_studentAt 25 = .ok (.ifnonnull 13, 3) := by decide +kernel
theorem dX4_studentAt_28 : decode cX4_studentAt 28 = .ok (.new 116, 3) := by decide +kernel
theorem dX4_studentAt_31 : decode cX4_studentAt 31 = .ok (.dup, 1) := by decide +kernel
theorem dX4_studentAt_32 : decode cX4_studentAt 32 = .ok (.ldc 223, 2) := by decide +kernel
theorem dX4_studentAt_34 : decode cX4_studentAt 34 = .ok (.invokespecial 120, 3) := by decide +kernel
theorem dX4_studentAt_37 : decode cX4_studentAt 37 = .ok (.athrow, 1) := by decide +kernel
theorem dX4_studentAt_38 : decode cX4_studentAt 38 = .ok (.aload_n 2, 1) := by decide +kernel
theorem dX4_studentAt_39 : decode cX4_studentAt 39 = .ok (.areturn, 1) := by decide +kernel
theorem dX4_weekNumber_0 : decode cX4_weekNumber 0 = .ok (.aload_n 0, 1) := by decide +kernel
theorem dX4_weekNumber_1 : decode cX4_weekNumber 1 = .ok (.getfield 38, 3) := by decide +kernel
theorem dX4_weekNumber_4 : decode cX4_weekNumber 4 = .ok (.bipush 16, 2) := by decide +kernel
theorem dX4_weekNumber_6 : decode cX4_weekNumber 6 = .ok (.imul, 1) := by decide +kernel
theorem dX4_weekNumber_7 : decode cX4_weekNumber 7 = .ok (.aload_n 0, 1) := by decide +kernel
theorem dX4_weekNumber_8 : decode cX4_weekNumber 8 = .ok (.getfield 35, 3) := by decide +kernel
theorem dX4_weekNumber_11 : decode cX4_weekNumber 11 = .ok (.iadd, 1) := by decide +kernel
theorem dX4_weekNumber_12 : decode cX4_weekNumber 12 = .ok (.ireturn, 1) := by decide +kernel
theorem dX4_placeOfRate_0 : decode cX4_placeOfRate 0 = .ok (.iload_n 0, 1) := by decide +kernel
theorem dX4_placeOfRate_1 : decode cX4_placeOfRate 1 = .ok (.ifCond .lt 8, 3) := by decide +kernel
theorem dX4_placeOfRate_4 : decode cX4_placeOfRate 4 = .ok (.iload_n 0, 1) := by decide +kernel
theorem dX4_placeOfRate_5 : decode cX4_placeOfRate 5 = .ok (.iconst 1, 1) := by decide +kernel
theorem dX4_placeOfRate_6 : decode cX4_placeOfRate 6 = .ok (.if_icmp .le 5, 3) := by decide +kernel
theorem dX4_placeOfRate_9 : decode cX4_placeOfRate 9 = .ok (.iconst (-1), 1) := by decide +kernel
theorem dX4_placeOfRate_10 : decode cX4_placeOfRate 10 = .ok (.ireturn, 1) := by decide +kernel
theorem dX4_placeOfRate_11 : decode cX4_placeOfRate 11 = .ok (.iconst 2, 1) := by decide +kernel
theorem dX4_placeOfRate_12 : decode cX4_placeOfRate 12 = .ok (.iload_n 0, 1) := by decide +kernel
theorem dX4_placeOfRate_13 : decode cX4_placeOfRate 13 = .ok (.imul, 1) := by decide +kernel
theorem dX4_placeOfRate_14 : decode cX4_placeOfRate 14 = .ok (.iload_n 1, 1) := by decide +kernel
theorem dX4_placeOfRate_15 : decode cX4_placeOfRate 15 = .ok (.ifCond .eq 7, 3) := by decide +kernel
theorem dX4_placeOfRate_18 : decode cX4_placeOfRate 18 = .ok (.iconst 1, 1) := by decide +kernel
theorem dX4_placeOfRate_19 : decode cX4_placeOfRate 19 = .ok (.goto 4, 3) := by decide +kernel
theorem dX4_placeOfRate_22 : decode cX4_placeOfRate 22 = .ok (.iconst 0, 1) := by decide +kernel
theorem dX4_placeOfRate_23 : decode cX4_placeOfRate 23 = .ok (.iadd, 1) := by decide +kernel
theorem dX4_placeOfRate_24 : decode cX4_placeOfRate 24 = .ok (.ireturn, 1) := by decide +kernel
theorem dX4_rateAt_0 : decode cX4_rateAt 0 = .ok (.iload_n 1, 1) := by decide +kernel
theorem dX4_rateAt_1 : decode cX4_rateAt 1 = .ok (.ifCond .lt 21, 3) := by decide +kernel
theorem dX4_rateAt_4 : decode cX4_rateAt 4 = .ok (.iload_n 1, 1) := by decide +kernel
theorem dX4_rateAt_5 : decode cX4_rateAt 5 = .ok (.aload_n 0, 1) := by decide +kernel
theorem dX4_rateAt_6 : decode cX4_rateAt 6 = .ok (.getfield 15, 3) := by decide +kernel
theorem dX4_rateAt_9 : decode cX4_rateAt 9 = .ok (.arraylength, 1) := by decide +kernel
theorem dX4_rateAt_10 : decode cX4_rateAt 10 = .ok (.if_icmp .ge 12, 3) := by decide +kernel
theorem dX4_rateAt_13 : decode cX4_rateAt 13 = .ok (.aload_n 0, 1) := by decide +kernel
theorem dX4_rateAt_14 : decode cX4_rateAt 14 = .ok (.getfield 15, 3) := by decide +kernel
theorem dX4_rateAt_17 : decode cX4_rateAt 17 = .ok (.iload_n 1, 1) := by decide +kernel
theorem dX4_rateAt_18 : decode cX4_rateAt 18 = .ok (.iaload, 1) := by decide +kernel
theorem dX4_rateAt_19 : decode cX4_rateAt 19 = .ok (.goto 4, 3) := by decide +kernel
theorem dX4_rateAt_22 : decode cX4_rateAt 22 = .ok (.iconst 0, 1) := by decide +kernel
theorem dX4_rateAt_23 : decode cX4_rateAt 23 = .ok (.ireturn, 1) := by decide +kernel
theorem dX4_shareNow_0 : decode cX4_shareNow 0 = .ok (.aload_n 0, 1) := by decide +kernel
theorem dX4_shareNow_1 : decode cX4_shareNow 1 = .ok (.getfield 35, 3) := by decide +kernel
theorem dX4_shareNow_4 : decode cX4_shareNow 4 = .ok (.ifCond .lt 27, 3) := by decide +kernel
theorem dX4_shareNow_7 : decode cX4_shareNow 7 = .ok (.aload_n 0, 1) := by decide +kernel
theorem dX4_shareNow_8 : decode cX4_shareNow 8 = .ok (.getfield 35, 3) := by decide +kernel
theorem dX4_shareNow_11 : decode cX4_shareNow 11 = .ok (.aload_n 0, 1) := by decide +kernel
theorem dX4_shareNow_12 : decode cX4_shareNow 12 = .ok (.getfield 19, 3) := by decide +kernel
theorem dX4_shareNow_15 : decode cX4_shareNow 15 = .ok (.arraylength, 1) := by decide +kernel
theorem dX4_shareNow_16 : decode cX4_shareNow 16 = .ok (.if_icmp .ge 15, 3) := by decide +kernel
theorem dX4_shareNow_19 : decode cX4_shareNow 19 = .ok (.aload_n 0, 1) := by decide +kernel
theorem dX4_shareNow_20 : decode cX4_shareNow 20 = .ok (.getfield 19, 3) := by decide +kernel
theorem dX4_shareNow_23 : decode cX4_shareNow 23 = .ok (.aload_n 0, 1) := by decide +kernel
theorem dX4_shareNow_24 : decode cX4_shareNow 24 = .ok (.getfield 35, 3) := by decide +kernel
theorem dX4_shareNow_27 : decode cX4_shareNow 27 = .ok (.iaload, 1) := by decide +kernel
theorem dX4_shareNow_28 : decode cX4_shareNow 28 = .ok (.goto 4, 3) := by decide +kernel
theorem dX4_shareNow_31 : decode cX4_shareNow 31 = .ok (.iconst 0, 1) := by decide +kernel
theorem dX4_shareNow_32 : decode cX4_shareNow 32 = .ok (.ireturn, 1) := by decide +kernel
theorem dX4_priceOf_0 : decode cX4_priceOf 0 = .ok (.iload_n 1, 1) := by decide +kernel
theorem dX4_priceOf_1 : decode cX4_priceOf 1 = .ok (.aload_n 0, 1) := by decide +kernel
theorem dX4_priceOf_2 : decode cX4_priceOf 2 = .ok (.getfield 22, 3) := by decide +kernel
theorem dX4_priceOf_5 : decode cX4_priceOf 5 = .ok (.if_icmp .gt 7, 3) := by decide +kernel
theorem dX4_priceOf_8 : decode cX4_priceOf 8 = .ok (.iload_n 1, 1) := by decide +kernel
theorem dX4_priceOf_9 : decode cX4_priceOf 9 = .ok (.iload_n 2, 1) := by decide +kernel
theorem dX4_priceOf_10 : decode cX4_priceOf 10 = .ok (.imul, 1) := by decide +kernel
theorem dX4_priceOf_11 : decode cX4_priceOf 11 = .ok (.ireturn, 1) := by decide +kernel
theorem dX4_priceOf_12 : decode cX4_priceOf 12 = .ok (.iload_n 1, 1) := by decide +kernel
theorem dX4_priceOf_13 : decode cX4_priceOf 13 = .ok (.aload_n 0, 1) := by decide +kernel
theorem dX4_priceOf_14 : decode cX4_priceOf 14 = .ok (.getfield 26, 3) := by decide +kernel
theorem dX4_priceOf_17 : decode cX4_priceOf 17 = .ok (.if_icmp .gt 10, 3) := by decide +kernel
theorem dX4_priceOf_20 : decode cX4_priceOf 20 = .ok (.aload_n 0, 1) := by decide +kernel
theorem dX4_priceOf_21 : decode cX4_priceOf 21 = .ok (.getfield 22, 3) := by decide +kernel
theorem dX4_priceOf_24 : decode cX4_priceOf 24 = .ok (.iload_n 2, 1) := by decide +kernel
theorem dX4_priceOf_25 : decode cX4_priceOf 25 = .ok (.imul, 1) := by decide +kernel
theorem dX4_priceOf_26 : decode cX4_priceOf 26 = .ok (.ireturn, 1) := by decide +kernel
theorem dX4_priceOf_27 : decode cX4_priceOf 27 = .ok (.aload_n 0, 1) := by decide +kernel
theorem dX4_priceOf_28 : decode cX4_priceOf 28 = .ok (.getfield 22, 3) := by decide +kernel
theorem dX4_priceOf_31 : decode cX4_priceOf 31 = .ok (.iload_n 1, 1) := by decide +kernel
theorem dX4_priceOf_32 : decode cX4_priceOf 32 = .ok (.iadd, 1) := by decide +kernel
theorem dX4_priceOf_33 : decode cX4_priceOf 33 = .ok (.aload_n 0, 1) := by decide +kernel
theorem dX4_priceOf_34 : decode cX4_priceOf 34 = .ok (.getfield 26, 3) := by decide +kernel
theorem dX4_priceOf_37 : decode cX4_priceOf 37 = .ok (.isub, 1) := by decide +kernel
theorem dX4_priceOf_38 : decode cX4_priceOf 38 = .ok (.iload_n 2, 1) := by decide +kernel
theorem dX4_priceOf_39 : decode cX4_priceOf 39 = .ok (.imul, 1) := by decide +kernel
theorem dX4_priceOf_40 : decode cX4_priceOf 40 = .ok (.ireturn, 1) := by decide +kernel
set_option maxRecDepth 20000 in
theorem ggX4_dropCourse_X4_placeOfRate : GoodIn wsX4_dropCourse wsX4_placeOfRate := goodIn_r _ [8] (by decide +kernel) (by decide +kernel)
set_option maxRecDepth 20000 in
theorem gX4_dropCourse_X4_placeOfRate : GoodIn wsX4_dropCourse (va_wsS RX4 48 yX4_placeOfRate wsX4_placeOfRate) := goodIn_app (goodIn_of _ (by decide +kernel)) ggX4_dropCourse_X4_placeOfRate
set_option maxRecDepth 20000 in
theorem ggX4_dropCourse_X4_rateAt : GoodIn wsX4_dropCourse wsX4_rateAt := goodIn_r _ [12, 13, 50, 51, 52, 53, 54, 55, 56, 57, 58] (by decide +kernel) (by decide +kernel)
set_option maxRecDepth 20000 in
theorem gX4_dropCourse_X4_rateAt : GoodIn wsX4_dropCourse (wsV RX4 225 RX4 yX4_rateAt wsX4_rateAt) := goodIn_app (goodIn_of _ (by decide +kernel)) ggX4_dropCourse_X4_rateAt
set_option maxRecDepth 20000 in
theorem ggX4_dropCourse_X1_total : GoodIn wsX4_dropCourse wsX1_total := goodIn_r _ [18, 19, 47, 48, 49] (by decide +kernel) (by decide +kernel)
set_option maxRecDepth 20000 in
theorem gX4_dropCourse_X1_total : GoodIn wsX4_dropCourse (wsV RX4 199 RX1 yX1_total wsX1_total) := goodIn_app (goodIn_of _ (by decide +kernel)) ggX4_dropCourse_X1_total
set_option maxRecDepth 20000 in
theorem ggX4_dropCourse_X4_priceOf : GoodIn wsX4_dropCourse wsX4_priceOf := goodIn_r _ [23, 24, 25, 50, 51, 52, 53, 54, 55, 56, 57, 58] (by decide +kernel) (by decide +kernel)
set_option maxRecDepth 20000 in
theorem gX4_dropCourse_X4_priceOf : GoodIn wsX4_dropCourse (wsV RX4 228 RX4 yX4_priceOf wsX4_priceOf) := goodIn_app (goodIn_of _ (by decide +kernel)) ggX4_dropCourse_X4_priceOf
set_option maxRecDepth 20000 in
theorem ggX4_dropCourse_X1_remove : GoodIn wsX4_dropCourse wsX1_remove := goodIn_r _ [29, 19, 47, 48, 49] (by decide +kernel) (by decide +kernel)
set_option maxRecDepth 20000 in
theorem gX4_dropCourse_X1_remove : GoodIn wsX4_dropCourse (wsV RX4 231 RX1 yX1_remove wsX1_remove) := goodIn_app (goodIn_of _ (by decide +kernel)) ggX4_dropCourse_X1_remove
set_option maxRecDepth 20000 in
theorem ggX4_dropCourse_X4_shareNow : GoodIn wsX4_dropCourse wsX4_shareNow := goodIn_r _ [33, 34, 35, 50, 51, 52, 53, 54, 55, 56, 57, 58] (by decide +kernel) (by decide +kernel)
set_option maxRecDepth 20000 in
theorem gX4_dropCourse_X4_shareNow : GoodIn wsX4_dropCourse (wsV RX4 234 RX4 yX4_shareNow wsX4_shareNow) := goodIn_app (goodIn_of _ (by decide +kernel)) ggX4_dropCourse_X4_shareNow
theorem dX4_dropCourse_0 : decode cX4_dropCourse 0 = .ok (.aload_n 0, 1) := by decide +kernel
theorem dX4_dropCourse_1 : decode cX4_dropCourse 1 = .ok (.aload_n 1, 1) := by decide +kernel
theorem dX4_dropCourse_2 : decode cX4_dropCourse 2 = .ok (.getfield 77, 3) := by decide +kernel
theorem dX4_dropCourse_5 : decode cX4_dropCourse 5 = .ok (.aload_n 1, 1) := by decide +kernel
theorem dX4_dropCourse_6 : decode cX4_dropCourse 6 = .ok (.getfield 80, 3) := by decide +kernel
theorem dX4_dropCourse_9 : decode cX4_dropCourse 9 = .ok (.invokestatic 48, 3) := by decide +kernel
theorem dX4_dropCourse_12 : decode cX4_dropCourse 12 = .ok (.invokevirtual 225, 3) := by decide +kernel
theorem dX4_dropCourse_15 : decode cX4_dropCourse 15 = .ok (.istore_n 3, 1) := by decide +kernel
theorem dX4_dropCourse_16 : decode cX4_dropCourse 16 = .ok (.aload_n 0, 1) := by decide +kernel
theorem dX4_dropCourse_17 : decode cX4_dropCourse 17 = .ok (.aload_n 1, 1) := by decide +kernel
theorem dX4_dropCourse_18 : decode cX4_dropCourse 18 = .ok (.getfield 97, 3) := by decide +kernel
theorem dX4_dropCourse_21 : decode cX4_dropCourse 21 = .ok (.invokevirtual 199, 3) := by decide +kernel
theorem dX4_dropCourse_24 : decode cX4_dropCourse 24 = .ok (.iload_n 3, 1) := by decide +kernel
theorem dX4_dropCourse_25 : decode cX4_dropCourse 25 = .ok (.invokevirtual 228, 3) := by decide +kernel
theorem dX4_dropCourse_28 : decode cX4_dropCourse 28 = .ok (.istore 4, 2) := by decide +kernel
theorem dX4_dropCourse_30 : decode cX4_dropCourse 30 = .ok (.aload_n 1, 1) := by decide +kernel
theorem dX4_dropCourse_31 : decode cX4_dropCourse 31 = .ok (.getfield 97, 3) := by decide +kernel
theorem dX4_dropCourse_34 : decode cX4_dropCourse 34 = .ok (.iload_n 2, 1) := by decide +kernel
theorem dX4_dropCourse_35 : decode cX4_dropCourse 35 = .ok (.invokevirtual 231, 3) := by decide +kernel
theorem dX4_dropCourse_38 : decode cX4_dropCourse 38 = .ok (.aload_n 0, 1) := by decide +kernel
theorem dX4_dropCourse_39 : decode cX4_dropCourse 39 = .ok (.aload_n 1, 1) := by decide +kernel
theorem dX4_dropCourse_40 : decode cX4_dropCourse 40 = .ok (.getfield 97, 3) := by decide +kernel
theorem dX4_dropCourse_43 : decode cX4_dropCourse 43 = .ok (.invokevirtual 199, 3) := by decide +kernel
theorem dX4_dropCourse_46 : decode cX4_dropCourse 46 = .ok (.iload_n 3, 1) := by decide +kernel
theorem dX4_dropCourse_47 : decode cX4_dropCourse 47 = .ok (.invokevirtual 228, 3) := by decide +kernel
theorem dX4_dropCourse_50 : decode cX4_dropCourse 50 = .ok (.istore 5, 2) := by decide +kernel
theorem dX4_dropCourse_52 : decode cX4_dropCourse 52 = .ok (.iload 4, 2) := by decide +kernel
theorem dX4_dropCourse_54 : decode cX4_dropCourse 54 = .ok (.iload 5, 2) := by decide +kernel
theorem dX4_dropCourse_56 : decode cX4_dropCourse 56 = .ok (.isub, 1) := by decide +kernel
theorem dX4_dropCourse_57 : decode cX4_dropCourse 57 = .ok (.aload_n 0, 1) := by decide +kernel
theorem dX4_dropCourse_58 : decode cX4_dropCourse 58 = .ok (.invokevirtual 234, 3) := by decide +kernel
theorem dX4_dropCourse_61 : decode cX4_dropCourse 61 = .ok (.imul, 1) := by decide +kernel
theorem dX4_dropCourse_62 : decode cX4_dropCourse 62 = .ok (.bipush 100, 2) := by decide +kernel
theorem dX4_dropCourse_64 : decode cX4_dropCourse 64 = .ok (.idiv, 1) := by decide +kernel
theorem dX4_dropCourse_65 : decode cX4_dropCourse 65 = .ok (.istore 6, 2) := by decide +kernel
theorem dX4_dropCourse_67 : decode cX4_dropCourse 67 = .ok (.aload_n 1, 1) := by decide +kernel
theorem dX4_dropCourse_68 : decode cX4_dropCourse 68 = .ok (.getfield 97, 3) := by decide +kernel
theorem dX4_dropCourse_71 : decode cX4_dropCourse 71 = .ok (.dup, 1) := by decide +kernel
theorem dX4_dropCourse_72 : decode cX4_dropCourse 72 = .ok (.getfield 237, 3) := by decide +kernel
theorem dX4_dropCourse_75 : decode cX4_dropCourse 75 = .ok (.iload 6, 2) := by decide +kernel
theorem dX4_dropCourse_77 : decode cX4_dropCourse 77 = .ok (.iadd, 1) := by decide +kernel
theorem dX4_dropCourse_78 : decode cX4_dropCourse 78 = .ok (.putfield 237, 3) := by decide +kernel
theorem dX4_dropCourse_81 : decode cX4_dropCourse 81 = .ok (.iload 6, 2) := by decide +kernel
theorem dX4_dropCourse_83 : decode cX4_dropCourse 83 = .ok (.ireturn, 1) := by decide +kernel
theorem dX4_aidToGiveBack_0 : decode cX4_aidToGiveBack 0 = .ok (.aload_n 0, 1) := by decide +kernel
theorem dX4_aidToGiveBack_1 : decode cX4_aidToGiveBack 1 = .ok (.getfield 35, 3) := by decide +kernel
theorem dX4_aidToGiveBack_4 : decode cX4_aidToGiveBack 4 = .ok (.bipush 10, 2) := by decide +kernel
theorem dX4_aidToGiveBack_6 : decode cX4_aidToGiveBack 6 = .ok (.if_icmp .lt 5, 3) := by decide +kernel
theorem dX4_aidToGiveBack_9 : decode cX4_aidToGiveBack 9 = .ok (.iconst 0, 1) := by decide +kernel
theorem dX4_aidToGiveBack_10 : decode cX4_aidToGiveBack 10 = .ok (.ireturn, 1) := by decide +kernel
theorem dX4_aidToGiveBack_11 : decode cX4_aidToGiveBack 11 = .ok (.iload_n 1, 1) := by decide +kernel
theorem dX4_aidToGiveBack_12 : decode cX4_aidToGiveBack 12 = .ok (.iload_n 1, 1) := by decide +kernel
theorem dX4_aidToGiveBack_13 : decode cX4_aidToGiveBack 13 = .ok (.aload_n 0, 1) := by decide +kernel
theorem dX4_aidToGiveBack_14 : decode cX4_aidToGiveBack 14 = .ok (.getfield 35, 3) := by decide +kernel
theorem dX4_aidToGiveBack_17 : decode cX4_aidToGiveBack 17 = .ok (.imul, 1) := by decide +kernel
theorem dX4_aidToGiveBack_18 : decode cX4_aidToGiveBack 18 = .ok (.bipush 16, 2) := by decide +kernel
theorem dX4_aidToGiveBack_20 : decode cX4_aidToGiveBack 20 = .ok (.idiv, 1) := by decide +kernel
theorem dX4_aidToGiveBack_21 : decode cX4_aidToGiveBack 21 = .ok (.isub, 1) := by decide +kernel
theorem dX4_aidToGiveBack_22 : decode cX4_aidToGiveBack 22 = .ok (.ireturn, 1) := by decide +kernel
set_option maxRecDepth 20000 in
theorem ggX4_chargesOf_X4_placeOfRate : GoodIn wsX4_chargesOf wsX4_placeOfRate := goodIn_r _ [10] (by decide +kernel) (by decide +kernel)
set_option maxRecDepth 20000 in
theorem gX4_chargesOf_X4_placeOfRate : GoodIn wsX4_chargesOf (va_wsS RX4 48 yX4_placeOfRate wsX4_placeOfRate) := goodIn_app (goodIn_of _ (by decide +kernel)) ggX4_chargesOf_X4_placeOfRate
set_option maxRecDepth 20000 in
theorem ggX4_chargesOf_X4_rateAt : GoodIn wsX4_chargesOf wsX4_rateAt := goodIn_r _ [14, 15, 42, 43, 44, 45, 46, 47, 48, 49, 50] (by decide +kernel) (by decide +kernel)
set_option maxRecDepth 20000 in
theorem gX4_chargesOf_X4_rateAt : GoodIn wsX4_chargesOf (wsV RX4 225 RX4 yX4_rateAt wsX4_rateAt) := goodIn_app (goodIn_of _ (by decide +kernel)) ggX4_chargesOf_X4_rateAt
set_option maxRecDepth 20000 in
theorem ggX4_chargesOf_X1_total : GoodIn wsX4_chargesOf wsX1_total := goodIn_r _ [20, 21, 39, 40, 41] (by decide +kernel) (by decide +kernel)
set_option maxRecDepth 20000 in
theorem gX4_chargesOf_X1_total : GoodIn wsX4_chargesOf (wsV RX4 199 RX1 yX1_total wsX1_total) := goodIn_app (goodIn_of _ (by decide +kernel)) ggX4_chargesOf_X1_total
set_option maxRecDepth 20000 in
theorem ggX4_chargesOf_X4_priceOf : GoodIn wsX4_chargesOf wsX4_priceOf := goodIn_r _ [25, 26, 27, 42, 43, 44, 45, 46, 47, 48, 49, 50] (by decide +kernel) (by decide +kernel)
set_option maxRecDepth 20000 in
theorem gX4_chargesOf_X4_priceOf : GoodIn wsX4_chargesOf (wsV RX4 228 RX4 yX4_priceOf wsX4_priceOf) := goodIn_app (goodIn_of _ (by decide +kernel)) ggX4_chargesOf_X4_priceOf
theorem dX4_chargesOf_0 : decode cX4_chargesOf 0 = .ok (.iconst 0, 1) := by decide +kernel
theorem dX4_chargesOf_1 : decode cX4_chargesOf 1 = .ok (.istore_n 3, 1) := by decide +kernel
theorem dX4_chargesOf_2 : decode cX4_chargesOf 2 = .ok (.iload_n 2, 1) := by decide +kernel
theorem dX4_chargesOf_3 : decode cX4_chargesOf 3 = .ok (.iconst 1, 1) := by decide +kernel
theorem dX4_chargesOf_4 : decode cX4_chargesOf 4 = .ok (.iand, 1) := by decide +kernel
theorem dX4_chargesOf_5 : decode cX4_chargesOf 5 = .ok (.ifCond .eq 44, 3) := by decide +kernel
theorem dX4_chargesOf_8 : decode cX4_chargesOf 8 = .ok (.aload_n 0, 1) := by decide +kernel
theorem dX4_chargesOf_9 : decode cX4_chargesOf 9 = .ok (.aload_n 1, 1) := by decide +kernel
theorem dX4_chargesOf_10 : decode cX4_chargesOf 10 = .ok (.getfield 77, 3) := by decide +kernel
theorem dX4_chargesOf_13 : decode cX4_chargesOf 13 = .ok (.aload_n 1, 1) := by decide +kernel
theorem dX4_chargesOf_14 : decode cX4_chargesOf 14 = .ok (.getfield 80, 3) := by decide +kernel
theorem dX4_chargesOf_17 : decode cX4_chargesOf 17 = .ok (.invokestatic 48, 3) := by decide +kernel
theorem dX4_chargesOf_20 : decode cX4_chargesOf 20 = .ok (.invokevirtual 225, 3) := by decide +kernel
theorem dX4_chargesOf_23 : decode cX4_chargesOf 23 = .ok (.istore 4, 2) := by decide +kernel
theorem dX4_chargesOf_25 : decode cX4_chargesOf 25 = .ok (.iload_n 3, 1) := by decide +kernel
theorem dX4_chargesOf_26 : decode cX4_chargesOf 26 = .ok (.aload_n 0, 1) := by decide +kernel
theorem dX4_chargesOf_27 : decode cX4_chargesOf 27 = .ok (.aload_n 1, 1) := by decide +kernel
theorem dX4_chargesOf_28 : decode cX4_chargesOf 28 = .ok (.getfield 97, 3) := by decide +kernel
theorem dX4_chargesOf_31 : decode cX4_chargesOf 31 = .ok (.invokevirtual 199, 3) := by decide +kernel
theorem dX4_chargesOf_34 : decode cX4_chargesOf 34 = .ok (.iload 4, 2) := by decide +kernel
theorem dX4_chargesOf_36 : decode cX4_chargesOf 36 = .ok (.invokevirtual 228, 3) := by decide +kernel
theorem dX4_chargesOf_39 : decode cX4_chargesOf 39 = .ok (.aload_n 1, 1) := by decide +kernel
theorem dX4_chargesOf_40 : decode cX4_chargesOf 40 = .ok (.getfield 97, 3) := by decide +kernel
theorem dX4_chargesOf_43 : decode cX4_chargesOf 43 = .ok (.getfield 237, 3) := by decide +kernel
theorem dX4_chargesOf_46 : decode cX4_chargesOf 46 = .ok (.iadd, 1) := by decide +kernel
theorem dX4_chargesOf_47 : decode cX4_chargesOf 47 = .ok (.iadd, 1) := by decide +kernel
theorem dX4_chargesOf_48 : decode cX4_chargesOf 48 = .ok (.istore_n 3, 1) := by decide +kernel
theorem dX4_chargesOf_49 : decode cX4_chargesOf 49 = .ok (.iload_n 2, 1) := by decide +kernel
theorem dX4_chargesOf_50 : decode cX4_chargesOf 50 = .ok (.iconst 2, 1) := by decide +kernel
theorem dX4_chargesOf_51 : decode cX4_chargesOf 51 = .ok (.iand, 1) := by decide +kernel
theorem dX4_chargesOf_52 : decode cX4_chargesOf 52 = .ok (.ifCond .eq 10, 3) := by decide +kernel
theorem dX4_chargesOf_55 : decode cX4_chargesOf 55 = .ok (.iload_n 3, 1) := by decide +kernel
theorem dX4_chargesOf_56 : decode cX4_chargesOf 56 = .ok (.aload_n 1, 1) := by decide +kernel
theorem dX4_chargesOf_57 : decode cX4_chargesOf 57 = .ok (.getfield 132, 3) := by decide +kernel
theorem dX4_chargesOf_60 : decode cX4_chargesOf 60 = .ok (.iadd, 1) := by decide +kernel
theorem dX4_chargesOf_61 : decode cX4_chargesOf 61 = .ok (.istore_n 3, 1) := by decide +kernel
theorem dX4_chargesOf_62 : decode cX4_chargesOf 62 = .ok (.iload_n 2, 1) := by decide +kernel
theorem dX4_chargesOf_63 : decode cX4_chargesOf 63 = .ok (.iconst 4, 1) := by decide +kernel
theorem dX4_chargesOf_64 : decode cX4_chargesOf 64 = .ok (.iand, 1) := by decide +kernel
theorem dX4_chargesOf_65 : decode cX4_chargesOf 65 = .ok (.ifCond .eq 10, 3) := by decide +kernel
theorem dX4_chargesOf_68 : decode cX4_chargesOf 68 = .ok (.iload_n 3, 1) := by decide +kernel
theorem dX4_chargesOf_69 : decode cX4_chargesOf 69 = .ok (.aload_n 1, 1) := by decide +kernel
theorem dX4_chargesOf_70 : decode cX4_chargesOf 70 = .ok (.getfield 135, 3) := by decide +kernel
theorem dX4_chargesOf_73 : decode cX4_chargesOf 73 = .ok (.iadd, 1) := by decide +kernel
theorem dX4_chargesOf_74 : decode cX4_chargesOf 74 = .ok (.istore_n 3, 1) := by decide +kernel
theorem dX4_chargesOf_75 : decode cX4_chargesOf 75 = .ok (.iload_n 3, 1) := by decide +kernel
theorem dX4_chargesOf_76 : decode cX4_chargesOf 76 = .ok (.ireturn, 1) := by decide +kernel
set_option maxRecDepth 20000 in
theorem ggX4_sponsorPart_X4_chargesOf : GoodIn wsX4_sponsorPart wsX4_chargesOf := goodIn_r _ [11, 12, 13, 14, 15, 16, 17, 18, 19, 10, 20, 21, 22, 23, 24, 25, 26, 27, 28, 29, 30, 31, 32, 33, 34, 35, 36, 37, 38, 39, 40, 41, 42, 43, 44, 45, 46, 47, 48, 49, 50, 51, 52, 53, 54, 55, 56, 57, 58, 59, 60] (by decide +kernel) (by decide +kernel)
set_option maxRecDepth 20000 in
theorem gX4_sponsorPart_X4_chargesOf : GoodIn wsX4_sponsorPart (wsV RX4 202 RX4 yX4_chargesOf wsX4_chargesOf) := goodIn_app (goodIn_of _ (by decide +kernel)) ggX4_sponsorPart_X4_chargesOf
theorem dX4_sponsorPart_0 : decode cX4_sponsorPart 0 = .ok (.aload_n 0, 1) := by decide +kernel
theorem dX4_sponsorPart_1 : decode cX4_sponsorPart 1 = .ok (.aload_n 1, 1) := by decide +kernel
theorem dX4_sponsorPart_2 : decode cX4_sponsorPart 2 = .ok (.aload_n 1, 1) := by decide +kernel
theorem dX4_sponsorPart_3 : decode cX4_sponsorPart 3 = .ok (.getfield 89, 3) := by decide +kernel
theorem dX4_sponsorPart_6 : decode cX4_sponsorPart 6 = .ok (.invokevirtual 202, 3) := by decide +kernel
theorem dX4_sponsorPart_9 : decode cX4_sponsorPart 9 = .ok (.aload_n 1, 1) := by decide +kernel
theorem dX4_sponsorPart_10 : decode cX4_sponsorPart 10 = .ok (.getfield 92, 3) := by decide +kernel
theorem dX4_sponsorPart_13 : decode cX4_sponsorPart 13 = .ok (.invokestatic 240, 3) := by decide +kernel
theorem dX4_sponsorPart_16 : decode cX4_sponsorPart 16 = .ok (.ireturn, 1) := by decide +kernel
set_option maxRecDepth 20000 in
theorem ggX4_unsponsored_X4_chargesOf : GoodIn wsX4_unsponsored wsX4_chargesOf := goodIn_r _ [5, 6, 7, 8, 9, 10, 11, 12, 13, 4, 14, 15, 16, 17, 18, 19, 20, 21, 22, 23, 24, 25, 26, 27, 28, 29, 30, 31, 42, 43, 44, 45, 46, 47, 48, 49, 50, 51, 52, 53, 54, 55, 56, 57, 58, 59, 60, 61, 62, 63, 64] (by decide +kernel) (by decide +kernel)
set_option maxRecDepth 20000 in
theorem gX4_unsponsored_X4_chargesOf : GoodIn wsX4_unsponsored (wsV RX4 202 RX4 yX4_chargesOf wsX4_chargesOf) := goodIn_app (goodIn_of _ (by decide +kernel)) ggX4_unsponsored_X4_chargesOf
set_option maxRecDepth 20000 in
theorem ggX4_unsponsored_X4_sponsorPart : GoodIn wsX4_unsponsored wsX4_sponsorPart := goodIn_r _ [35, 36, 37, 38, 39, 40, 41, 1, 2, 3, 4, 5, 6, 7, 8, 9, 10, 11, 12, 13, 14, 15, 16, 17, 18, 19, 20, 21, 22, 23, 24, 25, 26, 27, 28, 29, 30, 31, 42, 43, 44, 45, 46, 47, 48, 49, 50, 51, 52, 53, 54, 55, 56, 57, 58, 59, 60, 61, 62, 63, 64] (by decide +kernel) (by decide +kernel)
set_option maxRecDepth 20000 in
theorem gX4_unsponsored_X4_sponsorPart : GoodIn wsX4_unsponsored (wsV RX4 205 RX4 yX4_sponsorPart wsX4_sponsorPart) := goodIn_app (goodIn_of _ (by decide +kernel)) ggX4_unsponsored_X4_sponsorPart
theorem dX4_unsponsored_0 : decode cX4_unsponsored 0 = .ok (.aload_n 0, 1) := by decide +kernel
theorem dX4_unsponsored_1 : decode cX4_unsponsored 1 = .ok (.aload_n 1, 1) := by decide +kernel
theorem dX4_unsponsored_2 : decode cX4_unsponsored 2 = .ok (.bipush 7, 2) := by decide +kernel
theorem dX4_unsponsored_4 : decode cX4_unsponsored 4 = .ok (.invokevirtual 202, 3) := by decide +kernel
theorem dX4_unsponsored_7 : decode cX4_unsponsored 7 = .ok (.aload_n 0, 1) := by decide +kernel
theorem dX4_unsponsored_8 : decode cX4_unsponsored 8 = .ok (.aload_n 1, 1) := by decide +kernel
theorem dX4_unsponsored_9 : decode cX4_unsponsored 9 = .ok (.invokevirtual 205, 3) := by decide +kernel
theorem dX4_unsponsored_12 : decode cX4_unsponsored 12 = .ok (.isub, 1) := by decide +kernel
theorem dX4_unsponsored_13 : decode cX4_unsponsored 13 = .ok (.ireturn, 1) := by decide +kernel
set_option maxRecDepth 20000 in
theorem ggX4_balanceOf_X4_unsponsored : GoodIn wsX4_balanceOf wsX4_unsponsored := goodIn_r _ [8, 9, 10, 11, 7, 12, 13, 14, 15, 16, 17, 18, 19, 20, 21, 22, 23, 24, 25, 26, 27, 28, 29, 30, 31, 32, 33, 34, 35, 36, 37, 38, 39, 40, 41, 42, 43, 44, 45, 46, 47, 48, 58, 59, 60, 61, 62, 63, 64, 65, 66, 67, 68, 69, 70, 71, 72, 73, 74, 75, 76, 77, 78, 79, 80] (by decide +kernel) (by decide +kernel)
set_option maxRecDepth 20000 in
theorem gX4_balanceOf_X4_unsponsored : GoodIn wsX4_balanceOf (wsV RX4 211 RX4 yX4_unsponsored wsX4_unsponsored) := goodIn_app (goodIn_of _ (by decide +kernel)) ggX4_balanceOf_X4_unsponsored
set_option maxRecDepth 20000 in
theorem ggX4_balanceOf_X0_cover : GoodIn wsX4_balanceOf wsX0_cover := goodIn_r _ [53, 54, 55, 46, 47, 48, 56, 57, 81, 82, 83, 84] (by decide +kernel) (by decide +kernel)
set_option maxRecDepth 20000 in
theorem gX4_balanceOf_X0_cover : GoodIn wsX4_balanceOf (wsV RX4 214 RX0 yX0_cover wsX0_cover) := goodIn_app (goodIn_of _ (by decide +kernel)) ggX4_balanceOf_X0_cover
theorem dX4_balanceOf_0 : decode cX4_balanceOf 0 = .ok (.aload_n 0, 1) := by decide +kernel
theorem dX4_balanceOf_1 : decode cX4_balanceOf 1 = .ok (.aload_n 1, 1) := by decide +kernel
theorem dX4_balanceOf_2 : decode cX4_balanceOf 2 = .ok (.invokevirtual 211, 3) := by decide +kernel
theorem dX4_balanceOf_5 : decode cX4_balanceOf 5 = .ok (.istore_n 2, 1) := by decide +kernel
theorem dX4_balanceOf_6 : decode cX4_balanceOf 6 = .ok (.iload_n 2, 1) := by decide +kernel
theorem dX4_balanceOf_7 : decode cX4_balanceOf 7 = .ok (.aload_n 1, 1) := by decide +kernel
theorem dX4_balanceOf_8 : decode cX4_balanceOf 8 = .ok (.getfield 140, 3) := by decide +kernel
theorem dX4_balanceOf_11 : decode cX4_balanceOf 11 = .ok (.iload_n 2, 1) := by decide +kernel
theorem dX4_balanceOf_12 : decode cX4_balanceOf 12 = .ok (.aload_n 1, 1) := by decide +kernel
theorem dX4_balanceOf_13 : decode cX4_balanceOf 13 = .ok (.getfield 84, 3) := by decide +kernel
theorem dX4_balanceOf_16 : decode cX4_balanceOf 16 = .ok (.invokevirtual 214, 3) := by decide +kernel
theorem dX4_balanceOf_19 : decode cX4_balanceOf 19 = .ok (.isub, 1) := by decide +kernel
theorem dX4_balanceOf_20 : decode cX4_balanceOf 20 = .ok (.aload_n 1, 1) := by decide +kernel
theorem dX4_balanceOf_21 : decode cX4_balanceOf 21 = .ok (.getfield 153, 3) := by decide +kernel
theorem dX4_balanceOf_24 : decode cX4_balanceOf 24 = .ok (.isub, 1) := by decide +kernel
theorem dX4_balanceOf_25 : decode cX4_balanceOf 25 = .ok (.ireturn, 1) := by decide +kernel
set_option maxRecDepth 20000 in
theorem ggX4_endTerm_X4_studentAt : GoodIn wsX4_endTerm wsX4_studentAt := goodIn_ca (goodIn_r _ [5, 6, 7, 8, 103, 104, 105, 106, 107, 108, 109, 110, 111] (by decide +kernel) (by decide +kernel)) (goodIn_sub (fun _ h => List.mem_cons_of_mem _ (List.mem_append_right _ h)) (by decide +kernel))
set_option maxRecDepth 20000 in
theorem gX4_endTerm_X4_studentAt : GoodIn wsX4_endTerm (wsV RX4 71 RX4 yX4_studentAt wsX4_studentAt) := goodIn_app (goodIn_of _ (by decide +kernel)) ggX4_endTerm_X4_studentAt
set_option maxRecDepth 20000 in
theorem ggX4_endTerm_X4_balanceOf : GoodIn wsX4_endTerm wsX4_balanceOf := goodIn_r _ [12, 13, 14, 15, 16, 17, 18, 4, 19, 20, 21, 22, 23, 24, 25, 26, 27, 28, 29, 30, 31, 32, 33, 34, 35, 36, 37, 38, 39, 40, 41, 42, 43, 44, 45, 46, 47, 48, 49, 50, 51, 52, 53, 54, 55, 56, 57, 58, 59, 60, 61, 62, 63, 64, 65, 66, 67, 68, 112, 113, 114, 115, 116, 117, 118, 119, 120, 121, 122, 123, 124, 125, 103, 104, 105, 106, 107, 108, 109, 110, 111, 126, 127, 128, 129] (by decide +kernel) (by decide +kernel)
set_option maxRecDepth 20000 in
theorem gX4_endTerm_X4_balanceOf : GoodIn wsX4_endTerm (wsV RX4 165 RX4 yX4_balanceOf wsX4_balanceOf) := goodIn_app (goodIn_of _ (by decide +kernel)) ggX4_endTerm_X4_balanceOf
set_option maxRecDepth 20000 in
theorem ggX4_endTerm_X4_carriedTo : GoodIn wsX4_endTerm wsX4_carriedTo := goodIn_r _ [71, 56, 57, 58, 59] (by decide +kernel) (by decide +kernel)
set_option maxRecDepth 20000 in
theorem gX4_endTerm_X4_carriedTo : GoodIn wsX4_endTerm (va_wsS RX4 245 yX4_carriedTo wsX4_carriedTo) := goodIn_app (goodIn_of _ (by decide +kernel)) ggX4_endTerm_X4_carriedTo
set_option maxRecDepth 20000 in
theorem ggX4_endTerm_X3_beginTerm : GoodIn wsX4_endTerm wsX3_beginTerm := goodIn_r _ [76, 77, 78, 79, 80, 81, 82, 83, 58, 84, 85, 86, 87, 88, 89, 41, 90, 43, 91, 92, 93, 94, 95, 96, 97, 98, 99, 63, 100, 68, 101, 102, 112, 113, 114, 115, 116, 117, 118, 119, 120, 121, 122, 123, 124, 125, 126, 127, 128, 129] (by decide +kernel) (by decide +kernel)
set_option maxRecDepth 20000 in
theorem gX4_endTerm_X3_beginTerm : GoodIn wsX4_endTerm (wsV RX4 248 RX3 yX3_beginTerm wsX3_beginTerm) := goodIn_app (goodIn_of _ (by decide +kernel)) ggX4_endTerm_X3_beginTerm
theorem dX4_endTerm_0 : decode cX4_endTerm 0 = .ok (.iconst 0, 1) := by decide +kernel
theorem dX4_endTerm_1 : decode cX4_endTerm 1 = .ok (.istore_n 1, 1) := by decide +kernel
theorem dX4_endTerm_2 : decode cX4_endTerm 2 = .ok (.iload_n 1, 1) := by decide +kernel
theorem dX4_endTerm_3 : decode cX4_endTerm 3 = .ok (.iconst 1, 1) := by decide +kernel
theorem dX4_endTerm_4 : decode cX4_endTerm 4 = .ok (.iadd, 1) := by decide +kernel
theorem dX4_endTerm_5 : decode cX4_endTerm 5 = .ok (.iconst 4, 1) := by decide +kernel
theorem dX4_endTerm_6 : decode cX4_endTerm 6 = .ok (.if_icmp .ge 72, 3) := by decide +kernel
theorem dX4_endTerm_9 : decode cX4_endTerm 9 = .ok (.aload_n 0, 1) := by decide +kernel
theorem dX4_endTerm_10 : decode cX4_endTerm 10 = .ok (.iload_n 1, 1) := by decide +kernel
theorem dX4_endTerm_11 : decode cX4_endTerm 11 = .ok (.invokevirtual 71, 3) := by decide +kernel
theorem dX4_endTerm_14 : decode cX4_endTerm 14 = .ok (.astore_n 2, 1) := by decide +kernel
theorem dX4_endTerm_15 : decode cX4_endTerm 15 = .ok (.aload_n 0, 1) := by decide +kernel
theorem dX4_endTerm_16 : decode cX4_endTerm 16 = .ok (.iload_n 1, 1) := by decide +kernel
theorem dX4_endTerm_17 : decode cX4_endTerm 17 = .ok (.iconst 1, 1) := by decide +kernel
theorem dX4_endTerm_18 : decode cX4_endTerm 18 = .ok (.iadd, 1) := by decide +kernel
theorem dX4_endTerm_19 : decode cX4_endTerm 19 = .ok (.invokevirtual 71, 3) := by decide +kernel
theorem dX4_endTerm_22 : decode cX4_endTerm 22 = .ok (.astore_n 3, 1) := by decide +kernel
theorem dX4_endTerm_23 : decode cX4_endTerm 23 = .ok (.aload_n 0, 1) := by decide +kernel
theorem dX4_endTerm_24 : decode cX4_endTerm 24 = .ok (.aload_n 2, 1) := by decide +kernel
theorem dX4_endTerm_25 : decode cX4_endTerm 25 = .ok (.invokevirtual 165, 3) := by decide +kernel
theorem dX4_endTerm_28 : decode cX4_endTerm 28 = .ok (.istore 4, 2) := by decide +kernel
theorem dX4_endTerm_30 : decode cX4_endTerm 30 = .ok (.aload_n 0, 1) := by decide +kernel
theorem dX4_endTerm_31 : decode cX4_endTerm 31 = .ok (.aload_n 3, 1) := by decide +kernel
theorem dX4_endTerm_32 : decode cX4_endTerm 32 = .ok (.invokevirtual 165, 3) := by decide +kernel
theorem dX4_endTerm_35 : decode cX4_endTerm 35 = .ok (.istore 5, 2) := by decide +kernel
theorem dX4_endTerm_37 : decode cX4_endTerm 37 = .ok (.iload 4, 2) := by decide +kernel
theorem dX4_endTerm_39 : decode cX4_endTerm 39 = .ok (.iload 5, 2) := by decide +kernel
theorem dX4_endTerm_41 : decode cX4_endTerm 41 = .ok (.invokestatic 245, 3) := by decide +kernel
theorem dX4_endTerm_44 : decode cX4_endTerm 44 = .ok (.iload 5, 2) := by decide +kernel
theorem dX4_endTerm_46 : decode cX4_endTerm 46 = .ok (.iload 4, 2) := by decide +kernel
theorem dX4_endTerm_48 : decode cX4_endTerm 48 = .ok (.invokestatic 245, 3) := by decide +kernel
theorem dX4_endTerm_51 : decode cX4_endTerm 51 = .ok (.isub, 1) := by decide +kernel
theorem dX4_endTerm_52 : decode cX4_endTerm 52 = .ok (.istore 6, 2) := by decide +kernel
theorem dX4_endTerm_54 : decode cX4_endTerm 54 = .ok (.aload_n 2, 1) := by decide +kernel
theorem dX4_endTerm_55 : decode cX4_endTerm 55 = .ok (.iload 4, 2) := by decide +kernel
theorem dX4_endTerm_57 : decode cX4_endTerm 57 = .ok (.iload 6, 2) := by decide +kernel
theorem dX4_endTerm_59 : decode cX4_endTerm 59 = .ok (.isub, 1) := by decide +kernel
theorem dX4_endTerm_60 : decode cX4_endTerm 60 = .ok (.invokevirtual 248, 3) := by decide +kernel
theorem dX4_endTerm_63 : decode cX4_endTerm 63 = .ok (.aload_n 3, 1) := by decide +kernel
theorem dX4_endTerm_64 : decode cX4_endTerm 64 = .ok (.iload 5, 2) := by decide +kernel
theorem dX4_endTerm_66 : decode cX4_endTerm 66 = .ok (.iload 6, 2) := by decide +kernel
theorem dX4_endTerm_68 : decode cX4_endTerm 68 = .ok (.iadd, 1) := by decide +kernel
theorem dX4_endTerm_69 : decode cX4_endTerm 69 = .ok (.invokevirtual 248, 3) := by decide +kernel
theorem dX4_endTerm_72 : decode cX4_endTerm 72 = .ok (.iinc 1 2, 3) := by decide +kernel
theorem dX4_endTerm_75 : decode cX4_endTerm 75 = .ok (.goto (-73), 3) := by decide +kernel
theorem dX4_endTerm_78 : decode cX4_endTerm 78 = .ok (.return_, 1) := by decide +kernel
theorem dX4_carriedTo_0 : decode cX4_carriedTo 0 = .ok (.iload_n 0, 1) := by decide +kernel
theorem dX4_carriedTo_1 : decode cX4_carriedTo 1 = .ok (.ifCond .le 16, 3) := by decide +kernel
theorem dX4_carriedTo_4 : decode cX4_carriedTo 4 = .ok (.iload_n 1, 1) := by decide +kernel
theorem dX4_carriedTo_5 : decode cX4_carriedTo 5 = .ok (.ifCond .ge 12, 3) := by decide +kernel
theorem dX4_carriedTo_8 : decode cX4_carriedTo 8 = .ok (.iload_n 0, 1) := by decide +kernel
theorem dX4_carriedTo_9 : decode cX4_carriedTo 9 = .ok (.iload_n 1, 1) := by decide +kernel
theorem dX4_carriedTo_10 : decode cX4_carriedTo 10 = .ok (.ineg, 1) := by decide +kernel
theorem dX4_carriedTo_11 : decode cX4_carriedTo 11 = .ok (.invokestatic 240, 3) := by decide +kernel
theorem dX4_carriedTo_14 : decode cX4_carriedTo 14 = .ok (.goto 4, 3) := by decide +kernel
theorem dX4_carriedTo_17 : decode cX4_carriedTo 17 = .ok (.iconst 0, 1) := by decide +kernel
theorem dX4_carriedTo_18 : decode cX4_carriedTo 18 = .ok (.ireturn, 1) := by decide +kernel
set_option maxRecDepth 20000 in
theorem ggX4_chargeLateFees_X4_studentAt : GoodIn wsX4_chargeLateFees wsX4_studentAt := goodIn_ca (goodIn_r _ [8, 9, 10, 11, 39, 40, 41, 42, 43, 44, 45, 46, 47] (by decide +kernel) (by decide +kernel)) (goodIn_sub (fun _ h => List.mem_cons_of_mem _ (List.mem_append_right _ h)) (by decide +kernel))
set_option maxRecDepth 20000 in
theorem gX4_chargeLateFees_X4_studentAt : GoodIn wsX4_chargeLateFees (wsV RX4 71 RX4 yX4_studentAt wsX4_studentAt) := goodIn_app (goodIn_of _ (by decide +kernel)) ggX4_chargeLateFees_X4_studentAt
set_option maxRecDepth 20000 in
theorem ggX4_chargeLateFees_X4_weekNumber : GoodIn wsX4_chargeLateFees wsX4_weekNumber := goodIn_r _ [15, 16, 17, 39, 40, 41, 42, 43, 44, 45, 46, 47] (by decide +kernel) (by decide +kernel)
set_option maxRecDepth 20000 in
theorem gX4_chargeLateFees_X4_weekNumber : GoodIn wsX4_chargeLateFees (wsV RX4 173 RX4 yX4_weekNumber wsX4_weekNumber) := goodIn_app (goodIn_of _ (by decide +kernel)) ggX4_chargeLateFees_X4_weekNumber
set_option maxRecDepth 20000 in
theorem ggX4_chargeLateFees_X2_isLateAt : GoodIn wsX4_chargeLateFees wsX2_isLateAt := goodIn_r _ [22, 23, 24, 25, 26, 27, 48, 49, 50, 51, 52] (by decide +kernel) (by decide +kernel)
set_option maxRecDepth 20000 in
theorem gX4_chargeLateFees_X2_isLateAt : GoodIn wsX4_chargeLateFees (wsV RX4 251 RX2 yX2_isLateAt wsX2_isLateAt) := goodIn_app (goodIn_of _ (by decide +kernel)) ggX4_chargeLateFees_X2_isLateAt
theorem dX4_chargeLateFees_0 : decode cX4_chargeLateFees 0 = .ok (.iconst 0, 1) := by decide +kernel
theorem dX4_chargeLateFees_1 : decode cX4_chargeLateFees 1 = .ok (.istore_n 1, 1) := by decide +kernel
theorem dX4_chargeLateFees_2 : decode cX4_chargeLateFees 2 = .ok (.iload_n 1, 1) := by decide +kernel
theorem dX4_chargeLateFees_3 : decode cX4_chargeLateFees 3 = .ok (.iconst 4, 1) := by decide +kernel
theorem dX4_chargeLateFees_4 : decode cX4_chargeLateFees 4 = .ok (.if_icmp .ge 42, 3) := by decide +kernel
theorem dX4_chargeLateFees_7 : decode cX4_chargeLateFees 7 = .ok (.aload_n 0, 1) := by decide +kernel
theorem dX4_chargeLateFees_8 : decode cX4_chargeLateFees 8 = .ok (.iload_n 1, 1) := by decide +kernel
theorem dX4_chargeLateFees_9 : decode cX4_chargeLateFees 9 = .ok (.invokevirtual 71, 3) := by decide +kernel
theorem dX4_chargeLateFees_12 : decode cX4_chargeLateFees 12 = .ok (.astore_n 2, 1) := by decide +kernel
theorem dX4_chargeLateFees_13 : decode cX4_chargeLateFees 13 = .ok (.aload_n 2, 1) := by decide +kernel
theorem dX4_chargeLateFees_14 : decode cX4_chargeLateFees 14 = .ok (.getfield 156, 3) := by decide +kernel
theorem dX4_chargeLateFees_17 : decode cX4_chargeLateFees 17 = .ok (.aload_n 0, 1) := by decide +kernel
theorem dX4_chargeLateFees_18 : decode cX4_chargeLateFees 18 = .ok (.invokevirtual 173, 3) := by decide +kernel
theorem dX4_chargeLateFees_21 : decode cX4_chargeLateFees 21 = .ok (.invokevirtual 251, 3) := by decide +kernel
theorem dX4_chargeLateFees_24 : decode cX4_chargeLateFees 24 = .ok (.ifCond .eq 16, 3) := by decide +kernel
theorem dX4_chargeLateFees_27 : decode cX4_chargeLateFees 27 = .ok (.aload_n 2, 1) := by decide +kernel
theorem dX4_chargeLateFees_28 : decode cX4_chargeLateFees 28 = .ok (.dup, 1) := by decide +kernel
theorem dX4_chargeLateFees_29 : decode cX4_chargeLateFees 29 = .ok (.getfield 132, 3) := by decide +kernel
theorem dX4_chargeLateFees_32 : decode cX4_chargeLateFees 32 = .ok (.aload_n 0, 1) := by decide +kernel
theorem dX4_chargeLateFees_33 : decode cX4_chargeLateFees 33 = .ok (.getfield 29, 3) := by decide +kernel
theorem dX4_chargeLateFees_36 : decode cX4_chargeLateFees 36 = .ok (.iadd, 1) := by decide +kernel
theorem dX4_chargeLateFees_37 : decode cX4_chargeLateFees 37 = .ok (.putfield 132, 3) := by decide +kernel
theorem dX4_chargeLateFees_40 : decode cX4_chargeLateFees 40 = .ok (.iinc 1 1, 3) := by decide +kernel
theorem dX4_chargeLateFees_43 : decode cX4_chargeLateFees 43 = .ok (.goto (-41), 3) := by decide +kernel
theorem dX4_chargeLateFees_46 : decode cX4_chargeLateFees 46 = .ok (.return_, 1) := by decide +kernel
