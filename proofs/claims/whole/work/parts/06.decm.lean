theorem dX6_init_0 : decode cX6_init 0 = .ok (.aload_n 0, 1) := by decide +kernel
theorem dX6_init_1 : decode cX6_init 1 = .ok (.invokespecial 1, 3) := by decide +kernel
theorem dX6_init_4 : decode cX6_init 4 = .ok (.aload_n 0, 1) := by decide +kernel
theorem dX6_init_5 : decode cX6_init 5 = .ok (.sipush 164, 3) := by decide +kernel
theorem dX6_init_8 : decode cX6_init 8 = .ok (.newarray .int, 2) := by decide +kernel
theorem dX6_init_10 : decode cX6_init 10 = .ok (.putfield 7, 3) := by decide +kernel
theorem dX6_init_13 : decode cX6_init 13 = .ok (.aload_n 0, 1) := by decide +kernel
theorem dX6_init_14 : decode cX6_init 14 = .ok (.sipush 164, 3) := by decide +kernel
theorem dX6_init_17 : decode cX6_init 17 = .ok (.newarray .int, 2) := by decide +kernel
theorem dX6_init_19 : decode cX6_init 19 = .ok (.putfield 13, 3) := by decide +kernel
theorem dX6_init_22 : decode cX6_init 22 = .ok (.aload_n 0, 1) := by decide +kernel
theorem dX6_init_23 : decode cX6_init 23 = .ok (.sipush 984, 3) := by decide +kernel
theorem dX6_init_26 : decode cX6_init 26 = .ok (.newarray .int, 2) := by decide +kernel
theorem dX6_init_28 : decode cX6_init 28 = .ok (.putfield 16, 3) := by decide +kernel
theorem dX6_init_31 : decode cX6_init 31 = .ok (.aload_n 0, 1) := by decide +kernel
theorem dX6_init_32 : decode cX6_init 32 = .ok (.sipush 328, 3) := by decide +kernel
theorem dX6_init_35 : decode cX6_init 35 = .ok (.newarray .int, 2) := by decide +kernel
theorem dX6_init_37 : decode cX6_init 37 = .ok (.putfield 19, 3) := by decide +kernel
theorem dX6_init_40 : decode cX6_init 40 = .ok (.aload_n 0, 1) := by decide +kernel
theorem dX6_init_41 : decode cX6_init 41 = .ok (.iconst 2, 1) := by decide +kernel
theorem dX6_init_42 : decode cX6_init 42 = .ok (.newarray .boolean, 2) := by decide +kernel
theorem dX6_init_44 : decode cX6_init 44 = .ok (.putfield 22, 3) := by decide +kernel
theorem dX6_init_47 : decode cX6_init 47 = .ok (.aload_n 0, 1) := by decide +kernel
theorem dX6_init_48 : decode cX6_init 48 = .ok (.bipush 80, 2) := by decide +kernel
theorem dX6_init_50 : decode cX6_init 50 = .ok (.newarray .int, 2) := by decide +kernel
theorem dX6_init_52 : decode cX6_init 52 = .ok (.putfield 26, 3) := by decide +kernel
theorem dX6_init_55 : decode cX6_init 55 = .ok (.aload_n 0, 1) := by decide +kernel
theorem dX6_init_56 : decode cX6_init 56 = .ok (.sipush 240, 3) := by decide +kernel
theorem dX6_init_59 : decode cX6_init 59 = .ok (.newarray .int, 2) := by decide +kernel
theorem dX6_init_61 : decode cX6_init 61 = .ok (.putfield 29, 3) := by decide +kernel
theorem dX6_init_64 : decode cX6_init 64 = .ok (.aload_n 0, 1) := by decide +kernel
theorem dX6_init_65 : decode cX6_init 65 = .ok (.iconst 0, 1) := by decide +kernel
theorem dX6_init_66 : decode cX6_init 66 = .ok (.putfield 32, 3) := by decide +kernel
theorem dX6_init_69 : decode cX6_init 69 = .ok (.return_, 1) := by decide +kernel
theorem dX6_in_0 : decode cX6_in 0 = .ok (.iload_n 0, 1) := by decide +kernel
theorem dX6_in_1 : decode cX6_in 1 = .ok (.iload_n 1, 1) := by decide +kernel
theorem dX6_in_2 : decode cX6_in 2 = .ok (.if_icmp .lt 12, 3) := by decide +kernel
theorem dX6_in_5 : decode cX6_in 5 = .ok (.iload_n 0, 1) := by decide +kernel
theorem dX6_in_6 : decode cX6_in 6 = .ok (.iload_n 2, 1) := by decide +kernel
theorem dX6_in_7 : decode cX6_in 7 = .ok (.if_icmp .gt 7, 3) := by decide +kernel
theorem dX6_in_10 : decode cX6_in 10 = .ok (.iconst 1, 1) := by decide +kernel
theorem dX6_in_11 : decode cX6_in 11 = .ok (.goto 4, 3) := by decide +kernel
theorem dX6_in_14 : decode cX6_in 14 = .ok (.iconst 0, 1) := by decide +kernel
theorem dX6_in_15 : decode cX6_in 15 = .ok (.ireturn, 1) := by decide +kernel
theorem dX6_get_0 : decode cX6_get 0 = .ok (.aload_n 0, 1) := by decide +kernel
theorem dX6_get_1 : decode cX6_get 1 = .ok (.getfield 7, 3) := by decide +kernel
theorem dX6_get_4 : decode cX6_get 4 = .ok (.bipush 16, 2) := by decide +kernel
theorem dX6_get_6 : decode cX6_get 6 = .ok (.bipush 11, 2) := by decide +kernel
theorem dX6_get_8 : decode cX6_get 8 = .ok (.iload_n 1, 1) := by decide +kernel
theorem dX6_get_9 : decode cX6_get 9 = .ok (.imul, 1) := by decide +kernel
theorem dX6_get_10 : decode cX6_get 10 = .ok (.iadd, 1) := by decide +kernel
theorem dX6_get_11 : decode cX6_get 11 = .ok (.iload_n 2, 1) := by decide +kernel
theorem dX6_get_12 : decode cX6_get 12 = .ok (.iadd, 1) := by decide +kernel
theorem dX6_get_13 : decode cX6_get 13 = .ok (.iaload, 1) := by decide +kernel
theorem dX6_get_14 : decode cX6_get 14 = .ok (.ireturn, 1) := by decide +kernel
theorem dX6_lay_0 : decode cX6_lay 0 = .ok (.aload_n 0, 1) := by decide +kernel
theorem dX6_lay_1 : decode cX6_lay 1 = .ok (.getfield 7, 3) := by decide +kernel
theorem dX6_lay_4 : decode cX6_lay 4 = .ok (.bipush 16, 2) := by decide +kernel
theorem dX6_lay_6 : decode cX6_lay 6 = .ok (.bipush 11, 2) := by decide +kernel
theorem dX6_lay_8 : decode cX6_lay 8 = .ok (.iload_n 1, 1) := by decide +kernel
theorem dX6_lay_9 : decode cX6_lay 9 = .ok (.imul, 1) := by decide +kernel
theorem dX6_lay_10 : decode cX6_lay 10 = .ok (.iadd, 1) := by decide +kernel
theorem dX6_lay_11 : decode cX6_lay 11 = .ok (.iload_n 2, 1) := by decide +kernel
theorem dX6_lay_12 : decode cX6_lay 12 = .ok (.iadd, 1) := by decide +kernel
theorem dX6_lay_13 : decode cX6_lay 13 = .ok (.iload_n 3, 1) := by decide +kernel
theorem dX6_lay_14 : decode cX6_lay 14 = .ok (.iastore, 1) := by decide +kernel
theorem dX6_lay_15 : decode cX6_lay 15 = .ok (.return_, 1) := by decide +kernel
theorem dX6_locoOf_0 : decode cX6_locoOf 0 = .ok (.iconst 0, 1) := by decide +kernel
theorem dX6_locoOf_1 : decode cX6_locoOf 1 = .ok (.istore_n 2, 1) := by decide +kernel
theorem dX6_locoOf_2 : decode cX6_locoOf 2 = .ok (.iload_n 2, 1) := by decide +kernel
theorem dX6_locoOf_3 : decode cX6_locoOf 3 = .ok (.aload_n 0, 1) := by decide +kernel
theorem dX6_locoOf_4 : decode cX6_locoOf 4 = .ok (.getfield 7, 3) := by decide +kernel
theorem dX6_locoOf_7 : decode cX6_locoOf 7 = .ok (.bipush 6, 2) := by decide +kernel
theorem dX6_locoOf_9 : decode cX6_locoOf 9 = .ok (.iaload, 1) := by decide +kernel
theorem dX6_locoOf_10 : decode cX6_locoOf 10 = .ok (.if_icmp .ge 21, 3) := by decide +kernel
theorem dX6_locoOf_13 : decode cX6_locoOf 13 = .ok (.aload_n 0, 1) := by decide +kernel
theorem dX6_locoOf_14 : decode cX6_locoOf 14 = .ok (.iload_n 2, 1) := by decide +kernel
theorem dX6_locoOf_15 : decode cX6_locoOf 15 = .ok (.iconst 0, 1) := by decide +kernel
theorem dX6_locoOf_16 : decode cX6_locoOf 16 = .ok (.invokevirtual 36, 3) := by decide +kernel
theorem dX6_locoOf_19 : decode cX6_locoOf 19 = .ok (.iload_n 1, 1) := by decide +kernel
theorem dX6_locoOf_20 : decode cX6_locoOf 20 = .ok (.if_icmp .ne 5, 3) := by decide +kernel
theorem dX6_locoOf_23 : decode cX6_locoOf 23 = .ok (.iload_n 2, 1) := by decide +kernel
theorem dX6_locoOf_24 : decode cX6_locoOf 24 = .ok (.ireturn, 1) := by decide +kernel
theorem dX6_locoOf_25 : decode cX6_locoOf 25 = .ok (.iinc 2 1, 3) := by decide +kernel
theorem dX6_locoOf_28 : decode cX6_locoOf 28 = .ok (.goto (-26), 3) := by decide +kernel
theorem dX6_locoOf_31 : decode cX6_locoOf 31 = .ok (.bipush (-6), 2) := by decide +kernel
theorem dX6_locoOf_33 : decode cX6_locoOf 33 = .ok (.ireturn, 1) := by decide +kernel
theorem dX6_records_0 : decode cX6_records 0 = .ok (.aload_n 0, 1) := by decide +kernel
theorem dX6_records_1 : decode cX6_records 1 = .ok (.getfield 40, 3) := by decide +kernel
theorem dX6_records_4 : decode cX6_records 4 = .ok (.bipush 6, 2) := by decide +kernel
theorem dX6_records_6 : decode cX6_records 6 = .ok (.if_icmp .ne 44, 3) := by decide +kernel
theorem dX6_records_9 : decode cX6_records 9 = .ok (.iconst 0, 1) := by decide +kernel
theorem dX6_records_10 : decode cX6_records 10 = .ok (.istore_n 1, 1) := by decide +kernel
theorem dX6_records_11 : decode cX6_records 11 = .ok (.iload_n 1, 1) := by decide +kernel
theorem dX6_records_12 : decode cX6_records 12 = .ok (.sipush 820, 3) := by decide +kernel
theorem dX6_records_15 : decode cX6_records 15 = .ok (.if_icmp .ge 25, 3) := by decide +kernel
theorem dX6_records_18 : decode cX6_records 18 = .ok (.aload_n 0, 1) := by decide +kernel
theorem dX6_records_19 : decode cX6_records 19 = .ok (.getfield 16, 3) := by decide +kernel
theorem dX6_records_22 : decode cX6_records 22 = .ok (.iload_n 1, 1) := by decide +kernel
theorem dX6_records_23 : decode cX6_records 23 = .ok (.aload_n 0, 1) := by decide +kernel
theorem dX6_records_24 : decode cX6_records 24 = .ok (.getfield 16, 3) := by decide +kernel
theorem dX6_records_27 : decode cX6_records 27 = .ok (.iload_n 1, 1) := by decide +kernel
theorem dX6_records_28 : decode cX6_records 28 = .ok (.sipush 164, 3) := by decide +kernel
theorem dX6_records_31 : decode cX6_records 31 = .ok (.iadd, 1) := by decide +kernel
theorem dX6_records_32 : decode cX6_records 32 = .ok (.iaload, 1) := by decide +kernel
theorem dX6_records_33 : decode cX6_records 33 = .ok (.iastore, 1) := by decide +kernel
theorem dX6_records_34 : decode cX6_records 34 = .ok (.iinc 1 1, 3) := by decide +kernel
theorem dX6_records_37 : decode cX6_records 37 = .ok (.goto (-26), 3) := by decide +kernel
theorem dX6_records_40 : decode cX6_records 40 = .ok (.aload_n 0, 1) := by decide +kernel
theorem dX6_records_41 : decode cX6_records 41 = .ok (.dup, 1) := by decide +kernel
theorem dX6_records_42 : decode cX6_records 42 = .ok (.getfield 40, 3) := by decide +kernel
theorem dX6_records_45 : decode cX6_records 45 = .ok (.iconst 1, 1) := by decide +kernel
theorem dX6_records_46 : decode cX6_records 46 = .ok (.isub, 1) := by decide +kernel
theorem dX6_records_47 : decode cX6_records 47 = .ok (.putfield 40, 3) := by decide +kernel
theorem dX6_records_50 : decode cX6_records 50 = .ok (.iconst 0, 1) := by decide +kernel
theorem dX6_records_51 : decode cX6_records 51 = .ok (.istore_n 1, 1) := by decide +kernel
theorem dX6_records_52 : decode cX6_records 52 = .ok (.iload_n 1, 1) := by decide +kernel
theorem dX6_records_53 : decode cX6_records 53 = .ok (.sipush 164, 3) := by decide +kernel
theorem dX6_records_56 : decode cX6_records 56 = .ok (.if_icmp .ge 30, 3) := by decide +kernel
theorem dX6_records_59 : decode cX6_records 59 = .ok (.aload_n 0, 1) := by decide +kernel
theorem dX6_records_60 : decode cX6_records 60 = .ok (.getfield 16, 3) := by decide +kernel
theorem dX6_records_63 : decode cX6_records 63 = .ok (.sipush 164, 3) := by decide +kernel
theorem dX6_records_66 : decode cX6_records 66 = .ok (.aload_n 0, 1) := by decide +kernel
theorem dX6_records_67 : decode cX6_records 67 = .ok (.getfield 40, 3) := by decide +kernel
theorem dX6_records_70 : decode cX6_records 70 = .ok (.imul, 1) := by decide +kernel
theorem dX6_records_71 : decode cX6_records 71 = .ok (.iload_n 1, 1) := by decide +kernel
theorem dX6_records_72 : decode cX6_records 72 = .ok (.iadd, 1) := by decide +kernel
theorem dX6_records_73 : decode cX6_records 73 = .ok (.aload_n 0, 1) := by decide +kernel
theorem dX6_records_74 : decode cX6_records 74 = .ok (.getfield 7, 3) := by decide +kernel
theorem dX6_records_77 : decode cX6_records 77 = .ok (.iload_n 1, 1) := by decide +kernel
theorem dX6_records_78 : decode cX6_records 78 = .ok (.iaload, 1) := by decide +kernel
theorem dX6_records_79 : decode cX6_records 79 = .ok (.iastore, 1) := by decide +kernel
theorem dX6_records_80 : decode cX6_records 80 = .ok (.iinc 1 1, 3) := by decide +kernel
theorem dX6_records_83 : decode cX6_records 83 = .ok (.goto (-31), 3) := by decide +kernel
theorem dX6_records_86 : decode cX6_records 86 = .ok (.aload_n 0, 1) := by decide +kernel
theorem dX6_records_87 : decode cX6_records 87 = .ok (.dup, 1) := by decide +kernel
theorem dX6_records_88 : decode cX6_records 88 = .ok (.getfield 40, 3) := by decide +kernel
theorem dX6_records_91 : decode cX6_records 91 = .ok (.iconst 1, 1) := by decide +kernel
theorem dX6_records_92 : decode cX6_records 92 = .ok (.iadd, 1) := by decide +kernel
theorem dX6_records_93 : decode cX6_records 93 = .ok (.putfield 40, 3) := by decide +kernel
theorem dX6_records_96 : decode cX6_records 96 = .ok (.return_, 1) := by decide +kernel
theorem dX6_putAside_0 : decode cX6_putAside 0 = .ok (.iconst 0, 1) := by decide +kernel
theorem dX6_putAside_1 : decode cX6_putAside 1 = .ok (.istore_n 1, 1) := by decide +kernel
theorem dX6_putAside_2 : decode cX6_putAside 2 = .ok (.iload_n 1, 1) := by decide +kernel
theorem dX6_putAside_3 : decode cX6_putAside 3 = .ok (.sipush 164, 3) := by decide +kernel
theorem dX6_putAside_6 : decode cX6_putAside 6 = .ok (.if_icmp .ge 21, 3) := by decide +kernel
theorem dX6_putAside_9 : decode cX6_putAside 9 = .ok (.aload_n 0, 1) := by decide +kernel
theorem dX6_putAside_10 : decode cX6_putAside 10 = .ok (.getfield 13, 3) := by decide +kernel
theorem dX6_putAside_13 : decode cX6_putAside 13 = .ok (.iload_n 1, 1) := by decide +kernel
theorem dX6_putAside_14 : decode cX6_putAside 14 = .ok (.aload_n 0, 1) := by decide +kernel
theorem dX6_putAside_15 : decode cX6_putAside 15 = .ok (.getfield 7, 3) := by decide +kernel
theorem dX6_putAside_18 : decode cX6_putAside 18 = .ok (.iload_n 1, 1) := by decide +kernel
theorem dX6_putAside_19 : decode cX6_putAside 19 = .ok (.iaload, 1) := by decide +kernel
theorem dX6_putAside_20 : decode cX6_putAside 20 = .ok (.iastore, 1) := by decide +kernel
theorem dX6_putAside_21 : decode cX6_putAside 21 = .ok (.iinc 1 1, 3) := by decide +kernel
theorem dX6_putAside_24 : decode cX6_putAside 24 = .ok (.goto (-22), 3) := by decide +kernel
theorem dX6_putAside_27 : decode cX6_putAside 27 = .ok (.return_, 1) := by decide +kernel
theorem dX6_takeBack_0 : decode cX6_takeBack 0 = .ok (.iconst 0, 1) := by decide +kernel
theorem dX6_takeBack_1 : decode cX6_takeBack 1 = .ok (.istore_n 1, 1) := by decide +kernel
theorem dX6_takeBack_2 : decode cX6_takeBack 2 = .ok (.iload_n 1, 1) := by decide +kernel
theorem dX6_takeBack_3 : decode cX6_takeBack 3 = .ok (.sipush 164, 3) := by decide +kernel
theorem dX6_takeBack_6 : decode cX6_takeBack 6 = .ok (.if_icmp .ge 21, 3) := by decide +kernel
theorem dX6_takeBack_9 : decode cX6_takeBack 9 = .ok (.aload_n 0, 1) := by decide +kernel
theorem dX6_takeBack_10 : decode cX6_takeBack 10 = .ok (.getfield 7, 3) := by decide +kernel
theorem dX6_takeBack_13 : decode cX6_takeBack 13 = .ok (.iload_n 1, 1) := by decide +kernel
theorem dX6_takeBack_14 : decode cX6_takeBack 14 = .ok (.aload_n 0, 1) := by decide +kernel
theorem dX6_takeBack_15 : decode cX6_takeBack 15 = .ok (.getfield 13, 3) := by decide +kernel
theorem dX6_takeBack_18 : decode cX6_takeBack 18 = .ok (.iload_n 1, 1) := by decide +kernel
theorem dX6_takeBack_19 : decode cX6_takeBack 19 = .ok (.iaload, 1) := by decide +kernel
theorem dX6_takeBack_20 : decode cX6_takeBack 20 = .ok (.iastore, 1) := by decide +kernel
theorem dX6_takeBack_21 : decode cX6_takeBack 21 = .ok (.iinc 1 1, 3) := by decide +kernel
theorem dX6_takeBack_24 : decode cX6_takeBack 24 = .ok (.goto (-22), 3) := by decide +kernel
theorem dX6_takeBack_27 : decode cX6_takeBack 27 = .ok (.return_, 1) := by decide +kernel
theorem dX6_blockOf_0 : decode cX6_blockOf 0 = .ok (.aload_n 0, 1) := by decide +kernel
theorem dX6_blockOf_1 : decode cX6_blockOf 1 = .ok (.iload_n 1, 1) := by decide +kernel
theorem dX6_blockOf_2 : decode cX6_blockOf 2 = .ok (.iconst 3, 1) := by decide +kernel
theorem dX6_blockOf_3 : decode cX6_blockOf 3 = .ok (.invokevirtual 36, 3) := by decide +kernel
theorem dX6_blockOf_6 : decode cX6_blockOf 6 = .ok (.bipush 100, 2) := by decide +kernel
theorem dX6_blockOf_8 : decode cX6_blockOf 8 = .ok (.idiv, 1) := by decide +kernel
theorem dX6_blockOf_9 : decode cX6_blockOf 9 = .ok (.ireturn, 1) := by decide +kernel
theorem dX6_isShort_0 : decode cX6_isShort 0 = .ok (.aload_n 0, 1) := by decide +kernel
theorem dX6_isShort_1 : decode cX6_isShort 1 = .ok (.getfield 7, 3) := by decide +kernel
theorem dX6_isShort_4 : decode cX6_isShort 4 = .ok (.bipush 8, 2) := by decide +kernel
theorem dX6_isShort_6 : decode cX6_isShort 6 = .ok (.aload_n 0, 1) := by decide +kernel
theorem dX6_isShort_7 : decode cX6_isShort 7 = .ok (.iload_n 1, 1) := by decide +kernel
theorem dX6_isShort_8 : decode cX6_isShort 8 = .ok (.invokevirtual 43, 3) := by decide +kernel
theorem dX6_isShort_11 : decode cX6_isShort 11 = .ok (.iadd, 1) := by decide +kernel
theorem dX6_isShort_12 : decode cX6_isShort 12 = .ok (.iaload, 1) := by decide +kernel
theorem dX6_isShort_13 : decode cX6_isShort 13 = .ok (.ifCond .le 7, 3) := by decide +kernel
theorem dX6_isShort_16 : decode cX6_isShort 16 = .ok (.iconst 1, 1) := by decide +kernel
theorem dX6_isShort_17 : decode cX6_isShort 17 = .ok (.goto 4, 3) := by decide +kernel
theorem dX6_isShort_20 : decode cX6_isShort 20 = .ok (.iconst 0, 1) := by decide +kernel
theorem dX6_isShort_21 : decode cX6_isShort 21 = .ok (.ireturn, 1) := by decide +kernel
theorem dX6_byCurve_0 : decode cX6_byCurve 0 = .ok (.iload_n 1, 1) := by decide +kernel
theorem dX6_byCurve_1 : decode cX6_byCurve 1 = .ok (.iload_n 1, 1) := by decide +kernel
theorem dX6_byCurve_2 : decode cX6_byCurve 2 = .ok (.imul, 1) := by decide +kernel
theorem dX6_byCurve_3 : decode cX6_byCurve 3 = .ok (.bipush 10, 2) := by decide +kernel
theorem dX6_byCurve_5 : decode cX6_byCurve 5 = .ok (.imul, 1) := by decide +kernel
theorem dX6_byCurve_6 : decode cX6_byCurve 6 = .ok (.bipush 28, 2) := by decide +kernel
theorem dX6_byCurve_8 : decode cX6_byCurve 8 = .ok (.idiv, 1) := by decide +kernel
theorem dX6_byCurve_9 : decode cX6_byCurve 9 = .ok (.istore_n 2, 1) := by decide +kernel
theorem dX6_byCurve_10 : decode cX6_byCurve 10 = .ok (.iload_n 0, 1) := by decide +kernel
theorem dX6_byCurve_11 : decode cX6_byCurve 11 = .ok (.ifCond .ne 10, 3) := by decide +kernel
theorem dX6_byCurve_14 : decode cX6_byCurve 14 = .ok (.bipush 10, 2) := by decide +kernel
theorem dX6_byCurve_16 : decode cX6_byCurve 16 = .ok (.iload_n 1, 1) := by decide +kernel
theorem dX6_byCurve_17 : decode cX6_byCurve 17 = .ok (.imul, 1) := by decide +kernel
theorem dX6_byCurve_18 : decode cX6_byCurve 18 = .ok (.goto 18, 3) := by decide +kernel
theorem dX6_byCurve_21 : decode cX6_byCurve 21 = .ok (.iload_n 0, 1) := by decide +kernel
theorem dX6_byCurve_22 : decode cX6_byCurve 22 = .ok (.iconst 1, 1) := by decide +kernel
theorem dX6_byCurve_23 : decode cX6_byCurve 23 = .ok (.if_icmp .ne 7, 3) := by decide +kernel
theorem dX6_byCurve_26 : decode cX6_byCurve 26 = .ok (.iload_n 2, 1) := by decide +kernel
theorem dX6_byCurve_27 : decode cX6_byCurve 27 = .ok (.goto 9, 3) := by decide +kernel
theorem dX6_byCurve_30 : decode cX6_byCurve 30 = .ok (.bipush 20, 2) := by decide +kernel
theorem dX6_byCurve_32 : decode cX6_byCurve 32 = .ok (.iload_n 1, 1) := by decide +kernel
theorem dX6_byCurve_33 : decode cX6_byCurve 33 = .ok (.imul, 1) := by decide +kernel
theorem dX6_byCurve_34 : decode cX6_byCurve 34 = .ok (.iload_n 2, 1) := by decide +kernel
theorem dX6_byCurve_35 : decode cX6_byCurve 35 = .ok (.isub, 1) := by decide +kernel
theorem dX6_byCurve_36 : decode cX6_byCurve 36 = .ok (.ireturn, 1) := by decide +kernel
theorem dX6_due_0 : decode cX6_due 0 = .ok (.aload_n 0, 1) := by decide +kernel
theorem dX6_due_1 : decode cX6_due 1 = .ok (.iload_n 1, 1) := by decide +kernel
theorem dX6_due_2 : decode cX6_due 2 = .ok (.iconst 2, 1) := by decide +kernel
theorem dX6_due_3 : decode cX6_due 3 = .ok (.invokevirtual 36, 3) := by decide +kernel
theorem dX6_due_6 : decode cX6_due 6 = .ok (.aload_n 0, 1) := by decide +kernel
theorem dX6_due_7 : decode cX6_due 7 = .ok (.iload_n 1, 1) := by decide +kernel
theorem dX6_due_8 : decode cX6_due 8 = .ok (.bipush 6, 2) := by decide +kernel
theorem dX6_due_10 : decode cX6_due 10 = .ok (.invokevirtual 36, 3) := by decide +kernel
theorem dX6_due_13 : decode cX6_due 13 = .ok (.invokestatic 47, 3) := by decide +kernel
theorem dX6_due_16 : decode cX6_due 16 = .ok (.istore_n 2, 1) := by decide +kernel
theorem dX6_due_17 : decode cX6_due 17 = .ok (.aload_n 0, 1) := by decide +kernel
theorem dX6_due_18 : decode cX6_due 18 = .ok (.iload_n 1, 1) := by decide +kernel
theorem dX6_due_19 : decode cX6_due 19 = .ok (.bipush 7, 2) := by decide +kernel
theorem dX6_due_21 : decode cX6_due 21 = .ok (.invokevirtual 36, 3) := by decide +kernel
theorem dX6_due_24 : decode cX6_due 24 = .ok (.iconst 1, 1) := by decide +kernel
theorem dX6_due_25 : decode cX6_due 25 = .ok (.if_icmp .ne 7, 3) := by decide +kernel
theorem dX6_due_28 : decode cX6_due 28 = .ok (.iload_n 2, 1) := by decide +kernel
theorem dX6_due_29 : decode cX6_due 29 = .ok (.goto 5, 3) := by decide +kernel
theorem dX6_due_32 : decode cX6_due 32 = .ok (.iload_n 2, 1) := by decide +kernel
theorem dX6_due_33 : decode cX6_due 33 = .ok (.ineg, 1) := by decide +kernel
theorem dX6_due_34 : decode cX6_due 34 = .ok (.ireturn, 1) := by decide +kernel
theorem dX6_hears_0 : decode cX6_hears 0 = .ok (.aload_n 0, 1) := by decide +kernel
theorem dX6_hears_1 : decode cX6_hears 1 = .ok (.iload_n 1, 1) := by decide +kernel
theorem dX6_hears_2 : decode cX6_hears 2 = .ok (.bipush 9, 2) := by decide +kernel
theorem dX6_hears_4 : decode cX6_hears 4 = .ok (.aload_n 0, 1) := by decide +kernel
theorem dX6_hears_5 : decode cX6_hears 5 = .ok (.iload_n 1, 1) := by decide +kernel
theorem dX6_hears_6 : decode cX6_hears 6 = .ok (.bipush 9, 2) := by decide +kernel
theorem dX6_hears_8 : decode cX6_hears 8 = .ok (.invokevirtual 36, 3) := by decide +kernel
theorem dX6_hears_11 : decode cX6_hears 11 = .ok (.iconst 1, 1) := by decide +kernel
theorem dX6_hears_12 : decode cX6_hears 12 = .ok (.iadd, 1) := by decide +kernel
theorem dX6_hears_13 : decode cX6_hears 13 = .ok (.invokevirtual 50, 3) := by decide +kernel
theorem dX6_hears_16 : decode cX6_hears 16 = .ok (.iload_n 2, 1) := by decide +kernel
theorem dX6_hears_17 : decode cX6_hears 17 = .ok (.bipush 31, 2) := by decide +kernel
theorem dX6_hears_19 : decode cX6_hears 19 = .ok (.if_icmp .ne 21, 3) := by decide +kernel
theorem dX6_hears_22 : decode cX6_hears 22 = .ok (.aload_n 0, 1) := by decide +kernel
theorem dX6_hears_23 : decode cX6_hears 23 = .ok (.iload_n 1, 1) := by decide +kernel
theorem dX6_hears_24 : decode cX6_hears 24 = .ok (.bipush 6, 2) := by decide +kernel
theorem dX6_hears_26 : decode cX6_hears 26 = .ok (.iconst 0, 1) := by decide +kernel
theorem dX6_hears_27 : decode cX6_hears 27 = .ok (.invokevirtual 50, 3) := by decide +kernel
theorem dX6_hears_30 : decode cX6_hears 30 = .ok (.aload_n 0, 1) := by decide +kernel
theorem dX6_hears_31 : decode cX6_hears 31 = .ok (.iload_n 1, 1) := by decide +kernel
theorem dX6_hears_32 : decode cX6_hears 32 = .ok (.iconst 5, 1) := by decide +kernel
theorem dX6_hears_33 : decode cX6_hears 33 = .ok (.iconst 0, 1) := by decide +kernel
theorem dX6_hears_34 : decode cX6_hears 34 = .ok (.invokevirtual 50, 3) := by decide +kernel
theorem dX6_hears_37 : decode cX6_hears 37 = .ok (.goto 66, 3) := by decide +kernel
theorem dX6_hears_40 : decode cX6_hears 40 = .ok (.iload_n 2, 1) := by decide +kernel
theorem dX6_hears_41 : decode cX6_hears 41 = .ok (.bipush 64, 2) := by decide +kernel
theorem dX6_hears_43 : decode cX6_hears 43 = .ok (.bipush 67, 2) := by decide +kernel
theorem dX6_hears_45 : decode cX6_hears 45 = .ok (.invokestatic 54, 3) := by decide +kernel
theorem dX6_hears_48 : decode cX6_hears 48 = .ok (.ifCond .eq 17, 3) := by decide +kernel
theorem dX6_hears_51 : decode cX6_hears 51 = .ok (.aload_n 0, 1) := by decide +kernel
theorem dX6_hears_52 : decode cX6_hears 52 = .ok (.iload_n 1, 1) := by decide +kernel
theorem dX6_hears_53 : decode cX6_hears 53 = .ok (.bipush 8, 2) := by decide +kernel
theorem dX6_hears_55 : decode cX6_hears 55 = .ok (.iload_n 2, 1) := by decide +kernel
theorem dX6_hears_56 : decode cX6_hears 56 = .ok (.bipush 64, 2) := by decide +kernel
theorem dX6_hears_58 : decode cX6_hears 58 = .ok (.isub, 1) := by decide +kernel
theorem dX6_hears_59 : decode cX6_hears 59 = .ok (.invokevirtual 50, 3) := by decide +kernel
theorem dX6_hears_62 : decode cX6_hears 62 = .ok (.goto 41, 3) := by decide +kernel
theorem dX6_hears_65 : decode cX6_hears 65 = .ok (.iload_n 2, 1) := by decide +kernel
theorem dX6_hears_66 : decode cX6_hears 66 = .ok (.sipush 128, 3) := by decide +kernel
theorem dX6_hears_69 : decode cX6_hears 69 = .ok (.irem, 1) := by decide +kernel
theorem dX6_hears_70 : decode cX6_hears 70 = .ok (.iconst 0, 1) := by decide +kernel
theorem dX6_hears_71 : decode cX6_hears 71 = .ok (.bipush 28, 2) := by decide +kernel
theorem dX6_hears_73 : decode cX6_hears 73 = .ok (.invokestatic 54, 3) := by decide +kernel
theorem dX6_hears_76 : decode cX6_hears 76 = .ok (.ifCond .eq 27, 3) := by decide +kernel
theorem dX6_hears_79 : decode cX6_hears 79 = .ok (.aload_n 0, 1) := by decide +kernel
theorem dX6_hears_80 : decode cX6_hears 80 = .ok (.iload_n 1, 1) := by decide +kernel
theorem dX6_hears_81 : decode cX6_hears 81 = .ok (.bipush 6, 2) := by decide +kernel
theorem dX6_hears_83 : decode cX6_hears 83 = .ok (.iload_n 2, 1) := by decide +kernel
theorem dX6_hears_84 : decode cX6_hears 84 = .ok (.sipush 128, 3) := by decide +kernel
theorem dX6_hears_87 : decode cX6_hears 87 = .ok (.irem, 1) := by decide +kernel
theorem dX6_hears_88 : decode cX6_hears 88 = .ok (.invokevirtual 50, 3) := by decide +kernel
theorem dX6_hears_91 : decode cX6_hears 91 = .ok (.aload_n 0, 1) := by decide +kernel
theorem dX6_hears_92 : decode cX6_hears 92 = .ok (.iload_n 1, 1) := by decide +kernel
theorem dX6_hears_93 : decode cX6_hears 93 = .ok (.bipush 7, 2) := by decide +kernel
theorem dX6_hears_95 : decode cX6_hears 95 = .ok (.iload_n 2, 1) := by decide +kernel
theorem dX6_hears_96 : decode cX6_hears 96 = .ok (.sipush 128, 3) := by decide +kernel
theorem dX6_hears_99 : decode cX6_hears 99 = .ok (.idiv, 1) := by decide +kernel
theorem dX6_hears_100 : decode cX6_hears 100 = .ok (.invokevirtual 50, 3) := by decide +kernel
theorem dX6_hears_103 : decode cX6_hears 103 = .ok (.return_, 1) := by decide +kernel
theorem dX6_comes_0 : decode cX6_comes 0 = .ok (.aload_n 0, 1) := by decide +kernel
theorem dX6_comes_1 : decode cX6_comes 1 = .ok (.getfield 7, 3) := by decide +kernel
theorem dX6_comes_4 : decode cX6_comes 4 = .ok (.iconst 3, 1) := by decide +kernel
theorem dX6_comes_5 : decode cX6_comes 5 = .ok (.dup2, 1) := by decide +kernel
theorem dX6_comes_6 : decode cX6_comes 6 = .ok (.iaload, 1) := by decide +kernel
theorem dX6_comes_7 : decode cX6_comes 7 = .ok (.iconst 1, 1) := by decide +kernel
theorem dX6_comes_8 : decode cX6_comes 8 = .ok (.iadd, 1) := by decide +kernel
theorem dX6_comes_9 : decode cX6_comes 9 = .ok (.iastore, 1) := by decide +kernel
theorem dX6_comes_10 : decode cX6_comes 10 = .ok (.iload_n 3, 1) := by decide +kernel
theorem dX6_comes_11 : decode cX6_comes 11 = .ok (.iload_n 1, 1) := by decide +kernel
theorem dX6_comes_12 : decode cX6_comes 12 = .ok (.iload_n 2, 1) := by decide +kernel
theorem dX6_comes_13 : decode cX6_comes 13 = .ok (.ixor, 1) := by decide +kernel
theorem dX6_comes_14 : decode cX6_comes 14 = .ok (.if_icmp .eq 15, 3) := by decide +kernel
theorem dX6_comes_17 : decode cX6_comes 17 = .ok (.aload_n 0, 1) := by decide +kernel
theorem dX6_comes_18 : decode cX6_comes 18 = .ok (.getfield 7, 3) := by decide +kernel
theorem dX6_comes_21 : decode cX6_comes 21 = .ok (.iconst 4, 1) := by decide +kernel
theorem dX6_comes_22 : decode cX6_comes 22 = .ok (.dup2, 1) := by decide +kernel
theorem dX6_comes_23 : decode cX6_comes 23 = .ok (.iaload, 1) := by decide +kernel
theorem dX6_comes_24 : decode cX6_comes 24 = .ok (.iconst 1, 1) := by decide +kernel
theorem dX6_comes_25 : decode cX6_comes 25 = .ok (.iadd, 1) := by decide +kernel
theorem dX6_comes_26 : decode cX6_comes 26 = .ok (.iastore, 1) := by decide +kernel
theorem dX6_comes_27 : decode cX6_comes 27 = .ok (.iconst 0, 1) := by decide +kernel
theorem dX6_comes_28 : decode cX6_comes 28 = .ok (.ireturn, 1) := by decide +kernel
theorem dX6_comes_29 : decode cX6_comes 29 = .ok (.iconst 0, 1) := by decide +kernel
theorem dX6_comes_30 : decode cX6_comes 30 = .ok (.istore 4, 2) := by decide +kernel
theorem dX6_comes_32 : decode cX6_comes 32 = .ok (.iconst 0, 1) := by decide +kernel
theorem dX6_comes_33 : decode cX6_comes 33 = .ok (.istore 5, 2) := by decide +kernel
theorem dX6_comes_35 : decode cX6_comes 35 = .ok (.iload 5, 2) := by decide +kernel
theorem dX6_comes_37 : decode cX6_comes 37 = .ok (.aload_n 0, 1) := by decide +kernel
theorem dX6_comes_38 : decode cX6_comes 38 = .ok (.getfield 7, 3) := by decide +kernel
theorem dX6_comes_41 : decode cX6_comes 41 = .ok (.bipush 6, 2) := by decide +kernel
theorem dX6_comes_43 : decode cX6_comes 43 = .ok (.iaload, 1) := by decide +kernel
theorem dX6_comes_44 : decode cX6_comes 44 = .ok (.if_icmp .ge 43, 3) := by decide +kernel
theorem dX6_comes_47 : decode cX6_comes 47 = .ok (.iload_n 1, 1) := by decide +kernel
theorem dX6_comes_48 : decode cX6_comes 48 = .ok (.ifCond .eq 14, 3) := by decide +kernel
theorem dX6_comes_51 : decode cX6_comes 51 = .ok (.aload_n 0, 1) := by decide +kernel
theorem dX6_comes_52 : decode cX6_comes 52 = .ok (.iload 5, 2) := by decide +kernel
theorem dX6_comes_54 : decode cX6_comes 54 = .ok (.iconst 0, 1) := by decide +kernel
theorem dX6_comes_55 : decode cX6_comes 55 = .ok (.invokevirtual 36, 3) := by decide +kernel
theorem dX6_comes_58 : decode cX6_comes 58 = .ok (.iload_n 1, 1) := by decide +kernel
theorem dX6_comes_59 : decode cX6_comes 59 = .ok (.if_icmp .ne 22, 3) := by decide +kernel
theorem dX6_comes_62 : decode cX6_comes 62 = .ok (.aload_n 0, 1) := by decide +kernel
theorem dX6_comes_63 : decode cX6_comes 63 = .ok (.iload 5, 2) := by decide +kernel
theorem dX6_comes_65 : decode cX6_comes 65 = .ok (.invokevirtual 58, 3) := by decide +kernel
theorem dX6_comes_68 : decode cX6_comes 68 = .ok (.ifCond .ne 13, 3) := by decide +kernel
theorem dX6_comes_71 : decode cX6_comes 71 = .ok (.aload_n 0, 1) := by decide +kernel
theorem dX6_comes_72 : decode cX6_comes 72 = .ok (.iload 5, 2) := by decide +kernel
theorem dX6_comes_74 : decode cX6_comes 74 = .ok (.iload_n 2, 1) := by decide +kernel
theorem dX6_comes_75 : decode cX6_comes 75 = .ok (.invokevirtual 62, 3) := by decide +kernel
theorem dX6_comes_78 : decode cX6_comes 78 = .ok (.iinc 4 1, 3) := by decide +kernel
theorem dX6_comes_81 : decode cX6_comes 81 = .ok (.iinc 5 1, 3) := by decide +kernel
theorem dX6_comes_84 : decode cX6_comes 84 = .ok (.goto (-49), 3) := by decide +kernel
theorem dX6_comes_87 : decode cX6_comes 87 = .ok (.iload 4, 2) := by decide +kernel
theorem dX6_comes_89 : decode cX6_comes 89 = .ok (.ireturn, 1) := by decide +kernel
theorem dX6_sends_0 : decode cX6_sends 0 = .ok (.aload_n 0, 1) := by decide +kernel
theorem dX6_sends_1 : decode cX6_sends 1 = .ok (.getfield 7, 3) := by decide +kernel
theorem dX6_sends_4 : decode cX6_sends 4 = .ok (.bipush 7, 2) := by decide +kernel
theorem dX6_sends_6 : decode cX6_sends 6 = .ok (.iaload, 1) := by decide +kernel
theorem dX6_sends_7 : decode cX6_sends 7 = .ok (.ifCond .ne 5, 3) := by decide +kernel
theorem dX6_sends_10 : decode cX6_sends 10 = .ok (.iconst 0, 1) := by decide +kernel
theorem dX6_sends_11 : decode cX6_sends 11 = .ok (.ireturn, 1) := by decide +kernel
theorem dX6_sends_12 : decode cX6_sends 12 = .ok (.aload_n 0, 1) := by decide +kernel
theorem dX6_sends_13 : decode cX6_sends 13 = .ok (.getfield 7, 3) := by decide +kernel
theorem dX6_sends_16 : decode cX6_sends 16 = .ok (.bipush 104, 2) := by decide +kernel
theorem dX6_sends_18 : decode cX6_sends 18 = .ok (.iaload, 1) := by decide +kernel
theorem dX6_sends_19 : decode cX6_sends 19 = .ok (.istore_n 1, 1) := by decide +kernel
theorem dX6_sends_20 : decode cX6_sends 20 = .ok (.aload_n 0, 1) := by decide +kernel
theorem dX6_sends_21 : decode cX6_sends 21 = .ok (.getfield 7, 3) := by decide +kernel
theorem dX6_sends_24 : decode cX6_sends 24 = .ok (.bipush 105, 2) := by decide +kernel
theorem dX6_sends_26 : decode cX6_sends 26 = .ok (.iaload, 1) := by decide +kernel
theorem dX6_sends_27 : decode cX6_sends 27 = .ok (.istore_n 2, 1) := by decide +kernel
theorem dX6_sends_28 : decode cX6_sends 28 = .ok (.iload_n 1, 1) := by decide +kernel
theorem dX6_sends_29 : decode cX6_sends 29 = .ok (.iload_n 2, 1) := by decide +kernel
theorem dX6_sends_30 : decode cX6_sends 30 = .ok (.ixor, 1) := by decide +kernel
theorem dX6_sends_31 : decode cX6_sends 31 = .ok (.istore_n 3, 1) := by decide +kernel
theorem dX6_sends_32 : decode cX6_sends 32 = .ok (.aload_n 0, 1) := by decide +kernel
theorem dX6_sends_33 : decode cX6_sends 33 = .ok (.getfield 7, 3) := by decide +kernel
theorem dX6_sends_36 : decode cX6_sends 36 = .ok (.bipush 7, 2) := by decide +kernel
theorem dX6_sends_38 : decode cX6_sends 38 = .ok (.dup2, 1) := by decide +kernel
theorem dX6_sends_39 : decode cX6_sends 39 = .ok (.iaload, 1) := by decide +kernel
theorem dX6_sends_40 : decode cX6_sends 40 = .ok (.iconst 1, 1) := by decide +kernel
theorem dX6_sends_41 : decode cX6_sends 41 = .ok (.isub, 1) := by decide +kernel
theorem dX6_sends_42 : decode cX6_sends 42 = .ok (.iastore, 1) := by decide +kernel
theorem dX6_sends_43 : decode cX6_sends 43 = .ok (.iconst 0, 1) := by decide +kernel
theorem dX6_sends_44 : decode cX6_sends 44 = .ok (.istore 4, 2) := by decide +kernel
theorem dX6_sends_46 : decode cX6_sends 46 = .ok (.iload 4, 2) := by decide +kernel
theorem dX6_sends_48 : decode cX6_sends 48 = .ok (.iconst 3, 1) := by decide +kernel
theorem dX6_sends_49 : decode cX6_sends 49 = .ok (.aload_n 0, 1) := by decide +kernel
theorem dX6_sends_50 : decode cX6_sends 50 = .ok (.getfield 7, 3) := by decide +kernel
theorem dX6_sends_53 : decode cX6_sends 53 = .ok (.bipush 7, 2) := by decide +kernel
theorem dX6_sends_55 : decode cX6_sends 55 = .ok (.iaload, 1) := by decide +kernel
theorem dX6_sends_56 : decode cX6_sends 56 = .ok (.imul, 1) := by decide +kernel
theorem dX6_sends_57 : decode cX6_sends 57 = .ok (.if_icmp .ge 31, 3) := by decide +kernel
theorem dX6_sends_60 : decode cX6_sends 60 = .ok (.aload_n 0, 1) := by decide +kernel
theorem dX6_sends_61 : decode cX6_sends 61 = .ok (.getfield 7, 3) := by decide +kernel
theorem dX6_sends_64 : decode cX6_sends 64 = .ok (.bipush 104, 2) := by decide +kernel
theorem dX6_sends_66 : decode cX6_sends 66 = .ok (.iload 4, 2) := by decide +kernel
theorem dX6_sends_68 : decode cX6_sends 68 = .ok (.iadd, 1) := by decide +kernel
theorem dX6_sends_69 : decode cX6_sends 69 = .ok (.aload_n 0, 1) := by decide +kernel
theorem dX6_sends_70 : decode cX6_sends 70 = .ok (.getfield 7, 3) := by decide +kernel
theorem dX6_sends_73 : decode cX6_sends 73 = .ok (.bipush 104, 2) := by decide +kernel
theorem dX6_sends_75 : decode cX6_sends 75 = .ok (.iload 4, 2) := by decide +kernel
theorem dX6_sends_77 : decode cX6_sends 77 = .ok (.iadd, 1) := by decide +kernel
theorem dX6_sends_78 : decode cX6_sends 78 = .ok (.iconst 3, 1) := by decide +kernel
theorem dX6_sends_79 : decode cX6_sends 79 = .ok (.iadd, 1) := by decide +kernel
theorem dX6_sends_80 : decode cX6_sends 80 = .ok (.iaload, 1) := by decide +kernel
theorem dX6_sends_81 : decode cX6_sends 81 = .ok (.iastore, 1) := by decide +kernel
theorem dX6_sends_82 : decode cX6_sends 82 = .ok (.iinc 4 1, 3) := by decide +kernel
theorem dX6_sends_85 : decode cX6_sends 85 = .ok (.goto (-39), 3) := by decide +kernel
theorem dX6_sends_88 : decode cX6_sends 88 = .ok (.iconst 0, 1) := by decide +kernel
theorem dX6_sends_89 : decode cX6_sends 89 = .ok (.istore 4, 2) := by decide +kernel
theorem dX6_sends_91 : decode cX6_sends 91 = .ok (.iload 4, 2) := by decide +kernel
theorem dX6_sends_93 : decode cX6_sends 93 = .ok (.iconst 3, 1) := by decide +kernel
theorem dX6_sends_94 : decode cX6_sends 94 = .ok (.if_icmp .ge 30, 3) := by decide +kernel
theorem dX6_sends_97 : decode cX6_sends 97 = .ok (.aload_n 0, 1) := by decide +kernel
theorem dX6_sends_98 : decode cX6_sends 98 = .ok (.getfield 7, 3) := by decide +kernel
theorem dX6_sends_101 : decode cX6_sends 101 = .ok (.bipush 104, 2) := by decide +kernel
theorem dX6_sends_103 : decode cX6_sends 103 = .ok (.iconst 3, 1) := by decide +kernel
theorem dX6_sends_104 : decode cX6_sends 104 = .ok (.aload_n 0, 1) := by decide +kernel
theorem dX6_sends_105 : decode cX6_sends 105 = .ok (.getfield 7, 3) := by decide +kernel
theorem dX6_sends_108 : decode cX6_sends 108 = .ok (.bipush 7, 2) := by decide +kernel
theorem dX6_sends_110 : decode cX6_sends 110 = .ok (.iaload, 1) := by decide +kernel
theorem dX6_sends_111 : decode cX6_sends 111 = .ok (.imul, 1) := by decide +kernel
theorem dX6_sends_112 : decode cX6_sends 112 = .ok (.iadd, 1) := by decide +kernel
theorem dX6_sends_113 : decode cX6_sends 113 = .ok (.iload 4, 2) := by decide +kernel
theorem dX6_sends_115 : decode cX6_sends 115 = .ok (.iadd, 1) := by decide +kernel
theorem dX6_sends_116 : decode cX6_sends 116 = .ok (.iconst 0, 1) := by decide +kernel
theorem dX6_sends_117 : decode cX6_sends 117 = .ok (.iastore, 1) := by decide +kernel
theorem dX6_sends_118 : decode cX6_sends 118 = .ok (.iinc 4 1, 3) := by decide +kernel
theorem dX6_sends_121 : decode cX6_sends 121 = .ok (.goto (-30), 3) := by decide +kernel
theorem dX6_sends_124 : decode cX6_sends 124 = .ok (.aload_n 0, 1) := by decide +kernel
theorem dX6_sends_125 : decode cX6_sends 125 = .ok (.getfield 7, 3) := by decide +kernel
theorem dX6_sends_128 : decode cX6_sends 128 = .ok (.iconst 1, 1) := by decide +kernel
theorem dX6_sends_129 : decode cX6_sends 129 = .ok (.iaload, 1) := by decide +kernel
theorem dX6_sends_130 : decode cX6_sends 130 = .ok (.ifCond .le 43, 3) := by decide +kernel
theorem dX6_sends_133 : decode cX6_sends 133 = .ok (.aload_n 0, 1) := by decide +kernel
theorem dX6_sends_134 : decode cX6_sends 134 = .ok (.getfield 7, 3) := by decide +kernel
theorem dX6_sends_137 : decode cX6_sends 137 = .ok (.iconst 2, 1) := by decide +kernel
theorem dX6_sends_138 : decode cX6_sends 138 = .ok (.iaload, 1) := by decide +kernel
theorem dX6_sends_139 : decode cX6_sends 139 = .ok (.aload_n 0, 1) := by decide +kernel
theorem dX6_sends_140 : decode cX6_sends 140 = .ok (.getfield 7, 3) := by decide +kernel
theorem dX6_sends_143 : decode cX6_sends 143 = .ok (.iconst 1, 1) := by decide +kernel
theorem dX6_sends_144 : decode cX6_sends 144 = .ok (.iaload, 1) := by decide +kernel
theorem dX6_sends_145 : decode cX6_sends 145 = .ok (.if_icmp .lt 28, 3) := by decide +kernel
theorem dX6_sends_148 : decode cX6_sends 148 = .ok (.iload_n 3, 1) := by decide +kernel
theorem dX6_sends_149 : decode cX6_sends 149 = .ok (.iconst 1, 1) := by decide +kernel
theorem dX6_sends_150 : decode cX6_sends 150 = .ok (.iadd, 1) := by decide +kernel
theorem dX6_sends_151 : decode cX6_sends 151 = .ok (.sipush 256, 3) := by decide +kernel
theorem dX6_sends_154 : decode cX6_sends 154 = .ok (.irem, 1) := by decide +kernel
theorem dX6_sends_155 : decode cX6_sends 155 = .ok (.istore_n 3, 1) := by decide +kernel
theorem dX6_sends_156 : decode cX6_sends 156 = .ok (.aload_n 0, 1) := by decide +kernel
theorem dX6_sends_157 : decode cX6_sends 157 = .ok (.getfield 7, 3) := by decide +kernel
theorem dX6_sends_160 : decode cX6_sends 160 = .ok (.iconst 2, 1) := by decide +kernel
theorem dX6_sends_161 : decode cX6_sends 161 = .ok (.iconst 0, 1) := by decide +kernel
theorem dX6_sends_162 : decode cX6_sends 162 = .ok (.iastore, 1) := by decide +kernel
theorem dX6_sends_163 : decode cX6_sends 163 = .ok (.aload_n 0, 1) := by decide +kernel
theorem dX6_sends_164 : decode cX6_sends 164 = .ok (.getfield 7, 3) := by decide +kernel
theorem dX6_sends_167 : decode cX6_sends 167 = .ok (.iconst 5, 1) := by decide +kernel
theorem dX6_sends_168 : decode cX6_sends 168 = .ok (.dup2, 1) := by decide +kernel
theorem dX6_sends_169 : decode cX6_sends 169 = .ok (.iaload, 1) := by decide +kernel
theorem dX6_sends_170 : decode cX6_sends 170 = .ok (.iconst 1, 1) := by decide +kernel
theorem dX6_sends_171 : decode cX6_sends 171 = .ok (.iadd, 1) := by decide +kernel
theorem dX6_sends_172 : decode cX6_sends 172 = .ok (.iastore, 1) := by decide +kernel
theorem dX6_sends_173 : decode cX6_sends 173 = .ok (.aload_n 0, 1) := by decide +kernel
theorem dX6_sends_174 : decode cX6_sends 174 = .ok (.iload_n 1, 1) := by decide +kernel
theorem dX6_sends_175 : decode cX6_sends 175 = .ok (.iload_n 2, 1) := by decide +kernel
theorem dX6_sends_176 : decode cX6_sends 176 = .ok (.iload_n 3, 1) := by decide +kernel
theorem dX6_sends_177 : decode cX6_sends 177 = .ok (.invokevirtual 66, 3) := by decide +kernel
theorem dX6_sends_180 : decode cX6_sends 180 = .ok (.pop, 1) := by decide +kernel
theorem dX6_sends_181 : decode cX6_sends 181 = .ok (.iconst 1, 1) := by decide +kernel
theorem dX6_sends_182 : decode cX6_sends 182 = .ok (.ireturn, 1) := by decide +kernel
theorem dX6_speeds_0 : decode cX6_speeds 0 = .ok (.bipush 60, 2) := by decide +kernel
theorem dX6_speeds_2 : decode cX6_speeds 2 = .ok (.aload_n 0, 1) := by decide +kernel
theorem dX6_speeds_3 : decode cX6_speeds 3 = .ok (.iload_n 1, 1) := by decide +kernel
theorem dX6_speeds_4 : decode cX6_speeds 4 = .ok (.iconst 1, 1) := by decide +kernel
theorem dX6_speeds_5 : decode cX6_speeds 5 = .ok (.invokevirtual 36, 3) := by decide +kernel
theorem dX6_speeds_8 : decode cX6_speeds 8 = .ok (.idiv, 1) := by decide +kernel
theorem dX6_speeds_9 : decode cX6_speeds 9 = .ok (.istore_n 2, 1) := by decide +kernel
theorem dX6_speeds_10 : decode cX6_speeds 10 = .ok (.aload_n 0, 1) := by decide +kernel
theorem dX6_speeds_11 : decode cX6_speeds 11 = .ok (.iload_n 1, 1) := by decide +kernel
theorem dX6_speeds_12 : decode cX6_speeds 12 = .ok (.iconst 5, 1) := by decide +kernel
theorem dX6_speeds_13 : decode cX6_speeds 13 = .ok (.invokevirtual 36, 3) := by decide +kernel
theorem dX6_speeds_16 : decode cX6_speeds 16 = .ok (.istore_n 3, 1) := by decide +kernel
theorem dX6_speeds_17 : decode cX6_speeds 17 = .ok (.aload_n 0, 1) := by decide +kernel
theorem dX6_speeds_18 : decode cX6_speeds 18 = .ok (.iload_n 1, 1) := by decide +kernel
theorem dX6_speeds_19 : decode cX6_speeds 19 = .ok (.invokevirtual 70, 3) := by decide +kernel
theorem dX6_speeds_22 : decode cX6_speeds 22 = .ok (.iload_n 3, 1) := by decide +kernel
theorem dX6_speeds_23 : decode cX6_speeds 23 = .ok (.isub, 1) := by decide +kernel
theorem dX6_speeds_24 : decode cX6_speeds 24 = .ok (.istore 4, 2) := by decide +kernel
theorem dX6_speeds_26 : decode cX6_speeds 26 = .ok (.iload 4, 2) := by decide +kernel
theorem dX6_speeds_28 : decode cX6_speeds 28 = .ok (.iload_n 2, 1) := by decide +kernel
theorem dX6_speeds_29 : decode cX6_speeds 29 = .ok (.if_icmp .le 9, 3) := by decide +kernel
theorem dX6_speeds_32 : decode cX6_speeds 32 = .ok (.iload_n 3, 1) := by decide +kernel
theorem dX6_speeds_33 : decode cX6_speeds 33 = .ok (.iload_n 2, 1) := by decide +kernel
theorem dX6_speeds_34 : decode cX6_speeds 34 = .ok (.iadd, 1) := by decide +kernel
theorem dX6_speeds_35 : decode cX6_speeds 35 = .ok (.goto 20, 3) := by decide +kernel
theorem dX6_speeds_38 : decode cX6_speeds 38 = .ok (.iload 4, 2) := by decide +kernel
theorem dX6_speeds_40 : decode cX6_speeds 40 = .ok (.iload_n 2, 1) := by decide +kernel
theorem dX6_speeds_41 : decode cX6_speeds 41 = .ok (.ineg, 1) := by decide +kernel
theorem dX6_speeds_42 : decode cX6_speeds 42 = .ok (.if_icmp .ge 9, 3) := by decide +kernel
theorem dX6_speeds_45 : decode cX6_speeds 45 = .ok (.iload_n 3, 1) := by decide +kernel
theorem dX6_speeds_46 : decode cX6_speeds 46 = .ok (.iload_n 2, 1) := by decide +kernel
theorem dX6_speeds_47 : decode cX6_speeds 47 = .ok (.isub, 1) := by decide +kernel
theorem dX6_speeds_48 : decode cX6_speeds 48 = .ok (.goto 7, 3) := by decide +kernel
theorem dX6_speeds_51 : decode cX6_speeds 51 = .ok (.iload_n 3, 1) := by decide +kernel
theorem dX6_speeds_52 : decode cX6_speeds 52 = .ok (.iload 4, 2) := by decide +kernel
theorem dX6_speeds_54 : decode cX6_speeds 54 = .ok (.iadd, 1) := by decide +kernel
theorem dX6_speeds_55 : decode cX6_speeds 55 = .ok (.istore 5, 2) := by decide +kernel
theorem dX6_speeds_57 : decode cX6_speeds 57 = .ok (.aload_n 0, 1) := by decide +kernel
theorem dX6_speeds_58 : decode cX6_speeds 58 = .ok (.iload_n 1, 1) := by decide +kernel
theorem dX6_speeds_59 : decode cX6_speeds 59 = .ok (.iconst 5, 1) := by decide +kernel
theorem dX6_speeds_60 : decode cX6_speeds 60 = .ok (.aload_n 0, 1) := by decide +kernel
theorem dX6_speeds_61 : decode cX6_speeds 61 = .ok (.iload_n 1, 1) := by decide +kernel
theorem dX6_speeds_62 : decode cX6_speeds 62 = .ok (.invokevirtual 58, 3) := by decide +kernel
theorem dX6_speeds_65 : decode cX6_speeds 65 = .ok (.ifCond .eq 7, 3) := by decide +kernel
theorem dX6_speeds_68 : decode cX6_speeds 68 = .ok (.iconst 0, 1) := by decide +kernel
theorem dX6_speeds_69 : decode cX6_speeds 69 = .ok (.goto 5, 3) := by decide +kernel
theorem dX6_speeds_72 : decode cX6_speeds 72 = .ok (.iload 5, 2) := by decide +kernel
theorem dX6_speeds_74 : decode cX6_speeds 74 = .ok (.invokevirtual 50, 3) := by decide +kernel
theorem dX6_speeds_77 : decode cX6_speeds 77 = .ok (.return_, 1) := by decide +kernel
theorem dX6_goes_0 : decode cX6_goes 0 = .ok (.bipush 10, 2) := by decide +kernel
theorem dX6_goes_2 : decode cX6_goes 2 = .ok (.aload_n 0, 1) := by decide +kernel
theorem dX6_goes_3 : decode cX6_goes 3 = .ok (.iload_n 1, 1) := by decide +kernel
theorem dX6_goes_4 : decode cX6_goes 4 = .ok (.iconst 3, 1) := by decide +kernel
theorem dX6_goes_5 : decode cX6_goes 5 = .ok (.invokevirtual 36, 3) := by decide +kernel
theorem dX6_goes_8 : decode cX6_goes 8 = .ok (.imul, 1) := by decide +kernel
theorem dX6_goes_9 : decode cX6_goes 9 = .ok (.aload_n 0, 1) := by decide +kernel
theorem dX6_goes_10 : decode cX6_goes 10 = .ok (.iload_n 1, 1) := by decide +kernel
theorem dX6_goes_11 : decode cX6_goes 11 = .ok (.iconst 4, 1) := by decide +kernel
theorem dX6_goes_12 : decode cX6_goes 12 = .ok (.invokevirtual 36, 3) := by decide +kernel
theorem dX6_goes_15 : decode cX6_goes 15 = .ok (.iadd, 1) := by decide +kernel
theorem dX6_goes_16 : decode cX6_goes 16 = .ok (.aload_n 0, 1) := by decide +kernel
theorem dX6_goes_17 : decode cX6_goes 17 = .ok (.iload_n 1, 1) := by decide +kernel
theorem dX6_goes_18 : decode cX6_goes 18 = .ok (.iconst 5, 1) := by decide +kernel
theorem dX6_goes_19 : decode cX6_goes 19 = .ok (.invokevirtual 36, 3) := by decide +kernel
theorem dX6_goes_22 : decode cX6_goes 22 = .ok (.iadd, 1) := by decide +kernel
theorem dX6_goes_23 : decode cX6_goes 23 = .ok (.istore_n 2, 1) := by decide +kernel
theorem dX6_goes_24 : decode cX6_goes 24 = .ok (.sipush 8000, 3) := by decide +kernel
theorem dX6_goes_27 : decode cX6_goes 27 = .ok (.istore_n 3, 1) := by decide +kernel
theorem dX6_goes_28 : decode cX6_goes 28 = .ok (.aload_n 0, 1) := by decide +kernel
theorem dX6_goes_29 : decode cX6_goes 29 = .ok (.iload_n 1, 1) := by decide +kernel
theorem dX6_goes_30 : decode cX6_goes 30 = .ok (.bipush 10, 2) := by decide +kernel
theorem dX6_goes_32 : decode cX6_goes 32 = .ok (.aload_n 0, 1) := by decide +kernel
theorem dX6_goes_33 : decode cX6_goes 33 = .ok (.iload_n 1, 1) := by decide +kernel
theorem dX6_goes_34 : decode cX6_goes 34 = .ok (.bipush 10, 2) := by decide +kernel
theorem dX6_goes_36 : decode cX6_goes 36 = .ok (.invokevirtual 36, 3) := by decide +kernel
theorem dX6_goes_39 : decode cX6_goes 39 = .ok (.iload_n 2, 1) := by decide +kernel
theorem dX6_goes_40 : decode cX6_goes 40 = .ok (.ifCond .ge 7, 3) := by decide +kernel
theorem dX6_goes_43 : decode cX6_goes 43 = .ok (.iconst (-1), 1) := by decide +kernel
theorem dX6_goes_44 : decode cX6_goes 44 = .ok (.goto 13, 3) := by decide +kernel
theorem dX6_goes_47 : decode cX6_goes 47 = .ok (.iload_n 2, 1) := by decide +kernel
theorem dX6_goes_48 : decode cX6_goes 48 = .ok (.iload_n 3, 1) := by decide +kernel
theorem dX6_goes_49 : decode cX6_goes 49 = .ok (.if_icmp .lt 7, 3) := by decide +kernel
theorem dX6_goes_52 : decode cX6_goes 52 = .ok (.iconst 1, 1) := by decide +kernel
theorem dX6_goes_53 : decode cX6_goes 53 = .ok (.goto 4, 3) := by decide +kernel
theorem dX6_goes_56 : decode cX6_goes 56 = .ok (.iconst 0, 1) := by decide +kernel
theorem dX6_goes_57 : decode cX6_goes 57 = .ok (.iadd, 1) := by decide +kernel
theorem dX6_goes_58 : decode cX6_goes 58 = .ok (.invokevirtual 50, 3) := by decide +kernel
theorem dX6_goes_61 : decode cX6_goes 61 = .ok (.iload_n 2, 1) := by decide +kernel
theorem dX6_goes_62 : decode cX6_goes 62 = .ok (.iload_n 3, 1) := by decide +kernel
theorem dX6_goes_63 : decode cX6_goes 63 = .ok (.iadd, 1) := by decide +kernel
theorem dX6_goes_64 : decode cX6_goes 64 = .ok (.iload_n 3, 1) := by decide +kernel
theorem dX6_goes_65 : decode cX6_goes 65 = .ok (.irem, 1) := by decide +kernel
theorem dX6_goes_66 : decode cX6_goes 66 = .ok (.istore_n 2, 1) := by decide +kernel
theorem dX6_goes_67 : decode cX6_goes 67 = .ok (.aload_n 0, 1) := by decide +kernel
theorem dX6_goes_68 : decode cX6_goes 68 = .ok (.iload_n 1, 1) := by decide +kernel
theorem dX6_goes_69 : decode cX6_goes 69 = .ok (.iconst 3, 1) := by decide +kernel
theorem dX6_goes_70 : decode cX6_goes 70 = .ok (.iload_n 2, 1) := by decide +kernel
theorem dX6_goes_71 : decode cX6_goes 71 = .ok (.bipush 10, 2) := by decide +kernel
theorem dX6_goes_73 : decode cX6_goes 73 = .ok (.idiv, 1) := by decide +kernel
theorem dX6_goes_74 : decode cX6_goes 74 = .ok (.invokevirtual 50, 3) := by decide +kernel
theorem dX6_goes_77 : decode cX6_goes 77 = .ok (.aload_n 0, 1) := by decide +kernel
theorem dX6_goes_78 : decode cX6_goes 78 = .ok (.iload_n 1, 1) := by decide +kernel
theorem dX6_goes_79 : decode cX6_goes 79 = .ok (.iconst 4, 1) := by decide +kernel
theorem dX6_goes_80 : decode cX6_goes 80 = .ok (.iload_n 2, 1) := by decide +kernel
theorem dX6_goes_81 : decode cX6_goes 81 = .ok (.bipush 10, 2) := by decide +kernel
theorem dX6_goes_83 : decode cX6_goes 83 = .ok (.irem, 1) := by decide +kernel
theorem dX6_goes_84 : decode cX6_goes 84 = .ok (.invokevirtual 50, 3) := by decide +kernel
theorem dX6_goes_87 : decode cX6_goes 87 = .ok (.return_, 1) := by decide +kernel
theorem dX6_tick_0 : decode cX6_tick 0 = .ok (.aload_n 0, 1) := by decide +kernel
theorem dX6_tick_1 : decode cX6_tick 1 = .ok (.invokevirtual 73, 3) := by decide +kernel
theorem dX6_tick_4 : decode cX6_tick 4 = .ok (.istore_n 1, 1) := by decide +kernel
theorem dX6_tick_5 : decode cX6_tick 5 = .ok (.iconst 0, 1) := by decide +kernel
theorem dX6_tick_6 : decode cX6_tick 6 = .ok (.istore_n 2, 1) := by decide +kernel
theorem dX6_tick_7 : decode cX6_tick 7 = .ok (.iload_n 2, 1) := by decide +kernel
theorem dX6_tick_8 : decode cX6_tick 8 = .ok (.aload_n 0, 1) := by decide +kernel
theorem dX6_tick_9 : decode cX6_tick 9 = .ok (.getfield 7, 3) := by decide +kernel
theorem dX6_tick_12 : decode cX6_tick 12 = .ok (.bipush 6, 2) := by decide +kernel
theorem dX6_tick_14 : decode cX6_tick 14 = .ok (.iaload, 1) := by decide +kernel
theorem dX6_tick_15 : decode cX6_tick 15 = .ok (.if_icmp .ge 14, 3) := by decide +kernel
theorem dX6_tick_18 : decode cX6_tick 18 = .ok (.aload_n 0, 1) := by decide +kernel
theorem dX6_tick_19 : decode cX6_tick 19 = .ok (.iload_n 2, 1) := by decide +kernel
theorem dX6_tick_20 : decode cX6_tick 20 = .ok (.invokevirtual 77, 3) := by decide +kernel
theorem dX6_tick_23 : decode cX6_tick 23 = .ok (.iinc 2 1, 3) := by decide +kernel
theorem dX6_tick_26 : decode cX6_tick 26 = .ok (.goto (-19), 3) := by decide +kernel
theorem dX6_tick_29 : decode cX6_tick 29 = .ok (.iconst 0, 1) := by decide +kernel
theorem dX6_tick_30 : decode cX6_tick 30 = .ok (.istore_n 2, 1) := by decide +kernel
theorem dX6_tick_31 : decode cX6_tick 31 = .ok (.iload_n 2, 1) := by decide +kernel
theorem dX6_tick_32 : decode cX6_tick 32 = .ok (.aload_n 0, 1) := by decide +kernel
theorem dX6_tick_33 : decode cX6_tick 33 = .ok (.getfield 7, 3) := by decide +kernel
theorem dX6_tick_36 : decode cX6_tick 36 = .ok (.bipush 6, 2) := by decide +kernel
theorem dX6_tick_38 : decode cX6_tick 38 = .ok (.iaload, 1) := by decide +kernel
theorem dX6_tick_39 : decode cX6_tick 39 = .ok (.if_icmp .ge 14, 3) := by decide +kernel
theorem dX6_tick_42 : decode cX6_tick 42 = .ok (.aload_n 0, 1) := by decide +kernel
theorem dX6_tick_43 : decode cX6_tick 43 = .ok (.iload_n 2, 1) := by decide +kernel
theorem dX6_tick_44 : decode cX6_tick 44 = .ok (.invokevirtual 81, 3) := by decide +kernel
theorem dX6_tick_47 : decode cX6_tick 47 = .ok (.iinc 2 1, 3) := by decide +kernel
theorem dX6_tick_50 : decode cX6_tick 50 = .ok (.goto (-19), 3) := by decide +kernel
theorem dX6_tick_53 : decode cX6_tick 53 = .ok (.iconst 0, 1) := by decide +kernel
theorem dX6_tick_54 : decode cX6_tick 54 = .ok (.istore_n 2, 1) := by decide +kernel
theorem dX6_tick_55 : decode cX6_tick 55 = .ok (.iload_n 2, 1) := by decide +kernel
theorem dX6_tick_56 : decode cX6_tick 56 = .ok (.bipush 8, 2) := by decide +kernel
theorem dX6_tick_58 : decode cX6_tick 58 = .ok (.if_icmp .ge 38, 3) := by decide +kernel
theorem dX6_tick_61 : decode cX6_tick 61 = .ok (.aload_n 0, 1) := by decide +kernel
theorem dX6_tick_62 : decode cX6_tick 62 = .ok (.getfield 7, 3) := by decide +kernel
theorem dX6_tick_65 : decode cX6_tick 65 = .ok (.bipush 8, 2) := by decide +kernel
theorem dX6_tick_67 : decode cX6_tick 67 = .ok (.iload_n 2, 1) := by decide +kernel
theorem dX6_tick_68 : decode cX6_tick 68 = .ok (.iadd, 1) := by decide +kernel
theorem dX6_tick_69 : decode cX6_tick 69 = .ok (.dup2, 1) := by decide +kernel
theorem dX6_tick_70 : decode cX6_tick 70 = .ok (.iaload, 1) := by decide +kernel
theorem dX6_tick_71 : decode cX6_tick 71 = .ok (.aload_n 0, 1) := by decide +kernel
theorem dX6_tick_72 : decode cX6_tick 72 = .ok (.getfield 7, 3) := by decide +kernel
theorem dX6_tick_75 : decode cX6_tick 75 = .ok (.bipush 8, 2) := by decide +kernel
theorem dX6_tick_77 : decode cX6_tick 77 = .ok (.iload_n 2, 1) := by decide +kernel
theorem dX6_tick_78 : decode cX6_tick 78 = .ok (.iadd, 1) := by decide +kernel
theorem dX6_tick_79 : decode cX6_tick 79 = .ok (.iaload, 1) := by decide +kernel
theorem dX6_tick_80 : decode cX6_tick 80 = .ok (.ifCond .le 7, 3) := by decide +kernel
theorem dX6_tick_83 : decode cX6_tick 83 = .ok (.iconst 1, 1) := by decide +kernel
theorem dX6_tick_84 : decode cX6_tick 84 = .ok (.goto 4, 3) := by decide +kernel
theorem dX6_tick_87 : decode cX6_tick 87 = .ok (.iconst 0, 1) := by decide +kernel
theorem dX6_tick_88 : decode cX6_tick 88 = .ok (.isub, 1) := by decide +kernel
theorem dX6_tick_89 : decode cX6_tick 89 = .ok (.iastore, 1) := by decide +kernel
theorem dX6_tick_90 : decode cX6_tick 90 = .ok (.iinc 2 1, 3) := by decide +kernel
theorem dX6_tick_93 : decode cX6_tick 93 = .ok (.goto (-38), 3) := by decide +kernel
theorem dX6_tick_96 : decode cX6_tick 96 = .ok (.aload_n 0, 1) := by decide +kernel
theorem dX6_tick_97 : decode cX6_tick 97 = .ok (.getfield 7, 3) := by decide +kernel
theorem dX6_tick_100 : decode cX6_tick 100 = .ok (.iconst 0, 1) := by decide +kernel
theorem dX6_tick_101 : decode cX6_tick 101 = .ok (.dup2, 1) := by decide +kernel
theorem dX6_tick_102 : decode cX6_tick 102 = .ok (.iaload, 1) := by decide +kernel
theorem dX6_tick_103 : decode cX6_tick 103 = .ok (.iconst 1, 1) := by decide +kernel
theorem dX6_tick_104 : decode cX6_tick 104 = .ok (.iadd, 1) := by decide +kernel
theorem dX6_tick_105 : decode cX6_tick 105 = .ok (.iastore, 1) := by decide +kernel
theorem dX6_tick_106 : decode cX6_tick 106 = .ok (.aload_n 0, 1) := by decide +kernel
theorem dX6_tick_107 : decode cX6_tick 107 = .ok (.getfield 7, 3) := by decide +kernel
theorem dX6_tick_110 : decode cX6_tick 110 = .ok (.iconst 2, 1) := by decide +kernel
theorem dX6_tick_111 : decode cX6_tick 111 = .ok (.dup2, 1) := by decide +kernel
theorem dX6_tick_112 : decode cX6_tick 112 = .ok (.iaload, 1) := by decide +kernel
theorem dX6_tick_113 : decode cX6_tick 113 = .ok (.iconst 1, 1) := by decide +kernel
theorem dX6_tick_114 : decode cX6_tick 114 = .ok (.iadd, 1) := by decide +kernel
theorem dX6_tick_115 : decode cX6_tick 115 = .ok (.iastore, 1) := by decide +kernel
theorem dX6_tick_116 : decode cX6_tick 116 = .ok (.iload_n 1, 1) := by decide +kernel
theorem dX6_tick_117 : decode cX6_tick 117 = .ok (.ireturn, 1) := by decide +kernel
theorem dX6_ticks_0 : decode cX6_ticks 0 = .ok (.iconst 0, 1) := by decide +kernel
theorem dX6_ticks_1 : decode cX6_ticks 1 = .ok (.istore_n 2, 1) := by decide +kernel
theorem dX6_ticks_2 : decode cX6_ticks 2 = .ok (.iconst 0, 1) := by decide +kernel
theorem dX6_ticks_3 : decode cX6_ticks 3 = .ok (.istore_n 3, 1) := by decide +kernel
theorem dX6_ticks_4 : decode cX6_ticks 4 = .ok (.iload_n 3, 1) := by decide +kernel
theorem dX6_ticks_5 : decode cX6_ticks 5 = .ok (.iload_n 1, 1) := by decide +kernel
theorem dX6_ticks_6 : decode cX6_ticks 6 = .ok (.if_icmp .ge 16, 3) := by decide +kernel
theorem dX6_ticks_9 : decode cX6_ticks 9 = .ok (.iload_n 2, 1) := by decide +kernel
theorem dX6_ticks_10 : decode cX6_ticks 10 = .ok (.aload_n 0, 1) := by decide +kernel
theorem dX6_ticks_11 : decode cX6_ticks 11 = .ok (.invokevirtual 84, 3) := by decide +kernel
theorem dX6_ticks_14 : decode cX6_ticks 14 = .ok (.iadd, 1) := by decide +kernel
theorem dX6_ticks_15 : decode cX6_ticks 15 = .ok (.istore_n 2, 1) := by decide +kernel
theorem dX6_ticks_16 : decode cX6_ticks 16 = .ok (.iinc 3 1, 3) := by decide +kernel
theorem dX6_ticks_19 : decode cX6_ticks 19 = .ok (.goto (-15), 3) := by decide +kernel
theorem dX6_ticks_22 : decode cX6_ticks 22 = .ok (.iload_n 2, 1) := by decide +kernel
theorem dX6_ticks_23 : decode cX6_ticks 23 = .ok (.ireturn, 1) := by decide +kernel
theorem dX6_loco_0 : decode cX6_loco 0 = .ok (.aload_n 0, 1) := by decide +kernel
theorem dX6_loco_1 : decode cX6_loco 1 = .ok (.iconst 0, 1) := by decide +kernel
theorem dX6_loco_2 : decode cX6_loco 2 = .ok (.putfield 32, 3) := by decide +kernel
theorem dX6_loco_5 : decode cX6_loco 5 = .ok (.iload_n 1, 1) := by decide +kernel
theorem dX6_loco_6 : decode cX6_loco 6 = .ok (.iconst 1, 1) := by decide +kernel
theorem dX6_loco_7 : decode cX6_loco 7 = .ok (.bipush 99, 2) := by decide +kernel
theorem dX6_loco_9 : decode cX6_loco 9 = .ok (.invokestatic 54, 3) := by decide +kernel
theorem dX6_loco_12 : decode cX6_loco 12 = .ok (.ifCond .eq 34, 3) := by decide +kernel
theorem dX6_loco_15 : decode cX6_loco 15 = .ok (.iload_n 2, 1) := by decide +kernel
theorem dX6_loco_16 : decode cX6_loco 16 = .ok (.iconst 1, 1) := by decide +kernel
theorem dX6_loco_17 : decode cX6_loco 17 = .ok (.bipush 20, 2) := by decide +kernel
theorem dX6_loco_19 : decode cX6_loco 19 = .ok (.invokestatic 54, 3) := by decide +kernel
theorem dX6_loco_22 : decode cX6_loco 22 = .ok (.ifCond .eq 24, 3) := by decide +kernel
theorem dX6_loco_25 : decode cX6_loco 25 = .ok (.iload_n 3, 1) := by decide +kernel
theorem dX6_loco_26 : decode cX6_loco 26 = .ok (.iconst 0, 1) := by decide +kernel
theorem dX6_loco_27 : decode cX6_loco 27 = .ok (.iconst 2, 1) := by decide +kernel
theorem dX6_loco_28 : decode cX6_loco 28 = .ok (.invokestatic 54, 3) := by decide +kernel
theorem dX6_loco_31 : decode cX6_loco 31 = .ok (.ifCond .eq 15, 3) := by decide +kernel
theorem dX6_loco_34 : decode cX6_loco 34 = .ok (.iload 4, 2) := by decide +kernel
theorem dX6_loco_36 : decode cX6_loco 36 = .ok (.iconst 0, 1) := by decide +kernel
theorem dX6_loco_37 : decode cX6_loco 37 = .ok (.sipush 799, 3) := by decide +kernel
theorem dX6_loco_40 : decode cX6_loco 40 = .ok (.invokestatic 54, 3) := by decide +kernel
theorem dX6_loco_43 : decode cX6_loco 43 = .ok (.ifCond .ne 6, 3) := by decide +kernel
theorem dX6_loco_46 : decode cX6_loco 46 = .ok (.bipush (-2), 2) := by decide +kernel
theorem dX6_loco_48 : decode cX6_loco 48 = .ok (.ireturn, 1) := by decide +kernel
theorem dX6_loco_49 : decode cX6_loco 49 = .ok (.aload_n 0, 1) := by decide +kernel
theorem dX6_loco_50 : decode cX6_loco 50 = .ok (.iload_n 1, 1) := by decide +kernel
theorem dX6_loco_51 : decode cX6_loco 51 = .ok (.invokevirtual 87, 3) := by decide +kernel
theorem dX6_loco_54 : decode cX6_loco 54 = .ok (.bipush (-6), 2) := by decide +kernel
theorem dX6_loco_56 : decode cX6_loco 56 = .ok (.if_icmp .eq 6, 3) := by decide +kernel
theorem dX6_loco_59 : decode cX6_loco 59 = .ok (.bipush (-5), 2) := by decide +kernel
theorem dX6_loco_61 : decode cX6_loco 61 = .ok (.ireturn, 1) := by decide +kernel
theorem dX6_loco_62 : decode cX6_loco 62 = .ok (.aload_n 0, 1) := by decide +kernel
theorem dX6_loco_63 : decode cX6_loco 63 = .ok (.getfield 7, 3) := by decide +kernel
theorem dX6_loco_66 : decode cX6_loco 66 = .ok (.bipush 6, 2) := by decide +kernel
theorem dX6_loco_68 : decode cX6_loco 68 = .ok (.iaload, 1) := by decide +kernel
theorem dX6_loco_69 : decode cX6_loco 69 = .ok (.bipush 8, 2) := by decide +kernel
theorem dX6_loco_71 : decode cX6_loco 71 = .ok (.if_icmp .ne 6, 3) := by decide +kernel
theorem dX6_loco_74 : decode cX6_loco 74 = .ok (.bipush (-4), 2) := by decide +kernel
theorem dX6_loco_76 : decode cX6_loco 76 = .ok (.ireturn, 1) := by decide +kernel
theorem dX6_loco_77 : decode cX6_loco 77 = .ok (.aload_n 0, 1) := by decide +kernel
theorem dX6_loco_78 : decode cX6_loco 78 = .ok (.invokevirtual 90, 3) := by decide +kernel
theorem dX6_loco_81 : decode cX6_loco 81 = .ok (.aload_n 0, 1) := by decide +kernel
theorem dX6_loco_82 : decode cX6_loco 82 = .ok (.getfield 7, 3) := by decide +kernel
theorem dX6_loco_85 : decode cX6_loco 85 = .ok (.bipush 6, 2) := by decide +kernel
theorem dX6_loco_87 : decode cX6_loco 87 = .ok (.iaload, 1) := by decide +kernel
theorem dX6_loco_88 : decode cX6_loco 88 = .ok (.istore 5, 2) := by decide +kernel
theorem dX6_loco_90 : decode cX6_loco 90 = .ok (.iload 5, 2) := by decide +kernel
theorem dX6_loco_92 : decode cX6_loco 92 = .ok (.ifCond .le 56, 3) := by decide +kernel
theorem dX6_loco_95 : decode cX6_loco 95 = .ok (.aload_n 0, 1) := by decide +kernel
theorem dX6_loco_96 : decode cX6_loco 96 = .ok (.iload 5, 2) := by decide +kernel
theorem dX6_loco_98 : decode cX6_loco 98 = .ok (.iconst 1, 1) := by decide +kernel
theorem dX6_loco_99 : decode cX6_loco 99 = .ok (.isub, 1) := by decide +kernel
theorem dX6_loco_100 : decode cX6_loco 100 = .ok (.iconst 0, 1) := by decide +kernel
theorem dX6_loco_101 : decode cX6_loco 101 = .ok (.invokevirtual 36, 3) := by decide +kernel
theorem dX6_loco_104 : decode cX6_loco 104 = .ok (.iload_n 1, 1) := by decide +kernel
theorem dX6_loco_105 : decode cX6_loco 105 = .ok (.if_icmp .le 43, 3) := by decide +kernel
theorem dX6_loco_108 : decode cX6_loco 108 = .ok (.iconst 0, 1) := by decide +kernel
theorem dX6_loco_109 : decode cX6_loco 109 = .ok (.istore 6, 2) := by decide +kernel
theorem dX6_loco_111 : decode cX6_loco 111 = .ok (.iload 6, 2) := by decide +kernel
theorem dX6_loco_113 : decode cX6_loco 113 = .ok (.bipush 11, 2) := by decide +kernel
theorem dX6_loco_115 : decode cX6_loco 115 = .ok (.if_icmp .ge 27, 3) := by decide +kernel
theorem dX6_loco_118 : decode cX6_loco 118 = .ok (.aload_n 0, 1) := by decide +kernel
theorem dX6_loco_119 : decode cX6_loco 119 = .ok (.iload 5, 2) := by decide +kernel
theorem dX6_loco_121 : decode cX6_loco 121 = .ok (.iload 6, 2) := by decide +kernel
theorem dX6_loco_123 : decode cX6_loco 123 = .ok (.aload_n 0, 1) := by decide +kernel
theorem dX6_loco_124 : decode cX6_loco 124 = .ok (.iload 5, 2) := by decide +kernel
theorem dX6_loco_126 : decode cX6_loco 126 = .ok (.iconst 1, 1) := by decide +kernel
theorem dX6_loco_127 : decode cX6_loco 127 = .ok (.isub, 1) := by decide +kernel
theorem dX6_loco_128 : decode cX6_loco 128 = .ok (.iload 6, 2) := by decide +kernel
theorem dX6_loco_130 : decode cX6_loco 130 = .ok (.invokevirtual 36, 3) := by decide +kernel
theorem dX6_loco_133 : decode cX6_loco 133 = .ok (.invokevirtual 50, 3) := by decide +kernel
theorem dX6_loco_136 : decode cX6_loco 136 = .ok (.iinc 6 1, 3) := by decide +kernel
theorem dX6_loco_139 : decode cX6_loco 139 = .ok (.goto (-28), 3) := by decide +kernel
theorem dX6_loco_142 : decode cX6_loco 142 = .ok (.iinc 5 (-1), 3) := by decide +kernel
theorem dX6_loco_145 : decode cX6_loco 145 = .ok (.goto (-55), 3) := by decide +kernel
theorem dX6_loco_148 : decode cX6_loco 148 = .ok (.iconst 0, 1) := by decide +kernel
theorem dX6_loco_149 : decode cX6_loco 149 = .ok (.istore 6, 2) := by decide +kernel
theorem dX6_loco_151 : decode cX6_loco 151 = .ok (.iload 6, 2) := by decide +kernel
theorem dX6_loco_153 : decode cX6_loco 153 = .ok (.bipush 11, 2) := by decide +kernel
theorem dX6_loco_155 : decode cX6_loco 155 = .ok (.if_icmp .ge 18, 3) := by decide +kernel
theorem dX6_loco_158 : decode cX6_loco 158 = .ok (.aload_n 0, 1) := by decide +kernel
theorem dX6_loco_159 : decode cX6_loco 159 = .ok (.iload 5, 2) := by decide +kernel
theorem dX6_loco_161 : decode cX6_loco 161 = .ok (.iload 6, 2) := by decide +kernel
theorem dX6_loco_163 : decode cX6_loco 163 = .ok (.iconst 0, 1) := by decide +kernel
theorem dX6_loco_164 : decode cX6_loco 164 = .ok (.invokevirtual 50, 3) := by decide +kernel
theorem dX6_loco_167 : decode cX6_loco 167 = .ok (.iinc 6 1, 3) := by decide +kernel
theorem dX6_loco_170 : decode cX6_loco 170 = .ok (.goto (-19), 3) := by decide +kernel
theorem dX6_loco_173 : decode cX6_loco 173 = .ok (.aload_n 0, 1) := by decide +kernel
theorem dX6_loco_174 : decode cX6_loco 174 = .ok (.iload 5, 2) := by decide +kernel
theorem dX6_loco_176 : decode cX6_loco 176 = .ok (.iconst 0, 1) := by decide +kernel
theorem dX6_loco_177 : decode cX6_loco 177 = .ok (.iload_n 1, 1) := by decide +kernel
theorem dX6_loco_178 : decode cX6_loco 178 = .ok (.invokevirtual 50, 3) := by decide +kernel
theorem dX6_loco_181 : decode cX6_loco 181 = .ok (.aload_n 0, 1) := by decide +kernel
theorem dX6_loco_182 : decode cX6_loco 182 = .ok (.iload 5, 2) := by decide +kernel
theorem dX6_loco_184 : decode cX6_loco 184 = .ok (.iconst 1, 1) := by decide +kernel
theorem dX6_loco_185 : decode cX6_loco 185 = .ok (.iload_n 2, 1) := by decide +kernel
theorem dX6_loco_186 : decode cX6_loco 186 = .ok (.invokevirtual 50, 3) := by decide +kernel
theorem dX6_loco_189 : decode cX6_loco 189 = .ok (.aload_n 0, 1) := by decide +kernel
theorem dX6_loco_190 : decode cX6_loco 190 = .ok (.iload 5, 2) := by decide +kernel
theorem dX6_loco_192 : decode cX6_loco 192 = .ok (.iconst 2, 1) := by decide +kernel
theorem dX6_loco_193 : decode cX6_loco 193 = .ok (.iload_n 3, 1) := by decide +kernel
theorem dX6_loco_194 : decode cX6_loco 194 = .ok (.invokevirtual 50, 3) := by decide +kernel
theorem dX6_loco_197 : decode cX6_loco 197 = .ok (.aload_n 0, 1) := by decide +kernel
theorem dX6_loco_198 : decode cX6_loco 198 = .ok (.iload 5, 2) := by decide +kernel
theorem dX6_loco_200 : decode cX6_loco 200 = .ok (.iconst 3, 1) := by decide +kernel
theorem dX6_loco_201 : decode cX6_loco 201 = .ok (.iload 4, 2) := by decide +kernel
theorem dX6_loco_203 : decode cX6_loco 203 = .ok (.invokevirtual 50, 3) := by decide +kernel
theorem dX6_loco_206 : decode cX6_loco 206 = .ok (.aload_n 0, 1) := by decide +kernel
theorem dX6_loco_207 : decode cX6_loco 207 = .ok (.iload 5, 2) := by decide +kernel
theorem dX6_loco_209 : decode cX6_loco 209 = .ok (.bipush 7, 2) := by decide +kernel
theorem dX6_loco_211 : decode cX6_loco 211 = .ok (.iconst 1, 1) := by decide +kernel
theorem dX6_loco_212 : decode cX6_loco 212 = .ok (.invokevirtual 50, 3) := by decide +kernel
theorem dX6_loco_215 : decode cX6_loco 215 = .ok (.aload_n 0, 1) := by decide +kernel
theorem dX6_loco_216 : decode cX6_loco 216 = .ok (.getfield 7, 3) := by decide +kernel
theorem dX6_loco_219 : decode cX6_loco 219 = .ok (.bipush 6, 2) := by decide +kernel
theorem dX6_loco_221 : decode cX6_loco 221 = .ok (.dup2, 1) := by decide +kernel
theorem dX6_loco_222 : decode cX6_loco 222 = .ok (.iaload, 1) := by decide +kernel
theorem dX6_loco_223 : decode cX6_loco 223 = .ok (.iconst 1, 1) := by decide +kernel
theorem dX6_loco_224 : decode cX6_loco 224 = .ok (.iadd, 1) := by decide +kernel
theorem dX6_loco_225 : decode cX6_loco 225 = .ok (.iastore, 1) := by decide +kernel
theorem dX6_loco_226 : decode cX6_loco 226 = .ok (.aload_n 0, 1) := by decide +kernel
theorem dX6_loco_227 : decode cX6_loco 227 = .ok (.getfield 7, 3) := by decide +kernel
theorem dX6_loco_230 : decode cX6_loco 230 = .ok (.bipush 6, 2) := by decide +kernel
theorem dX6_loco_232 : decode cX6_loco 232 = .ok (.iaload, 1) := by decide +kernel
theorem dX6_loco_233 : decode cX6_loco 233 = .ok (.ireturn, 1) := by decide +kernel
theorem dX6_lift_0 : decode cX6_lift 0 = .ok (.aload_n 0, 1) := by decide +kernel
theorem dX6_lift_1 : decode cX6_lift 1 = .ok (.iconst 0, 1) := by decide +kernel
theorem dX6_lift_2 : decode cX6_lift 2 = .ok (.putfield 32, 3) := by decide +kernel
theorem dX6_lift_5 : decode cX6_lift 5 = .ok (.aload_n 0, 1) := by decide +kernel
theorem dX6_lift_6 : decode cX6_lift 6 = .ok (.iload_n 1, 1) := by decide +kernel
theorem dX6_lift_7 : decode cX6_lift 7 = .ok (.invokevirtual 87, 3) := by decide +kernel
theorem dX6_lift_10 : decode cX6_lift 10 = .ok (.istore_n 2, 1) := by decide +kernel
theorem dX6_lift_11 : decode cX6_lift 11 = .ok (.iload_n 2, 1) := by decide +kernel
theorem dX6_lift_12 : decode cX6_lift 12 = .ok (.bipush (-6), 2) := by decide +kernel
theorem dX6_lift_14 : decode cX6_lift 14 = .ok (.if_icmp .ne 5, 3) := by decide +kernel
theorem dX6_lift_17 : decode cX6_lift 17 = .ok (.iconst (-1), 1) := by decide +kernel
theorem dX6_lift_18 : decode cX6_lift 18 = .ok (.ireturn, 1) := by decide +kernel
theorem dX6_lift_19 : decode cX6_lift 19 = .ok (.aload_n 0, 1) := by decide +kernel
theorem dX6_lift_20 : decode cX6_lift 20 = .ok (.invokevirtual 90, 3) := by decide +kernel
theorem dX6_lift_23 : decode cX6_lift 23 = .ok (.aload_n 0, 1) := by decide +kernel
theorem dX6_lift_24 : decode cX6_lift 24 = .ok (.getfield 7, 3) := by decide +kernel
theorem dX6_lift_27 : decode cX6_lift 27 = .ok (.bipush 6, 2) := by decide +kernel
theorem dX6_lift_29 : decode cX6_lift 29 = .ok (.dup2, 1) := by decide +kernel
theorem dX6_lift_30 : decode cX6_lift 30 = .ok (.iaload, 1) := by decide +kernel
theorem dX6_lift_31 : decode cX6_lift 31 = .ok (.iconst 1, 1) := by decide +kernel
theorem dX6_lift_32 : decode cX6_lift 32 = .ok (.isub, 1) := by decide +kernel
theorem dX6_lift_33 : decode cX6_lift 33 = .ok (.iastore, 1) := by decide +kernel
theorem dX6_lift_34 : decode cX6_lift 34 = .ok (.bipush 11, 2) := by decide +kernel
theorem dX6_lift_36 : decode cX6_lift 36 = .ok (.iload_n 2, 1) := by decide +kernel
theorem dX6_lift_37 : decode cX6_lift 37 = .ok (.imul, 1) := by decide +kernel
theorem dX6_lift_38 : decode cX6_lift 38 = .ok (.istore_n 3, 1) := by decide +kernel
theorem dX6_lift_39 : decode cX6_lift 39 = .ok (.iload_n 3, 1) := by decide +kernel
theorem dX6_lift_40 : decode cX6_lift 40 = .ok (.bipush 11, 2) := by decide +kernel
theorem dX6_lift_42 : decode cX6_lift 42 = .ok (.aload_n 0, 1) := by decide +kernel
theorem dX6_lift_43 : decode cX6_lift 43 = .ok (.getfield 7, 3) := by decide +kernel
theorem dX6_lift_46 : decode cX6_lift 46 = .ok (.bipush 6, 2) := by decide +kernel
theorem dX6_lift_48 : decode cX6_lift 48 = .ok (.iaload, 1) := by decide +kernel
theorem dX6_lift_49 : decode cX6_lift 49 = .ok (.imul, 1) := by decide +kernel
theorem dX6_lift_50 : decode cX6_lift 50 = .ok (.if_icmp .ge 30, 3) := by decide +kernel
theorem dX6_lift_53 : decode cX6_lift 53 = .ok (.aload_n 0, 1) := by decide +kernel
theorem dX6_lift_54 : decode cX6_lift 54 = .ok (.getfield 7, 3) := by decide +kernel
theorem dX6_lift_57 : decode cX6_lift 57 = .ok (.bipush 16, 2) := by decide +kernel
theorem dX6_lift_59 : decode cX6_lift 59 = .ok (.iload_n 3, 1) := by decide +kernel
theorem dX6_lift_60 : decode cX6_lift 60 = .ok (.iadd, 1) := by decide +kernel
theorem dX6_lift_61 : decode cX6_lift 61 = .ok (.aload_n 0, 1) := by decide +kernel
theorem dX6_lift_62 : decode cX6_lift 62 = .ok (.getfield 7, 3) := by decide +kernel
theorem dX6_lift_65 : decode cX6_lift 65 = .ok (.bipush 16, 2) := by decide +kernel
theorem dX6_lift_67 : decode cX6_lift 67 = .ok (.iload_n 3, 1) := by decide +kernel
theorem dX6_lift_68 : decode cX6_lift 68 = .ok (.iadd, 1) := by decide +kernel
theorem dX6_lift_69 : decode cX6_lift 69 = .ok (.bipush 11, 2) := by decide +kernel
theorem dX6_lift_71 : decode cX6_lift 71 = .ok (.iadd, 1) := by decide +kernel
theorem dX6_lift_72 : decode cX6_lift 72 = .ok (.iaload, 1) := by decide +kernel
theorem dX6_lift_73 : decode cX6_lift 73 = .ok (.iastore, 1) := by decide +kernel
theorem dX6_lift_74 : decode cX6_lift 74 = .ok (.iinc 3 1, 3) := by decide +kernel
theorem dX6_lift_77 : decode cX6_lift 77 = .ok (.goto (-38), 3) := by decide +kernel
theorem dX6_lift_80 : decode cX6_lift 80 = .ok (.iconst 0, 1) := by decide +kernel
theorem dX6_lift_81 : decode cX6_lift 81 = .ok (.istore_n 3, 1) := by decide +kernel
theorem dX6_lift_82 : decode cX6_lift 82 = .ok (.iload_n 3, 1) := by decide +kernel
theorem dX6_lift_83 : decode cX6_lift 83 = .ok (.bipush 11, 2) := by decide +kernel
theorem dX6_lift_85 : decode cX6_lift 85 = .ok (.if_icmp .ge 22, 3) := by decide +kernel
theorem dX6_lift_88 : decode cX6_lift 88 = .ok (.aload_n 0, 1) := by decide +kernel
theorem dX6_lift_89 : decode cX6_lift 89 = .ok (.aload_n 0, 1) := by decide +kernel
theorem dX6_lift_90 : decode cX6_lift 90 = .ok (.getfield 7, 3) := by decide +kernel
theorem dX6_lift_93 : decode cX6_lift 93 = .ok (.bipush 6, 2) := by decide +kernel
theorem dX6_lift_95 : decode cX6_lift 95 = .ok (.iaload, 1) := by decide +kernel
theorem dX6_lift_96 : decode cX6_lift 96 = .ok (.iload_n 3, 1) := by decide +kernel
theorem dX6_lift_97 : decode cX6_lift 97 = .ok (.iconst 0, 1) := by decide +kernel
theorem dX6_lift_98 : decode cX6_lift 98 = .ok (.invokevirtual 50, 3) := by decide +kernel
theorem dX6_lift_101 : decode cX6_lift 101 = .ok (.iinc 3 1, 3) := by decide +kernel
theorem dX6_lift_104 : decode cX6_lift 104 = .ok (.goto (-22), 3) := by decide +kernel
theorem dX6_lift_107 : decode cX6_lift 107 = .ok (.aload_n 0, 1) := by decide +kernel
theorem dX6_lift_108 : decode cX6_lift 108 = .ok (.getfield 7, 3) := by decide +kernel
theorem dX6_lift_111 : decode cX6_lift 111 = .ok (.bipush 6, 2) := by decide +kernel
theorem dX6_lift_113 : decode cX6_lift 113 = .ok (.iaload, 1) := by decide +kernel
theorem dX6_lift_114 : decode cX6_lift 114 = .ok (.ireturn, 1) := by decide +kernel
theorem dX6_noise_0 : decode cX6_noise 0 = .ok (.aload_n 0, 1) := by decide +kernel
theorem dX6_noise_1 : decode cX6_noise 1 = .ok (.iconst 0, 1) := by decide +kernel
theorem dX6_noise_2 : decode cX6_noise 2 = .ok (.putfield 32, 3) := by decide +kernel
theorem dX6_noise_5 : decode cX6_noise 5 = .ok (.iload_n 1, 1) := by decide +kernel
theorem dX6_noise_6 : decode cX6_noise 6 = .ok (.iconst 0, 1) := by decide +kernel
theorem dX6_noise_7 : decode cX6_noise 7 = .ok (.bipush 9, 2) := by decide +kernel
theorem dX6_noise_9 : decode cX6_noise 9 = .ok (.invokestatic 54, 3) := by decide +kernel
theorem dX6_noise_12 : decode cX6_noise 12 = .ok (.ifCond .ne 6, 3) := by decide +kernel
theorem dX6_noise_15 : decode cX6_noise 15 = .ok (.bipush (-2), 2) := by decide +kernel
theorem dX6_noise_17 : decode cX6_noise 17 = .ok (.ireturn, 1) := by decide +kernel
theorem dX6_noise_18 : decode cX6_noise 18 = .ok (.aload_n 0, 1) := by decide +kernel
theorem dX6_noise_19 : decode cX6_noise 19 = .ok (.invokevirtual 90, 3) := by decide +kernel
theorem dX6_noise_22 : decode cX6_noise 22 = .ok (.aload_n 0, 1) := by decide +kernel
theorem dX6_noise_23 : decode cX6_noise 23 = .ok (.getfield 7, 3) := by decide +kernel
theorem dX6_noise_26 : decode cX6_noise 26 = .ok (.iconst 1, 1) := by decide +kernel
theorem dX6_noise_27 : decode cX6_noise 27 = .ok (.iaload, 1) := by decide +kernel
theorem dX6_noise_28 : decode cX6_noise 28 = .ok (.istore_n 2, 1) := by decide +kernel
theorem dX6_noise_29 : decode cX6_noise 29 = .ok (.aload_n 0, 1) := by decide +kernel
theorem dX6_noise_30 : decode cX6_noise 30 = .ok (.getfield 7, 3) := by decide +kernel
theorem dX6_noise_33 : decode cX6_noise 33 = .ok (.iconst 1, 1) := by decide +kernel
theorem dX6_noise_34 : decode cX6_noise 34 = .ok (.iload_n 1, 1) := by decide +kernel
theorem dX6_noise_35 : decode cX6_noise 35 = .ok (.iastore, 1) := by decide +kernel
theorem dX6_noise_36 : decode cX6_noise 36 = .ok (.iload_n 2, 1) := by decide +kernel
theorem dX6_noise_37 : decode cX6_noise 37 = .ok (.ireturn, 1) := by decide +kernel
theorem dX6_refusesOrder_0 : decode cX6_refusesOrder 0 = .ok (.iload_n 1, 1) := by decide +kernel
theorem dX6_refusesOrder_1 : decode cX6_refusesOrder 1 = .ok (.iconst 0, 1) := by decide +kernel
theorem dX6_refusesOrder_2 : decode cX6_refusesOrder 2 = .ok (.bipush 99, 2) := by decide +kernel
theorem dX6_refusesOrder_4 : decode cX6_refusesOrder 4 = .ok (.invokestatic 54, 3) := by decide +kernel
theorem dX6_refusesOrder_7 : decode cX6_refusesOrder 7 = .ok (.ifCond .eq 23, 3) := by decide +kernel
theorem dX6_refusesOrder_10 : decode cX6_refusesOrder 10 = .ok (.iload_n 2, 1) := by decide +kernel
theorem dX6_refusesOrder_11 : decode cX6_refusesOrder 11 = .ok (.iconst 0, 1) := by decide +kernel
theorem dX6_refusesOrder_12 : decode cX6_refusesOrder 12 = .ok (.sipush 255, 3) := by decide +kernel
theorem dX6_refusesOrder_15 : decode cX6_refusesOrder 15 = .ok (.invokestatic 54, 3) := by decide +kernel
theorem dX6_refusesOrder_18 : decode cX6_refusesOrder 18 = .ok (.ifCond .eq 12, 3) := by decide +kernel
theorem dX6_refusesOrder_21 : decode cX6_refusesOrder 21 = .ok (.iload_n 3, 1) := by decide +kernel
theorem dX6_refusesOrder_22 : decode cX6_refusesOrder 22 = .ok (.iconst 0, 1) := by decide +kernel
theorem dX6_refusesOrder_23 : decode cX6_refusesOrder 23 = .ok (.iconst 3, 1) := by decide +kernel
theorem dX6_refusesOrder_24 : decode cX6_refusesOrder 24 = .ok (.invokestatic 54, 3) := by decide +kernel
theorem dX6_refusesOrder_27 : decode cX6_refusesOrder 27 = .ok (.ifCond .ne 6, 3) := by decide +kernel
theorem dX6_refusesOrder_30 : decode cX6_refusesOrder 30 = .ok (.bipush (-2), 2) := by decide +kernel
theorem dX6_refusesOrder_32 : decode cX6_refusesOrder 32 = .ok (.ireturn, 1) := by decide +kernel
theorem dX6_refusesOrder_33 : decode cX6_refusesOrder 33 = .ok (.aload_n 0, 1) := by decide +kernel
theorem dX6_refusesOrder_34 : decode cX6_refusesOrder 34 = .ok (.getfield 7, 3) := by decide +kernel
theorem dX6_refusesOrder_37 : decode cX6_refusesOrder 37 = .ok (.bipush 7, 2) := by decide +kernel
theorem dX6_refusesOrder_39 : decode cX6_refusesOrder 39 = .ok (.iaload, 1) := by decide +kernel
theorem dX6_refusesOrder_40 : decode cX6_refusesOrder 40 = .ok (.bipush 20, 2) := by decide +kernel
theorem dX6_refusesOrder_42 : decode cX6_refusesOrder 42 = .ok (.if_icmp .ne 8, 3) := by decide +kernel
theorem dX6_refusesOrder_45 : decode cX6_refusesOrder 45 = .ok (.bipush (-4), 2) := by decide +kernel
theorem dX6_refusesOrder_47 : decode cX6_refusesOrder 47 = .ok (.goto 4, 3) := by decide +kernel
theorem dX6_refusesOrder_50 : decode cX6_refusesOrder 50 = .ok (.iconst 0, 1) := by decide +kernel
theorem dX6_refusesOrder_51 : decode cX6_refusesOrder 51 = .ok (.ireturn, 1) := by decide +kernel
theorem dX6_laysOrder_0 : decode cX6_laysOrder 0 = .ok (.aload_n 0, 1) := by decide +kernel
theorem dX6_laysOrder_1 : decode cX6_laysOrder 1 = .ok (.getfield 7, 3) := by decide +kernel
theorem dX6_laysOrder_4 : decode cX6_laysOrder 4 = .ok (.bipush 7, 2) := by decide +kernel
theorem dX6_laysOrder_6 : decode cX6_laysOrder 6 = .ok (.iaload, 1) := by decide +kernel
theorem dX6_laysOrder_7 : decode cX6_laysOrder 7 = .ok (.istore 4, 2) := by decide +kernel
theorem dX6_laysOrder_9 : decode cX6_laysOrder 9 = .ok (.iload 4, 2) := by decide +kernel
theorem dX6_laysOrder_11 : decode cX6_laysOrder 11 = .ok (.ifCond .le 74, 3) := by decide +kernel
theorem dX6_laysOrder_14 : decode cX6_laysOrder 14 = .ok (.aload_n 0, 1) := by decide +kernel
theorem dX6_laysOrder_15 : decode cX6_laysOrder 15 = .ok (.getfield 7, 3) := by decide +kernel
theorem dX6_laysOrder_18 : decode cX6_laysOrder 18 = .ok (.bipush 104, 2) := by decide +kernel
theorem dX6_laysOrder_20 : decode cX6_laysOrder 20 = .ok (.iconst 3, 1) := by decide +kernel
theorem dX6_laysOrder_21 : decode cX6_laysOrder 21 = .ok (.iload 4, 2) := by decide +kernel
theorem dX6_laysOrder_23 : decode cX6_laysOrder 23 = .ok (.imul, 1) := by decide +kernel
theorem dX6_laysOrder_24 : decode cX6_laysOrder 24 = .ok (.iadd, 1) := by decide +kernel
theorem dX6_laysOrder_25 : decode cX6_laysOrder 25 = .ok (.iconst 1, 1) := by decide +kernel
theorem dX6_laysOrder_26 : decode cX6_laysOrder 26 = .ok (.isub, 1) := by decide +kernel
theorem dX6_laysOrder_27 : decode cX6_laysOrder 27 = .ok (.iaload, 1) := by decide +kernel
theorem dX6_laysOrder_28 : decode cX6_laysOrder 28 = .ok (.iload_n 3, 1) := by decide +kernel
theorem dX6_laysOrder_29 : decode cX6_laysOrder 29 = .ok (.if_icmp .ge 56, 3) := by decide +kernel
theorem dX6_laysOrder_32 : decode cX6_laysOrder 32 = .ok (.iconst 0, 1) := by decide +kernel
theorem dX6_laysOrder_33 : decode cX6_laysOrder 33 = .ok (.istore 5, 2) := by decide +kernel
theorem dX6_laysOrder_35 : decode cX6_laysOrder 35 = .ok (.iload 5, 2) := by decide +kernel
theorem dX6_laysOrder_37 : decode cX6_laysOrder 37 = .ok (.iconst 3, 1) := by decide +kernel
theorem dX6_laysOrder_38 : decode cX6_laysOrder 38 = .ok (.if_icmp .ge 41, 3) := by decide +kernel
theorem dX6_laysOrder_41 : decode cX6_laysOrder 41 = .ok (.aload_n 0, 1) := by decide +kernel
theorem dX6_laysOrder_42 : decode cX6_laysOrder 42 = .ok (.getfield 7, 3) := by decide +kernel
theorem dX6_laysOrder_45 : decode cX6_laysOrder 45 = .ok (.bipush 104, 2) := by decide +kernel
theorem dX6_laysOrder_47 : decode cX6_laysOrder 47 = .ok (.iconst 3, 1) := by decide +kernel
theorem dX6_laysOrder_48 : decode cX6_laysOrder 48 = .ok (.iload 4, 2) := by decide +kernel
theorem dX6_laysOrder_50 : decode cX6_laysOrder 50 = .ok (.imul, 1) := by decide +kernel
theorem dX6_laysOrder_51 : decode cX6_laysOrder 51 = .ok (.iadd, 1) := by decide +kernel
theorem dX6_laysOrder_52 : decode cX6_laysOrder 52 = .ok (.iload 5, 2) := by decide +kernel
theorem dX6_laysOrder_54 : decode cX6_laysOrder 54 = .ok (.iadd, 1) := by decide +kernel
theorem dX6_laysOrder_55 : decode cX6_laysOrder 55 = .ok (.aload_n 0, 1) := by decide +kernel
theorem dX6_laysOrder_56 : decode cX6_laysOrder 56 = .ok (.getfield 7, 3) := by decide +kernel
theorem dX6_laysOrder_59 : decode cX6_laysOrder 59 = .ok (.bipush 104, 2) := by decide +kernel
theorem dX6_laysOrder_61 : decode cX6_laysOrder 61 = .ok (.iconst 3, 1) := by decide +kernel
theorem dX6_laysOrder_62 : decode cX6_laysOrder 62 = .ok (.iload 4, 2) := by decide +kernel
theorem dX6_laysOrder_64 : decode cX6_laysOrder 64 = .ok (.imul, 1) := by decide +kernel
theorem dX6_laysOrder_65 : decode cX6_laysOrder 65 = .ok (.iadd, 1) := by decide +kernel
theorem dX6_laysOrder_66 : decode cX6_laysOrder 66 = .ok (.iconst 3, 1) := by decide +kernel
theorem dX6_laysOrder_67 : decode cX6_laysOrder 67 = .ok (.isub, 1) := by decide +kernel
theorem dX6_laysOrder_68 : decode cX6_laysOrder 68 = .ok (.iload 5, 2) := by decide +kernel
theorem dX6_laysOrder_70 : decode cX6_laysOrder 70 = .ok (.iadd, 1) := by decide +kernel
theorem dX6_laysOrder_71 : decode cX6_laysOrder 71 = .ok (.iaload, 1) := by decide +kernel
theorem dX6_laysOrder_72 : decode cX6_laysOrder 72 = .ok (.iastore, 1) := by decide +kernel
theorem dX6_laysOrder_73 : decode cX6_laysOrder 73 = .ok (.iinc 5 1, 3) := by decide +kernel
theorem dX6_laysOrder_76 : decode cX6_laysOrder 76 = .ok (.goto (-41), 3) := by decide +kernel
theorem dX6_laysOrder_79 : decode cX6_laysOrder 79 = .ok (.iinc 4 (-1), 3) := by decide +kernel
theorem dX6_laysOrder_82 : decode cX6_laysOrder 82 = .ok (.goto (-73), 3) := by decide +kernel
theorem dX6_laysOrder_85 : decode cX6_laysOrder 85 = .ok (.aload_n 0, 1) := by decide +kernel
theorem dX6_laysOrder_86 : decode cX6_laysOrder 86 = .ok (.getfield 7, 3) := by decide +kernel
theorem dX6_laysOrder_89 : decode cX6_laysOrder 89 = .ok (.bipush 104, 2) := by decide +kernel
theorem dX6_laysOrder_91 : decode cX6_laysOrder 91 = .ok (.iconst 3, 1) := by decide +kernel
theorem dX6_laysOrder_92 : decode cX6_laysOrder 92 = .ok (.iload 4, 2) := by decide +kernel
theorem dX6_laysOrder_94 : decode cX6_laysOrder 94 = .ok (.imul, 1) := by decide +kernel
theorem dX6_laysOrder_95 : decode cX6_laysOrder 95 = .ok (.iadd, 1) := by decide +kernel
theorem dX6_laysOrder_96 : decode cX6_laysOrder 96 = .ok (.iload_n 1, 1) := by decide +kernel
theorem dX6_laysOrder_97 : decode cX6_laysOrder 97 = .ok (.iastore, 1) := by decide +kernel
theorem dX6_laysOrder_98 : decode cX6_laysOrder 98 = .ok (.aload_n 0, 1) := by decide +kernel
theorem dX6_laysOrder_99 : decode cX6_laysOrder 99 = .ok (.getfield 7, 3) := by decide +kernel
theorem dX6_laysOrder_102 : decode cX6_laysOrder 102 = .ok (.bipush 104, 2) := by decide +kernel
theorem dX6_laysOrder_104 : decode cX6_laysOrder 104 = .ok (.iconst 3, 1) := by decide +kernel
theorem dX6_laysOrder_105 : decode cX6_laysOrder 105 = .ok (.iload 4, 2) := by decide +kernel
theorem dX6_laysOrder_107 : decode cX6_laysOrder 107 = .ok (.imul, 1) := by decide +kernel
theorem dX6_laysOrder_108 : decode cX6_laysOrder 108 = .ok (.iadd, 1) := by decide +kernel
theorem dX6_laysOrder_109 : decode cX6_laysOrder 109 = .ok (.iconst 1, 1) := by decide +kernel
theorem dX6_laysOrder_110 : decode cX6_laysOrder 110 = .ok (.iadd, 1) := by decide +kernel
theorem dX6_laysOrder_111 : decode cX6_laysOrder 111 = .ok (.iload_n 2, 1) := by decide +kernel
theorem dX6_laysOrder_112 : decode cX6_laysOrder 112 = .ok (.iastore, 1) := by decide +kernel
theorem dX6_laysOrder_113 : decode cX6_laysOrder 113 = .ok (.aload_n 0, 1) := by decide +kernel
theorem dX6_laysOrder_114 : decode cX6_laysOrder 114 = .ok (.getfield 7, 3) := by decide +kernel
theorem dX6_laysOrder_117 : decode cX6_laysOrder 117 = .ok (.bipush 104, 2) := by decide +kernel
theorem dX6_laysOrder_119 : decode cX6_laysOrder 119 = .ok (.iconst 3, 1) := by decide +kernel
theorem dX6_laysOrder_120 : decode cX6_laysOrder 120 = .ok (.iload 4, 2) := by decide +kernel
theorem dX6_laysOrder_122 : decode cX6_laysOrder 122 = .ok (.imul, 1) := by decide +kernel
theorem dX6_laysOrder_123 : decode cX6_laysOrder 123 = .ok (.iadd, 1) := by decide +kernel
theorem dX6_laysOrder_124 : decode cX6_laysOrder 124 = .ok (.iconst 2, 1) := by decide +kernel
theorem dX6_laysOrder_125 : decode cX6_laysOrder 125 = .ok (.iadd, 1) := by decide +kernel
theorem dX6_laysOrder_126 : decode cX6_laysOrder 126 = .ok (.iload_n 3, 1) := by decide +kernel
theorem dX6_laysOrder_127 : decode cX6_laysOrder 127 = .ok (.iastore, 1) := by decide +kernel
theorem dX6_laysOrder_128 : decode cX6_laysOrder 128 = .ok (.aload_n 0, 1) := by decide +kernel
theorem dX6_laysOrder_129 : decode cX6_laysOrder 129 = .ok (.getfield 7, 3) := by decide +kernel
theorem dX6_laysOrder_132 : decode cX6_laysOrder 132 = .ok (.bipush 7, 2) := by decide +kernel
theorem dX6_laysOrder_134 : decode cX6_laysOrder 134 = .ok (.dup2, 1) := by decide +kernel
theorem dX6_laysOrder_135 : decode cX6_laysOrder 135 = .ok (.iaload, 1) := by decide +kernel
theorem dX6_laysOrder_136 : decode cX6_laysOrder 136 = .ok (.iconst 1, 1) := by decide +kernel
theorem dX6_laysOrder_137 : decode cX6_laysOrder 137 = .ok (.iadd, 1) := by decide +kernel
theorem dX6_laysOrder_138 : decode cX6_laysOrder 138 = .ok (.iastore, 1) := by decide +kernel
theorem dX6_laysOrder_139 : decode cX6_laysOrder 139 = .ok (.aload_n 0, 1) := by decide +kernel
theorem dX6_laysOrder_140 : decode cX6_laysOrder 140 = .ok (.getfield 7, 3) := by decide +kernel
theorem dX6_laysOrder_143 : decode cX6_laysOrder 143 = .ok (.bipush 7, 2) := by decide +kernel
theorem dX6_laysOrder_145 : decode cX6_laysOrder 145 = .ok (.iaload, 1) := by decide +kernel
theorem dX6_laysOrder_146 : decode cX6_laysOrder 146 = .ok (.ireturn, 1) := by decide +kernel
theorem dX6_order_0 : decode cX6_order 0 = .ok (.aload_n 0, 1) := by decide +kernel
theorem dX6_order_1 : decode cX6_order 1 = .ok (.iconst 0, 1) := by decide +kernel
theorem dX6_order_2 : decode cX6_order 2 = .ok (.putfield 32, 3) := by decide +kernel
theorem dX6_order_5 : decode cX6_order 5 = .ok (.aload_n 0, 1) := by decide +kernel
theorem dX6_order_6 : decode cX6_order 6 = .ok (.iload_n 1, 1) := by decide +kernel
theorem dX6_order_7 : decode cX6_order 7 = .ok (.iload_n 2, 1) := by decide +kernel
theorem dX6_order_8 : decode cX6_order 8 = .ok (.iload_n 3, 1) := by decide +kernel
theorem dX6_order_9 : decode cX6_order 9 = .ok (.invokevirtual 93, 3) := by decide +kernel
theorem dX6_order_12 : decode cX6_order 12 = .ok (.istore 4, 2) := by decide +kernel
theorem dX6_order_14 : decode cX6_order 14 = .ok (.iload 4, 2) := by decide +kernel
theorem dX6_order_16 : decode cX6_order 16 = .ok (.ifCond .eq 6, 3) := by decide +kernel
theorem dX6_order_19 : decode cX6_order 19 = .ok (.iload 4, 2) := by decide +kernel
theorem dX6_order_21 : decode cX6_order 21 = .ok (.ireturn, 1) := by decide +kernel
theorem dX6_order_22 : decode cX6_order 22 = .ok (.aload_n 0, 1) := by decide +kernel
theorem dX6_order_23 : decode cX6_order 23 = .ok (.invokevirtual 90, 3) := by decide +kernel
theorem dX6_order_26 : decode cX6_order 26 = .ok (.aload_n 0, 1) := by decide +kernel
theorem dX6_order_27 : decode cX6_order 27 = .ok (.iload_n 1, 1) := by decide +kernel
theorem dX6_order_28 : decode cX6_order 28 = .ok (.iload_n 2, 1) := by decide +kernel
theorem dX6_order_29 : decode cX6_order 29 = .ok (.iload_n 3, 1) := by decide +kernel
theorem dX6_order_30 : decode cX6_order 30 = .ok (.invokevirtual 96, 3) := by decide +kernel
theorem dX6_order_33 : decode cX6_order 33 = .ok (.ireturn, 1) := by decide +kernel
theorem dX6_refusesFrame_0 : decode cX6_refusesFrame 0 = .ok (.iload_n 0, 1) := by decide +kernel
theorem dX6_refusesFrame_1 : decode cX6_refusesFrame 1 = .ok (.iconst 0, 1) := by decide +kernel
theorem dX6_refusesFrame_2 : decode cX6_refusesFrame 2 = .ok (.sipush 255, 3) := by decide +kernel
theorem dX6_refusesFrame_5 : decode cX6_refusesFrame 5 = .ok (.invokestatic 54, 3) := by decide +kernel
theorem dX6_refusesFrame_8 : decode cX6_refusesFrame 8 = .ok (.ifCond .eq 29, 3) := by decide +kernel
theorem dX6_refusesFrame_11 : decode cX6_refusesFrame 11 = .ok (.iload_n 1, 1) := by decide +kernel
theorem dX6_refusesFrame_12 : decode cX6_refusesFrame 12 = .ok (.iconst 0, 1) := by decide +kernel
theorem dX6_refusesFrame_13 : decode cX6_refusesFrame 13 = .ok (.sipush 255, 3) := by decide +kernel
theorem dX6_refusesFrame_16 : decode cX6_refusesFrame 16 = .ok (.invokestatic 54, 3) := by decide +kernel
theorem dX6_refusesFrame_19 : decode cX6_refusesFrame 19 = .ok (.ifCond .eq 18, 3) := by decide +kernel
theorem dX6_refusesFrame_22 : decode cX6_refusesFrame 22 = .ok (.iload_n 2, 1) := by decide +kernel
theorem dX6_refusesFrame_23 : decode cX6_refusesFrame 23 = .ok (.iconst 0, 1) := by decide +kernel
theorem dX6_refusesFrame_24 : decode cX6_refusesFrame 24 = .ok (.sipush 255, 3) := by decide +kernel
theorem dX6_refusesFrame_27 : decode cX6_refusesFrame 27 = .ok (.invokestatic 54, 3) := by decide +kernel
theorem dX6_refusesFrame_30 : decode cX6_refusesFrame 30 = .ok (.ifCond .eq 7, 3) := by decide +kernel
theorem dX6_refusesFrame_33 : decode cX6_refusesFrame 33 = .ok (.iconst 0, 1) := by decide +kernel
theorem dX6_refusesFrame_34 : decode cX6_refusesFrame 34 = .ok (.goto 5, 3) := by decide +kernel
theorem dX6_refusesFrame_37 : decode cX6_refusesFrame 37 = .ok (.bipush (-2), 2) := by decide +kernel
theorem dX6_refusesFrame_39 : decode cX6_refusesFrame 39 = .ok (.ireturn, 1) := by decide +kernel
theorem dX6_frame_0 : decode cX6_frame 0 = .ok (.aload_n 0, 1) := by decide +kernel
theorem dX6_frame_1 : decode cX6_frame 1 = .ok (.iconst 0, 1) := by decide +kernel
theorem dX6_frame_2 : decode cX6_frame 2 = .ok (.putfield 32, 3) := by decide +kernel
theorem dX6_frame_5 : decode cX6_frame 5 = .ok (.iload_n 1, 1) := by decide +kernel
theorem dX6_frame_6 : decode cX6_frame 6 = .ok (.iload_n 2, 1) := by decide +kernel
theorem dX6_frame_7 : decode cX6_frame 7 = .ok (.iload_n 3, 1) := by decide +kernel
theorem dX6_frame_8 : decode cX6_frame 8 = .ok (.invokestatic 99, 3) := by decide +kernel
theorem dX6_frame_11 : decode cX6_frame 11 = .ok (.istore 4, 2) := by decide +kernel
theorem dX6_frame_13 : decode cX6_frame 13 = .ok (.iload 4, 2) := by decide +kernel
theorem dX6_frame_15 : decode cX6_frame 15 = .ok (.ifCond .eq 6, 3) := by decide +kernel
theorem dX6_frame_18 : decode cX6_frame 18 = .ok (.iload 4, 2) := by decide +kernel
theorem dX6_frame_20 : decode cX6_frame 20 = .ok (.ireturn, 1) := by decide +kernel
theorem dX6_frame_21 : decode cX6_frame 21 = .ok (.aload_n 0, 1) := by decide +kernel
theorem dX6_frame_22 : decode cX6_frame 22 = .ok (.invokevirtual 90, 3) := by decide +kernel
theorem dX6_frame_25 : decode cX6_frame 25 = .ok (.aload_n 0, 1) := by decide +kernel
theorem dX6_frame_26 : decode cX6_frame 26 = .ok (.iload_n 1, 1) := by decide +kernel
theorem dX6_frame_27 : decode cX6_frame 27 = .ok (.iload_n 2, 1) := by decide +kernel
theorem dX6_frame_28 : decode cX6_frame 28 = .ok (.iload_n 3, 1) := by decide +kernel
theorem dX6_frame_29 : decode cX6_frame 29 = .ok (.invokevirtual 66, 3) := by decide +kernel
theorem dX6_frame_32 : decode cX6_frame 32 = .ok (.ireturn, 1) := by decide +kernel
theorem dX6_refusesShorts_0 : decode cX6_refusesShorts 0 = .ok (.iload_n 0, 1) := by decide +kernel
theorem dX6_refusesShorts_1 : decode cX6_refusesShorts 1 = .ok (.iconst 0, 1) := by decide +kernel
theorem dX6_refusesShorts_2 : decode cX6_refusesShorts 2 = .ok (.bipush 7, 2) := by decide +kernel
theorem dX6_refusesShorts_4 : decode cX6_refusesShorts 4 = .ok (.invokestatic 54, 3) := by decide +kernel
theorem dX6_refusesShorts_7 : decode cX6_refusesShorts 7 = .ok (.ifCond .ne 7, 3) := by decide +kernel
theorem dX6_refusesShorts_10 : decode cX6_refusesShorts 10 = .ok (.iconst (-1), 1) := by decide +kernel
theorem dX6_refusesShorts_11 : decode cX6_refusesShorts 11 = .ok (.goto 19, 3) := by decide +kernel
theorem dX6_refusesShorts_14 : decode cX6_refusesShorts 14 = .ok (.iload_n 1, 1) := by decide +kernel
theorem dX6_refusesShorts_15 : decode cX6_refusesShorts 15 = .ok (.iconst 0, 1) := by decide +kernel
theorem dX6_refusesShorts_16 : decode cX6_refusesShorts 16 = .ok (.bipush 99, 2) := by decide +kernel
theorem dX6_refusesShorts_18 : decode cX6_refusesShorts 18 = .ok (.invokestatic 54, 3) := by decide +kernel
theorem dX6_refusesShorts_21 : decode cX6_refusesShorts 21 = .ok (.ifCond .eq 7, 3) := by decide +kernel
theorem dX6_refusesShorts_24 : decode cX6_refusesShorts 24 = .ok (.iconst 0, 1) := by decide +kernel
theorem dX6_refusesShorts_25 : decode cX6_refusesShorts 25 = .ok (.goto 5, 3) := by decide +kernel
theorem dX6_refusesShorts_28 : decode cX6_refusesShorts 28 = .ok (.bipush (-2), 2) := by decide +kernel
theorem dX6_refusesShorts_30 : decode cX6_refusesShorts 30 = .ok (.ireturn, 1) := by decide +kernel
theorem dX6_shorts_0 : decode cX6_shorts 0 = .ok (.aload_n 0, 1) := by decide +kernel
theorem dX6_shorts_1 : decode cX6_shorts 1 = .ok (.iconst 0, 1) := by decide +kernel
theorem dX6_shorts_2 : decode cX6_shorts 2 = .ok (.putfield 32, 3) := by decide +kernel
theorem dX6_shorts_5 : decode cX6_shorts 5 = .ok (.iload_n 1, 1) := by decide +kernel
theorem dX6_shorts_6 : decode cX6_shorts 6 = .ok (.iload_n 2, 1) := by decide +kernel
theorem dX6_shorts_7 : decode cX6_shorts 7 = .ok (.invokestatic 102, 3) := by decide +kernel
theorem dX6_shorts_10 : decode cX6_shorts 10 = .ok (.istore_n 3, 1) := by decide +kernel
theorem dX6_shorts_11 : decode cX6_shorts 11 = .ok (.iload_n 3, 1) := by decide +kernel
theorem dX6_shorts_12 : decode cX6_shorts 12 = .ok (.ifCond .eq 5, 3) := by decide +kernel
theorem dX6_shorts_15 : decode cX6_shorts 15 = .ok (.iload_n 3, 1) := by decide +kernel
theorem dX6_shorts_16 : decode cX6_shorts 16 = .ok (.ireturn, 1) := by decide +kernel
theorem dX6_shorts_17 : decode cX6_shorts 17 = .ok (.aload_n 0, 1) := by decide +kernel
theorem dX6_shorts_18 : decode cX6_shorts 18 = .ok (.invokevirtual 90, 3) := by decide +kernel
theorem dX6_shorts_21 : decode cX6_shorts 21 = .ok (.aload_n 0, 1) := by decide +kernel
theorem dX6_shorts_22 : decode cX6_shorts 22 = .ok (.getfield 7, 3) := by decide +kernel
theorem dX6_shorts_25 : decode cX6_shorts 25 = .ok (.bipush 8, 2) := by decide +kernel
theorem dX6_shorts_27 : decode cX6_shorts 27 = .ok (.iload_n 1, 1) := by decide +kernel
theorem dX6_shorts_28 : decode cX6_shorts 28 = .ok (.iadd, 1) := by decide +kernel
theorem dX6_shorts_29 : decode cX6_shorts 29 = .ok (.iaload, 1) := by decide +kernel
theorem dX6_shorts_30 : decode cX6_shorts 30 = .ok (.istore 4, 2) := by decide +kernel
theorem dX6_shorts_32 : decode cX6_shorts 32 = .ok (.aload_n 0, 1) := by decide +kernel
theorem dX6_shorts_33 : decode cX6_shorts 33 = .ok (.getfield 7, 3) := by decide +kernel
theorem dX6_shorts_36 : decode cX6_shorts 36 = .ok (.bipush 8, 2) := by decide +kernel
theorem dX6_shorts_38 : decode cX6_shorts 38 = .ok (.iload_n 1, 1) := by decide +kernel
theorem dX6_shorts_39 : decode cX6_shorts 39 = .ok (.iadd, 1) := by decide +kernel
theorem dX6_shorts_40 : decode cX6_shorts 40 = .ok (.iload_n 2, 1) := by decide +kernel
theorem dX6_shorts_41 : decode cX6_shorts 41 = .ok (.iastore, 1) := by decide +kernel
theorem dX6_shorts_42 : decode cX6_shorts 42 = .ok (.iload 4, 2) := by decide +kernel
theorem dX6_shorts_44 : decode cX6_shorts 44 = .ok (.ireturn, 1) := by decide +kernel
theorem dX6_refusesPass_0 : decode cX6_refusesPass 0 = .ok (.iload_n 1, 1) := by decide +kernel
theorem dX6_refusesPass_1 : decode cX6_refusesPass 1 = .ok (.iconst 1, 1) := by decide +kernel
theorem dX6_refusesPass_2 : decode cX6_refusesPass 2 = .ok (.bipush 99, 2) := by decide +kernel
theorem dX6_refusesPass_4 : decode cX6_refusesPass 4 = .ok (.invokestatic 54, 3) := by decide +kernel
theorem dX6_refusesPass_7 : decode cX6_refusesPass 7 = .ok (.ifCond .ne 8, 3) := by decide +kernel
theorem dX6_refusesPass_10 : decode cX6_refusesPass 10 = .ok (.bipush (-2), 2) := by decide +kernel
theorem dX6_refusesPass_12 : decode cX6_refusesPass 12 = .ok (.goto 22, 3) := by decide +kernel
theorem dX6_refusesPass_15 : decode cX6_refusesPass 15 = .ok (.aload_n 0, 1) := by decide +kernel
theorem dX6_refusesPass_16 : decode cX6_refusesPass 16 = .ok (.getfield 7, 3) := by decide +kernel
theorem dX6_refusesPass_19 : decode cX6_refusesPass 19 = .ok (.iconst 0, 1) := by decide +kernel
theorem dX6_refusesPass_20 : decode cX6_refusesPass 20 = .ok (.iaload, 1) := by decide +kernel
theorem dX6_refusesPass_21 : decode cX6_refusesPass 21 = .ok (.iload_n 1, 1) := by decide +kernel
theorem dX6_refusesPass_22 : decode cX6_refusesPass 22 = .ok (.iadd, 1) := by decide +kernel
theorem dX6_refusesPass_23 : decode cX6_refusesPass 23 = .ok (.ldc 105, 2) := by decide +kernel
theorem dX6_refusesPass_25 : decode cX6_refusesPass 25 = .ok (.if_icmp .le 8, 3) := by decide +kernel
theorem dX6_refusesPass_28 : decode cX6_refusesPass 28 = .ok (.bipush (-5), 2) := by decide +kernel
theorem dX6_refusesPass_30 : decode cX6_refusesPass 30 = .ok (.goto 4, 3) := by decide +kernel
theorem dX6_refusesPass_33 : decode cX6_refusesPass 33 = .ok (.iconst 0, 1) := by decide +kernel
theorem dX6_refusesPass_34 : decode cX6_refusesPass 34 = .ok (.ireturn, 1) := by decide +kernel
theorem dX6_pass_0 : decode cX6_pass 0 = .ok (.aload_n 0, 1) := by decide +kernel
theorem dX6_pass_1 : decode cX6_pass 1 = .ok (.iconst 0, 1) := by decide +kernel
theorem dX6_pass_2 : decode cX6_pass 2 = .ok (.putfield 32, 3) := by decide +kernel
theorem dX6_pass_5 : decode cX6_pass 5 = .ok (.aload_n 0, 1) := by decide +kernel
theorem dX6_pass_6 : decode cX6_pass 6 = .ok (.iload_n 1, 1) := by decide +kernel
theorem dX6_pass_7 : decode cX6_pass 7 = .ok (.invokevirtual 106, 3) := by decide +kernel
theorem dX6_pass_10 : decode cX6_pass 10 = .ok (.istore_n 2, 1) := by decide +kernel
theorem dX6_pass_11 : decode cX6_pass 11 = .ok (.iload_n 2, 1) := by decide +kernel
theorem dX6_pass_12 : decode cX6_pass 12 = .ok (.ifCond .eq 5, 3) := by decide +kernel
theorem dX6_pass_15 : decode cX6_pass 15 = .ok (.iload_n 2, 1) := by decide +kernel
theorem dX6_pass_16 : decode cX6_pass 16 = .ok (.ireturn, 1) := by decide +kernel
theorem dX6_pass_17 : decode cX6_pass 17 = .ok (.aload_n 0, 1) := by decide +kernel
theorem dX6_pass_18 : decode cX6_pass 18 = .ok (.invokevirtual 90, 3) := by decide +kernel
theorem dX6_pass_21 : decode cX6_pass 21 = .ok (.aload_n 0, 1) := by decide +kernel
theorem dX6_pass_22 : decode cX6_pass 22 = .ok (.iload_n 1, 1) := by decide +kernel
theorem dX6_pass_23 : decode cX6_pass 23 = .ok (.invokevirtual 109, 3) := by decide +kernel
theorem dX6_pass_26 : decode cX6_pass 26 = .ok (.ireturn, 1) := by decide +kernel
theorem dX6_of_0 : decode cX6_of 0 = .ok (.aload_n 0, 1) := by decide +kernel
theorem dX6_of_1 : decode cX6_of 1 = .ok (.iconst 0, 1) := by decide +kernel
theorem dX6_of_2 : decode cX6_of 2 = .ok (.putfield 32, 3) := by decide +kernel
theorem dX6_of_5 : decode cX6_of 5 = .ok (.aload_n 0, 1) := by decide +kernel
theorem dX6_of_6 : decode cX6_of 6 = .ok (.iload_n 1, 1) := by decide +kernel
theorem dX6_of_7 : decode cX6_of 7 = .ok (.invokevirtual 87, 3) := by decide +kernel
theorem dX6_of_10 : decode cX6_of 10 = .ok (.istore_n 3, 1) := by decide +kernel
theorem dX6_of_11 : decode cX6_of 11 = .ok (.iload_n 3, 1) := by decide +kernel
theorem dX6_of_12 : decode cX6_of 12 = .ok (.bipush (-6), 2) := by decide +kernel
theorem dX6_of_14 : decode cX6_of 14 = .ok (.if_icmp .ne 5, 3) := by decide +kernel
theorem dX6_of_17 : decode cX6_of 17 = .ok (.iconst (-1), 1) := by decide +kernel
theorem dX6_of_18 : decode cX6_of 18 = .ok (.ireturn, 1) := by decide +kernel
theorem dX6_of_19 : decode cX6_of 19 = .ok (.iload_n 2, 1) := by decide +kernel
theorem dX6_of_20 : decode cX6_of 20 = .ok (.tableswitch 127 0 11 #[64, 64, 64, 64, 73, 84, 94, 94, 94, 101, 107, 115], 64) := by decide +kernel
theorem dX6_of_84 : decode cX6_of 84 = .ok (.aload_n 0, 1) := by decide +kernel
theorem dX6_of_85 : decode cX6_of 85 = .ok (.iload_n 3, 1) := by decide +kernel
theorem dX6_of_86 : decode cX6_of 86 = .ok (.iload_n 2, 1) := by decide +kernel
theorem dX6_of_87 : decode cX6_of 87 = .ok (.iconst 1, 1) := by decide +kernel
theorem dX6_of_88 : decode cX6_of 88 = .ok (.iadd, 1) := by decide +kernel
theorem dX6_of_89 : decode cX6_of 89 = .ok (.invokevirtual 36, 3) := by decide +kernel
theorem dX6_of_92 : decode cX6_of 92 = .ok (.ireturn, 1) := by decide +kernel
theorem dX6_of_93 : decode cX6_of 93 = .ok (.aload_n 0, 1) := by decide +kernel
theorem dX6_of_94 : decode cX6_of 94 = .ok (.iload_n 3, 1) := by decide +kernel
theorem dX6_of_95 : decode cX6_of 95 = .ok (.iconst 5, 1) := by decide +kernel
theorem dX6_of_96 : decode cX6_of 96 = .ok (.invokevirtual 36, 3) := by decide +kernel
theorem dX6_of_99 : decode cX6_of 99 = .ok (.sipush 1000, 3) := by decide +kernel
theorem dX6_of_102 : decode cX6_of 102 = .ok (.iadd, 1) := by decide +kernel
theorem dX6_of_103 : decode cX6_of 103 = .ok (.ireturn, 1) := by decide +kernel
theorem dX6_of_104 : decode cX6_of 104 = .ok (.aload_n 0, 1) := by decide +kernel
theorem dX6_of_105 : decode cX6_of 105 = .ok (.iload_n 3, 1) := by decide +kernel
theorem dX6_of_106 : decode cX6_of 106 = .ok (.invokevirtual 70, 3) := by decide +kernel
theorem dX6_of_109 : decode cX6_of 109 = .ok (.sipush 1000, 3) := by decide +kernel
theorem dX6_of_112 : decode cX6_of 112 = .ok (.iadd, 1) := by decide +kernel
theorem dX6_of_113 : decode cX6_of 113 = .ok (.ireturn, 1) := by decide +kernel
theorem dX6_of_114 : decode cX6_of 114 = .ok (.aload_n 0, 1) := by decide +kernel
theorem dX6_of_115 : decode cX6_of 115 = .ok (.iload_n 3, 1) := by decide +kernel
theorem dX6_of_116 : decode cX6_of 116 = .ok (.iload_n 2, 1) := by decide +kernel
theorem dX6_of_117 : decode cX6_of 117 = .ok (.invokevirtual 36, 3) := by decide +kernel
theorem dX6_of_120 : decode cX6_of 120 = .ok (.ireturn, 1) := by decide +kernel
theorem dX6_of_121 : decode cX6_of 121 = .ok (.aload_n 0, 1) := by decide +kernel
theorem dX6_of_122 : decode cX6_of 122 = .ok (.iload_n 3, 1) := by decide +kernel
theorem dX6_of_123 : decode cX6_of 123 = .ok (.invokevirtual 43, 3) := by decide +kernel
theorem dX6_of_126 : decode cX6_of 126 = .ok (.ireturn, 1) := by decide +kernel
theorem dX6_of_127 : decode cX6_of 127 = .ok (.aload_n 0, 1) := by decide +kernel
theorem dX6_of_128 : decode cX6_of 128 = .ok (.iload_n 3, 1) := by decide +kernel
theorem dX6_of_129 : decode cX6_of 129 = .ok (.bipush 9, 2) := by decide +kernel
theorem dX6_of_131 : decode cX6_of 131 = .ok (.invokevirtual 36, 3) := by decide +kernel
theorem dX6_of_134 : decode cX6_of 134 = .ok (.ireturn, 1) := by decide +kernel
theorem dX6_of_135 : decode cX6_of 135 = .ok (.aload_n 0, 1) := by decide +kernel
theorem dX6_of_136 : decode cX6_of 136 = .ok (.iload_n 3, 1) := by decide +kernel
theorem dX6_of_137 : decode cX6_of 137 = .ok (.bipush 10, 2) := by decide +kernel
theorem dX6_of_139 : decode cX6_of 139 = .ok (.invokevirtual 36, 3) := by decide +kernel
theorem dX6_of_142 : decode cX6_of 142 = .ok (.sipush 1000, 3) := by decide +kernel
theorem dX6_of_145 : decode cX6_of 145 = .ok (.iadd, 1) := by decide +kernel
theorem dX6_of_146 : decode cX6_of 146 = .ok (.ireturn, 1) := by decide +kernel
theorem dX6_of_147 : decode cX6_of 147 = .ok (.bipush (-2), 2) := by decide +kernel
theorem dX6_of_149 : decode cX6_of 149 = .ok (.ireturn, 1) := by decide +kernel
theorem dX6_address_0 : decode cX6_address 0 = .ok (.aload_n 0, 1) := by decide +kernel
theorem dX6_address_1 : decode cX6_address 1 = .ok (.iconst 0, 1) := by decide +kernel
theorem dX6_address_2 : decode cX6_address 2 = .ok (.putfield 32, 3) := by decide +kernel
theorem dX6_address_5 : decode cX6_address 5 = .ok (.iload_n 1, 1) := by decide +kernel
theorem dX6_address_6 : decode cX6_address 6 = .ok (.iconst 0, 1) := by decide +kernel
theorem dX6_address_7 : decode cX6_address 7 = .ok (.aload_n 0, 1) := by decide +kernel
theorem dX6_address_8 : decode cX6_address 8 = .ok (.getfield 7, 3) := by decide +kernel
theorem dX6_address_11 : decode cX6_address 11 = .ok (.bipush 6, 2) := by decide +kernel
theorem dX6_address_13 : decode cX6_address 13 = .ok (.iaload, 1) := by decide +kernel
theorem dX6_address_14 : decode cX6_address 14 = .ok (.iconst 1, 1) := by decide +kernel
theorem dX6_address_15 : decode cX6_address 15 = .ok (.isub, 1) := by decide +kernel
theorem dX6_address_16 : decode cX6_address 16 = .ok (.invokestatic 54, 3) := by decide +kernel
theorem dX6_address_19 : decode cX6_address 19 = .ok (.ifCond .eq 12, 3) := by decide +kernel
theorem dX6_address_22 : decode cX6_address 22 = .ok (.aload_n 0, 1) := by decide +kernel
theorem dX6_address_23 : decode cX6_address 23 = .ok (.iload_n 1, 1) := by decide +kernel
theorem dX6_address_24 : decode cX6_address 24 = .ok (.iconst 0, 1) := by decide +kernel
theorem dX6_address_25 : decode cX6_address 25 = .ok (.invokevirtual 36, 3) := by decide +kernel
theorem dX6_address_28 : decode cX6_address 28 = .ok (.goto 4, 3) := by decide +kernel
theorem dX6_address_31 : decode cX6_address 31 = .ok (.iconst (-1), 1) := by decide +kernel
theorem dX6_address_32 : decode cX6_address 32 = .ok (.ireturn, 1) := by decide +kernel
theorem dX6_waiting_0 : decode cX6_waiting 0 = .ok (.aload_n 0, 1) := by decide +kernel
theorem dX6_waiting_1 : decode cX6_waiting 1 = .ok (.iconst 0, 1) := by decide +kernel
theorem dX6_waiting_2 : decode cX6_waiting 2 = .ok (.putfield 32, 3) := by decide +kernel
theorem dX6_waiting_5 : decode cX6_waiting 5 = .ok (.iload_n 1, 1) := by decide +kernel
theorem dX6_waiting_6 : decode cX6_waiting 6 = .ok (.iconst 0, 1) := by decide +kernel
theorem dX6_waiting_7 : decode cX6_waiting 7 = .ok (.aload_n 0, 1) := by decide +kernel
theorem dX6_waiting_8 : decode cX6_waiting 8 = .ok (.getfield 7, 3) := by decide +kernel
theorem dX6_waiting_11 : decode cX6_waiting 11 = .ok (.bipush 7, 2) := by decide +kernel
theorem dX6_waiting_13 : decode cX6_waiting 13 = .ok (.iaload, 1) := by decide +kernel
theorem dX6_waiting_14 : decode cX6_waiting 14 = .ok (.iconst 1, 1) := by decide +kernel
theorem dX6_waiting_15 : decode cX6_waiting 15 = .ok (.isub, 1) := by decide +kernel
theorem dX6_waiting_16 : decode cX6_waiting 16 = .ok (.invokestatic 54, 3) := by decide +kernel
theorem dX6_waiting_19 : decode cX6_waiting 19 = .ok (.ifCond .ne 5, 3) := by decide +kernel
theorem dX6_waiting_22 : decode cX6_waiting 22 = .ok (.iconst (-1), 1) := by decide +kernel
theorem dX6_waiting_23 : decode cX6_waiting 23 = .ok (.ireturn, 1) := by decide +kernel
theorem dX6_waiting_24 : decode cX6_waiting 24 = .ok (.iload_n 2, 1) := by decide +kernel
theorem dX6_waiting_25 : decode cX6_waiting 25 = .ok (.iconst 0, 1) := by decide +kernel
theorem dX6_waiting_26 : decode cX6_waiting 26 = .ok (.iconst 2, 1) := by decide +kernel
theorem dX6_waiting_27 : decode cX6_waiting 27 = .ok (.invokestatic 54, 3) := by decide +kernel
theorem dX6_waiting_30 : decode cX6_waiting 30 = .ok (.ifCond .eq 19, 3) := by decide +kernel
theorem dX6_waiting_33 : decode cX6_waiting 33 = .ok (.aload_n 0, 1) := by decide +kernel
theorem dX6_waiting_34 : decode cX6_waiting 34 = .ok (.getfield 7, 3) := by decide +kernel
theorem dX6_waiting_37 : decode cX6_waiting 37 = .ok (.bipush 104, 2) := by decide +kernel
theorem dX6_waiting_39 : decode cX6_waiting 39 = .ok (.iconst 3, 1) := by decide +kernel
theorem dX6_waiting_40 : decode cX6_waiting 40 = .ok (.iload_n 1, 1) := by decide +kernel
theorem dX6_waiting_41 : decode cX6_waiting 41 = .ok (.imul, 1) := by decide +kernel
theorem dX6_waiting_42 : decode cX6_waiting 42 = .ok (.iadd, 1) := by decide +kernel
theorem dX6_waiting_43 : decode cX6_waiting 43 = .ok (.iload_n 2, 1) := by decide +kernel
theorem dX6_waiting_44 : decode cX6_waiting 44 = .ok (.iadd, 1) := by decide +kernel
theorem dX6_waiting_45 : decode cX6_waiting 45 = .ok (.iaload, 1) := by decide +kernel
theorem dX6_waiting_46 : decode cX6_waiting 46 = .ok (.goto 5, 3) := by decide +kernel
theorem dX6_waiting_49 : decode cX6_waiting 49 = .ok (.bipush (-2), 2) := by decide +kernel
theorem dX6_waiting_51 : decode cX6_waiting 51 = .ok (.ireturn, 1) := by decide +kernel
theorem dX6_locosIn_0 : decode cX6_locosIn 0 = .ok (.iconst 0, 1) := by decide +kernel
theorem dX6_locosIn_1 : decode cX6_locosIn 1 = .ok (.istore_n 2, 1) := by decide +kernel
theorem dX6_locosIn_2 : decode cX6_locosIn 2 = .ok (.iconst 0, 1) := by decide +kernel
theorem dX6_locosIn_3 : decode cX6_locosIn 3 = .ok (.istore_n 3, 1) := by decide +kernel
theorem dX6_locosIn_4 : decode cX6_locosIn 4 = .ok (.iload_n 3, 1) := by decide +kernel
theorem dX6_locosIn_5 : decode cX6_locosIn 5 = .ok (.aload_n 0, 1) := by decide +kernel
theorem dX6_locosIn_6 : decode cX6_locosIn 6 = .ok (.getfield 7, 3) := by decide +kernel
theorem dX6_locosIn_9 : decode cX6_locosIn 9 = .ok (.bipush 6, 2) := by decide +kernel
theorem dX6_locosIn_11 : decode cX6_locosIn 11 = .ok (.iaload, 1) := by decide +kernel
theorem dX6_locosIn_12 : decode cX6_locosIn 12 = .ok (.if_icmp .ge 26, 3) := by decide +kernel
theorem dX6_locosIn_15 : decode cX6_locosIn 15 = .ok (.iload_n 2, 1) := by decide +kernel
theorem dX6_locosIn_16 : decode cX6_locosIn 16 = .ok (.aload_n 0, 1) := by decide +kernel
theorem dX6_locosIn_17 : decode cX6_locosIn 17 = .ok (.iload_n 3, 1) := by decide +kernel
theorem dX6_locosIn_18 : decode cX6_locosIn 18 = .ok (.invokevirtual 43, 3) := by decide +kernel
theorem dX6_locosIn_21 : decode cX6_locosIn 21 = .ok (.iload_n 1, 1) := by decide +kernel
theorem dX6_locosIn_22 : decode cX6_locosIn 22 = .ok (.if_icmp .ne 7, 3) := by decide +kernel
theorem dX6_locosIn_25 : decode cX6_locosIn 25 = .ok (.iconst 1, 1) := by decide +kernel
theorem dX6_locosIn_26 : decode cX6_locosIn 26 = .ok (.goto 4, 3) := by decide +kernel
theorem dX6_locosIn_29 : decode cX6_locosIn 29 = .ok (.iconst 0, 1) := by decide +kernel
theorem dX6_locosIn_30 : decode cX6_locosIn 30 = .ok (.iadd, 1) := by decide +kernel
theorem dX6_locosIn_31 : decode cX6_locosIn 31 = .ok (.istore_n 2, 1) := by decide +kernel
theorem dX6_locosIn_32 : decode cX6_locosIn 32 = .ok (.iinc 3 1, 3) := by decide +kernel
theorem dX6_locosIn_35 : decode cX6_locosIn 35 = .ok (.goto (-31), 3) := by decide +kernel
theorem dX6_locosIn_38 : decode cX6_locosIn 38 = .ok (.iload_n 2, 1) := by decide +kernel
theorem dX6_locosIn_39 : decode cX6_locosIn 39 = .ok (.ireturn, 1) := by decide +kernel
theorem dX6_block_0 : decode cX6_block 0 = .ok (.aload_n 0, 1) := by decide +kernel
theorem dX6_block_1 : decode cX6_block 1 = .ok (.iconst 0, 1) := by decide +kernel
theorem dX6_block_2 : decode cX6_block 2 = .ok (.putfield 32, 3) := by decide +kernel
theorem dX6_block_5 : decode cX6_block 5 = .ok (.iload_n 1, 1) := by decide +kernel
theorem dX6_block_6 : decode cX6_block 6 = .ok (.iconst 0, 1) := by decide +kernel
theorem dX6_block_7 : decode cX6_block 7 = .ok (.bipush 7, 2) := by decide +kernel
theorem dX6_block_9 : decode cX6_block 9 = .ok (.invokestatic 54, 3) := by decide +kernel
theorem dX6_block_12 : decode cX6_block 12 = .ok (.ifCond .ne 5, 3) := by decide +kernel
theorem dX6_block_15 : decode cX6_block 15 = .ok (.iconst (-1), 1) := by decide +kernel
theorem dX6_block_16 : decode cX6_block 16 = .ok (.ireturn, 1) := by decide +kernel
theorem dX6_block_17 : decode cX6_block 17 = .ok (.iload_n 2, 1) := by decide +kernel
theorem dX6_block_18 : decode cX6_block 18 = .ok (.ifCond .ne 15, 3) := by decide +kernel
theorem dX6_block_21 : decode cX6_block 21 = .ok (.aload_n 0, 1) := by decide +kernel
theorem dX6_block_22 : decode cX6_block 22 = .ok (.getfield 7, 3) := by decide +kernel
theorem dX6_block_25 : decode cX6_block 25 = .ok (.bipush 8, 2) := by decide +kernel
theorem dX6_block_27 : decode cX6_block 27 = .ok (.iload_n 1, 1) := by decide +kernel
theorem dX6_block_28 : decode cX6_block 28 = .ok (.iadd, 1) := by decide +kernel
theorem dX6_block_29 : decode cX6_block 29 = .ok (.iaload, 1) := by decide +kernel
theorem dX6_block_30 : decode cX6_block 30 = .ok (.goto 18, 3) := by decide +kernel
theorem dX6_block_33 : decode cX6_block 33 = .ok (.iload_n 2, 1) := by decide +kernel
theorem dX6_block_34 : decode cX6_block 34 = .ok (.iconst 1, 1) := by decide +kernel
theorem dX6_block_35 : decode cX6_block 35 = .ok (.if_icmp .ne 11, 3) := by decide +kernel
theorem dX6_block_38 : decode cX6_block 38 = .ok (.aload_n 0, 1) := by decide +kernel
theorem dX6_block_39 : decode cX6_block 39 = .ok (.iload_n 1, 1) := by decide +kernel
theorem dX6_block_40 : decode cX6_block 40 = .ok (.invokevirtual 112, 3) := by decide +kernel
theorem dX6_block_43 : decode cX6_block 43 = .ok (.goto 5, 3) := by decide +kernel
theorem dX6_block_46 : decode cX6_block 46 = .ok (.bipush (-2), 2) := by decide +kernel
theorem dX6_block_48 : decode cX6_block 48 = .ok (.ireturn, 1) := by decide +kernel
theorem dX6_overBlocks_0 : decode cX6_overBlocks 0 = .ok (.iconst 0, 1) := by decide +kernel
theorem dX6_overBlocks_1 : decode cX6_overBlocks 1 = .ok (.istore_n 2, 1) := by decide +kernel
theorem dX6_overBlocks_2 : decode cX6_overBlocks 2 = .ok (.iconst 0, 1) := by decide +kernel
theorem dX6_overBlocks_3 : decode cX6_overBlocks 3 = .ok (.istore_n 3, 1) := by decide +kernel
theorem dX6_overBlocks_4 : decode cX6_overBlocks 4 = .ok (.iload_n 3, 1) := by decide +kernel
theorem dX6_overBlocks_5 : decode cX6_overBlocks 5 = .ok (.bipush 8, 2) := by decide +kernel
theorem dX6_overBlocks_7 : decode cX6_overBlocks 7 = .ok (.if_icmp .ge 52, 3) := by decide +kernel
theorem dX6_overBlocks_10 : decode cX6_overBlocks 10 = .ok (.iload_n 2, 1) := by decide +kernel
theorem dX6_overBlocks_11 : decode cX6_overBlocks 11 = .ok (.iload_n 1, 1) := by decide +kernel
theorem dX6_overBlocks_12 : decode cX6_overBlocks 12 = .ok (.bipush 7, 2) := by decide +kernel
theorem dX6_overBlocks_14 : decode cX6_overBlocks 14 = .ok (.if_icmp .ne 23, 3) := by decide +kernel
theorem dX6_overBlocks_17 : decode cX6_overBlocks 17 = .ok (.aload_n 0, 1) := by decide +kernel
theorem dX6_overBlocks_18 : decode cX6_overBlocks 18 = .ok (.getfield 7, 3) := by decide +kernel
theorem dX6_overBlocks_21 : decode cX6_overBlocks 21 = .ok (.bipush 8, 2) := by decide +kernel
theorem dX6_overBlocks_23 : decode cX6_overBlocks 23 = .ok (.iload_n 3, 1) := by decide +kernel
theorem dX6_overBlocks_24 : decode cX6_overBlocks 24 = .ok (.iadd, 1) := by decide +kernel
theorem dX6_overBlocks_25 : decode cX6_overBlocks 25 = .ok (.iaload, 1) := by decide +kernel
theorem dX6_overBlocks_26 : decode cX6_overBlocks 26 = .ok (.ifCond .le 7, 3) := by decide +kernel
theorem dX6_overBlocks_29 : decode cX6_overBlocks 29 = .ok (.iconst 1, 1) := by decide +kernel
theorem dX6_overBlocks_30 : decode cX6_overBlocks 30 = .ok (.goto 21, 3) := by decide +kernel
theorem dX6_overBlocks_33 : decode cX6_overBlocks 33 = .ok (.iconst 0, 1) := by decide +kernel
theorem dX6_overBlocks_34 : decode cX6_overBlocks 34 = .ok (.goto 17, 3) := by decide +kernel
theorem dX6_overBlocks_37 : decode cX6_overBlocks 37 = .ok (.aload_n 0, 1) := by decide +kernel
theorem dX6_overBlocks_38 : decode cX6_overBlocks 38 = .ok (.iload_n 3, 1) := by decide +kernel
theorem dX6_overBlocks_39 : decode cX6_overBlocks 39 = .ok (.invokevirtual 112, 3) := by decide +kernel
theorem dX6_overBlocks_42 : decode cX6_overBlocks 42 = .ok (.iconst 1, 1) := by decide +kernel
theorem dX6_overBlocks_43 : decode cX6_overBlocks 43 = .ok (.if_icmp .le 7, 3) := by decide +kernel
theorem dX6_overBlocks_46 : decode cX6_overBlocks 46 = .ok (.iconst 1, 1) := by decide +kernel
theorem dX6_overBlocks_47 : decode cX6_overBlocks 47 = .ok (.goto 4, 3) := by decide +kernel
theorem dX6_overBlocks_50 : decode cX6_overBlocks 50 = .ok (.iconst 0, 1) := by decide +kernel
theorem dX6_overBlocks_51 : decode cX6_overBlocks 51 = .ok (.iadd, 1) := by decide +kernel
theorem dX6_overBlocks_52 : decode cX6_overBlocks 52 = .ok (.istore_n 2, 1) := by decide +kernel
theorem dX6_overBlocks_53 : decode cX6_overBlocks 53 = .ok (.iinc 3 1, 3) := by decide +kernel
theorem dX6_overBlocks_56 : decode cX6_overBlocks 56 = .ok (.goto (-52), 3) := by decide +kernel
theorem dX6_overBlocks_59 : decode cX6_overBlocks 59 = .ok (.iload_n 2, 1) := by decide +kernel
theorem dX6_overBlocks_60 : decode cX6_overBlocks 60 = .ok (.ireturn, 1) := by decide +kernel
theorem dX6_allSpeeds_0 : decode cX6_allSpeeds 0 = .ok (.iconst 0, 1) := by decide +kernel
theorem dX6_allSpeeds_1 : decode cX6_allSpeeds 1 = .ok (.istore_n 1, 1) := by decide +kernel
theorem dX6_allSpeeds_2 : decode cX6_allSpeeds 2 = .ok (.iconst 0, 1) := by decide +kernel
theorem dX6_allSpeeds_3 : decode cX6_allSpeeds 3 = .ok (.istore_n 2, 1) := by decide +kernel
theorem dX6_allSpeeds_4 : decode cX6_allSpeeds 4 = .ok (.iload_n 2, 1) := by decide +kernel
theorem dX6_allSpeeds_5 : decode cX6_allSpeeds 5 = .ok (.aload_n 0, 1) := by decide +kernel
theorem dX6_allSpeeds_6 : decode cX6_allSpeeds 6 = .ok (.getfield 7, 3) := by decide +kernel
theorem dX6_allSpeeds_9 : decode cX6_allSpeeds 9 = .ok (.bipush 6, 2) := by decide +kernel
theorem dX6_allSpeeds_11 : decode cX6_allSpeeds 11 = .ok (.iaload, 1) := by decide +kernel
theorem dX6_allSpeeds_12 : decode cX6_allSpeeds 12 = .ok (.if_icmp .ge 18, 3) := by decide +kernel
theorem dX6_allSpeeds_15 : decode cX6_allSpeeds 15 = .ok (.iload_n 1, 1) := by decide +kernel
theorem dX6_allSpeeds_16 : decode cX6_allSpeeds 16 = .ok (.aload_n 0, 1) := by decide +kernel
theorem dX6_allSpeeds_17 : decode cX6_allSpeeds 17 = .ok (.iload_n 2, 1) := by decide +kernel
theorem dX6_allSpeeds_18 : decode cX6_allSpeeds 18 = .ok (.iconst 5, 1) := by decide +kernel
theorem dX6_allSpeeds_19 : decode cX6_allSpeeds 19 = .ok (.invokevirtual 36, 3) := by decide +kernel
theorem dX6_allSpeeds_22 : decode cX6_allSpeeds 22 = .ok (.iadd, 1) := by decide +kernel
theorem dX6_allSpeeds_23 : decode cX6_allSpeeds 23 = .ok (.istore_n 1, 1) := by decide +kernel
theorem dX6_allSpeeds_24 : decode cX6_allSpeeds 24 = .ok (.iinc 2 1, 3) := by decide +kernel
theorem dX6_allSpeeds_27 : decode cX6_allSpeeds 27 = .ok (.goto (-23), 3) := by decide +kernel
theorem dX6_allSpeeds_30 : decode cX6_allSpeeds 30 = .ok (.iload_n 1, 1) := by decide +kernel
theorem dX6_allSpeeds_31 : decode cX6_allSpeeds 31 = .ok (.ireturn, 1) := by decide +kernel
theorem dX6_count_0 : decode cX6_count 0 = .ok (.aload_n 0, 1) := by decide +kernel
theorem dX6_count_1 : decode cX6_count 1 = .ok (.iconst 0, 1) := by decide +kernel
theorem dX6_count_2 : decode cX6_count 2 = .ok (.putfield 32, 3) := by decide +kernel
theorem dX6_count_5 : decode cX6_count 5 = .ok (.iload_n 1, 1) := by decide +kernel
theorem dX6_count_6 : decode cX6_count 6 = .ok (.tableswitch 128 0 11 #[62, 69, 77, 85, 92, 92, 92, 103, 103, 109, 118, 123], 62) := by decide +kernel
theorem dX6_count_68 : decode cX6_count 68 = .ok (.aload_n 0, 1) := by decide +kernel
theorem dX6_count_69 : decode cX6_count 69 = .ok (.getfield 7, 3) := by decide +kernel
theorem dX6_count_72 : decode cX6_count 72 = .ok (.iconst 0, 1) := by decide +kernel
theorem dX6_count_73 : decode cX6_count 73 = .ok (.iaload, 1) := by decide +kernel
theorem dX6_count_74 : decode cX6_count 74 = .ok (.ireturn, 1) := by decide +kernel
theorem dX6_count_75 : decode cX6_count 75 = .ok (.aload_n 0, 1) := by decide +kernel
theorem dX6_count_76 : decode cX6_count 76 = .ok (.getfield 7, 3) := by decide +kernel
theorem dX6_count_79 : decode cX6_count 79 = .ok (.bipush 6, 2) := by decide +kernel
theorem dX6_count_81 : decode cX6_count 81 = .ok (.iaload, 1) := by decide +kernel
theorem dX6_count_82 : decode cX6_count 82 = .ok (.ireturn, 1) := by decide +kernel
theorem dX6_count_83 : decode cX6_count 83 = .ok (.aload_n 0, 1) := by decide +kernel
theorem dX6_count_84 : decode cX6_count 84 = .ok (.getfield 7, 3) := by decide +kernel
theorem dX6_count_87 : decode cX6_count 87 = .ok (.bipush 7, 2) := by decide +kernel
theorem dX6_count_89 : decode cX6_count 89 = .ok (.iaload, 1) := by decide +kernel
theorem dX6_count_90 : decode cX6_count 90 = .ok (.ireturn, 1) := by decide +kernel
theorem dX6_count_91 : decode cX6_count 91 = .ok (.aload_n 0, 1) := by decide +kernel
theorem dX6_count_92 : decode cX6_count 92 = .ok (.getfield 7, 3) := by decide +kernel
theorem dX6_count_95 : decode cX6_count 95 = .ok (.iconst 1, 1) := by decide +kernel
theorem dX6_count_96 : decode cX6_count 96 = .ok (.iaload, 1) := by decide +kernel
theorem dX6_count_97 : decode cX6_count 97 = .ok (.ireturn, 1) := by decide +kernel
theorem dX6_count_98 : decode cX6_count 98 = .ok (.aload_n 0, 1) := by decide +kernel
theorem dX6_count_99 : decode cX6_count 99 = .ok (.getfield 7, 3) := by decide +kernel
theorem dX6_count_102 : decode cX6_count 102 = .ok (.iconst 3, 1) := by decide +kernel
theorem dX6_count_103 : decode cX6_count 103 = .ok (.iload_n 1, 1) := by decide +kernel
theorem dX6_count_104 : decode cX6_count 104 = .ok (.iadd, 1) := by decide +kernel
theorem dX6_count_105 : decode cX6_count 105 = .ok (.iconst 4, 1) := by decide +kernel
theorem dX6_count_106 : decode cX6_count 106 = .ok (.isub, 1) := by decide +kernel
theorem dX6_count_107 : decode cX6_count 107 = .ok (.iaload, 1) := by decide +kernel
theorem dX6_count_108 : decode cX6_count 108 = .ok (.ireturn, 1) := by decide +kernel
theorem dX6_count_109 : decode cX6_count 109 = .ok (.aload_n 0, 1) := by decide +kernel
theorem dX6_count_110 : decode cX6_count 110 = .ok (.iload_n 1, 1) := by decide +kernel
theorem dX6_count_111 : decode cX6_count 111 = .ok (.invokevirtual 115, 3) := by decide +kernel
theorem dX6_count_114 : decode cX6_count 114 = .ok (.ireturn, 1) := by decide +kernel
theorem dX6_count_115 : decode cX6_count 115 = .ok (.aload_n 0, 1) := by decide +kernel
theorem dX6_count_116 : decode cX6_count 116 = .ok (.invokevirtual 118, 3) := by decide +kernel
theorem dX6_count_119 : decode cX6_count 119 = .ok (.sipush 10000, 3) := by decide +kernel
theorem dX6_count_122 : decode cX6_count 122 = .ok (.iadd, 1) := by decide +kernel
theorem dX6_count_123 : decode cX6_count 123 = .ok (.ireturn, 1) := by decide +kernel
theorem dX6_count_124 : decode cX6_count 124 = .ok (.aload_n 0, 1) := by decide +kernel
theorem dX6_count_125 : decode cX6_count 125 = .ok (.getfield 121, 3) := by decide +kernel
theorem dX6_count_128 : decode cX6_count 128 = .ok (.ireturn, 1) := by decide +kernel
theorem dX6_count_129 : decode cX6_count 129 = .ok (.aload_n 0, 1) := by decide +kernel
theorem dX6_count_130 : decode cX6_count 130 = .ok (.getfield 40, 3) := by decide +kernel
theorem dX6_count_133 : decode cX6_count 133 = .ok (.ireturn, 1) := by decide +kernel
theorem dX6_count_134 : decode cX6_count 134 = .ok (.bipush (-2), 2) := by decide +kernel
theorem dX6_count_136 : decode cX6_count 136 = .ok (.ireturn, 1) := by decide +kernel
theorem dX6_reaches_0 : decode cX6_reaches 0 = .ok (.aload_n 0, 1) := by decide +kernel
theorem dX6_reaches_1 : decode cX6_reaches 1 = .ok (.iconst 0, 1) := by decide +kernel
theorem dX6_reaches_2 : decode cX6_reaches 2 = .ok (.putfield 32, 3) := by decide +kernel
theorem dX6_reaches_5 : decode cX6_reaches 5 = .ok (.aload_n 0, 1) := by decide +kernel
theorem dX6_reaches_6 : decode cX6_reaches 6 = .ok (.iload_n 1, 1) := by decide +kernel
theorem dX6_reaches_7 : decode cX6_reaches 7 = .ok (.invokevirtual 87, 3) := by decide +kernel
theorem dX6_reaches_10 : decode cX6_reaches 10 = .ok (.istore_n 3, 1) := by decide +kernel
theorem dX6_reaches_11 : decode cX6_reaches 11 = .ok (.iload_n 3, 1) := by decide +kernel
theorem dX6_reaches_12 : decode cX6_reaches 12 = .ok (.bipush (-6), 2) := by decide +kernel
theorem dX6_reaches_14 : decode cX6_reaches 14 = .ok (.if_icmp .eq 13, 3) := by decide +kernel
theorem dX6_reaches_17 : decode cX6_reaches 17 = .ok (.iload_n 2, 1) := by decide +kernel
theorem dX6_reaches_18 : decode cX6_reaches 18 = .ok (.iconst 0, 1) := by decide +kernel
theorem dX6_reaches_19 : decode cX6_reaches 19 = .ok (.bipush 7, 2) := by decide +kernel
theorem dX6_reaches_21 : decode cX6_reaches 21 = .ok (.invokestatic 54, 3) := by decide +kernel
theorem dX6_reaches_24 : decode cX6_reaches 24 = .ok (.ifCond .ne 5, 3) := by decide +kernel
theorem dX6_reaches_27 : decode cX6_reaches 27 = .ok (.iconst (-1), 1) := by decide +kernel
theorem dX6_reaches_28 : decode cX6_reaches 28 = .ok (.ireturn, 1) := by decide +kernel
theorem dX6_reaches_29 : decode cX6_reaches 29 = .ok (.aload_n 0, 1) := by decide +kernel
theorem dX6_reaches_30 : decode cX6_reaches 30 = .ok (.invokevirtual 124, 3) := by decide +kernel
theorem dX6_reaches_33 : decode cX6_reaches 33 = .ok (.iconst 0, 1) := by decide +kernel
theorem dX6_reaches_34 : decode cX6_reaches 34 = .ok (.istore 4, 2) := by decide +kernel
theorem dX6_reaches_36 : decode cX6_reaches 36 = .ok (.iload 4, 2) := by decide +kernel
theorem dX6_reaches_38 : decode cX6_reaches 38 = .ok (.sipush 1000, 3) := by decide +kernel
theorem dX6_reaches_41 : decode cX6_reaches 41 = .ok (.if_icmp .gt 23, 3) := by decide +kernel
theorem dX6_reaches_44 : decode cX6_reaches 44 = .ok (.aload_n 0, 1) := by decide +kernel
theorem dX6_reaches_45 : decode cX6_reaches 45 = .ok (.iload_n 3, 1) := by decide +kernel
theorem dX6_reaches_46 : decode cX6_reaches 46 = .ok (.invokevirtual 43, 3) := by decide +kernel
theorem dX6_reaches_49 : decode cX6_reaches 49 = .ok (.iload_n 2, 1) := by decide +kernel
theorem dX6_reaches_50 : decode cX6_reaches 50 = .ok (.if_icmp .eq 14, 3) := by decide +kernel
theorem dX6_reaches_53 : decode cX6_reaches 53 = .ok (.aload_n 0, 1) := by decide +kernel
theorem dX6_reaches_54 : decode cX6_reaches 54 = .ok (.invokevirtual 84, 3) := by decide +kernel
theorem dX6_reaches_57 : decode cX6_reaches 57 = .ok (.pop, 1) := by decide +kernel
theorem dX6_reaches_58 : decode cX6_reaches 58 = .ok (.iinc 4 1, 3) := by decide +kernel
theorem dX6_reaches_61 : decode cX6_reaches 61 = .ok (.goto (-25), 3) := by decide +kernel
theorem dX6_reaches_64 : decode cX6_reaches 64 = .ok (.aload_n 0, 1) := by decide +kernel
theorem dX6_reaches_65 : decode cX6_reaches 65 = .ok (.invokevirtual 127, 3) := by decide +kernel
theorem dX6_reaches_68 : decode cX6_reaches 68 = .ok (.iload 4, 2) := by decide +kernel
theorem dX6_reaches_70 : decode cX6_reaches 70 = .ok (.sipush 1000, 3) := by decide +kernel
theorem dX6_reaches_73 : decode cX6_reaches 73 = .ok (.if_icmp .le 8, 3) := by decide +kernel
theorem dX6_reaches_76 : decode cX6_reaches 76 = .ok (.bipush (-6), 2) := by decide +kernel
theorem dX6_reaches_78 : decode cX6_reaches 78 = .ok (.goto 5, 3) := by decide +kernel
theorem dX6_reaches_81 : decode cX6_reaches 81 = .ok (.iload 4, 2) := by decide +kernel
theorem dX6_reaches_83 : decode cX6_reaches 83 = .ok (.ireturn, 1) := by decide +kernel
theorem dX6_settles_0 : decode cX6_settles 0 = .ok (.aload_n 0, 1) := by decide +kernel
theorem dX6_settles_1 : decode cX6_settles 1 = .ok (.iconst 0, 1) := by decide +kernel
theorem dX6_settles_2 : decode cX6_settles 2 = .ok (.putfield 32, 3) := by decide +kernel
theorem dX6_settles_5 : decode cX6_settles 5 = .ok (.aload_n 0, 1) := by decide +kernel
theorem dX6_settles_6 : decode cX6_settles 6 = .ok (.iload_n 1, 1) := by decide +kernel
theorem dX6_settles_7 : decode cX6_settles 7 = .ok (.invokevirtual 87, 3) := by decide +kernel
theorem dX6_settles_10 : decode cX6_settles 10 = .ok (.istore_n 2, 1) := by decide +kernel
theorem dX6_settles_11 : decode cX6_settles 11 = .ok (.iload_n 2, 1) := by decide +kernel
theorem dX6_settles_12 : decode cX6_settles 12 = .ok (.bipush (-6), 2) := by decide +kernel
theorem dX6_settles_14 : decode cX6_settles 14 = .ok (.if_icmp .ne 5, 3) := by decide +kernel
theorem dX6_settles_17 : decode cX6_settles 17 = .ok (.iconst (-1), 1) := by decide +kernel
theorem dX6_settles_18 : decode cX6_settles 18 = .ok (.ireturn, 1) := by decide +kernel
theorem dX6_settles_19 : decode cX6_settles 19 = .ok (.bipush 60, 2) := by decide +kernel
theorem dX6_settles_21 : decode cX6_settles 21 = .ok (.aload_n 0, 1) := by decide +kernel
theorem dX6_settles_22 : decode cX6_settles 22 = .ok (.iload_n 2, 1) := by decide +kernel
theorem dX6_settles_23 : decode cX6_settles 23 = .ok (.iconst 1, 1) := by decide +kernel
theorem dX6_settles_24 : decode cX6_settles 24 = .ok (.invokevirtual 36, 3) := by decide +kernel
theorem dX6_settles_27 : decode cX6_settles 27 = .ok (.idiv, 1) := by decide +kernel
theorem dX6_settles_28 : decode cX6_settles 28 = .ok (.istore_n 3, 1) := by decide +kernel
theorem dX6_settles_29 : decode cX6_settles 29 = .ok (.aload_n 0, 1) := by decide +kernel
theorem dX6_settles_30 : decode cX6_settles 30 = .ok (.iload_n 2, 1) := by decide +kernel
theorem dX6_settles_31 : decode cX6_settles 31 = .ok (.invokevirtual 70, 3) := by decide +kernel
theorem dX6_settles_34 : decode cX6_settles 34 = .ok (.aload_n 0, 1) := by decide +kernel
theorem dX6_settles_35 : decode cX6_settles 35 = .ok (.iload_n 2, 1) := by decide +kernel
theorem dX6_settles_36 : decode cX6_settles 36 = .ok (.iconst 5, 1) := by decide +kernel
theorem dX6_settles_37 : decode cX6_settles 37 = .ok (.invokevirtual 36, 3) := by decide +kernel
theorem dX6_settles_40 : decode cX6_settles 40 = .ok (.isub, 1) := by decide +kernel
theorem dX6_settles_41 : decode cX6_settles 41 = .ok (.istore 4, 2) := by decide +kernel
theorem dX6_settles_43 : decode cX6_settles 43 = .ok (.iload 4, 2) := by decide +kernel
theorem dX6_settles_45 : decode cX6_settles 45 = .ok (.ifCond .ge 9, 3) := by decide +kernel
theorem dX6_settles_48 : decode cX6_settles 48 = .ok (.iload 4, 2) := by decide +kernel
theorem dX6_settles_50 : decode cX6_settles 50 = .ok (.ineg, 1) := by decide +kernel
theorem dX6_settles_51 : decode cX6_settles 51 = .ok (.goto 5, 3) := by decide +kernel
theorem dX6_settles_54 : decode cX6_settles 54 = .ok (.iload 4, 2) := by decide +kernel
theorem dX6_settles_56 : decode cX6_settles 56 = .ok (.iload_n 3, 1) := by decide +kernel
theorem dX6_settles_57 : decode cX6_settles 57 = .ok (.iadd, 1) := by decide +kernel
theorem dX6_settles_58 : decode cX6_settles 58 = .ok (.iconst 1, 1) := by decide +kernel
theorem dX6_settles_59 : decode cX6_settles 59 = .ok (.isub, 1) := by decide +kernel
theorem dX6_settles_60 : decode cX6_settles 60 = .ok (.iload_n 3, 1) := by decide +kernel
theorem dX6_settles_61 : decode cX6_settles 61 = .ok (.idiv, 1) := by decide +kernel
theorem dX6_settles_62 : decode cX6_settles 62 = .ok (.ireturn, 1) := by decide +kernel
theorem dX6_meets_0 : decode cX6_meets 0 = .ok (.aload_n 0, 1) := by decide +kernel
theorem dX6_meets_1 : decode cX6_meets 1 = .ok (.iconst 0, 1) := by decide +kernel
theorem dX6_meets_2 : decode cX6_meets 2 = .ok (.putfield 32, 3) := by decide +kernel
theorem dX6_meets_5 : decode cX6_meets 5 = .ok (.aload_n 0, 1) := by decide +kernel
theorem dX6_meets_6 : decode cX6_meets 6 = .ok (.iload_n 1, 1) := by decide +kernel
theorem dX6_meets_7 : decode cX6_meets 7 = .ok (.invokevirtual 87, 3) := by decide +kernel
theorem dX6_meets_10 : decode cX6_meets 10 = .ok (.istore_n 3, 1) := by decide +kernel
theorem dX6_meets_11 : decode cX6_meets 11 = .ok (.aload_n 0, 1) := by decide +kernel
theorem dX6_meets_12 : decode cX6_meets 12 = .ok (.iload_n 2, 1) := by decide +kernel
theorem dX6_meets_13 : decode cX6_meets 13 = .ok (.invokevirtual 87, 3) := by decide +kernel
theorem dX6_meets_16 : decode cX6_meets 16 = .ok (.istore 4, 2) := by decide +kernel
theorem dX6_meets_18 : decode cX6_meets 18 = .ok (.iload_n 3, 1) := by decide +kernel
theorem dX6_meets_19 : decode cX6_meets 19 = .ok (.bipush (-6), 2) := by decide +kernel
theorem dX6_meets_21 : decode cX6_meets 21 = .ok (.if_icmp .eq 10, 3) := by decide +kernel
theorem dX6_meets_24 : decode cX6_meets 24 = .ok (.iload 4, 2) := by decide +kernel
theorem dX6_meets_26 : decode cX6_meets 26 = .ok (.bipush (-6), 2) := by decide +kernel
theorem dX6_meets_28 : decode cX6_meets 28 = .ok (.if_icmp .ne 5, 3) := by decide +kernel
theorem dX6_meets_31 : decode cX6_meets 31 = .ok (.iconst (-1), 1) := by decide +kernel
theorem dX6_meets_32 : decode cX6_meets 32 = .ok (.ireturn, 1) := by decide +kernel
theorem dX6_meets_33 : decode cX6_meets 33 = .ok (.iload_n 1, 1) := by decide +kernel
theorem dX6_meets_34 : decode cX6_meets 34 = .ok (.iload_n 2, 1) := by decide +kernel
theorem dX6_meets_35 : decode cX6_meets 35 = .ok (.if_icmp .ne 6, 3) := by decide +kernel
theorem dX6_meets_38 : decode cX6_meets 38 = .ok (.bipush (-2), 2) := by decide +kernel
theorem dX6_meets_40 : decode cX6_meets 40 = .ok (.ireturn, 1) := by decide +kernel
theorem dX6_meets_41 : decode cX6_meets 41 = .ok (.aload_n 0, 1) := by decide +kernel
theorem dX6_meets_42 : decode cX6_meets 42 = .ok (.invokevirtual 124, 3) := by decide +kernel
theorem dX6_meets_45 : decode cX6_meets 45 = .ok (.iconst 0, 1) := by decide +kernel
theorem dX6_meets_46 : decode cX6_meets 46 = .ok (.istore 5, 2) := by decide +kernel
theorem dX6_meets_48 : decode cX6_meets 48 = .ok (.iload 5, 2) := by decide +kernel
theorem dX6_meets_50 : decode cX6_meets 50 = .ok (.sipush 1000, 3) := by decide +kernel
theorem dX6_meets_53 : decode cX6_meets 53 = .ok (.if_icmp .gt 28, 3) := by decide +kernel
theorem dX6_meets_56 : decode cX6_meets 56 = .ok (.aload_n 0, 1) := by decide +kernel
theorem dX6_meets_57 : decode cX6_meets 57 = .ok (.iload_n 3, 1) := by decide +kernel
theorem dX6_meets_58 : decode cX6_meets 58 = .ok (.invokevirtual 43, 3) := by decide +kernel
theorem dX6_meets_61 : decode cX6_meets 61 = .ok (.aload_n 0, 1) := by decide +kernel
theorem dX6_meets_62 : decode cX6_meets 62 = .ok (.iload 4, 2) := by decide +kernel
theorem dX6_meets_64 : decode cX6_meets 64 = .ok (.invokevirtual 43, 3) := by decide +kernel
theorem dX6_meets_67 : decode cX6_meets 67 = .ok (.if_icmp .eq 14, 3) := by decide +kernel
theorem dX6_meets_70 : decode cX6_meets 70 = .ok (.aload_n 0, 1) := by decide +kernel
theorem dX6_meets_71 : decode cX6_meets 71 = .ok (.invokevirtual 84, 3) := by decide +kernel
theorem dX6_meets_74 : decode cX6_meets 74 = .ok (.pop, 1) := by decide +kernel
theorem dX6_meets_75 : decode cX6_meets 75 = .ok (.iinc 5 1, 3) := by decide +kernel
theorem dX6_meets_78 : decode cX6_meets 78 = .ok (.goto (-30), 3) := by decide +kernel
theorem dX6_meets_81 : decode cX6_meets 81 = .ok (.aload_n 0, 1) := by decide +kernel
theorem dX6_meets_82 : decode cX6_meets 82 = .ok (.invokevirtual 127, 3) := by decide +kernel
theorem dX6_meets_85 : decode cX6_meets 85 = .ok (.iload 5, 2) := by decide +kernel
theorem dX6_meets_87 : decode cX6_meets 87 = .ok (.sipush 1000, 3) := by decide +kernel
theorem dX6_meets_90 : decode cX6_meets 90 = .ok (.if_icmp .le 8, 3) := by decide +kernel
theorem dX6_meets_93 : decode cX6_meets 93 = .ok (.bipush (-6), 2) := by decide +kernel
theorem dX6_meets_95 : decode cX6_meets 95 = .ok (.goto 5, 3) := by decide +kernel
theorem dX6_meets_98 : decode cX6_meets 98 = .ok (.iload 5, 2) := by decide +kernel
theorem dX6_meets_100 : decode cX6_meets 100 = .ok (.ireturn, 1) := by decide +kernel
theorem dX6_stepFor_0 : decode cX6_stepFor 0 = .ok (.aload_n 0, 1) := by decide +kernel
theorem dX6_stepFor_1 : decode cX6_stepFor 1 = .ok (.iconst 0, 1) := by decide +kernel
theorem dX6_stepFor_2 : decode cX6_stepFor 2 = .ok (.putfield 32, 3) := by decide +kernel
theorem dX6_stepFor_5 : decode cX6_stepFor 5 = .ok (.aload_n 0, 1) := by decide +kernel
theorem dX6_stepFor_6 : decode cX6_stepFor 6 = .ok (.iload_n 1, 1) := by decide +kernel
theorem dX6_stepFor_7 : decode cX6_stepFor 7 = .ok (.invokevirtual 87, 3) := by decide +kernel
theorem dX6_stepFor_10 : decode cX6_stepFor 10 = .ok (.istore_n 3, 1) := by decide +kernel
theorem dX6_stepFor_11 : decode cX6_stepFor 11 = .ok (.iload_n 3, 1) := by decide +kernel
theorem dX6_stepFor_12 : decode cX6_stepFor 12 = .ok (.bipush (-6), 2) := by decide +kernel
theorem dX6_stepFor_14 : decode cX6_stepFor 14 = .ok (.if_icmp .ne 5, 3) := by decide +kernel
theorem dX6_stepFor_17 : decode cX6_stepFor 17 = .ok (.iconst (-1), 1) := by decide +kernel
theorem dX6_stepFor_18 : decode cX6_stepFor 18 = .ok (.ireturn, 1) := by decide +kernel
theorem dX6_stepFor_19 : decode cX6_stepFor 19 = .ok (.iload_n 2, 1) := by decide +kernel
theorem dX6_stepFor_20 : decode cX6_stepFor 20 = .ok (.iconst 0, 1) := by decide +kernel
theorem dX6_stepFor_21 : decode cX6_stepFor 21 = .ok (.sipush 280, 3) := by decide +kernel
theorem dX6_stepFor_24 : decode cX6_stepFor 24 = .ok (.invokestatic 54, 3) := by decide +kernel
theorem dX6_stepFor_27 : decode cX6_stepFor 27 = .ok (.ifCond .ne 6, 3) := by decide +kernel
theorem dX6_stepFor_30 : decode cX6_stepFor 30 = .ok (.bipush (-2), 2) := by decide +kernel
theorem dX6_stepFor_32 : decode cX6_stepFor 32 = .ok (.ireturn, 1) := by decide +kernel
theorem dX6_stepFor_33 : decode cX6_stepFor 33 = .ok (.iconst 0, 1) := by decide +kernel
theorem dX6_stepFor_34 : decode cX6_stepFor 34 = .ok (.istore 4, 2) := by decide +kernel
theorem dX6_stepFor_36 : decode cX6_stepFor 36 = .ok (.aload_n 0, 1) := by decide +kernel
theorem dX6_stepFor_37 : decode cX6_stepFor 37 = .ok (.iload_n 3, 1) := by decide +kernel
theorem dX6_stepFor_38 : decode cX6_stepFor 38 = .ok (.iconst 2, 1) := by decide +kernel
theorem dX6_stepFor_39 : decode cX6_stepFor 39 = .ok (.invokevirtual 36, 3) := by decide +kernel
theorem dX6_stepFor_42 : decode cX6_stepFor 42 = .ok (.iload 4, 2) := by decide +kernel
theorem dX6_stepFor_44 : decode cX6_stepFor 44 = .ok (.invokestatic 47, 3) := by decide +kernel
theorem dX6_stepFor_47 : decode cX6_stepFor 47 = .ok (.iload_n 2, 1) := by decide +kernel
theorem dX6_stepFor_48 : decode cX6_stepFor 48 = .ok (.if_icmp .ge 9, 3) := by decide +kernel
theorem dX6_stepFor_51 : decode cX6_stepFor 51 = .ok (.iinc 4 1, 3) := by decide +kernel
theorem dX6_stepFor_54 : decode cX6_stepFor 54 = .ok (.goto (-18), 3) := by decide +kernel
theorem dX6_stepFor_57 : decode cX6_stepFor 57 = .ok (.iload 4, 2) := by decide +kernel
theorem dX6_stepFor_59 : decode cX6_stepFor 59 = .ok (.ireturn, 1) := by decide +kernel
theorem dX6_put_0 : decode cX6_put 0 = .ok (.aload_n 0, 1) := by decide +kernel
theorem dX6_put_1 : decode cX6_put 1 = .ok (.iconst 0, 1) := by decide +kernel
theorem dX6_put_2 : decode cX6_put 2 = .ok (.putfield 32, 3) := by decide +kernel
theorem dX6_put_5 : decode cX6_put 5 = .ok (.iconst 0, 1) := by decide +kernel
theorem dX6_put_6 : decode cX6_put 6 = .ok (.istore_n 3, 1) := by decide +kernel
theorem dX6_put_7 : decode cX6_put 7 = .ok (.lload_n 1, 1) := by decide +kernel
theorem dX6_put_8 : decode cX6_put 8 = .ok (.lstore 4, 2) := by decide +kernel
theorem dX6_put_10 : decode cX6_put 10 = .ok (.iconst 1, 1) := by decide +kernel
theorem dX6_put_11 : decode cX6_put 11 = .ok (.istore 6, 2) := by decide +kernel
theorem dX6_put_13 : decode cX6_put 13 = .ok (.iload_n 3, 1) := by decide +kernel
theorem dX6_put_14 : decode cX6_put 14 = .ok (.bipush 8, 2) := by decide +kernel
theorem dX6_put_16 : decode cX6_put 16 = .ok (.if_icmp .ge 56, 3) := by decide +kernel
theorem dX6_put_19 : decode cX6_put 19 = .ok (.lload 4, 2) := by decide +kernel
theorem dX6_put_21 : decode cX6_put 21 = .ok (.ldc2_w 130, 3) := by decide +kernel
theorem dX6_put_24 : decode cX6_put 24 = .ok (.land, 1) := by decide +kernel
theorem dX6_put_25 : decode cX6_put 25 = .ok (.lconst 0, 1) := by decide +kernel
theorem dX6_put_26 : decode cX6_put 26 = .ok (.lcmp, 1) := by decide +kernel
theorem dX6_put_27 : decode cX6_put 27 = .ok (.ifCond .eq 45, 3) := by decide +kernel
theorem dX6_put_30 : decode cX6_put 30 = .ok (.iload 6, 2) := by decide +kernel
theorem dX6_put_32 : decode cX6_put 32 = .ok (.ifCond .eq 24, 3) := by decide +kernel
theorem dX6_put_35 : decode cX6_put 35 = .ok (.lload 4, 2) := by decide +kernel
theorem dX6_put_37 : decode cX6_put 37 = .ok (.ldc2_w 130, 3) := by decide +kernel
theorem dX6_put_40 : decode cX6_put 40 = .ok (.land, 1) := by decide +kernel
theorem dX6_put_41 : decode cX6_put 41 = .ok (.l2i, 1) := by decide +kernel
theorem dX6_put_42 : decode cX6_put 42 = .ok (.bipush 33, 2) := by decide +kernel
theorem dX6_put_44 : decode cX6_put 44 = .ok (.bipush 126, 2) := by decide +kernel
theorem dX6_put_46 : decode cX6_put 46 = .ok (.invokestatic 54, 3) := by decide +kernel
theorem dX6_put_49 : decode cX6_put 49 = .ok (.ifCond .eq 7, 3) := by decide +kernel
theorem dX6_put_52 : decode cX6_put 52 = .ok (.iconst 1, 1) := by decide +kernel
theorem dX6_put_53 : decode cX6_put 53 = .ok (.goto 4, 3) := by decide +kernel
theorem dX6_put_56 : decode cX6_put 56 = .ok (.iconst 0, 1) := by decide +kernel
theorem dX6_put_57 : decode cX6_put 57 = .ok (.istore 6, 2) := by decide +kernel
theorem dX6_put_59 : decode cX6_put 59 = .ok (.lload 4, 2) := by decide +kernel
theorem dX6_put_61 : decode cX6_put 61 = .ok (.bipush 8, 2) := by decide +kernel
theorem dX6_put_63 : decode cX6_put 63 = .ok (.lushr, 1) := by decide +kernel
theorem dX6_put_64 : decode cX6_put 64 = .ok (.lstore 4, 2) := by decide +kernel
theorem dX6_put_66 : decode cX6_put 66 = .ok (.iinc 3 1, 3) := by decide +kernel
theorem dX6_put_69 : decode cX6_put 69 = .ok (.goto (-56), 3) := by decide +kernel
theorem dX6_put_72 : decode cX6_put 72 = .ok (.iload_n 3, 1) := by decide +kernel
theorem dX6_put_73 : decode cX6_put 73 = .ok (.ifCond .eq 15, 3) := by decide +kernel
theorem dX6_put_76 : decode cX6_put 76 = .ok (.iload 6, 2) := by decide +kernel
theorem dX6_put_78 : decode cX6_put 78 = .ok (.ifCond .eq 10, 3) := by decide +kernel
theorem dX6_put_81 : decode cX6_put 81 = .ok (.lload 4, 2) := by decide +kernel
theorem dX6_put_83 : decode cX6_put 83 = .ok (.lconst 0, 1) := by decide +kernel
theorem dX6_put_84 : decode cX6_put 84 = .ok (.lcmp, 1) := by decide +kernel
theorem dX6_put_85 : decode cX6_put 85 = .ok (.ifCond .eq 6, 3) := by decide +kernel
theorem dX6_put_88 : decode cX6_put 88 = .ok (.bipush (-2), 2) := by decide +kernel
theorem dX6_put_90 : decode cX6_put 90 = .ok (.ireturn, 1) := by decide +kernel
theorem dX6_put_91 : decode cX6_put 91 = .ok (.aload_n 0, 1) := by decide +kernel
theorem dX6_put_92 : decode cX6_put 92 = .ok (.getfield 121, 3) := by decide +kernel
theorem dX6_put_95 : decode cX6_put 95 = .ok (.iload_n 3, 1) := by decide +kernel
theorem dX6_put_96 : decode cX6_put 96 = .ok (.iadd, 1) := by decide +kernel
theorem dX6_put_97 : decode cX6_put 97 = .ok (.bipush 80, 2) := by decide +kernel
theorem dX6_put_99 : decode cX6_put 99 = .ok (.if_icmp .le 6, 3) := by decide +kernel
theorem dX6_put_102 : decode cX6_put 102 = .ok (.bipush (-4), 2) := by decide +kernel
theorem dX6_put_104 : decode cX6_put 104 = .ok (.ireturn, 1) := by decide +kernel
theorem dX6_put_105 : decode cX6_put 105 = .ok (.iconst 0, 1) := by decide +kernel
theorem dX6_put_106 : decode cX6_put 106 = .ok (.istore 7, 2) := by decide +kernel
theorem dX6_put_108 : decode cX6_put 108 = .ok (.iload 7, 2) := by decide +kernel
theorem dX6_put_110 : decode cX6_put 110 = .ok (.iload_n 3, 1) := by decide +kernel
theorem dX6_put_111 : decode cX6_put 111 = .ok (.if_icmp .ge 37, 3) := by decide +kernel
theorem dX6_put_114 : decode cX6_put 114 = .ok (.aload_n 0, 1) := by decide +kernel
theorem dX6_put_115 : decode cX6_put 115 = .ok (.getfield 26, 3) := by decide +kernel
theorem dX6_put_118 : decode cX6_put 118 = .ok (.aload_n 0, 1) := by decide +kernel
theorem dX6_put_119 : decode cX6_put 119 = .ok (.getfield 121, 3) := by decide +kernel
theorem dX6_put_122 : decode cX6_put 122 = .ok (.iload 7, 2) := by decide +kernel
theorem dX6_put_124 : decode cX6_put 124 = .ok (.iadd, 1) := by decide +kernel
theorem dX6_put_125 : decode cX6_put 125 = .ok (.lload_n 1, 1) := by decide +kernel
theorem dX6_put_126 : decode cX6_put 126 = .ok (.bipush 8, 2) := by decide +kernel
theorem dX6_put_128 : decode cX6_put 128 = .ok (.iload_n 3, 1) := by decide +kernel
theorem dX6_put_129 : decode cX6_put 129 = .ok (.iconst 1, 1) := by decide +kernel
theorem dX6_put_130 : decode cX6_put 130 = .ok (.isub, 1) := by decide +kernel
theorem dX6_put_131 : decode cX6_put 131 = .ok (.iload 7, 2) := by decide +kernel
theorem dX6_put_133 : decode cX6_put 133 = .ok (.isub, 1) := by decide +kernel
theorem dX6_put_134 : decode cX6_put 134 = .ok (.imul, 1) := by decide +kernel
theorem dX6_put_135 : decode cX6_put 135 = .ok (.lushr, 1) := by decide +kernel
theorem dX6_put_136 : decode cX6_put 136 = .ok (.ldc2_w 130, 3) := by decide +kernel
theorem dX6_put_139 : decode cX6_put 139 = .ok (.land, 1) := by decide +kernel
theorem dX6_put_140 : decode cX6_put 140 = .ok (.l2i, 1) := by decide +kernel
theorem dX6_put_141 : decode cX6_put 141 = .ok (.iastore, 1) := by decide +kernel
theorem dX6_put_142 : decode cX6_put 142 = .ok (.iinc 7 1, 3) := by decide +kernel
theorem dX6_put_145 : decode cX6_put 145 = .ok (.goto (-37), 3) := by decide +kernel
theorem dX6_put_148 : decode cX6_put 148 = .ok (.aload_n 0, 1) := by decide +kernel
theorem dX6_put_149 : decode cX6_put 149 = .ok (.dup, 1) := by decide +kernel
theorem dX6_put_150 : decode cX6_put 150 = .ok (.getfield 121, 3) := by decide +kernel
theorem dX6_put_153 : decode cX6_put 153 = .ok (.iload_n 3, 1) := by decide +kernel
theorem dX6_put_154 : decode cX6_put 154 = .ok (.iadd, 1) := by decide +kernel
theorem dX6_put_155 : decode cX6_put 155 = .ok (.putfield 121, 3) := by decide +kernel
theorem dX6_put_158 : decode cX6_put 158 = .ok (.aload_n 0, 1) := by decide +kernel
theorem dX6_put_159 : decode cX6_put 159 = .ok (.getfield 121, 3) := by decide +kernel
theorem dX6_put_162 : decode cX6_put 162 = .ok (.ireturn, 1) := by decide +kernel
theorem dX6_wipe_0 : decode cX6_wipe 0 = .ok (.aload_n 0, 1) := by decide +kernel
theorem dX6_wipe_1 : decode cX6_wipe 1 = .ok (.iconst 0, 1) := by decide +kernel
theorem dX6_wipe_2 : decode cX6_wipe 2 = .ok (.putfield 32, 3) := by decide +kernel
theorem dX6_wipe_5 : decode cX6_wipe 5 = .ok (.aload_n 0, 1) := by decide +kernel
theorem dX6_wipe_6 : decode cX6_wipe 6 = .ok (.getfield 121, 3) := by decide +kernel
theorem dX6_wipe_9 : decode cX6_wipe 9 = .ok (.istore_n 1, 1) := by decide +kernel
theorem dX6_wipe_10 : decode cX6_wipe 10 = .ok (.aload_n 0, 1) := by decide +kernel
theorem dX6_wipe_11 : decode cX6_wipe 11 = .ok (.iconst 0, 1) := by decide +kernel
theorem dX6_wipe_12 : decode cX6_wipe 12 = .ok (.putfield 121, 3) := by decide +kernel
theorem dX6_wipe_15 : decode cX6_wipe 15 = .ok (.iload_n 1, 1) := by decide +kernel
theorem dX6_wipe_16 : decode cX6_wipe 16 = .ok (.ireturn, 1) := by decide +kernel
theorem dX6_sign_0 : decode cX6_sign 0 = .ok (.aload_n 0, 1) := by decide +kernel
theorem dX6_sign_1 : decode cX6_sign 1 = .ok (.getfield 132, 3) := by decide +kernel
theorem dX6_sign_4 : decode cX6_sign 4 = .ok (.aload_n 0, 1) := by decide +kernel
theorem dX6_sign_5 : decode cX6_sign 5 = .ok (.getfield 121, 3) := by decide +kernel
theorem dX6_sign_8 : decode cX6_sign 8 = .ok (.if_icmp .ge 15, 3) := by decide +kernel
theorem dX6_sign_11 : decode cX6_sign 11 = .ok (.aload_n 0, 1) := by decide +kernel
theorem dX6_sign_12 : decode cX6_sign 12 = .ok (.getfield 26, 3) := by decide +kernel
theorem dX6_sign_15 : decode cX6_sign 15 = .ok (.aload_n 0, 1) := by decide +kernel
theorem dX6_sign_16 : decode cX6_sign 16 = .ok (.getfield 132, 3) := by decide +kernel
theorem dX6_sign_19 : decode cX6_sign 19 = .ok (.iaload, 1) := by decide +kernel
theorem dX6_sign_20 : decode cX6_sign 20 = .ok (.goto 4, 3) := by decide +kernel
theorem dX6_sign_23 : decode cX6_sign 23 = .ok (.iconst 0, 1) := by decide +kernel
theorem dX6_sign_24 : decode cX6_sign 24 = .ok (.ireturn, 1) := by decide +kernel
theorem dX6_wants_0 : decode cX6_wants 0 = .ok (.aload_n 0, 1) := by decide +kernel
theorem dX6_wants_1 : decode cX6_wants 1 = .ok (.aload_n 0, 1) := by decide +kernel
theorem dX6_wants_2 : decode cX6_wants 2 = .ok (.getfield 135, 3) := by decide +kernel
theorem dX6_wants_5 : decode cX6_wants 5 = .ok (.ifCond .eq 15, 3) := by decide +kernel
theorem dX6_wants_8 : decode cX6_wants 8 = .ok (.aload_n 0, 1) := by decide +kernel
theorem dX6_wants_9 : decode cX6_wants 9 = .ok (.invokevirtual 139, 3) := by decide +kernel
theorem dX6_wants_12 : decode cX6_wants 12 = .ok (.iload_n 1, 1) := by decide +kernel
theorem dX6_wants_13 : decode cX6_wants 13 = .ok (.if_icmp .ne 7, 3) := by decide +kernel
theorem dX6_wants_16 : decode cX6_wants 16 = .ok (.iconst 1, 1) := by decide +kernel
theorem dX6_wants_17 : decode cX6_wants 17 = .ok (.goto 4, 3) := by decide +kernel
theorem dX6_wants_20 : decode cX6_wants 20 = .ok (.iconst 0, 1) := by decide +kernel
theorem dX6_wants_21 : decode cX6_wants 21 = .ok (.putfield 135, 3) := by decide +kernel
theorem dX6_wants_24 : decode cX6_wants 24 = .ok (.aload_n 0, 1) := by decide +kernel
theorem dX6_wants_25 : decode cX6_wants 25 = .ok (.dup, 1) := by decide +kernel
theorem dX6_wants_26 : decode cX6_wants 26 = .ok (.getfield 132, 3) := by decide +kernel
theorem dX6_wants_29 : decode cX6_wants 29 = .ok (.aload_n 0, 1) := by decide +kernel
theorem dX6_wants_30 : decode cX6_wants 30 = .ok (.getfield 135, 3) := by decide +kernel
theorem dX6_wants_33 : decode cX6_wants 33 = .ok (.ifCond .eq 7, 3) := by decide +kernel
theorem dX6_wants_36 : decode cX6_wants 36 = .ok (.iconst 1, 1) := by decide +kernel
theorem dX6_wants_37 : decode cX6_wants 37 = .ok (.goto 4, 3) := by decide +kernel
theorem dX6_wants_40 : decode cX6_wants 40 = .ok (.iconst 0, 1) := by decide +kernel
theorem dX6_wants_41 : decode cX6_wants 41 = .ok (.iadd, 1) := by decide +kernel
theorem dX6_wants_42 : decode cX6_wants 42 = .ok (.putfield 132, 3) := by decide +kernel
theorem dX6_wants_45 : decode cX6_wants 45 = .ok (.return_, 1) := by decide +kernel
theorem dX6_digit_0 : decode cX6_digit 0 = .ok (.aload_n 0, 1) := by decide +kernel
theorem dX6_digit_1 : decode cX6_digit 1 = .ok (.aload_n 0, 1) := by decide +kernel
theorem dX6_digit_2 : decode cX6_digit 2 = .ok (.getfield 135, 3) := by decide +kernel
theorem dX6_digit_5 : decode cX6_digit 5 = .ok (.ifCond .eq 23, 3) := by decide +kernel
theorem dX6_digit_8 : decode cX6_digit 8 = .ok (.aload_n 0, 1) := by decide +kernel
theorem dX6_digit_9 : decode cX6_digit 9 = .ok (.invokevirtual 139, 3) := by decide +kernel
theorem dX6_digit_12 : decode cX6_digit 12 = .ok (.bipush 48, 2) := by decide +kernel
theorem dX6_digit_14 : decode cX6_digit 14 = .ok (.bipush 48, 2) := by decide +kernel
theorem dX6_digit_16 : decode cX6_digit 16 = .ok (.iload_n 1, 1) := by decide +kernel
theorem dX6_digit_17 : decode cX6_digit 17 = .ok (.iadd, 1) := by decide +kernel
theorem dX6_digit_18 : decode cX6_digit 18 = .ok (.invokestatic 54, 3) := by decide +kernel
theorem dX6_digit_21 : decode cX6_digit 21 = .ok (.ifCond .eq 7, 3) := by decide +kernel
theorem dX6_digit_24 : decode cX6_digit 24 = .ok (.iconst 1, 1) := by decide +kernel
theorem dX6_digit_25 : decode cX6_digit 25 = .ok (.goto 4, 3) := by decide +kernel
theorem dX6_digit_28 : decode cX6_digit 28 = .ok (.iconst 0, 1) := by decide +kernel
theorem dX6_digit_29 : decode cX6_digit 29 = .ok (.putfield 135, 3) := by decide +kernel
theorem dX6_digit_32 : decode cX6_digit 32 = .ok (.aload_n 0, 1) := by decide +kernel
theorem dX6_digit_33 : decode cX6_digit 33 = .ok (.invokevirtual 139, 3) := by decide +kernel
theorem dX6_digit_36 : decode cX6_digit 36 = .ok (.bipush 48, 2) := by decide +kernel
theorem dX6_digit_38 : decode cX6_digit 38 = .ok (.isub, 1) := by decide +kernel
theorem dX6_digit_39 : decode cX6_digit 39 = .ok (.istore_n 2, 1) := by decide +kernel
theorem dX6_digit_40 : decode cX6_digit 40 = .ok (.aload_n 0, 1) := by decide +kernel
theorem dX6_digit_41 : decode cX6_digit 41 = .ok (.dup, 1) := by decide +kernel
theorem dX6_digit_42 : decode cX6_digit 42 = .ok (.getfield 132, 3) := by decide +kernel
theorem dX6_digit_45 : decode cX6_digit 45 = .ok (.aload_n 0, 1) := by decide +kernel
theorem dX6_digit_46 : decode cX6_digit 46 = .ok (.getfield 135, 3) := by decide +kernel
theorem dX6_digit_49 : decode cX6_digit 49 = .ok (.ifCond .eq 7, 3) := by decide +kernel
theorem dX6_digit_52 : decode cX6_digit 52 = .ok (.iconst 1, 1) := by decide +kernel
theorem dX6_digit_53 : decode cX6_digit 53 = .ok (.goto 4, 3) := by decide +kernel
theorem dX6_digit_56 : decode cX6_digit 56 = .ok (.iconst 0, 1) := by decide +kernel
theorem dX6_digit_57 : decode cX6_digit 57 = .ok (.iadd, 1) := by decide +kernel
theorem dX6_digit_58 : decode cX6_digit 58 = .ok (.putfield 132, 3) := by decide +kernel
theorem dX6_digit_61 : decode cX6_digit 61 = .ok (.iload_n 2, 1) := by decide +kernel
theorem dX6_digit_62 : decode cX6_digit 62 = .ok (.ireturn, 1) := by decide +kernel
theorem dX6_number_0 : decode cX6_number 0 = .ok (.aload_n 0, 1) := by decide +kernel
theorem dX6_number_1 : decode cX6_number 1 = .ok (.bipush 9, 2) := by decide +kernel
theorem dX6_number_3 : decode cX6_number 3 = .ok (.invokevirtual 142, 3) := by decide +kernel
theorem dX6_number_6 : decode cX6_number 6 = .ok (.istore_n 1, 1) := by decide +kernel
theorem dX6_number_7 : decode cX6_number 7 = .ok (.iconst 1, 1) := by decide +kernel
theorem dX6_number_8 : decode cX6_number 8 = .ok (.istore_n 2, 1) := by decide +kernel
theorem dX6_number_9 : decode cX6_number 9 = .ok (.iload_n 2, 1) := by decide +kernel
theorem dX6_number_10 : decode cX6_number 10 = .ok (.iconst 3, 1) := by decide +kernel
theorem dX6_number_11 : decode cX6_number 11 = .ok (.if_icmp .ge 57, 3) := by decide +kernel
theorem dX6_number_14 : decode cX6_number 14 = .ok (.aload_n 0, 1) := by decide +kernel
theorem dX6_number_15 : decode cX6_number 15 = .ok (.getfield 135, 3) := by decide +kernel
theorem dX6_number_18 : decode cX6_number 18 = .ok (.ifCond .eq 50, 3) := by decide +kernel
theorem dX6_number_21 : decode cX6_number 21 = .ok (.iload_n 1, 1) := by decide +kernel
theorem dX6_number_22 : decode cX6_number 22 = .ok (.ifCond .le 46, 3) := by decide +kernel
theorem dX6_number_25 : decode cX6_number 25 = .ok (.aload_n 0, 1) := by decide +kernel
theorem dX6_number_26 : decode cX6_number 26 = .ok (.invokevirtual 139, 3) := by decide +kernel
theorem dX6_number_29 : decode cX6_number 29 = .ok (.bipush 48, 2) := by decide +kernel
theorem dX6_number_31 : decode cX6_number 31 = .ok (.bipush 57, 2) := by decide +kernel
theorem dX6_number_33 : decode cX6_number 33 = .ok (.invokestatic 54, 3) := by decide +kernel
theorem dX6_number_36 : decode cX6_number 36 = .ok (.ifCond .eq 32, 3) := by decide +kernel
theorem dX6_number_39 : decode cX6_number 39 = .ok (.bipush 10, 2) := by decide +kernel
theorem dX6_number_41 : decode cX6_number 41 = .ok (.iload_n 1, 1) := by decide +kernel
theorem dX6_number_42 : decode cX6_number 42 = .ok (.imul, 1) := by decide +kernel
theorem dX6_number_43 : decode cX6_number 43 = .ok (.aload_n 0, 1) := by decide +kernel
theorem dX6_number_44 : decode cX6_number 44 = .ok (.invokevirtual 139, 3) := by decide +kernel
theorem dX6_number_47 : decode cX6_number 47 = .ok (.iadd, 1) := by decide +kernel
theorem dX6_number_48 : decode cX6_number 48 = .ok (.bipush 48, 2) := by decide +kernel
theorem dX6_number_50 : decode cX6_number 50 = .ok (.isub, 1) := by decide +kernel
theorem dX6_number_51 : decode cX6_number 51 = .ok (.istore_n 1, 1) := by decide +kernel
theorem dX6_number_52 : decode cX6_number 52 = .ok (.aload_n 0, 1) := by decide +kernel
theorem dX6_number_53 : decode cX6_number 53 = .ok (.dup, 1) := by decide +kernel
theorem dX6_number_54 : decode cX6_number 54 = .ok (.getfield 132, 3) := by decide +kernel
theorem dX6_number_57 : decode cX6_number 57 = .ok (.iconst 1, 1) := by decide +kernel
theorem dX6_number_58 : decode cX6_number 58 = .ok (.iadd, 1) := by decide +kernel
theorem dX6_number_59 : decode cX6_number 59 = .ok (.putfield 132, 3) := by decide +kernel
theorem dX6_number_62 : decode cX6_number 62 = .ok (.iinc 2 1, 3) := by decide +kernel
theorem dX6_number_65 : decode cX6_number 65 = .ok (.goto (-56), 3) := by decide +kernel
theorem dX6_number_68 : decode cX6_number 68 = .ok (.iload_n 1, 1) := by decide +kernel
theorem dX6_number_69 : decode cX6_number 69 = .ok (.ireturn, 1) := by decide +kernel
theorem dX6_readsOrder_0 : decode cX6_readsOrder 0 = .ok (.iconst 4, 1) := by decide +kernel
theorem dX6_readsOrder_1 : decode cX6_readsOrder 1 = .ok (.aload_n 0, 1) := by decide +kernel
theorem dX6_readsOrder_2 : decode cX6_readsOrder 2 = .ok (.getfield 145, 3) := by decide +kernel
theorem dX6_readsOrder_5 : decode cX6_readsOrder 5 = .ok (.imul, 1) := by decide +kernel
theorem dX6_readsOrder_6 : decode cX6_readsOrder 6 = .ok (.istore_n 1, 1) := by decide +kernel
theorem dX6_readsOrder_7 : decode cX6_readsOrder 7 = .ok (.aload_n 0, 1) := by decide +kernel
theorem dX6_readsOrder_8 : decode cX6_readsOrder 8 = .ok (.invokevirtual 139, 3) := by decide +kernel
theorem dX6_readsOrder_11 : decode cX6_readsOrder 11 = .ok (.istore_n 2, 1) := by decide +kernel
theorem dX6_readsOrder_12 : decode cX6_readsOrder 12 = .ok (.aload_n 0, 1) := by decide +kernel
theorem dX6_readsOrder_13 : decode cX6_readsOrder 13 = .ok (.aload_n 0, 1) := by decide +kernel
theorem dX6_readsOrder_14 : decode cX6_readsOrder 14 = .ok (.getfield 135, 3) := by decide +kernel
theorem dX6_readsOrder_17 : decode cX6_readsOrder 17 = .ok (.ifCond .eq 31, 3) := by decide +kernel
theorem dX6_readsOrder_20 : decode cX6_readsOrder 20 = .ok (.iload_n 2, 1) := by decide +kernel
theorem dX6_readsOrder_21 : decode cX6_readsOrder 21 = .ok (.bipush 111, 2) := by decide +kernel
theorem dX6_readsOrder_23 : decode cX6_readsOrder 23 = .ok (.if_icmp .eq 21, 3) := by decide +kernel
theorem dX6_readsOrder_26 : decode cX6_readsOrder 26 = .ok (.iload_n 2, 1) := by decide +kernel
theorem dX6_readsOrder_27 : decode cX6_readsOrder 27 = .ok (.bipush 102, 2) := by decide +kernel
theorem dX6_readsOrder_29 : decode cX6_readsOrder 29 = .ok (.if_icmp .eq 15, 3) := by decide +kernel
theorem dX6_readsOrder_32 : decode cX6_readsOrder 32 = .ok (.iload_n 2, 1) := by decide +kernel
theorem dX6_readsOrder_33 : decode cX6_readsOrder 33 = .ok (.bipush 115, 2) := by decide +kernel
theorem dX6_readsOrder_35 : decode cX6_readsOrder 35 = .ok (.if_icmp .eq 9, 3) := by decide +kernel
theorem dX6_readsOrder_38 : decode cX6_readsOrder 38 = .ok (.iload_n 2, 1) := by decide +kernel
theorem dX6_readsOrder_39 : decode cX6_readsOrder 39 = .ok (.bipush 116, 2) := by decide +kernel
theorem dX6_readsOrder_41 : decode cX6_readsOrder 41 = .ok (.if_icmp .ne 7, 3) := by decide +kernel
theorem dX6_readsOrder_44 : decode cX6_readsOrder 44 = .ok (.iconst 1, 1) := by decide +kernel
theorem dX6_readsOrder_45 : decode cX6_readsOrder 45 = .ok (.goto 4, 3) := by decide +kernel
theorem dX6_readsOrder_48 : decode cX6_readsOrder 48 = .ok (.iconst 0, 1) := by decide +kernel
theorem dX6_readsOrder_49 : decode cX6_readsOrder 49 = .ok (.putfield 135, 3) := by decide +kernel
theorem dX6_readsOrder_52 : decode cX6_readsOrder 52 = .ok (.aload_n 0, 1) := by decide +kernel
theorem dX6_readsOrder_53 : decode cX6_readsOrder 53 = .ok (.dup, 1) := by decide +kernel
theorem dX6_readsOrder_54 : decode cX6_readsOrder 54 = .ok (.getfield 132, 3) := by decide +kernel
theorem dX6_readsOrder_57 : decode cX6_readsOrder 57 = .ok (.aload_n 0, 1) := by decide +kernel
theorem dX6_readsOrder_58 : decode cX6_readsOrder 58 = .ok (.getfield 135, 3) := by decide +kernel
theorem dX6_readsOrder_61 : decode cX6_readsOrder 61 = .ok (.ifCond .eq 7, 3) := by decide +kernel
theorem dX6_readsOrder_64 : decode cX6_readsOrder 64 = .ok (.iconst 1, 1) := by decide +kernel
theorem dX6_readsOrder_65 : decode cX6_readsOrder 65 = .ok (.goto 4, 3) := by decide +kernel
theorem dX6_readsOrder_68 : decode cX6_readsOrder 68 = .ok (.iconst 0, 1) := by decide +kernel
theorem dX6_readsOrder_69 : decode cX6_readsOrder 69 = .ok (.iadd, 1) := by decide +kernel
theorem dX6_readsOrder_70 : decode cX6_readsOrder 70 = .ok (.putfield 132, 3) := by decide +kernel
theorem dX6_readsOrder_73 : decode cX6_readsOrder 73 = .ok (.aload_n 0, 1) := by decide +kernel
theorem dX6_readsOrder_74 : decode cX6_readsOrder 74 = .ok (.getfield 29, 3) := by decide +kernel
theorem dX6_readsOrder_77 : decode cX6_readsOrder 77 = .ok (.iload_n 1, 1) := by decide +kernel
theorem dX6_readsOrder_78 : decode cX6_readsOrder 78 = .ok (.iload_n 2, 1) := by decide +kernel
theorem dX6_readsOrder_79 : decode cX6_readsOrder 79 = .ok (.iastore, 1) := by decide +kernel
theorem dX6_readsOrder_80 : decode cX6_readsOrder 80 = .ok (.aload_n 0, 1) := by decide +kernel
theorem dX6_readsOrder_81 : decode cX6_readsOrder 81 = .ok (.getfield 29, 3) := by decide +kernel
theorem dX6_readsOrder_84 : decode cX6_readsOrder 84 = .ok (.iload_n 1, 1) := by decide +kernel
theorem dX6_readsOrder_85 : decode cX6_readsOrder 85 = .ok (.iconst 1, 1) := by decide +kernel
theorem dX6_readsOrder_86 : decode cX6_readsOrder 86 = .ok (.iadd, 1) := by decide +kernel
theorem dX6_readsOrder_87 : decode cX6_readsOrder 87 = .ok (.iload_n 2, 1) := by decide +kernel
theorem dX6_readsOrder_88 : decode cX6_readsOrder 88 = .ok (.bipush 115, 2) := by decide +kernel
theorem dX6_readsOrder_90 : decode cX6_readsOrder 90 = .ok (.if_icmp .ne 12, 3) := by decide +kernel
theorem dX6_readsOrder_93 : decode cX6_readsOrder 93 = .ok (.aload_n 0, 1) := by decide +kernel
theorem dX6_readsOrder_94 : decode cX6_readsOrder 94 = .ok (.bipush 7, 2) := by decide +kernel
theorem dX6_readsOrder_96 : decode cX6_readsOrder 96 = .ok (.invokevirtual 142, 3) := by decide +kernel
theorem dX6_readsOrder_99 : decode cX6_readsOrder 99 = .ok (.goto 7, 3) := by decide +kernel
theorem dX6_readsOrder_102 : decode cX6_readsOrder 102 = .ok (.aload_n 0, 1) := by decide +kernel
theorem dX6_readsOrder_103 : decode cX6_readsOrder 103 = .ok (.invokevirtual 148, 3) := by decide +kernel
theorem dX6_readsOrder_106 : decode cX6_readsOrder 106 = .ok (.iastore, 1) := by decide +kernel
theorem dX6_readsOrder_107 : decode cX6_readsOrder 107 = .ok (.iload_n 2, 1) := by decide +kernel
theorem dX6_readsOrder_108 : decode cX6_readsOrder 108 = .ok (.bipush 116, 2) := by decide +kernel
theorem dX6_readsOrder_110 : decode cX6_readsOrder 110 = .ok (.if_icmp .eq 43, 3) := by decide +kernel
theorem dX6_readsOrder_113 : decode cX6_readsOrder 113 = .ok (.aload_n 0, 1) := by decide +kernel
theorem dX6_readsOrder_114 : decode cX6_readsOrder 114 = .ok (.iload_n 2, 1) := by decide +kernel
theorem dX6_readsOrder_115 : decode cX6_readsOrder 115 = .ok (.bipush 111, 2) := by decide +kernel
theorem dX6_readsOrder_117 : decode cX6_readsOrder 117 = .ok (.if_icmp .ne 8, 3) := by decide +kernel
theorem dX6_readsOrder_120 : decode cX6_readsOrder 120 = .ok (.bipush 58, 2) := by decide +kernel
theorem dX6_readsOrder_122 : decode cX6_readsOrder 122 = .ok (.goto 16, 3) := by decide +kernel
theorem dX6_readsOrder_125 : decode cX6_readsOrder 125 = .ok (.iload_n 2, 1) := by decide +kernel
theorem dX6_readsOrder_126 : decode cX6_readsOrder 126 = .ok (.bipush 102, 2) := by decide +kernel
theorem dX6_readsOrder_128 : decode cX6_readsOrder 128 = .ok (.if_icmp .ne 8, 3) := by decide +kernel
theorem dX6_readsOrder_131 : decode cX6_readsOrder 131 = .ok (.bipush 44, 2) := by decide +kernel
theorem dX6_readsOrder_133 : decode cX6_readsOrder 133 = .ok (.goto 5, 3) := by decide +kernel
theorem dX6_readsOrder_136 : decode cX6_readsOrder 136 = .ok (.bipush 42, 2) := by decide +kernel
theorem dX6_readsOrder_138 : decode cX6_readsOrder 138 = .ok (.invokevirtual 151, 3) := by decide +kernel
theorem dX6_readsOrder_141 : decode cX6_readsOrder 141 = .ok (.aload_n 0, 1) := by decide +kernel
theorem dX6_readsOrder_142 : decode cX6_readsOrder 142 = .ok (.getfield 29, 3) := by decide +kernel
theorem dX6_readsOrder_145 : decode cX6_readsOrder 145 = .ok (.iload_n 1, 1) := by decide +kernel
theorem dX6_readsOrder_146 : decode cX6_readsOrder 146 = .ok (.iconst 2, 1) := by decide +kernel
theorem dX6_readsOrder_147 : decode cX6_readsOrder 147 = .ok (.iadd, 1) := by decide +kernel
theorem dX6_readsOrder_148 : decode cX6_readsOrder 148 = .ok (.aload_n 0, 1) := by decide +kernel
theorem dX6_readsOrder_149 : decode cX6_readsOrder 149 = .ok (.invokevirtual 148, 3) := by decide +kernel
theorem dX6_readsOrder_152 : decode cX6_readsOrder 152 = .ok (.iastore, 1) := by decide +kernel
theorem dX6_readsOrder_153 : decode cX6_readsOrder 153 = .ok (.iload_n 2, 1) := by decide +kernel
theorem dX6_readsOrder_154 : decode cX6_readsOrder 154 = .ok (.bipush 111, 2) := by decide +kernel
theorem dX6_readsOrder_156 : decode cX6_readsOrder 156 = .ok (.if_icmp .ne 25, 3) := by decide +kernel
theorem dX6_readsOrder_159 : decode cX6_readsOrder 159 = .ok (.aload_n 0, 1) := by decide +kernel
theorem dX6_readsOrder_160 : decode cX6_readsOrder 160 = .ok (.bipush 33, 2) := by decide +kernel
theorem dX6_readsOrder_162 : decode cX6_readsOrder 162 = .ok (.invokevirtual 151, 3) := by decide +kernel
theorem dX6_readsOrder_165 : decode cX6_readsOrder 165 = .ok (.aload_n 0, 1) := by decide +kernel
theorem dX6_readsOrder_166 : decode cX6_readsOrder 166 = .ok (.getfield 29, 3) := by decide +kernel
theorem dX6_readsOrder_169 : decode cX6_readsOrder 169 = .ok (.iload_n 1, 1) := by decide +kernel
theorem dX6_readsOrder_170 : decode cX6_readsOrder 170 = .ok (.iconst 3, 1) := by decide +kernel
theorem dX6_readsOrder_171 : decode cX6_readsOrder 171 = .ok (.iadd, 1) := by decide +kernel
theorem dX6_readsOrder_172 : decode cX6_readsOrder 172 = .ok (.aload_n 0, 1) := by decide +kernel
theorem dX6_readsOrder_173 : decode cX6_readsOrder 173 = .ok (.iconst 3, 1) := by decide +kernel
theorem dX6_readsOrder_174 : decode cX6_readsOrder 174 = .ok (.invokevirtual 142, 3) := by decide +kernel
theorem dX6_readsOrder_177 : decode cX6_readsOrder 177 = .ok (.iastore, 1) := by decide +kernel
theorem dX6_readsOrder_178 : decode cX6_readsOrder 178 = .ok (.goto 27, 3) := by decide +kernel
theorem dX6_readsOrder_181 : decode cX6_readsOrder 181 = .ok (.iload_n 2, 1) := by decide +kernel
theorem dX6_readsOrder_182 : decode cX6_readsOrder 182 = .ok (.bipush 102, 2) := by decide +kernel
theorem dX6_readsOrder_184 : decode cX6_readsOrder 184 = .ok (.if_icmp .ne 21, 3) := by decide +kernel
theorem dX6_readsOrder_187 : decode cX6_readsOrder 187 = .ok (.aload_n 0, 1) := by decide +kernel
theorem dX6_readsOrder_188 : decode cX6_readsOrder 188 = .ok (.bipush 44, 2) := by decide +kernel
theorem dX6_readsOrder_190 : decode cX6_readsOrder 190 = .ok (.invokevirtual 151, 3) := by decide +kernel
theorem dX6_readsOrder_193 : decode cX6_readsOrder 193 = .ok (.aload_n 0, 1) := by decide +kernel
theorem dX6_readsOrder_194 : decode cX6_readsOrder 194 = .ok (.getfield 29, 3) := by decide +kernel
theorem dX6_readsOrder_197 : decode cX6_readsOrder 197 = .ok (.iload_n 1, 1) := by decide +kernel
theorem dX6_readsOrder_198 : decode cX6_readsOrder 198 = .ok (.iconst 3, 1) := by decide +kernel
theorem dX6_readsOrder_199 : decode cX6_readsOrder 199 = .ok (.iadd, 1) := by decide +kernel
theorem dX6_readsOrder_200 : decode cX6_readsOrder 200 = .ok (.aload_n 0, 1) := by decide +kernel
theorem dX6_readsOrder_201 : decode cX6_readsOrder 201 = .ok (.invokevirtual 148, 3) := by decide +kernel
theorem dX6_readsOrder_204 : decode cX6_readsOrder 204 = .ok (.iastore, 1) := by decide +kernel
theorem dX6_readsOrder_205 : decode cX6_readsOrder 205 = .ok (.aload_n 0, 1) := by decide +kernel
theorem dX6_readsOrder_206 : decode cX6_readsOrder 206 = .ok (.dup, 1) := by decide +kernel
theorem dX6_readsOrder_207 : decode cX6_readsOrder 207 = .ok (.getfield 145, 3) := by decide +kernel
theorem dX6_readsOrder_210 : decode cX6_readsOrder 210 = .ok (.aload_n 0, 1) := by decide +kernel
theorem dX6_readsOrder_211 : decode cX6_readsOrder 211 = .ok (.getfield 135, 3) := by decide +kernel
theorem dX6_readsOrder_214 : decode cX6_readsOrder 214 = .ok (.ifCond .eq 7, 3) := by decide +kernel
theorem dX6_readsOrder_217 : decode cX6_readsOrder 217 = .ok (.iconst 1, 1) := by decide +kernel
theorem dX6_readsOrder_218 : decode cX6_readsOrder 218 = .ok (.goto 4, 3) := by decide +kernel
theorem dX6_readsOrder_221 : decode cX6_readsOrder 221 = .ok (.iconst 0, 1) := by decide +kernel
theorem dX6_readsOrder_222 : decode cX6_readsOrder 222 = .ok (.iadd, 1) := by decide +kernel
theorem dX6_readsOrder_223 : decode cX6_readsOrder 223 = .ok (.putfield 145, 3) := by decide +kernel
theorem dX6_readsOrder_226 : decode cX6_readsOrder 226 = .ok (.return_, 1) := by decide +kernel
theorem dX6_reads_0 : decode cX6_reads 0 = .ok (.aload_n 0, 1) := by decide +kernel
theorem dX6_reads_1 : decode cX6_reads 1 = .ok (.iconst 0, 1) := by decide +kernel
theorem dX6_reads_2 : decode cX6_reads 2 = .ok (.putfield 132, 3) := by decide +kernel
theorem dX6_reads_5 : decode cX6_reads 5 = .ok (.aload_n 0, 1) := by decide +kernel
theorem dX6_reads_6 : decode cX6_reads 6 = .ok (.iconst 1, 1) := by decide +kernel
theorem dX6_reads_7 : decode cX6_reads 7 = .ok (.putfield 135, 3) := by decide +kernel
theorem dX6_reads_10 : decode cX6_reads 10 = .ok (.aload_n 0, 1) := by decide +kernel
theorem dX6_reads_11 : decode cX6_reads 11 = .ok (.iconst 0, 1) := by decide +kernel
theorem dX6_reads_12 : decode cX6_reads 12 = .ok (.putfield 145, 3) := by decide +kernel
theorem dX6_reads_15 : decode cX6_reads 15 = .ok (.aload_n 0, 1) := by decide +kernel
theorem dX6_reads_16 : decode cX6_reads 16 = .ok (.invokevirtual 154, 3) := by decide +kernel
theorem dX6_reads_19 : decode cX6_reads 19 = .ok (.aload_n 0, 1) := by decide +kernel
theorem dX6_reads_20 : decode cX6_reads 20 = .ok (.getfield 135, 3) := by decide +kernel
theorem dX6_reads_23 : decode cX6_reads 23 = .ok (.ifCond .eq 34, 3) := by decide +kernel
theorem dX6_reads_26 : decode cX6_reads 26 = .ok (.aload_n 0, 1) := by decide +kernel
theorem dX6_reads_27 : decode cX6_reads 27 = .ok (.getfield 132, 3) := by decide +kernel
theorem dX6_reads_30 : decode cX6_reads 30 = .ok (.aload_n 0, 1) := by decide +kernel
theorem dX6_reads_31 : decode cX6_reads 31 = .ok (.getfield 121, 3) := by decide +kernel
theorem dX6_reads_34 : decode cX6_reads 34 = .ok (.if_icmp .ge 23, 3) := by decide +kernel
theorem dX6_reads_37 : decode cX6_reads 37 = .ok (.aload_n 0, 1) := by decide +kernel
theorem dX6_reads_38 : decode cX6_reads 38 = .ok (.bipush 59, 2) := by decide +kernel
theorem dX6_reads_40 : decode cX6_reads 40 = .ok (.invokevirtual 151, 3) := by decide +kernel
theorem dX6_reads_43 : decode cX6_reads 43 = .ok (.aload_n 0, 1) := by decide +kernel
theorem dX6_reads_44 : decode cX6_reads 44 = .ok (.getfield 135, 3) := by decide +kernel
theorem dX6_reads_47 : decode cX6_reads 47 = .ok (.ifCond .eq (-28), 3) := by decide +kernel
theorem dX6_reads_50 : decode cX6_reads 50 = .ok (.aload_n 0, 1) := by decide +kernel
theorem dX6_reads_51 : decode cX6_reads 51 = .ok (.invokevirtual 154, 3) := by decide +kernel
theorem dX6_reads_54 : decode cX6_reads 54 = .ok (.goto (-35), 3) := by decide +kernel
theorem dX6_reads_57 : decode cX6_reads 57 = .ok (.aload_n 0, 1) := by decide +kernel
theorem dX6_reads_58 : decode cX6_reads 58 = .ok (.getfield 135, 3) := by decide +kernel
theorem dX6_reads_61 : decode cX6_reads 61 = .ok (.ifCond .eq 8, 3) := by decide +kernel
theorem dX6_reads_64 : decode cX6_reads 64 = .ok (.bipush (-6), 2) := by decide +kernel
theorem dX6_reads_66 : decode cX6_reads 66 = .ok (.goto 7, 3) := by decide +kernel
theorem dX6_reads_69 : decode cX6_reads 69 = .ok (.aload_n 0, 1) := by decide +kernel
theorem dX6_reads_70 : decode cX6_reads 70 = .ok (.getfield 132, 3) := by decide +kernel
theorem dX6_reads_73 : decode cX6_reads 73 = .ok (.ireturn, 1) := by decide +kernel
theorem dX6_fault_0 : decode cX6_fault 0 = .ok (.aload_n 0, 1) := by decide +kernel
theorem dX6_fault_1 : decode cX6_fault 1 = .ok (.iconst 0, 1) := by decide +kernel
theorem dX6_fault_2 : decode cX6_fault 2 = .ok (.putfield 32, 3) := by decide +kernel
theorem dX6_fault_5 : decode cX6_fault 5 = .ok (.aload_n 0, 1) := by decide +kernel
theorem dX6_fault_6 : decode cX6_fault 6 = .ok (.invokevirtual 157, 3) := by decide +kernel
theorem dX6_fault_9 : decode cX6_fault 9 = .ok (.ireturn, 1) := by decide +kernel
theorem dX6_refuses_0 : decode cX6_refuses 0 = .ok (.aload_n 0, 1) := by decide +kernel
theorem dX6_refuses_1 : decode cX6_refuses 1 = .ok (.getfield 29, 3) := by decide +kernel
theorem dX6_refuses_4 : decode cX6_refuses 4 = .ok (.iload_n 1, 1) := by decide +kernel
theorem dX6_refuses_5 : decode cX6_refuses 5 = .ok (.iaload, 1) := by decide +kernel
theorem dX6_refuses_6 : decode cX6_refuses 6 = .ok (.lookupswitch 111 #[(102, 63), (111, 34), (115, 91)], 34) := by decide +kernel
theorem dX6_refuses_40 : decode cX6_refuses 40 = .ok (.aload_n 0, 1) := by decide +kernel
theorem dX6_refuses_41 : decode cX6_refuses 41 = .ok (.aload_n 0, 1) := by decide +kernel
theorem dX6_refuses_42 : decode cX6_refuses 42 = .ok (.getfield 29, 3) := by decide +kernel
theorem dX6_refuses_45 : decode cX6_refuses 45 = .ok (.iload_n 1, 1) := by decide +kernel
theorem dX6_refuses_46 : decode cX6_refuses 46 = .ok (.iconst 1, 1) := by decide +kernel
theorem dX6_refuses_47 : decode cX6_refuses 47 = .ok (.iadd, 1) := by decide +kernel
theorem dX6_refuses_48 : decode cX6_refuses 48 = .ok (.iaload, 1) := by decide +kernel
theorem dX6_refuses_49 : decode cX6_refuses 49 = .ok (.aload_n 0, 1) := by decide +kernel
theorem dX6_refuses_50 : decode cX6_refuses 50 = .ok (.getfield 29, 3) := by decide +kernel
theorem dX6_refuses_53 : decode cX6_refuses 53 = .ok (.iload_n 1, 1) := by decide +kernel
theorem dX6_refuses_54 : decode cX6_refuses 54 = .ok (.iconst 2, 1) := by decide +kernel
theorem dX6_refuses_55 : decode cX6_refuses 55 = .ok (.iadd, 1) := by decide +kernel
theorem dX6_refuses_56 : decode cX6_refuses 56 = .ok (.iaload, 1) := by decide +kernel
theorem dX6_refuses_57 : decode cX6_refuses 57 = .ok (.aload_n 0, 1) := by decide +kernel
theorem dX6_refuses_58 : decode cX6_refuses 58 = .ok (.getfield 29, 3) := by decide +kernel
theorem dX6_refuses_61 : decode cX6_refuses 61 = .ok (.iload_n 1, 1) := by decide +kernel
theorem dX6_refuses_62 : decode cX6_refuses 62 = .ok (.iconst 3, 1) := by decide +kernel
theorem dX6_refuses_63 : decode cX6_refuses 63 = .ok (.iadd, 1) := by decide +kernel
theorem dX6_refuses_64 : decode cX6_refuses 64 = .ok (.iaload, 1) := by decide +kernel
theorem dX6_refuses_65 : decode cX6_refuses 65 = .ok (.invokevirtual 93, 3) := by decide +kernel
theorem dX6_refuses_68 : decode cX6_refuses 68 = .ok (.ireturn, 1) := by decide +kernel
theorem dX6_refuses_69 : decode cX6_refuses 69 = .ok (.aload_n 0, 1) := by decide +kernel
theorem dX6_refuses_70 : decode cX6_refuses 70 = .ok (.getfield 29, 3) := by decide +kernel
theorem dX6_refuses_73 : decode cX6_refuses 73 = .ok (.iload_n 1, 1) := by decide +kernel
theorem dX6_refuses_74 : decode cX6_refuses 74 = .ok (.iconst 1, 1) := by decide +kernel
theorem dX6_refuses_75 : decode cX6_refuses 75 = .ok (.iadd, 1) := by decide +kernel
theorem dX6_refuses_76 : decode cX6_refuses 76 = .ok (.iaload, 1) := by decide +kernel
theorem dX6_refuses_77 : decode cX6_refuses 77 = .ok (.aload_n 0, 1) := by decide +kernel
theorem dX6_refuses_78 : decode cX6_refuses 78 = .ok (.getfield 29, 3) := by decide +kernel
theorem dX6_refuses_81 : decode cX6_refuses 81 = .ok (.iload_n 1, 1) := by decide +kernel
theorem dX6_refuses_82 : decode cX6_refuses 82 = .ok (.iconst 2, 1) := by decide +kernel
theorem dX6_refuses_83 : decode cX6_refuses 83 = .ok (.iadd, 1) := by decide +kernel
theorem dX6_refuses_84 : decode cX6_refuses 84 = .ok (.iaload, 1) := by decide +kernel
theorem dX6_refuses_85 : decode cX6_refuses 85 = .ok (.aload_n 0, 1) := by decide +kernel
theorem dX6_refuses_86 : decode cX6_refuses 86 = .ok (.getfield 29, 3) := by decide +kernel
theorem dX6_refuses_89 : decode cX6_refuses 89 = .ok (.iload_n 1, 1) := by decide +kernel
theorem dX6_refuses_90 : decode cX6_refuses 90 = .ok (.iconst 3, 1) := by decide +kernel
theorem dX6_refuses_91 : decode cX6_refuses 91 = .ok (.iadd, 1) := by decide +kernel
theorem dX6_refuses_92 : decode cX6_refuses 92 = .ok (.iaload, 1) := by decide +kernel
theorem dX6_refuses_93 : decode cX6_refuses 93 = .ok (.invokestatic 99, 3) := by decide +kernel
theorem dX6_refuses_96 : decode cX6_refuses 96 = .ok (.ireturn, 1) := by decide +kernel
theorem dX6_refuses_97 : decode cX6_refuses 97 = .ok (.aload_n 0, 1) := by decide +kernel
theorem dX6_refuses_98 : decode cX6_refuses 98 = .ok (.getfield 29, 3) := by decide +kernel
theorem dX6_refuses_101 : decode cX6_refuses 101 = .ok (.iload_n 1, 1) := by decide +kernel
theorem dX6_refuses_102 : decode cX6_refuses 102 = .ok (.iconst 1, 1) := by decide +kernel
theorem dX6_refuses_103 : decode cX6_refuses 103 = .ok (.iadd, 1) := by decide +kernel
theorem dX6_refuses_104 : decode cX6_refuses 104 = .ok (.iaload, 1) := by decide +kernel
theorem dX6_refuses_105 : decode cX6_refuses 105 = .ok (.aload_n 0, 1) := by decide +kernel
theorem dX6_refuses_106 : decode cX6_refuses 106 = .ok (.getfield 29, 3) := by decide +kernel
theorem dX6_refuses_109 : decode cX6_refuses 109 = .ok (.iload_n 1, 1) := by decide +kernel
theorem dX6_refuses_110 : decode cX6_refuses 110 = .ok (.iconst 2, 1) := by decide +kernel
theorem dX6_refuses_111 : decode cX6_refuses 111 = .ok (.iadd, 1) := by decide +kernel
theorem dX6_refuses_112 : decode cX6_refuses 112 = .ok (.iaload, 1) := by decide +kernel
theorem dX6_refuses_113 : decode cX6_refuses 113 = .ok (.invokestatic 102, 3) := by decide +kernel
theorem dX6_refuses_116 : decode cX6_refuses 116 = .ok (.ireturn, 1) := by decide +kernel
theorem dX6_refuses_117 : decode cX6_refuses 117 = .ok (.aload_n 0, 1) := by decide +kernel
theorem dX6_refuses_118 : decode cX6_refuses 118 = .ok (.aload_n 0, 1) := by decide +kernel
theorem dX6_refuses_119 : decode cX6_refuses 119 = .ok (.getfield 29, 3) := by decide +kernel
theorem dX6_refuses_122 : decode cX6_refuses 122 = .ok (.iload_n 1, 1) := by decide +kernel
theorem dX6_refuses_123 : decode cX6_refuses 123 = .ok (.iconst 1, 1) := by decide +kernel
theorem dX6_refuses_124 : decode cX6_refuses 124 = .ok (.iadd, 1) := by decide +kernel
theorem dX6_refuses_125 : decode cX6_refuses 125 = .ok (.iaload, 1) := by decide +kernel
theorem dX6_refuses_126 : decode cX6_refuses 126 = .ok (.invokevirtual 106, 3) := by decide +kernel
theorem dX6_refuses_129 : decode cX6_refuses 129 = .ok (.ireturn, 1) := by decide +kernel
theorem dX6_does_0 : decode cX6_does 0 = .ok (.aload_n 0, 1) := by decide +kernel
theorem dX6_does_1 : decode cX6_does 1 = .ok (.getfield 29, 3) := by decide +kernel
theorem dX6_does_4 : decode cX6_does 4 = .ok (.iload_n 1, 1) := by decide +kernel
theorem dX6_does_5 : decode cX6_does 5 = .ok (.iaload, 1) := by decide +kernel
theorem dX6_does_6 : decode cX6_does 6 = .ok (.lookupswitch 125 #[(102, 66), (111, 34), (115, 98)], 34) := by decide +kernel
theorem dX6_does_40 : decode cX6_does 40 = .ok (.aload_n 0, 1) := by decide +kernel
theorem dX6_does_41 : decode cX6_does 41 = .ok (.aload_n 0, 1) := by decide +kernel
theorem dX6_does_42 : decode cX6_does 42 = .ok (.getfield 29, 3) := by decide +kernel
theorem dX6_does_45 : decode cX6_does 45 = .ok (.iload_n 1, 1) := by decide +kernel
theorem dX6_does_46 : decode cX6_does 46 = .ok (.iconst 1, 1) := by decide +kernel
theorem dX6_does_47 : decode cX6_does 47 = .ok (.iadd, 1) := by decide +kernel
theorem dX6_does_48 : decode cX6_does 48 = .ok (.iaload, 1) := by decide +kernel
theorem dX6_does_49 : decode cX6_does 49 = .ok (.aload_n 0, 1) := by decide +kernel
theorem dX6_does_50 : decode cX6_does 50 = .ok (.getfield 29, 3) := by decide +kernel
theorem dX6_does_53 : decode cX6_does 53 = .ok (.iload_n 1, 1) := by decide +kernel
theorem dX6_does_54 : decode cX6_does 54 = .ok (.iconst 2, 1) := by decide +kernel
theorem dX6_does_55 : decode cX6_does 55 = .ok (.iadd, 1) := by decide +kernel
theorem dX6_does_56 : decode cX6_does 56 = .ok (.iaload, 1) := by decide +kernel
theorem dX6_does_57 : decode cX6_does 57 = .ok (.aload_n 0, 1) := by decide +kernel
theorem dX6_does_58 : decode cX6_does 58 = .ok (.getfield 29, 3) := by decide +kernel
theorem dX6_does_61 : decode cX6_does 61 = .ok (.iload_n 1, 1) := by decide +kernel
theorem dX6_does_62 : decode cX6_does 62 = .ok (.iconst 3, 1) := by decide +kernel
theorem dX6_does_63 : decode cX6_does 63 = .ok (.iadd, 1) := by decide +kernel
theorem dX6_does_64 : decode cX6_does 64 = .ok (.iaload, 1) := by decide +kernel
theorem dX6_does_65 : decode cX6_does 65 = .ok (.invokevirtual 96, 3) := by decide +kernel
theorem dX6_does_68 : decode cX6_does 68 = .ok (.pop, 1) := by decide +kernel
theorem dX6_does_69 : decode cX6_does 69 = .ok (.goto 75, 3) := by decide +kernel
theorem dX6_does_72 : decode cX6_does 72 = .ok (.aload_n 0, 1) := by decide +kernel
theorem dX6_does_73 : decode cX6_does 73 = .ok (.aload_n 0, 1) := by decide +kernel
theorem dX6_does_74 : decode cX6_does 74 = .ok (.getfield 29, 3) := by decide +kernel
theorem dX6_does_77 : decode cX6_does 77 = .ok (.iload_n 1, 1) := by decide +kernel
theorem dX6_does_78 : decode cX6_does 78 = .ok (.iconst 1, 1) := by decide +kernel
theorem dX6_does_79 : decode cX6_does 79 = .ok (.iadd, 1) := by decide +kernel
theorem dX6_does_80 : decode cX6_does 80 = .ok (.iaload, 1) := by decide +kernel
theorem dX6_does_81 : decode cX6_does 81 = .ok (.aload_n 0, 1) := by decide +kernel
theorem dX6_does_82 : decode cX6_does 82 = .ok (.getfield 29, 3) := by decide +kernel
theorem dX6_does_85 : decode cX6_does 85 = .ok (.iload_n 1, 1) := by decide +kernel
theorem dX6_does_86 : decode cX6_does 86 = .ok (.iconst 2, 1) := by decide +kernel
theorem dX6_does_87 : decode cX6_does 87 = .ok (.iadd, 1) := by decide +kernel
theorem dX6_does_88 : decode cX6_does 88 = .ok (.iaload, 1) := by decide +kernel
theorem dX6_does_89 : decode cX6_does 89 = .ok (.aload_n 0, 1) := by decide +kernel
theorem dX6_does_90 : decode cX6_does 90 = .ok (.getfield 29, 3) := by decide +kernel
theorem dX6_does_93 : decode cX6_does 93 = .ok (.iload_n 1, 1) := by decide +kernel
theorem dX6_does_94 : decode cX6_does 94 = .ok (.iconst 3, 1) := by decide +kernel
theorem dX6_does_95 : decode cX6_does 95 = .ok (.iadd, 1) := by decide +kernel
theorem dX6_does_96 : decode cX6_does 96 = .ok (.iaload, 1) := by decide +kernel
theorem dX6_does_97 : decode cX6_does 97 = .ok (.invokevirtual 66, 3) := by decide +kernel
theorem dX6_does_100 : decode cX6_does 100 = .ok (.pop, 1) := by decide +kernel
theorem dX6_does_101 : decode cX6_does 101 = .ok (.goto 43, 3) := by decide +kernel
theorem dX6_does_104 : decode cX6_does 104 = .ok (.aload_n 0, 1) := by decide +kernel
theorem dX6_does_105 : decode cX6_does 105 = .ok (.getfield 7, 3) := by decide +kernel
theorem dX6_does_108 : decode cX6_does 108 = .ok (.bipush 8, 2) := by decide +kernel
theorem dX6_does_110 : decode cX6_does 110 = .ok (.aload_n 0, 1) := by decide +kernel
theorem dX6_does_111 : decode cX6_does 111 = .ok (.getfield 29, 3) := by decide +kernel
theorem dX6_does_114 : decode cX6_does 114 = .ok (.iload_n 1, 1) := by decide +kernel
theorem dX6_does_115 : decode cX6_does 115 = .ok (.iconst 1, 1) := by decide +kernel
theorem dX6_does_116 : decode cX6_does 116 = .ok (.iadd, 1) := by decide +kernel
theorem dX6_does_117 : decode cX6_does 117 = .ok (.iaload, 1) := by decide +kernel
theorem dX6_does_118 : decode cX6_does 118 = .ok (.iadd, 1) := by decide +kernel
theorem dX6_does_119 : decode cX6_does 119 = .ok (.aload_n 0, 1) := by decide +kernel
theorem dX6_does_120 : decode cX6_does 120 = .ok (.getfield 29, 3) := by decide +kernel
theorem dX6_does_123 : decode cX6_does 123 = .ok (.iload_n 1, 1) := by decide +kernel
theorem dX6_does_124 : decode cX6_does 124 = .ok (.iconst 2, 1) := by decide +kernel
theorem dX6_does_125 : decode cX6_does 125 = .ok (.iadd, 1) := by decide +kernel
theorem dX6_does_126 : decode cX6_does 126 = .ok (.iaload, 1) := by decide +kernel
theorem dX6_does_127 : decode cX6_does 127 = .ok (.iastore, 1) := by decide +kernel
theorem dX6_does_128 : decode cX6_does 128 = .ok (.goto 16, 3) := by decide +kernel
theorem dX6_does_131 : decode cX6_does 131 = .ok (.aload_n 0, 1) := by decide +kernel
theorem dX6_does_132 : decode cX6_does 132 = .ok (.aload_n 0, 1) := by decide +kernel
theorem dX6_does_133 : decode cX6_does 133 = .ok (.getfield 29, 3) := by decide +kernel
theorem dX6_does_136 : decode cX6_does 136 = .ok (.iload_n 1, 1) := by decide +kernel
theorem dX6_does_137 : decode cX6_does 137 = .ok (.iconst 1, 1) := by decide +kernel
theorem dX6_does_138 : decode cX6_does 138 = .ok (.iadd, 1) := by decide +kernel
theorem dX6_does_139 : decode cX6_does 139 = .ok (.iaload, 1) := by decide +kernel
theorem dX6_does_140 : decode cX6_does 140 = .ok (.invokevirtual 109, 3) := by decide +kernel
theorem dX6_does_143 : decode cX6_does 143 = .ok (.pop, 1) := by decide +kernel
theorem dX6_does_144 : decode cX6_does 144 = .ok (.return_, 1) := by decide +kernel
theorem dX6_carryOut_0 : decode cX6_carryOut 0 = .ok (.aload_n 0, 1) := by decide +kernel
theorem dX6_carryOut_1 : decode cX6_carryOut 1 = .ok (.iconst 0, 1) := by decide +kernel
theorem dX6_carryOut_2 : decode cX6_carryOut 2 = .ok (.putfield 32, 3) := by decide +kernel
theorem dX6_carryOut_5 : decode cX6_carryOut 5 = .ok (.aload_n 0, 1) := by decide +kernel
theorem dX6_carryOut_6 : decode cX6_carryOut 6 = .ok (.invokevirtual 157, 3) := by decide +kernel
theorem dX6_carryOut_9 : decode cX6_carryOut 9 = .ok (.bipush (-6), 2) := by decide +kernel
theorem dX6_carryOut_11 : decode cX6_carryOut 11 = .ok (.if_icmp .eq 6, 3) := by decide +kernel
theorem dX6_carryOut_14 : decode cX6_carryOut 14 = .ok (.bipush (-3), 2) := by decide +kernel
theorem dX6_carryOut_16 : decode cX6_carryOut 16 = .ok (.ireturn, 1) := by decide +kernel
theorem dX6_carryOut_17 : decode cX6_carryOut 17 = .ok (.aload_n 0, 1) := by decide +kernel
theorem dX6_carryOut_18 : decode cX6_carryOut 18 = .ok (.invokevirtual 90, 3) := by decide +kernel
theorem dX6_carryOut_21 : decode cX6_carryOut 21 = .ok (.aload_n 0, 1) := by decide +kernel
theorem dX6_carryOut_22 : decode cX6_carryOut 22 = .ok (.iconst 0, 1) := by decide +kernel
theorem dX6_carryOut_23 : decode cX6_carryOut 23 = .ok (.putfield 121, 3) := by decide +kernel
theorem dX6_carryOut_26 : decode cX6_carryOut 26 = .ok (.iconst 0, 1) := by decide +kernel
theorem dX6_carryOut_27 : decode cX6_carryOut 27 = .ok (.istore_n 1, 1) := by decide +kernel
theorem dX6_carryOut_28 : decode cX6_carryOut 28 = .ok (.iload_n 1, 1) := by decide +kernel
theorem dX6_carryOut_29 : decode cX6_carryOut 29 = .ok (.aload_n 0, 1) := by decide +kernel
theorem dX6_carryOut_30 : decode cX6_carryOut 30 = .ok (.getfield 145, 3) := by decide +kernel
theorem dX6_carryOut_33 : decode cX6_carryOut 33 = .ok (.if_icmp .ge 28, 3) := by decide +kernel
theorem dX6_carryOut_36 : decode cX6_carryOut 36 = .ok (.aload_n 0, 1) := by decide +kernel
theorem dX6_carryOut_37 : decode cX6_carryOut 37 = .ok (.iconst 4, 1) := by decide +kernel
theorem dX6_carryOut_38 : decode cX6_carryOut 38 = .ok (.iload_n 1, 1) := by decide +kernel
theorem dX6_carryOut_39 : decode cX6_carryOut 39 = .ok (.imul, 1) := by decide +kernel
theorem dX6_carryOut_40 : decode cX6_carryOut 40 = .ok (.invokevirtual 160, 3) := by decide +kernel
theorem dX6_carryOut_43 : decode cX6_carryOut 43 = .ok (.ifCond .eq 5, 3) := by decide +kernel
theorem dX6_carryOut_46 : decode cX6_carryOut 46 = .ok (.iload_n 1, 1) := by decide +kernel
theorem dX6_carryOut_47 : decode cX6_carryOut 47 = .ok (.ireturn, 1) := by decide +kernel
theorem dX6_carryOut_48 : decode cX6_carryOut 48 = .ok (.aload_n 0, 1) := by decide +kernel
theorem dX6_carryOut_49 : decode cX6_carryOut 49 = .ok (.iconst 4, 1) := by decide +kernel
theorem dX6_carryOut_50 : decode cX6_carryOut 50 = .ok (.iload_n 1, 1) := by decide +kernel
theorem dX6_carryOut_51 : decode cX6_carryOut 51 = .ok (.imul, 1) := by decide +kernel
theorem dX6_carryOut_52 : decode cX6_carryOut 52 = .ok (.invokevirtual 163, 3) := by decide +kernel
theorem dX6_carryOut_55 : decode cX6_carryOut 55 = .ok (.iinc 1 1, 3) := by decide +kernel
theorem dX6_carryOut_58 : decode cX6_carryOut 58 = .ok (.goto (-30), 3) := by decide +kernel
theorem dX6_carryOut_61 : decode cX6_carryOut 61 = .ok (.aload_n 0, 1) := by decide +kernel
theorem dX6_carryOut_62 : decode cX6_carryOut 62 = .ok (.getfield 145, 3) := by decide +kernel
theorem dX6_carryOut_65 : decode cX6_carryOut 65 = .ok (.ireturn, 1) := by decide +kernel
theorem dX6_undo_0 : decode cX6_undo 0 = .ok (.aload_n 0, 1) := by decide +kernel
theorem dX6_undo_1 : decode cX6_undo 1 = .ok (.iconst 0, 1) := by decide +kernel
theorem dX6_undo_2 : decode cX6_undo 2 = .ok (.putfield 32, 3) := by decide +kernel
theorem dX6_undo_5 : decode cX6_undo 5 = .ok (.aload_n 0, 1) := by decide +kernel
theorem dX6_undo_6 : decode cX6_undo 6 = .ok (.getfield 40, 3) := by decide +kernel
theorem dX6_undo_9 : decode cX6_undo 9 = .ok (.ifCond .ne 6, 3) := by decide +kernel
theorem dX6_undo_12 : decode cX6_undo 12 = .ok (.bipush (-5), 2) := by decide +kernel
theorem dX6_undo_14 : decode cX6_undo 14 = .ok (.ireturn, 1) := by decide +kernel
theorem dX6_undo_15 : decode cX6_undo 15 = .ok (.aload_n 0, 1) := by decide +kernel
theorem dX6_undo_16 : decode cX6_undo 16 = .ok (.dup, 1) := by decide +kernel
theorem dX6_undo_17 : decode cX6_undo 17 = .ok (.getfield 40, 3) := by decide +kernel
theorem dX6_undo_20 : decode cX6_undo 20 = .ok (.iconst 1, 1) := by decide +kernel
theorem dX6_undo_21 : decode cX6_undo 21 = .ok (.isub, 1) := by decide +kernel
theorem dX6_undo_22 : decode cX6_undo 22 = .ok (.putfield 40, 3) := by decide +kernel
theorem dX6_undo_25 : decode cX6_undo 25 = .ok (.iconst 0, 1) := by decide +kernel
theorem dX6_undo_26 : decode cX6_undo 26 = .ok (.istore_n 1, 1) := by decide +kernel
theorem dX6_undo_27 : decode cX6_undo 27 = .ok (.iload_n 1, 1) := by decide +kernel
theorem dX6_undo_28 : decode cX6_undo 28 = .ok (.sipush 164, 3) := by decide +kernel
theorem dX6_undo_31 : decode cX6_undo 31 = .ok (.if_icmp .ge 30, 3) := by decide +kernel
theorem dX6_undo_34 : decode cX6_undo 34 = .ok (.aload_n 0, 1) := by decide +kernel
theorem dX6_undo_35 : decode cX6_undo 35 = .ok (.getfield 7, 3) := by decide +kernel
theorem dX6_undo_38 : decode cX6_undo 38 = .ok (.iload_n 1, 1) := by decide +kernel
theorem dX6_undo_39 : decode cX6_undo 39 = .ok (.aload_n 0, 1) := by decide +kernel
theorem dX6_undo_40 : decode cX6_undo 40 = .ok (.getfield 16, 3) := by decide +kernel
theorem dX6_undo_43 : decode cX6_undo 43 = .ok (.sipush 164, 3) := by decide +kernel
theorem dX6_undo_46 : decode cX6_undo 46 = .ok (.aload_n 0, 1) := by decide +kernel
theorem dX6_undo_47 : decode cX6_undo 47 = .ok (.getfield 40, 3) := by decide +kernel
theorem dX6_undo_50 : decode cX6_undo 50 = .ok (.imul, 1) := by decide +kernel
theorem dX6_undo_51 : decode cX6_undo 51 = .ok (.iload_n 1, 1) := by decide +kernel
theorem dX6_undo_52 : decode cX6_undo 52 = .ok (.iadd, 1) := by decide +kernel
theorem dX6_undo_53 : decode cX6_undo 53 = .ok (.iaload, 1) := by decide +kernel
theorem dX6_undo_54 : decode cX6_undo 54 = .ok (.iastore, 1) := by decide +kernel
theorem dX6_undo_55 : decode cX6_undo 55 = .ok (.iinc 1 1, 3) := by decide +kernel
theorem dX6_undo_58 : decode cX6_undo 58 = .ok (.goto (-31), 3) := by decide +kernel
theorem dX6_undo_61 : decode cX6_undo 61 = .ok (.aload_n 0, 1) := by decide +kernel
theorem dX6_undo_62 : decode cX6_undo 62 = .ok (.getfield 40, 3) := by decide +kernel
theorem dX6_undo_65 : decode cX6_undo 65 = .ok (.ireturn, 1) := by decide +kernel
theorem dX6_save_0 : decode cX6_save 0 = .ok (.aload_n 0, 1) := by decide +kernel
theorem dX6_save_1 : decode cX6_save 1 = .ok (.iconst 0, 1) := by decide +kernel
theorem dX6_save_2 : decode cX6_save 2 = .ok (.putfield 32, 3) := by decide +kernel
theorem dX6_save_5 : decode cX6_save 5 = .ok (.iload_n 1, 1) := by decide +kernel
theorem dX6_save_6 : decode cX6_save 6 = .ok (.iconst 0, 1) := by decide +kernel
theorem dX6_save_7 : decode cX6_save 7 = .ok (.iconst 1, 1) := by decide +kernel
theorem dX6_save_8 : decode cX6_save 8 = .ok (.invokestatic 54, 3) := by decide +kernel
theorem dX6_save_11 : decode cX6_save 11 = .ok (.ifCond .ne 6, 3) := by decide +kernel
theorem dX6_save_14 : decode cX6_save 14 = .ok (.bipush (-2), 2) := by decide +kernel
theorem dX6_save_16 : decode cX6_save 16 = .ok (.ireturn, 1) := by decide +kernel
theorem dX6_save_17 : decode cX6_save 17 = .ok (.iconst 0, 1) := by decide +kernel
theorem dX6_save_18 : decode cX6_save 18 = .ok (.istore_n 2, 1) := by decide +kernel
theorem dX6_save_19 : decode cX6_save 19 = .ok (.iload_n 2, 1) := by decide +kernel
theorem dX6_save_20 : decode cX6_save 20 = .ok (.sipush 164, 3) := by decide +kernel
theorem dX6_save_23 : decode cX6_save 23 = .ok (.if_icmp .ge 27, 3) := by decide +kernel
theorem dX6_save_26 : decode cX6_save 26 = .ok (.aload_n 0, 1) := by decide +kernel
theorem dX6_save_27 : decode cX6_save 27 = .ok (.getfield 19, 3) := by decide +kernel
theorem dX6_save_30 : decode cX6_save 30 = .ok (.sipush 164, 3) := by decide +kernel
theorem dX6_save_33 : decode cX6_save 33 = .ok (.iload_n 1, 1) := by decide +kernel
theorem dX6_save_34 : decode cX6_save 34 = .ok (.imul, 1) := by decide +kernel
theorem dX6_save_35 : decode cX6_save 35 = .ok (.iload_n 2, 1) := by decide +kernel
theorem dX6_save_36 : decode cX6_save 36 = .ok (.iadd, 1) := by decide +kernel
theorem dX6_save_37 : decode cX6_save 37 = .ok (.aload_n 0, 1) := by decide +kernel
theorem dX6_save_38 : decode cX6_save 38 = .ok (.getfield 7, 3) := by decide +kernel
theorem dX6_save_41 : decode cX6_save 41 = .ok (.iload_n 2, 1) := by decide +kernel
theorem dX6_save_42 : decode cX6_save 42 = .ok (.iaload, 1) := by decide +kernel
theorem dX6_save_43 : decode cX6_save 43 = .ok (.iastore, 1) := by decide +kernel
theorem dX6_save_44 : decode cX6_save 44 = .ok (.iinc 2 1, 3) := by decide +kernel
theorem dX6_save_47 : decode cX6_save 47 = .ok (.goto (-28), 3) := by decide +kernel
theorem dX6_save_50 : decode cX6_save 50 = .ok (.aload_n 0, 1) := by decide +kernel
theorem dX6_save_51 : decode cX6_save 51 = .ok (.getfield 22, 3) := by decide +kernel
theorem dX6_save_54 : decode cX6_save 54 = .ok (.iload_n 1, 1) := by decide +kernel
theorem dX6_save_55 : decode cX6_save 55 = .ok (.iconst 1, 1) := by decide +kernel
theorem dX6_save_56 : decode cX6_save 56 = .ok (.bastore, 1) := by decide +kernel
theorem dX6_save_57 : decode cX6_save 57 = .ok (.aload_n 0, 1) := by decide +kernel
theorem dX6_save_58 : decode cX6_save 58 = .ok (.getfield 7, 3) := by decide +kernel
theorem dX6_save_61 : decode cX6_save 61 = .ok (.bipush 6, 2) := by decide +kernel
theorem dX6_save_63 : decode cX6_save 63 = .ok (.iaload, 1) := by decide +kernel
theorem dX6_save_64 : decode cX6_save 64 = .ok (.ireturn, 1) := by decide +kernel
theorem dX6_restore_0 : decode cX6_restore 0 = .ok (.aload_n 0, 1) := by decide +kernel
theorem dX6_restore_1 : decode cX6_restore 1 = .ok (.iconst 0, 1) := by decide +kernel
theorem dX6_restore_2 : decode cX6_restore 2 = .ok (.putfield 32, 3) := by decide +kernel
theorem dX6_restore_5 : decode cX6_restore 5 = .ok (.iload_n 1, 1) := by decide +kernel
theorem dX6_restore_6 : decode cX6_restore 6 = .ok (.iconst 0, 1) := by decide +kernel
theorem dX6_restore_7 : decode cX6_restore 7 = .ok (.iconst 1, 1) := by decide +kernel
theorem dX6_restore_8 : decode cX6_restore 8 = .ok (.invokestatic 54, 3) := by decide +kernel
theorem dX6_restore_11 : decode cX6_restore 11 = .ok (.ifCond .ne 6, 3) := by decide +kernel
theorem dX6_restore_14 : decode cX6_restore 14 = .ok (.bipush (-2), 2) := by decide +kernel
theorem dX6_restore_16 : decode cX6_restore 16 = .ok (.ireturn, 1) := by decide +kernel
theorem dX6_restore_17 : decode cX6_restore 17 = .ok (.aload_n 0, 1) := by decide +kernel
theorem dX6_restore_18 : decode cX6_restore 18 = .ok (.getfield 22, 3) := by decide +kernel
theorem dX6_restore_21 : decode cX6_restore 21 = .ok (.iload_n 1, 1) := by decide +kernel
theorem dX6_restore_22 : decode cX6_restore 22 = .ok (.baload, 1) := by decide +kernel
theorem dX6_restore_23 : decode cX6_restore 23 = .ok (.ifCond .ne 6, 3) := by decide +kernel
theorem dX6_restore_26 : decode cX6_restore 26 = .ok (.bipush (-5), 2) := by decide +kernel
theorem dX6_restore_28 : decode cX6_restore 28 = .ok (.ireturn, 1) := by decide +kernel
theorem dX6_restore_29 : decode cX6_restore 29 = .ok (.aload_n 0, 1) := by decide +kernel
theorem dX6_restore_30 : decode cX6_restore 30 = .ok (.invokevirtual 90, 3) := by decide +kernel
theorem dX6_restore_33 : decode cX6_restore 33 = .ok (.iconst 0, 1) := by decide +kernel
theorem dX6_restore_34 : decode cX6_restore 34 = .ok (.istore_n 2, 1) := by decide +kernel
theorem dX6_restore_35 : decode cX6_restore 35 = .ok (.iload_n 2, 1) := by decide +kernel
theorem dX6_restore_36 : decode cX6_restore 36 = .ok (.sipush 164, 3) := by decide +kernel
theorem dX6_restore_39 : decode cX6_restore 39 = .ok (.if_icmp .ge 27, 3) := by decide +kernel
theorem dX6_restore_42 : decode cX6_restore 42 = .ok (.aload_n 0, 1) := by decide +kernel
theorem dX6_restore_43 : decode cX6_restore 43 = .ok (.getfield 7, 3) := by decide +kernel
theorem dX6_restore_46 : decode cX6_restore 46 = .ok (.iload_n 2, 1) := by decide +kernel
theorem dX6_restore_47 : decode cX6_restore 47 = .ok (.aload_n 0, 1) := by decide +kernel
theorem dX6_restore_48 : decode cX6_restore 48 = .ok (.getfield 19, 3) := by decide +kernel
theorem dX6_restore_51 : decode cX6_restore 51 = .ok (.sipush 164, 3) := by decide +kernel
theorem dX6_restore_54 : decode cX6_restore 54 = .ok (.iload_n 1, 1) := by decide +kernel
theorem dX6_restore_55 : decode cX6_restore 55 = .ok (.imul, 1) := by decide +kernel
theorem dX6_restore_56 : decode cX6_restore 56 = .ok (.iload_n 2, 1) := by decide +kernel
theorem dX6_restore_57 : decode cX6_restore 57 = .ok (.iadd, 1) := by decide +kernel
theorem dX6_restore_58 : decode cX6_restore 58 = .ok (.iaload, 1) := by decide +kernel
theorem dX6_restore_59 : decode cX6_restore 59 = .ok (.iastore, 1) := by decide +kernel
theorem dX6_restore_60 : decode cX6_restore 60 = .ok (.iinc 2 1, 3) := by decide +kernel
theorem dX6_restore_63 : decode cX6_restore 63 = .ok (.goto (-28), 3) := by decide +kernel
theorem dX6_restore_66 : decode cX6_restore 66 = .ok (.aload_n 0, 1) := by decide +kernel
theorem dX6_restore_67 : decode cX6_restore 67 = .ok (.getfield 7, 3) := by decide +kernel
theorem dX6_restore_70 : decode cX6_restore 70 = .ok (.bipush 6, 2) := by decide +kernel
theorem dX6_restore_72 : decode cX6_restore 72 = .ok (.iaload, 1) := by decide +kernel
theorem dX6_restore_73 : decode cX6_restore 73 = .ok (.ireturn, 1) := by decide +kernel
