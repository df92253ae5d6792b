theorem dX0_init_0 : decode cX0_init 0 = .ok (.aload_n 0, 1) := by decide +kernel
theorem dX0_init_1 : decode cX0_init 1 = .ok (.invokespecial 3, 3) := by decide +kernel
theorem dX0_init_4 : decode cX0_init 4 = .ok (.aload_n 0, 1) := by decide +kernel
theorem dX0_init_5 : decode cX0_init 5 = .ok (.bipush 7, 2) := by decide +kernel
theorem dX0_init_7 : decode cX0_init 7 = .ok (.anewarray 9, 3) := by decide +kernel
theorem dX0_init_10 : decode cX0_init 10 = .ok (.putfield 11, 3) := by decide +kernel
theorem dX0_init_13 : decode cX0_init 13 = .ok (.iconst 0, 1) := by decide +kernel
theorem dX0_init_14 : decode cX0_init 14 = .ok (.istore_n 1, 1) := by decide +kernel
theorem dX0_init_15 : decode cX0_init 15 = .ok (.iload_n 1, 1) := by decide +kernel
theorem dX0_init_16 : decode cX0_init 16 = .ok (.bipush 7, 2) := by decide +kernel
theorem dX0_init_18 : decode cX0_init 18 = .ok (.if_icmp .ge 22, 3) := by decide +kernel
theorem dX0_init_21 : decode cX0_init 21 = .ok (.aload_n 0, 1) := by decide +kernel
theorem dX0_init_22 : decode cX0_init 22 = .ok (.getfield 11, 3) := by decide +kernel
theorem dX0_init_25 : decode cX0_init 25 = .ok (.iload_n 1, 1) := by decide +kernel
theorem dX0_init_26 : decode cX0_init 26 = .ok (.new 9, 3) := by decide +kernel
theorem dX0_init_29 : decode cX0_init 29 = .ok (.dup, 1) := by decide +kernel
theorem dX0_init_30 : decode cX0_init 30 = .ok (.invokespecial 17, 3) := by decide +kernel
theorem dX0_init_33 : decode cX0_init 33 = .ok (.aastore, 1) := by decide +kernel
theorem dX0_init_34 : decode cX0_init 34 = .ok (.iinc 1 1, 3) := by decide +kernel
theorem dX0_init_37 : decode cX0_init 37 = .ok (.goto (-22), 3) := by decide +kernel
theorem dX0_init_40 : decode cX0_init 40 = .ok (.return_, 1) := by decide +kernel
theorem dX0_draft_0 : decode cX0_draft 0 = .ok (.aload_n 0, 1) := by decide +kernel
theorem dX0_draft_1 : decode cX0_draft 1 = .ok (.getfield 11, 3) := by decide +kernel
theorem dX0_draft_4 : decode cX0_draft 4 = .ok (.aload_n 0, 1) := by decide +kernel
theorem dX0_draft_5 : decode cX0_draft 5 = .ok (.getfield 18, 3) := by decide +kernel
theorem dX0_draft_8 : decode cX0_draft 8 = .ok (.aload_n 0, 1) := by decide +kernel
theorem dX0_draft_9 : decode cX0_draft 9 = .ok (.getfield 22, 3) := by decide +kernel
theorem dX0_draft_12 : decode cX0_draft 12 = .ok (.iadd, 1) := by decide +kernel
theorem dX0_draft_13 : decode cX0_draft 13 = .ok (.bipush 7, 2) := by decide +kernel
theorem dX0_draft_15 : decode cX0_draft 15 = .ok (.irem, 1) := by decide +kernel
theorem dX0_draft_16 : decode cX0_draft 16 = .ok (.aaload, 1) := by decide +kernel
theorem dX0_draft_17 : decode cX0_draft 17 = .ok (.aload_n 1, 1) := by decide +kernel
theorem dX0_draft_18 : decode cX0_draft 18 = .ok (.invokevirtual 25, 3) := by decide +kernel
theorem dX0_draft_21 : decode cX0_draft 21 = .ok (.return_, 1) := by decide +kernel
theorem dX0_kept_0 : decode cX0_kept 0 = .ok (.iload_n 1, 1) := by decide +kernel
theorem dX0_kept_1 : decode cX0_kept 1 = .ok (.ifCond .ge 5, 3) := by decide +kernel
theorem dX0_kept_4 : decode cX0_kept 4 = .ok (.iload_n 1, 1) := by decide +kernel
theorem dX0_kept_5 : decode cX0_kept 5 = .ok (.ireturn, 1) := by decide +kernel
theorem dX0_kept_6 : decode cX0_kept 6 = .ok (.aload_n 0, 1) := by decide +kernel
theorem dX0_kept_7 : decode cX0_kept 7 = .ok (.getfield 22, 3) := by decide +kernel
theorem dX0_kept_10 : decode cX0_kept 10 = .ok (.bipush 6, 2) := by decide +kernel
theorem dX0_kept_12 : decode cX0_kept 12 = .ok (.if_icmp .ge 16, 3) := by decide +kernel
theorem dX0_kept_15 : decode cX0_kept 15 = .ok (.aload_n 0, 1) := by decide +kernel
theorem dX0_kept_16 : decode cX0_kept 16 = .ok (.dup, 1) := by decide +kernel
theorem dX0_kept_17 : decode cX0_kept 17 = .ok (.getfield 22, 3) := by decide +kernel
theorem dX0_kept_20 : decode cX0_kept 20 = .ok (.iconst 1, 1) := by decide +kernel
theorem dX0_kept_21 : decode cX0_kept 21 = .ok (.iadd, 1) := by decide +kernel
theorem dX0_kept_22 : decode cX0_kept 22 = .ok (.putfield 22, 3) := by decide +kernel
theorem dX0_kept_25 : decode cX0_kept 25 = .ok (.goto 16, 3) := by decide +kernel
theorem dX0_kept_28 : decode cX0_kept 28 = .ok (.aload_n 0, 1) := by decide +kernel
theorem dX0_kept_29 : decode cX0_kept 29 = .ok (.aload_n 0, 1) := by decide +kernel
theorem dX0_kept_30 : decode cX0_kept 30 = .ok (.getfield 18, 3) := by decide +kernel
theorem dX0_kept_33 : decode cX0_kept 33 = .ok (.iconst 1, 1) := by decide +kernel
theorem dX0_kept_34 : decode cX0_kept 34 = .ok (.iadd, 1) := by decide +kernel
theorem dX0_kept_35 : decode cX0_kept 35 = .ok (.bipush 7, 2) := by decide +kernel
theorem dX0_kept_37 : decode cX0_kept 37 = .ok (.irem, 1) := by decide +kernel
theorem dX0_kept_38 : decode cX0_kept 38 = .ok (.putfield 18, 3) := by decide +kernel
theorem dX0_kept_41 : decode cX0_kept 41 = .ok (.iload_n 1, 1) := by decide +kernel
theorem dX0_kept_42 : decode cX0_kept 42 = .ok (.ireturn, 1) := by decide +kernel
theorem dX0_takeBack_0 : decode cX0_takeBack 0 = .ok (.aload_n 0, 1) := by decide +kernel
theorem dX0_takeBack_1 : decode cX0_takeBack 1 = .ok (.getfield 22, 3) := by decide +kernel
theorem dX0_takeBack_4 : decode cX0_takeBack 4 = .ok (.iconst 1, 1) := by decide +kernel
theorem dX0_takeBack_5 : decode cX0_takeBack 5 = .ok (.if_icmp .ge 6, 3) := by decide +kernel
theorem dX0_takeBack_8 : decode cX0_takeBack 8 = .ok (.bipush (-5), 2) := by decide +kernel
theorem dX0_takeBack_10 : decode cX0_takeBack 10 = .ok (.ireturn, 1) := by decide +kernel
theorem dX0_takeBack_11 : decode cX0_takeBack 11 = .ok (.aload_n 0, 1) := by decide +kernel
theorem dX0_takeBack_12 : decode cX0_takeBack 12 = .ok (.dup, 1) := by decide +kernel
theorem dX0_takeBack_13 : decode cX0_takeBack 13 = .ok (.getfield 22, 3) := by decide +kernel
theorem dX0_takeBack_16 : decode cX0_takeBack 16 = .ok (.iconst 1, 1) := by decide +kernel
theorem dX0_takeBack_17 : decode cX0_takeBack 17 = .ok (.isub, 1) := by decide +kernel
theorem dX0_takeBack_18 : decode cX0_takeBack 18 = .ok (.putfield 22, 3) := by decide +kernel
theorem dX0_takeBack_21 : decode cX0_takeBack 21 = .ok (.aload_n 1, 1) := by decide +kernel
theorem dX0_takeBack_22 : decode cX0_takeBack 22 = .ok (.aload_n 0, 1) := by decide +kernel
theorem dX0_takeBack_23 : decode cX0_takeBack 23 = .ok (.getfield 11, 3) := by decide +kernel
theorem dX0_takeBack_26 : decode cX0_takeBack 26 = .ok (.aload_n 0, 1) := by decide +kernel
theorem dX0_takeBack_27 : decode cX0_takeBack 27 = .ok (.getfield 18, 3) := by decide +kernel
theorem dX0_takeBack_30 : decode cX0_takeBack 30 = .ok (.aload_n 0, 1) := by decide +kernel
theorem dX0_takeBack_31 : decode cX0_takeBack 31 = .ok (.getfield 22, 3) := by decide +kernel
theorem dX0_takeBack_34 : decode cX0_takeBack 34 = .ok (.iadd, 1) := by decide +kernel
theorem dX0_takeBack_35 : decode cX0_takeBack 35 = .ok (.bipush 7, 2) := by decide +kernel
theorem dX0_takeBack_37 : decode cX0_takeBack 37 = .ok (.irem, 1) := by decide +kernel
theorem dX0_takeBack_38 : decode cX0_takeBack 38 = .ok (.aaload, 1) := by decide +kernel
theorem dX0_takeBack_39 : decode cX0_takeBack 39 = .ok (.invokevirtual 25, 3) := by decide +kernel
theorem dX0_takeBack_42 : decode cX0_takeBack 42 = .ok (.aload_n 0, 1) := by decide +kernel
theorem dX0_takeBack_43 : decode cX0_takeBack 43 = .ok (.getfield 22, 3) := by decide +kernel
theorem dX0_takeBack_46 : decode cX0_takeBack 46 = .ok (.ireturn, 1) := by decide +kernel
theorem dX1_init_0 : decode cX1_init 0 = .ok (.aload_n 0, 1) := by decide +kernel
theorem dX1_init_1 : decode cX1_init 1 = .ok (.invokespecial 3, 3) := by decide +kernel
theorem dX1_init_4 : decode cX1_init 4 = .ok (.aload_n 0, 1) := by decide +kernel
theorem dX1_init_5 : decode cX1_init 5 = .ok (.bipush 8, 2) := by decide +kernel
theorem dX1_init_7 : decode cX1_init 7 = .ok (.anewarray 9, 3) := by decide +kernel
theorem dX1_init_10 : decode cX1_init 10 = .ok (.putfield 11, 3) := by decide +kernel
theorem dX1_init_13 : decode cX1_init 13 = .ok (.aload_n 0, 1) := by decide +kernel
theorem dX1_init_14 : decode cX1_init 14 = .ok (.new 17, 3) := by decide +kernel
theorem dX1_init_17 : decode cX1_init 17 = .ok (.dup, 1) := by decide +kernel
theorem dX1_init_18 : decode cX1_init 18 = .ok (.invokespecial 19, 3) := by decide +kernel
theorem dX1_init_21 : decode cX1_init 21 = .ok (.putfield 20, 3) := by decide +kernel
theorem dX1_init_24 : decode cX1_init 24 = .ok (.aload_n 0, 1) := by decide +kernel
theorem dX1_init_25 : decode cX1_init 25 = .ok (.bipush 8, 2) := by decide +kernel
theorem dX1_init_27 : decode cX1_init 27 = .ok (.newarray .int, 2) := by decide +kernel
theorem dX1_init_29 : decode cX1_init 29 = .ok (.putfield 24, 3) := by decide +kernel
theorem dX1_init_32 : decode cX1_init 32 = .ok (.iconst 0, 1) := by decide +kernel
theorem dX1_init_33 : decode cX1_init 33 = .ok (.istore_n 1, 1) := by decide +kernel
theorem dX1_init_34 : decode cX1_init 34 = .ok (.iload_n 1, 1) := by decide +kernel
theorem dX1_init_35 : decode cX1_init 35 = .ok (.bipush 8, 2) := by decide +kernel
theorem dX1_init_37 : decode cX1_init 37 = .ok (.if_icmp .ge 22, 3) := by decide +kernel
theorem dX1_init_40 : decode cX1_init 40 = .ok (.aload_n 0, 1) := by decide +kernel
theorem dX1_init_41 : decode cX1_init 41 = .ok (.getfield 11, 3) := by decide +kernel
theorem dX1_init_44 : decode cX1_init 44 = .ok (.iload_n 1, 1) := by decide +kernel
theorem dX1_init_45 : decode cX1_init 45 = .ok (.new 9, 3) := by decide +kernel
theorem dX1_init_48 : decode cX1_init 48 = .ok (.dup, 1) := by decide +kernel
theorem dX1_init_49 : decode cX1_init 49 = .ok (.invokespecial 28, 3) := by decide +kernel
theorem dX1_init_52 : decode cX1_init 52 = .ok (.aastore, 1) := by decide +kernel
theorem dX1_init_53 : decode cX1_init 53 = .ok (.iinc 1 1, 3) := by decide +kernel
theorem dX1_init_56 : decode cX1_init 56 = .ok (.goto (-22), 3) := by decide +kernel
theorem dX1_init_59 : decode cX1_init 59 = .ok (.return_, 1) := by decide +kernel
theorem dX1_copyFrom_0 : decode cX1_copyFrom 0 = .ok (.iconst 0, 1) := by decide +kernel
theorem dX1_copyFrom_1 : decode cX1_copyFrom 1 = .ok (.istore_n 2, 1) := by decide +kernel
theorem dX1_copyFrom_2 : decode cX1_copyFrom 2 = .ok (.iload_n 2, 1) := by decide +kernel
theorem dX1_copyFrom_3 : decode cX1_copyFrom 3 = .ok (.aload_n 1, 1) := by decide +kernel
theorem dX1_copyFrom_4 : decode cX1_copyFrom 4 = .ok (.getfield 29, 3) := by decide +kernel
theorem dX1_copyFrom_7 : decode cX1_copyFrom 7 = .ok (.if_icmp .ge 24, 3) := by decide +kernel
theorem dX1_copyFrom_10 : decode cX1_copyFrom 10 = .ok (.aload_n 0, 1) := by decide +kernel
theorem dX1_copyFrom_11 : decode cX1_copyFrom 11 = .ok (.getfield 11, 3) := by decide +kernel
theorem dX1_copyFrom_14 : decode cX1_copyFrom 14 = .ok (.iload_n 2, 1) := by decide +kernel
theorem dX1_copyFrom_15 : decode cX1_copyFrom 15 = .ok (.aaload, 1) := by decide +kernel
theorem dX1_copyFrom_16 : decode cX1_copyFrom 16 = .ok (.aload_n 1, 1) := by decide +kernel
theorem dX1_copyFrom_17 : decode cX1_copyFrom 17 = .ok (.getfield 11, 3) := by decide +kernel
theorem dX1_copyFrom_20 : decode cX1_copyFrom 20 = .ok (.iload_n 2, 1) := by decide +kernel
theorem dX1_copyFrom_21 : decode cX1_copyFrom 21 = .ok (.aaload, 1) := by decide +kernel
theorem dX1_copyFrom_22 : decode cX1_copyFrom 22 = .ok (.invokevirtual 33, 3) := by decide +kernel
theorem dX1_copyFrom_25 : decode cX1_copyFrom 25 = .ok (.iinc 2 1, 3) := by decide +kernel
theorem dX1_copyFrom_28 : decode cX1_copyFrom 28 = .ok (.goto (-26), 3) := by decide +kernel
theorem dX1_copyFrom_31 : decode cX1_copyFrom 31 = .ok (.aload_n 0, 1) := by decide +kernel
theorem dX1_copyFrom_32 : decode cX1_copyFrom 32 = .ok (.getfield 20, 3) := by decide +kernel
theorem dX1_copyFrom_35 : decode cX1_copyFrom 35 = .ok (.aload_n 1, 1) := by decide +kernel
theorem dX1_copyFrom_36 : decode cX1_copyFrom 36 = .ok (.getfield 20, 3) := by decide +kernel
theorem dX1_copyFrom_39 : decode cX1_copyFrom 39 = .ok (.invokevirtual 37, 3) := by decide +kernel
theorem dX1_copyFrom_42 : decode cX1_copyFrom 42 = .ok (.aload_n 1, 1) := by decide +kernel
theorem dX1_copyFrom_43 : decode cX1_copyFrom 43 = .ok (.getfield 24, 3) := by decide +kernel
theorem dX1_copyFrom_46 : decode cX1_copyFrom 46 = .ok (.iconst 0, 1) := by decide +kernel
theorem dX1_copyFrom_47 : decode cX1_copyFrom 47 = .ok (.aload_n 0, 1) := by decide +kernel
theorem dX1_copyFrom_48 : decode cX1_copyFrom 48 = .ok (.getfield 24, 3) := by decide +kernel
theorem dX1_copyFrom_51 : decode cX1_copyFrom 51 = .ok (.iconst 0, 1) := by decide +kernel
theorem dX1_copyFrom_52 : decode cX1_copyFrom 52 = .ok (.bipush 8, 2) := by decide +kernel
theorem dX1_copyFrom_54 : decode cX1_copyFrom 54 = .ok (.invokestatic 40, 3) := by decide +kernel
theorem dX1_copyFrom_57 : decode cX1_copyFrom 57 = .ok (.aload_n 0, 1) := by decide +kernel
theorem dX1_copyFrom_58 : decode cX1_copyFrom 58 = .ok (.aload_n 1, 1) := by decide +kernel
theorem dX1_copyFrom_59 : decode cX1_copyFrom 59 = .ok (.getfield 29, 3) := by decide +kernel
theorem dX1_copyFrom_62 : decode cX1_copyFrom 62 = .ok (.putfield 29, 3) := by decide +kernel
theorem dX1_copyFrom_65 : decode cX1_copyFrom 65 = .ok (.aload_n 0, 1) := by decide +kernel
theorem dX1_copyFrom_66 : decode cX1_copyFrom 66 = .ok (.aload_n 1, 1) := by decide +kernel
theorem dX1_copyFrom_67 : decode cX1_copyFrom 67 = .ok (.getfield 46, 3) := by decide +kernel
theorem dX1_copyFrom_70 : decode cX1_copyFrom 70 = .ok (.putfield 46, 3) := by decide +kernel
theorem dX1_copyFrom_73 : decode cX1_copyFrom 73 = .ok (.aload_n 0, 1) := by decide +kernel
theorem dX1_copyFrom_74 : decode cX1_copyFrom 74 = .ok (.aload_n 1, 1) := by decide +kernel
theorem dX1_copyFrom_75 : decode cX1_copyFrom 75 = .ok (.getfield 49, 3) := by decide +kernel
theorem dX1_copyFrom_78 : decode cX1_copyFrom 78 = .ok (.putfield 49, 3) := by decide +kernel
theorem dX1_copyFrom_81 : decode cX1_copyFrom 81 = .ok (.aload_n 0, 1) := by decide +kernel
theorem dX1_copyFrom_82 : decode cX1_copyFrom 82 = .ok (.aload_n 1, 1) := by decide +kernel
theorem dX1_copyFrom_83 : decode cX1_copyFrom 83 = .ok (.getfield 52, 3) := by decide +kernel
theorem dX1_copyFrom_86 : decode cX1_copyFrom 86 = .ok (.putfield 52, 3) := by decide +kernel
theorem dX1_copyFrom_89 : decode cX1_copyFrom 89 = .ok (.aload_n 0, 1) := by decide +kernel
theorem dX1_copyFrom_90 : decode cX1_copyFrom 90 = .ok (.aload_n 1, 1) := by decide +kernel
theorem dX1_copyFrom_91 : decode cX1_copyFrom 91 = .ok (.getfield 55, 3) := by decide +kernel
theorem dX1_copyFrom_94 : decode cX1_copyFrom 94 = .ok (.putfield 55, 3) := by decide +kernel
theorem dX1_copyFrom_97 : decode cX1_copyFrom 97 = .ok (.aload_n 0, 1) := by decide +kernel
theorem dX1_copyFrom_98 : decode cX1_copyFrom 98 = .ok (.aload_n 1, 1) := by decide +kernel
theorem dX1_copyFrom_99 : decode cX1_copyFrom 99 = .ok (.getfield 58, 3) := by decide +kernel
theorem dX1_copyFrom_102 : decode cX1_copyFrom 102 = .ok (.putfield 58, 3) := by decide +kernel
theorem dX1_copyFrom_105 : decode cX1_copyFrom 105 = .ok (.aload_n 0, 1) := by decide +kernel
theorem dX1_copyFrom_106 : decode cX1_copyFrom 106 = .ok (.aload_n 1, 1) := by decide +kernel
theorem dX1_copyFrom_107 : decode cX1_copyFrom 107 = .ok (.getfield 61, 3) := by decide +kernel
theorem dX1_copyFrom_110 : decode cX1_copyFrom 110 = .ok (.putfield 61, 3) := by decide +kernel
theorem dX1_copyFrom_113 : decode cX1_copyFrom 113 = .ok (.return_, 1) := by decide +kernel
theorem dX1_locoAt_0 : decode cX1_locoAt 0 = .ok (.iload_n 1, 1) := by decide +kernel
theorem dX1_locoAt_1 : decode cX1_locoAt 1 = .ok (.iconst 0, 1) := by decide +kernel
theorem dX1_locoAt_2 : decode cX1_locoAt 2 = .ok (.aload_n 0, 1) := by decide +kernel
theorem dX1_locoAt_3 : decode cX1_locoAt 3 = .ok (.getfield 29, 3) := by decide +kernel
theorem dX1_locoAt_6 : decode cX1_locoAt 6 = .ok (.iconst 1, 1) := by decide +kernel
theorem dX1_locoAt_7 : decode cX1_locoAt 7 = .ok (.isub, 1) := by decide +kernel
theorem dX1_locoAt_8 : decode cX1_locoAt 8 = .ok (.invokestatic 64, 3) := by decide +kernel
theorem dX1_locoAt_11 : decode cX1_locoAt 11 = .ok (.ifCond .eq 12, 3) := by decide +kernel
theorem dX1_locoAt_14 : decode cX1_locoAt 14 = .ok (.aload_n 0, 1) := by decide +kernel
theorem dX1_locoAt_15 : decode cX1_locoAt 15 = .ok (.getfield 11, 3) := by decide +kernel
theorem dX1_locoAt_18 : decode cX1_locoAt 18 = .ok (.iload_n 1, 1) := by decide +kernel
theorem dX1_locoAt_19 : decode cX1_locoAt 19 = .ok (.aaload, 1) := by decide +kernel
theorem dX1_locoAt_20 : decode cX1_locoAt 20 = .ok (.goto 4, 3) := by decide +kernel
theorem dX1_locoAt_23 : decode cX1_locoAt 23 = .ok (.aconst_null, 1) := by decide +kernel
theorem dX1_locoAt_24 : decode cX1_locoAt 24 = .ok (.areturn, 1) := by decide +kernel
theorem dX1_locoWith_0 : decode cX1_locoWith 0 = .ok (.aload_n 0, 1) := by decide +kernel
theorem dX1_locoWith_1 : decode cX1_locoWith 1 = .ok (.aload_n 0, 1) := by decide +kernel
theorem dX1_locoWith_2 : decode cX1_locoWith 2 = .ok (.iload_n 1, 1) := by decide +kernel
theorem dX1_locoWith_3 : decode cX1_locoWith 3 = .ok (.invokevirtual 68, 3) := by decide +kernel
theorem dX1_locoWith_6 : decode cX1_locoWith 6 = .ok (.invokevirtual 72, 3) := by decide +kernel
theorem dX1_locoWith_9 : decode cX1_locoWith 9 = .ok (.areturn, 1) := by decide +kernel
theorem dX1_rankOf_0 : decode cX1_rankOf 0 = .ok (.iconst 0, 1) := by decide +kernel
theorem dX1_rankOf_1 : decode cX1_rankOf 1 = .ok (.istore_n 2, 1) := by decide +kernel
theorem dX1_rankOf_2 : decode cX1_rankOf 2 = .ok (.iload_n 2, 1) := by decide +kernel
theorem dX1_rankOf_3 : decode cX1_rankOf 3 = .ok (.aload_n 0, 1) := by decide +kernel
theorem dX1_rankOf_4 : decode cX1_rankOf 4 = .ok (.getfield 29, 3) := by decide +kernel
theorem dX1_rankOf_7 : decode cX1_rankOf 7 = .ok (.if_icmp .ge 22, 3) := by decide +kernel
theorem dX1_rankOf_10 : decode cX1_rankOf 10 = .ok (.aload_n 0, 1) := by decide +kernel
theorem dX1_rankOf_11 : decode cX1_rankOf 11 = .ok (.getfield 11, 3) := by decide +kernel
theorem dX1_rankOf_14 : decode cX1_rankOf 14 = .ok (.iload_n 2, 1) := by decide +kernel
theorem dX1_rankOf_15 : decode cX1_rankOf 15 = .ok (.aaload, 1) := by decide +kernel
theorem dX1_rankOf_16 : decode cX1_rankOf 16 = .ok (.getfield 76, 3) := by decide +kernel
theorem dX1_rankOf_19 : decode cX1_rankOf 19 = .ok (.iload_n 1, 1) := by decide +kernel
theorem dX1_rankOf_20 : decode cX1_rankOf 20 = .ok (.if_icmp .eq 9, 3) := by decide +kernel
theorem dX1_rankOf_23 : decode cX1_rankOf 23 = .ok (.iinc 2 1, 3) := by decide +kernel
theorem dX1_rankOf_26 : decode cX1_rankOf 26 = .ok (.goto (-24), 3) := by decide +kernel
theorem dX1_rankOf_29 : decode cX1_rankOf 29 = .ok (.iload_n 2, 1) := by decide +kernel
theorem dX1_rankOf_30 : decode cX1_rankOf 30 = .ok (.ireturn, 1) := by decide +kernel
theorem dX1_addLoco_0 : decode cX1_addLoco 0 = .ok (.iload_n 1, 1) := by decide +kernel
theorem dX1_addLoco_1 : decode cX1_addLoco 1 = .ok (.iconst 1, 1) := by decide +kernel
theorem dX1_addLoco_2 : decode cX1_addLoco 2 = .ok (.bipush 99, 2) := by decide +kernel
theorem dX1_addLoco_4 : decode cX1_addLoco 4 = .ok (.invokestatic 64, 3) := by decide +kernel
theorem dX1_addLoco_7 : decode cX1_addLoco 7 = .ok (.ifCond .eq 34, 3) := by decide +kernel
theorem dX1_addLoco_10 : decode cX1_addLoco 10 = .ok (.iload_n 2, 1) := by decide +kernel
theorem dX1_addLoco_11 : decode cX1_addLoco 11 = .ok (.iconst 1, 1) := by decide +kernel
theorem dX1_addLoco_12 : decode cX1_addLoco 12 = .ok (.bipush 20, 2) := by decide +kernel
theorem dX1_addLoco_14 : decode cX1_addLoco 14 = .ok (.invokestatic 64, 3) := by decide +kernel
theorem dX1_addLoco_17 : decode cX1_addLoco 17 = .ok (.ifCond .eq 24, 3) := by decide +kernel
theorem dX1_addLoco_20 : decode cX1_addLoco 20 = .ok (.iload_n 3, 1) := by decide +kernel
theorem dX1_addLoco_21 : decode cX1_addLoco 21 = .ok (.iconst 0, 1) := by decide +kernel
theorem dX1_addLoco_22 : decode cX1_addLoco 22 = .ok (.iconst 2, 1) := by decide +kernel
theorem dX1_addLoco_23 : decode cX1_addLoco 23 = .ok (.invokestatic 64, 3) := by decide +kernel
theorem dX1_addLoco_26 : decode cX1_addLoco 26 = .ok (.ifCond .eq 15, 3) := by decide +kernel
theorem dX1_addLoco_29 : decode cX1_addLoco 29 = .ok (.iload 4, 2) := by decide +kernel
theorem dX1_addLoco_31 : decode cX1_addLoco 31 = .ok (.iconst 0, 1) := by decide +kernel
theorem dX1_addLoco_32 : decode cX1_addLoco 32 = .ok (.sipush 799, 3) := by decide +kernel
theorem dX1_addLoco_35 : decode cX1_addLoco 35 = .ok (.invokestatic 64, 3) := by decide +kernel
theorem dX1_addLoco_38 : decode cX1_addLoco 38 = .ok (.ifCond .ne 6, 3) := by decide +kernel
theorem dX1_addLoco_41 : decode cX1_addLoco 41 = .ok (.bipush (-2), 2) := by decide +kernel
theorem dX1_addLoco_43 : decode cX1_addLoco 43 = .ok (.ireturn, 1) := by decide +kernel
theorem dX1_addLoco_44 : decode cX1_addLoco 44 = .ok (.aload_n 0, 1) := by decide +kernel
theorem dX1_addLoco_45 : decode cX1_addLoco 45 = .ok (.iload_n 1, 1) := by decide +kernel
theorem dX1_addLoco_46 : decode cX1_addLoco 46 = .ok (.invokevirtual 68, 3) := by decide +kernel
theorem dX1_addLoco_49 : decode cX1_addLoco 49 = .ok (.aload_n 0, 1) := by decide +kernel
theorem dX1_addLoco_50 : decode cX1_addLoco 50 = .ok (.getfield 29, 3) := by decide +kernel
theorem dX1_addLoco_53 : decode cX1_addLoco 53 = .ok (.if_icmp .ge 6, 3) := by decide +kernel
theorem dX1_addLoco_56 : decode cX1_addLoco 56 = .ok (.bipush (-5), 2) := by decide +kernel
theorem dX1_addLoco_58 : decode cX1_addLoco 58 = .ok (.ireturn, 1) := by decide +kernel
theorem dX1_addLoco_59 : decode cX1_addLoco 59 = .ok (.aload_n 0, 1) := by decide +kernel
theorem dX1_addLoco_60 : decode cX1_addLoco 60 = .ok (.getfield 29, 3) := by decide +kernel
theorem dX1_addLoco_63 : decode cX1_addLoco 63 = .ok (.bipush 8, 2) := by decide +kernel
theorem dX1_addLoco_65 : decode cX1_addLoco 65 = .ok (.if_icmp .lt 6, 3) := by decide +kernel
theorem dX1_addLoco_68 : decode cX1_addLoco 68 = .ok (.bipush (-4), 2) := by decide +kernel
theorem dX1_addLoco_70 : decode cX1_addLoco 70 = .ok (.ireturn, 1) := by decide +kernel
theorem dX1_addLoco_71 : decode cX1_addLoco 71 = .ok (.aload_n 0, 1) := by decide +kernel
theorem dX1_addLoco_72 : decode cX1_addLoco 72 = .ok (.getfield 11, 3) := by decide +kernel
theorem dX1_addLoco_75 : decode cX1_addLoco 75 = .ok (.aload_n 0, 1) := by decide +kernel
theorem dX1_addLoco_76 : decode cX1_addLoco 76 = .ok (.getfield 29, 3) := by decide +kernel
theorem dX1_addLoco_79 : decode cX1_addLoco 79 = .ok (.aaload, 1) := by decide +kernel
theorem dX1_addLoco_80 : decode cX1_addLoco 80 = .ok (.astore 5, 2) := by decide +kernel
theorem dX1_addLoco_82 : decode cX1_addLoco 82 = .ok (.aload_n 0, 1) := by decide +kernel
theorem dX1_addLoco_83 : decode cX1_addLoco 83 = .ok (.getfield 29, 3) := by decide +kernel
theorem dX1_addLoco_86 : decode cX1_addLoco 86 = .ok (.istore 6, 2) := by decide +kernel
theorem dX1_addLoco_88 : decode cX1_addLoco 88 = .ok (.iload 6, 2) := by decide +kernel
theorem dX1_addLoco_90 : decode cX1_addLoco 90 = .ok (.ifCond .le 41, 3) := by decide +kernel
theorem dX1_addLoco_93 : decode cX1_addLoco 93 = .ok (.aload_n 0, 1) := by decide +kernel
theorem dX1_addLoco_94 : decode cX1_addLoco 94 = .ok (.getfield 11, 3) := by decide +kernel
theorem dX1_addLoco_97 : decode cX1_addLoco 97 = .ok (.iload 6, 2) := by decide +kernel
theorem dX1_addLoco_99 : decode cX1_addLoco 99 = .ok (.iconst 1, 1) := by decide +kernel
theorem dX1_addLoco_100 : decode cX1_addLoco 100 = .ok (.isub, 1) := by decide +kernel
theorem dX1_addLoco_101 : decode cX1_addLoco 101 = .ok (.aaload, 1) := by decide +kernel
theorem dX1_addLoco_102 : decode cX1_addLoco 102 = .ok (.getfield 76, 3) := by decide +kernel
theorem dX1_addLoco_105 : decode cX1_addLoco 105 = .ok (.iload_n 1, 1) := by decide +kernel
theorem dX1_addLoco_106 : decode cX1_addLoco 106 = .ok (.if_icmp .le 25, 3) := by decide +kernel
theorem dX1_addLoco_109 : decode cX1_addLoco 109 = .ok (.aload_n 0, 1) := by decide +kernel
theorem dX1_addLoco_110 : decode cX1_addLoco 110 = .ok (.getfield 11, 3) := by decide +kernel
theorem dX1_addLoco_113 : decode cX1_addLoco 113 = .ok (.iload 6, 2) := by decide +kernel
theorem dX1_addLoco_115 : decode cX1_addLoco 115 = .ok (.aload_n 0, 1) := by decide +kernel
theorem dX1_addLoco_116 : decode cX1_addLoco 116 = .ok (.getfield 11, 3) := by decide +kernel
theorem dX1_addLoco_119 : decode cX1_addLoco 119 = .ok (.iload 6, 2) := by decide +kernel
theorem dX1_addLoco_121 : decode cX1_addLoco 121 = .ok (.iconst 1, 1) := by decide +kernel
theorem dX1_addLoco_122 : decode cX1_addLoco 122 = .ok (.isub, 1) := by decide +kernel
theorem dX1_addLoco_123 : decode cX1_addLoco 123 = .ok (.aaload, 1) := by decide +kernel
theorem dX1_addLoco_124 : decode cX1_addLoco 124 = .ok (.aastore, 1) := by decide +kernel
theorem dX1_addLoco_125 : decode cX1_addLoco 125 = .ok (.iinc 6 (-1), 3) := by decide +kernel
theorem dX1_addLoco_128 : decode cX1_addLoco 128 = .ok (.goto (-40), 3) := by decide +kernel
theorem dX1_addLoco_131 : decode cX1_addLoco 131 = .ok (.aload_n 0, 1) := by decide +kernel
theorem dX1_addLoco_132 : decode cX1_addLoco 132 = .ok (.getfield 11, 3) := by decide +kernel
theorem dX1_addLoco_135 : decode cX1_addLoco 135 = .ok (.iload 6, 2) := by decide +kernel
theorem dX1_addLoco_137 : decode cX1_addLoco 137 = .ok (.aload 5, 2) := by decide +kernel
theorem dX1_addLoco_139 : decode cX1_addLoco 139 = .ok (.aastore, 1) := by decide +kernel
theorem dX1_addLoco_140 : decode cX1_addLoco 140 = .ok (.aload 5, 2) := by decide +kernel
theorem dX1_addLoco_142 : decode cX1_addLoco 142 = .ok (.iload_n 1, 1) := by decide +kernel
theorem dX1_addLoco_143 : decode cX1_addLoco 143 = .ok (.iload_n 2, 1) := by decide +kernel
theorem dX1_addLoco_144 : decode cX1_addLoco 144 = .ok (.iload_n 3, 1) := by decide +kernel
theorem dX1_addLoco_145 : decode cX1_addLoco 145 = .ok (.iload 4, 2) := by decide +kernel
theorem dX1_addLoco_147 : decode cX1_addLoco 147 = .ok (.invokevirtual 79, 3) := by decide +kernel
theorem dX1_addLoco_150 : decode cX1_addLoco 150 = .ok (.aload_n 0, 1) := by decide +kernel
theorem dX1_addLoco_151 : decode cX1_addLoco 151 = .ok (.dup, 1) := by decide +kernel
theorem dX1_addLoco_152 : decode cX1_addLoco 152 = .ok (.getfield 29, 3) := by decide +kernel
theorem dX1_addLoco_155 : decode cX1_addLoco 155 = .ok (.iconst 1, 1) := by decide +kernel
theorem dX1_addLoco_156 : decode cX1_addLoco 156 = .ok (.iadd, 1) := by decide +kernel
theorem dX1_addLoco_157 : decode cX1_addLoco 157 = .ok (.putfield 29, 3) := by decide +kernel
theorem dX1_addLoco_160 : decode cX1_addLoco 160 = .ok (.aload_n 0, 1) := by decide +kernel
theorem dX1_addLoco_161 : decode cX1_addLoco 161 = .ok (.getfield 29, 3) := by decide +kernel
theorem dX1_addLoco_164 : decode cX1_addLoco 164 = .ok (.ireturn, 1) := by decide +kernel
theorem dX1_removeLoco_0 : decode cX1_removeLoco 0 = .ok (.aload_n 0, 1) := by decide +kernel
theorem dX1_removeLoco_1 : decode cX1_removeLoco 1 = .ok (.iload_n 1, 1) := by decide +kernel
theorem dX1_removeLoco_2 : decode cX1_removeLoco 2 = .ok (.invokevirtual 68, 3) := by decide +kernel
theorem dX1_removeLoco_5 : decode cX1_removeLoco 5 = .ok (.istore_n 2, 1) := by decide +kernel
theorem dX1_removeLoco_6 : decode cX1_removeLoco 6 = .ok (.iload_n 2, 1) := by decide +kernel
theorem dX1_removeLoco_7 : decode cX1_removeLoco 7 = .ok (.aload_n 0, 1) := by decide +kernel
theorem dX1_removeLoco_8 : decode cX1_removeLoco 8 = .ok (.getfield 29, 3) := by decide +kernel
theorem dX1_removeLoco_11 : decode cX1_removeLoco 11 = .ok (.if_icmp .lt 5, 3) := by decide +kernel
theorem dX1_removeLoco_14 : decode cX1_removeLoco 14 = .ok (.iconst (-1), 1) := by decide +kernel
theorem dX1_removeLoco_15 : decode cX1_removeLoco 15 = .ok (.ireturn, 1) := by decide +kernel
theorem dX1_removeLoco_16 : decode cX1_removeLoco 16 = .ok (.aload_n 0, 1) := by decide +kernel
theorem dX1_removeLoco_17 : decode cX1_removeLoco 17 = .ok (.getfield 11, 3) := by decide +kernel
theorem dX1_removeLoco_20 : decode cX1_removeLoco 20 = .ok (.iload_n 2, 1) := by decide +kernel
theorem dX1_removeLoco_21 : decode cX1_removeLoco 21 = .ok (.aaload, 1) := by decide +kernel
theorem dX1_removeLoco_22 : decode cX1_removeLoco 22 = .ok (.astore_n 3, 1) := by decide +kernel
theorem dX1_removeLoco_23 : decode cX1_removeLoco 23 = .ok (.iload_n 2, 1) := by decide +kernel
theorem dX1_removeLoco_24 : decode cX1_removeLoco 24 = .ok (.iconst 1, 1) := by decide +kernel
theorem dX1_removeLoco_25 : decode cX1_removeLoco 25 = .ok (.iadd, 1) := by decide +kernel
theorem dX1_removeLoco_26 : decode cX1_removeLoco 26 = .ok (.istore 4, 2) := by decide +kernel
theorem dX1_removeLoco_28 : decode cX1_removeLoco 28 = .ok (.iload 4, 2) := by decide +kernel
theorem dX1_removeLoco_30 : decode cX1_removeLoco 30 = .ok (.aload_n 0, 1) := by decide +kernel
theorem dX1_removeLoco_31 : decode cX1_removeLoco 31 = .ok (.getfield 29, 3) := by decide +kernel
theorem dX1_removeLoco_34 : decode cX1_removeLoco 34 = .ok (.if_icmp .ge 25, 3) := by decide +kernel
theorem dX1_removeLoco_37 : decode cX1_removeLoco 37 = .ok (.aload_n 0, 1) := by decide +kernel
theorem dX1_removeLoco_38 : decode cX1_removeLoco 38 = .ok (.getfield 11, 3) := by decide +kernel
theorem dX1_removeLoco_41 : decode cX1_removeLoco 41 = .ok (.iload 4, 2) := by decide +kernel
theorem dX1_removeLoco_43 : decode cX1_removeLoco 43 = .ok (.iconst 1, 1) := by decide +kernel
theorem dX1_removeLoco_44 : decode cX1_removeLoco 44 = .ok (.isub, 1) := by decide +kernel
theorem dX1_removeLoco_45 : decode cX1_removeLoco 45 = .ok (.aload_n 0, 1) := by decide +kernel
theorem dX1_removeLoco_46 : decode cX1_removeLoco 46 = .ok (.getfield 11, 3) := by decide +kernel
theorem dX1_removeLoco_49 : decode cX1_removeLoco 49 = .ok (.iload 4, 2) := by decide +kernel
theorem dX1_removeLoco_51 : decode cX1_removeLoco 51 = .ok (.aaload, 1) := by decide +kernel
theorem dX1_removeLoco_52 : decode cX1_removeLoco 52 = .ok (.aastore, 1) := by decide +kernel
theorem dX1_removeLoco_53 : decode cX1_removeLoco 53 = .ok (.iinc 4 1, 3) := by decide +kernel
theorem dX1_removeLoco_56 : decode cX1_removeLoco 56 = .ok (.goto (-28), 3) := by decide +kernel
theorem dX1_removeLoco_59 : decode cX1_removeLoco 59 = .ok (.aload_n 0, 1) := by decide +kernel
theorem dX1_removeLoco_60 : decode cX1_removeLoco 60 = .ok (.dup, 1) := by decide +kernel
theorem dX1_removeLoco_61 : decode cX1_removeLoco 61 = .ok (.getfield 29, 3) := by decide +kernel
theorem dX1_removeLoco_64 : decode cX1_removeLoco 64 = .ok (.iconst 1, 1) := by decide +kernel
theorem dX1_removeLoco_65 : decode cX1_removeLoco 65 = .ok (.isub, 1) := by decide +kernel
theorem dX1_removeLoco_66 : decode cX1_removeLoco 66 = .ok (.putfield 29, 3) := by decide +kernel
theorem dX1_removeLoco_69 : decode cX1_removeLoco 69 = .ok (.aload_n 0, 1) := by decide +kernel
theorem dX1_removeLoco_70 : decode cX1_removeLoco 70 = .ok (.getfield 11, 3) := by decide +kernel
theorem dX1_removeLoco_73 : decode cX1_removeLoco 73 = .ok (.aload_n 0, 1) := by decide +kernel
theorem dX1_removeLoco_74 : decode cX1_removeLoco 74 = .ok (.getfield 29, 3) := by decide +kernel
theorem dX1_removeLoco_77 : decode cX1_removeLoco 77 = .ok (.aload_n 3, 1) := by decide +kernel
theorem dX1_removeLoco_78 : decode cX1_removeLoco 78 = .ok (.aastore, 1) := by decide +kernel
theorem dX1_removeLoco_79 : decode cX1_removeLoco 79 = .ok (.aload_n 0, 1) := by decide +kernel
theorem dX1_removeLoco_80 : decode cX1_removeLoco 80 = .ok (.getfield 29, 3) := by decide +kernel
theorem dX1_removeLoco_83 : decode cX1_removeLoco 83 = .ok (.ireturn, 1) := by decide +kernel
theorem dX1_changeNoise_0 : decode cX1_changeNoise 0 = .ok (.iload_n 1, 1) := by decide +kernel
theorem dX1_changeNoise_1 : decode cX1_changeNoise 1 = .ok (.iconst 0, 1) := by decide +kernel
theorem dX1_changeNoise_2 : decode cX1_changeNoise 2 = .ok (.bipush 9, 2) := by decide +kernel
theorem dX1_changeNoise_4 : decode cX1_changeNoise 4 = .ok (.invokestatic 64, 3) := by decide +kernel
theorem dX1_changeNoise_7 : decode cX1_changeNoise 7 = .ok (.ifCond .ne 6, 3) := by decide +kernel
theorem dX1_changeNoise_10 : decode cX1_changeNoise 10 = .ok (.bipush (-2), 2) := by decide +kernel
theorem dX1_changeNoise_12 : decode cX1_changeNoise 12 = .ok (.ireturn, 1) := by decide +kernel
theorem dX1_changeNoise_13 : decode cX1_changeNoise 13 = .ok (.aload_n 0, 1) := by decide +kernel
theorem dX1_changeNoise_14 : decode cX1_changeNoise 14 = .ok (.getfield 49, 3) := by decide +kernel
theorem dX1_changeNoise_17 : decode cX1_changeNoise 17 = .ok (.istore_n 2, 1) := by decide +kernel
theorem dX1_changeNoise_18 : decode cX1_changeNoise 18 = .ok (.aload_n 0, 1) := by decide +kernel
theorem dX1_changeNoise_19 : decode cX1_changeNoise 19 = .ok (.iload_n 1, 1) := by decide +kernel
theorem dX1_changeNoise_20 : decode cX1_changeNoise 20 = .ok (.putfield 49, 3) := by decide +kernel
theorem dX1_changeNoise_23 : decode cX1_changeNoise 23 = .ok (.iload_n 2, 1) := by decide +kernel
theorem dX1_changeNoise_24 : decode cX1_changeNoise 24 = .ok (.ireturn, 1) := by decide +kernel
theorem dX1_changeShort_0 : decode cX1_changeShort 0 = .ok (.iload_n 1, 1) := by decide +kernel
theorem dX1_changeShort_1 : decode cX1_changeShort 1 = .ok (.invokestatic 83, 3) := by decide +kernel
theorem dX1_changeShort_4 : decode cX1_changeShort 4 = .ok (.ifCond .ne 5, 3) := by decide +kernel
theorem dX1_changeShort_7 : decode cX1_changeShort 7 = .ok (.iconst (-1), 1) := by decide +kernel
theorem dX1_changeShort_8 : decode cX1_changeShort 8 = .ok (.ireturn, 1) := by decide +kernel
theorem dX1_changeShort_9 : decode cX1_changeShort 9 = .ok (.iload_n 2, 1) := by decide +kernel
theorem dX1_changeShort_10 : decode cX1_changeShort 10 = .ok (.iconst 0, 1) := by decide +kernel
theorem dX1_changeShort_11 : decode cX1_changeShort 11 = .ok (.bipush 99, 2) := by decide +kernel
theorem dX1_changeShort_13 : decode cX1_changeShort 13 = .ok (.invokestatic 64, 3) := by decide +kernel
theorem dX1_changeShort_16 : decode cX1_changeShort 16 = .ok (.ifCond .ne 6, 3) := by decide +kernel
theorem dX1_changeShort_19 : decode cX1_changeShort 19 = .ok (.bipush (-2), 2) := by decide +kernel
theorem dX1_changeShort_21 : decode cX1_changeShort 21 = .ok (.ireturn, 1) := by decide +kernel
theorem dX1_changeShort_22 : decode cX1_changeShort 22 = .ok (.aload_n 0, 1) := by decide +kernel
theorem dX1_changeShort_23 : decode cX1_changeShort 23 = .ok (.getfield 24, 3) := by decide +kernel
theorem dX1_changeShort_26 : decode cX1_changeShort 26 = .ok (.iload_n 1, 1) := by decide +kernel
theorem dX1_changeShort_27 : decode cX1_changeShort 27 = .ok (.iaload, 1) := by decide +kernel
theorem dX1_changeShort_28 : decode cX1_changeShort 28 = .ok (.istore_n 3, 1) := by decide +kernel
theorem dX1_changeShort_29 : decode cX1_changeShort 29 = .ok (.aload_n 0, 1) := by decide +kernel
theorem dX1_changeShort_30 : decode cX1_changeShort 30 = .ok (.getfield 24, 3) := by decide +kernel
theorem dX1_changeShort_33 : decode cX1_changeShort 33 = .ok (.iload_n 1, 1) := by decide +kernel
theorem dX1_changeShort_34 : decode cX1_changeShort 34 = .ok (.iload_n 2, 1) := by decide +kernel
theorem dX1_changeShort_35 : decode cX1_changeShort 35 = .ok (.iastore, 1) := by decide +kernel
theorem dX1_changeShort_36 : decode cX1_changeShort 36 = .ok (.iload_n 3, 1) := by decide +kernel
theorem dX1_changeShort_37 : decode cX1_changeShort 37 = .ok (.ireturn, 1) := by decide +kernel
theorem dX1_takeFrame_0 : decode cX1_takeFrame 0 = .ok (.iload_n 1, 1) := by decide +kernel
theorem dX1_takeFrame_1 : decode cX1_takeFrame 1 = .ok (.iconst 0, 1) := by decide +kernel
theorem dX1_takeFrame_2 : decode cX1_takeFrame 2 = .ok (.sipush 255, 3) := by decide +kernel
theorem dX1_takeFrame_5 : decode cX1_takeFrame 5 = .ok (.invokestatic 64, 3) := by decide +kernel
theorem dX1_takeFrame_8 : decode cX1_takeFrame 8 = .ok (.ifCond .eq 25, 3) := by decide +kernel
theorem dX1_takeFrame_11 : decode cX1_takeFrame 11 = .ok (.iload_n 2, 1) := by decide +kernel
theorem dX1_takeFrame_12 : decode cX1_takeFrame 12 = .ok (.iconst 0, 1) := by decide +kernel
theorem dX1_takeFrame_13 : decode cX1_takeFrame 13 = .ok (.sipush 255, 3) := by decide +kernel
theorem dX1_takeFrame_16 : decode cX1_takeFrame 16 = .ok (.invokestatic 64, 3) := by decide +kernel
theorem dX1_takeFrame_19 : decode cX1_takeFrame 19 = .ok (.ifCond .eq 14, 3) := by decide +kernel
theorem dX1_takeFrame_22 : decode cX1_takeFrame 22 = .ok (.iload_n 3, 1) := by decide +kernel
theorem dX1_takeFrame_23 : decode cX1_takeFrame 23 = .ok (.iconst 0, 1) := by decide +kernel
theorem dX1_takeFrame_24 : decode cX1_takeFrame 24 = .ok (.sipush 255, 3) := by decide +kernel
theorem dX1_takeFrame_27 : decode cX1_takeFrame 27 = .ok (.invokestatic 64, 3) := by decide +kernel
theorem dX1_takeFrame_30 : decode cX1_takeFrame 30 = .ok (.ifCond .ne 6, 3) := by decide +kernel
theorem dX1_takeFrame_33 : decode cX1_takeFrame 33 = .ok (.bipush (-2), 2) := by decide +kernel
theorem dX1_takeFrame_35 : decode cX1_takeFrame 35 = .ok (.ireturn, 1) := by decide +kernel
theorem dX1_takeFrame_36 : decode cX1_takeFrame 36 = .ok (.aload_n 0, 1) := by decide +kernel
theorem dX1_takeFrame_37 : decode cX1_takeFrame 37 = .ok (.dup, 1) := by decide +kernel
theorem dX1_takeFrame_38 : decode cX1_takeFrame 38 = .ok (.getfield 55, 3) := by decide +kernel
theorem dX1_takeFrame_41 : decode cX1_takeFrame 41 = .ok (.iconst 1, 1) := by decide +kernel
theorem dX1_takeFrame_42 : decode cX1_takeFrame 42 = .ok (.iadd, 1) := by decide +kernel
theorem dX1_takeFrame_43 : decode cX1_takeFrame 43 = .ok (.putfield 55, 3) := by decide +kernel
theorem dX1_takeFrame_46 : decode cX1_takeFrame 46 = .ok (.iload_n 3, 1) := by decide +kernel
theorem dX1_takeFrame_47 : decode cX1_takeFrame 47 = .ok (.iload_n 1, 1) := by decide +kernel
theorem dX1_takeFrame_48 : decode cX1_takeFrame 48 = .ok (.iload_n 2, 1) := by decide +kernel
theorem dX1_takeFrame_49 : decode cX1_takeFrame 49 = .ok (.ixor, 1) := by decide +kernel
theorem dX1_takeFrame_50 : decode cX1_takeFrame 50 = .ok (.if_icmp .eq 15, 3) := by decide +kernel
theorem dX1_takeFrame_53 : decode cX1_takeFrame 53 = .ok (.aload_n 0, 1) := by decide +kernel
theorem dX1_takeFrame_54 : decode cX1_takeFrame 54 = .ok (.dup, 1) := by decide +kernel
theorem dX1_takeFrame_55 : decode cX1_takeFrame 55 = .ok (.getfield 58, 3) := by decide +kernel
theorem dX1_takeFrame_58 : decode cX1_takeFrame 58 = .ok (.iconst 1, 1) := by decide +kernel
theorem dX1_takeFrame_59 : decode cX1_takeFrame 59 = .ok (.iadd, 1) := by decide +kernel
theorem dX1_takeFrame_60 : decode cX1_takeFrame 60 = .ok (.putfield 58, 3) := by decide +kernel
theorem dX1_takeFrame_63 : decode cX1_takeFrame 63 = .ok (.iconst 0, 1) := by decide +kernel
theorem dX1_takeFrame_64 : decode cX1_takeFrame 64 = .ok (.ireturn, 1) := by decide +kernel
theorem dX1_takeFrame_65 : decode cX1_takeFrame 65 = .ok (.iconst 0, 1) := by decide +kernel
theorem dX1_takeFrame_66 : decode cX1_takeFrame 66 = .ok (.istore 4, 2) := by decide +kernel
theorem dX1_takeFrame_68 : decode cX1_takeFrame 68 = .ok (.iconst 0, 1) := by decide +kernel
theorem dX1_takeFrame_69 : decode cX1_takeFrame 69 = .ok (.istore 5, 2) := by decide +kernel
theorem dX1_takeFrame_71 : decode cX1_takeFrame 71 = .ok (.iload 5, 2) := by decide +kernel
theorem dX1_takeFrame_73 : decode cX1_takeFrame 73 = .ok (.aload_n 0, 1) := by decide +kernel
theorem dX1_takeFrame_74 : decode cX1_takeFrame 74 = .ok (.getfield 29, 3) := by decide +kernel
theorem dX1_takeFrame_77 : decode cX1_takeFrame 77 = .ok (.if_icmp .ge 52, 3) := by decide +kernel
theorem dX1_takeFrame_80 : decode cX1_takeFrame 80 = .ok (.aload_n 0, 1) := by decide +kernel
theorem dX1_takeFrame_81 : decode cX1_takeFrame 81 = .ok (.getfield 11, 3) := by decide +kernel
theorem dX1_takeFrame_84 : decode cX1_takeFrame 84 = .ok (.iload 5, 2) := by decide +kernel
theorem dX1_takeFrame_86 : decode cX1_takeFrame 86 = .ok (.aaload, 1) := by decide +kernel
theorem dX1_takeFrame_87 : decode cX1_takeFrame 87 = .ok (.astore 6, 2) := by decide +kernel
theorem dX1_takeFrame_89 : decode cX1_takeFrame 89 = .ok (.iload_n 1, 1) := by decide +kernel
theorem dX1_takeFrame_90 : decode cX1_takeFrame 90 = .ok (.ifCond .eq 12, 3) := by decide +kernel
theorem dX1_takeFrame_93 : decode cX1_takeFrame 93 = .ok (.iload_n 1, 1) := by decide +kernel
theorem dX1_takeFrame_94 : decode cX1_takeFrame 94 = .ok (.aload 6, 2) := by decide +kernel
theorem dX1_takeFrame_96 : decode cX1_takeFrame 96 = .ok (.getfield 76, 3) := by decide +kernel
theorem dX1_takeFrame_99 : decode cX1_takeFrame 99 = .ok (.if_icmp .ne 24, 3) := by decide +kernel
theorem dX1_takeFrame_102 : decode cX1_takeFrame 102 = .ok (.aload_n 0, 1) := by decide +kernel
theorem dX1_takeFrame_103 : decode cX1_takeFrame 103 = .ok (.aload 6, 2) := by decide +kernel
theorem dX1_takeFrame_105 : decode cX1_takeFrame 105 = .ok (.invokevirtual 87, 3) := by decide +kernel
theorem dX1_takeFrame_108 : decode cX1_takeFrame 108 = .ok (.invokevirtual 91, 3) := by decide +kernel
theorem dX1_takeFrame_111 : decode cX1_takeFrame 111 = .ok (.ifCond .ne 12, 3) := by decide +kernel
theorem dX1_takeFrame_114 : decode cX1_takeFrame 114 = .ok (.aload 6, 2) := by decide +kernel
theorem dX1_takeFrame_116 : decode cX1_takeFrame 116 = .ok (.iload_n 2, 1) := by decide +kernel
theorem dX1_takeFrame_117 : decode cX1_takeFrame 117 = .ok (.invokevirtual 94, 3) := by decide +kernel
theorem dX1_takeFrame_120 : decode cX1_takeFrame 120 = .ok (.iinc 4 1, 3) := by decide +kernel
theorem dX1_takeFrame_123 : decode cX1_takeFrame 123 = .ok (.iinc 5 1, 3) := by decide +kernel
theorem dX1_takeFrame_126 : decode cX1_takeFrame 126 = .ok (.goto (-55), 3) := by decide +kernel
theorem dX1_takeFrame_129 : decode cX1_takeFrame 129 = .ok (.iload 4, 2) := by decide +kernel
theorem dX1_takeFrame_131 : decode cX1_takeFrame 131 = .ok (.ireturn, 1) := by decide +kernel
theorem dX1_takeTicks_0 : decode cX1_takeTicks 0 = .ok (.iload_n 1, 1) := by decide +kernel
theorem dX1_takeTicks_1 : decode cX1_takeTicks 1 = .ok (.iconst 1, 1) := by decide +kernel
theorem dX1_takeTicks_2 : decode cX1_takeTicks 2 = .ok (.bipush 99, 2) := by decide +kernel
theorem dX1_takeTicks_4 : decode cX1_takeTicks 4 = .ok (.invokestatic 64, 3) := by decide +kernel
theorem dX1_takeTicks_7 : decode cX1_takeTicks 7 = .ok (.ifCond .ne 6, 3) := by decide +kernel
theorem dX1_takeTicks_10 : decode cX1_takeTicks 10 = .ok (.bipush (-2), 2) := by decide +kernel
theorem dX1_takeTicks_12 : decode cX1_takeTicks 12 = .ok (.ireturn, 1) := by decide +kernel
theorem dX1_takeTicks_13 : decode cX1_takeTicks 13 = .ok (.aload_n 0, 1) := by decide +kernel
theorem dX1_takeTicks_14 : decode cX1_takeTicks 14 = .ok (.getfield 46, 3) := by decide +kernel
theorem dX1_takeTicks_17 : decode cX1_takeTicks 17 = .ok (.iload_n 1, 1) := by decide +kernel
theorem dX1_takeTicks_18 : decode cX1_takeTicks 18 = .ok (.iadd, 1) := by decide +kernel
theorem dX1_takeTicks_19 : decode cX1_takeTicks 19 = .ok (.ldc 98, 2) := by decide +kernel
theorem dX1_takeTicks_21 : decode cX1_takeTicks 21 = .ok (.if_icmp .le 6, 3) := by decide +kernel
theorem dX1_takeTicks_24 : decode cX1_takeTicks 24 = .ok (.bipush (-5), 2) := by decide +kernel
theorem dX1_takeTicks_26 : decode cX1_takeTicks 26 = .ok (.ireturn, 1) := by decide +kernel
theorem dX1_takeTicks_27 : decode cX1_takeTicks 27 = .ok (.iconst 0, 1) := by decide +kernel
theorem dX1_takeTicks_28 : decode cX1_takeTicks 28 = .ok (.istore_n 2, 1) := by decide +kernel
theorem dX1_takeTicks_29 : decode cX1_takeTicks 29 = .ok (.iconst 0, 1) := by decide +kernel
theorem dX1_takeTicks_30 : decode cX1_takeTicks 30 = .ok (.istore_n 3, 1) := by decide +kernel
theorem dX1_takeTicks_31 : decode cX1_takeTicks 31 = .ok (.iload_n 3, 1) := by decide +kernel
theorem dX1_takeTicks_32 : decode cX1_takeTicks 32 = .ok (.iload_n 1, 1) := by decide +kernel
theorem dX1_takeTicks_33 : decode cX1_takeTicks 33 = .ok (.if_icmp .ge 16, 3) := by decide +kernel
theorem dX1_takeTicks_36 : decode cX1_takeTicks 36 = .ok (.iload_n 2, 1) := by decide +kernel
theorem dX1_takeTicks_37 : decode cX1_takeTicks 37 = .ok (.aload_n 0, 1) := by decide +kernel
theorem dX1_takeTicks_38 : decode cX1_takeTicks 38 = .ok (.invokevirtual 99, 3) := by decide +kernel
theorem dX1_takeTicks_41 : decode cX1_takeTicks 41 = .ok (.iadd, 1) := by decide +kernel
theorem dX1_takeTicks_42 : decode cX1_takeTicks 42 = .ok (.istore_n 2, 1) := by decide +kernel
theorem dX1_takeTicks_43 : decode cX1_takeTicks 43 = .ok (.iinc 3 1, 3) := by decide +kernel
theorem dX1_takeTicks_46 : decode cX1_takeTicks 46 = .ok (.goto (-15), 3) := by decide +kernel
theorem dX1_takeTicks_49 : decode cX1_takeTicks 49 = .ok (.iload_n 2, 1) := by decide +kernel
theorem dX1_takeTicks_50 : decode cX1_takeTicks 50 = .ok (.ireturn, 1) := by decide +kernel
theorem dX1_tick_0 : decode cX1_tick 0 = .ok (.aload_n 0, 1) := by decide +kernel
theorem dX1_tick_1 : decode cX1_tick 1 = .ok (.invokevirtual 102, 3) := by decide +kernel
theorem dX1_tick_4 : decode cX1_tick 4 = .ok (.istore_n 1, 1) := by decide +kernel
theorem dX1_tick_5 : decode cX1_tick 5 = .ok (.iconst 0, 1) := by decide +kernel
theorem dX1_tick_6 : decode cX1_tick 6 = .ok (.istore_n 2, 1) := by decide +kernel
theorem dX1_tick_7 : decode cX1_tick 7 = .ok (.iload_n 2, 1) := by decide +kernel
theorem dX1_tick_8 : decode cX1_tick 8 = .ok (.aload_n 0, 1) := by decide +kernel
theorem dX1_tick_9 : decode cX1_tick 9 = .ok (.getfield 29, 3) := by decide +kernel
theorem dX1_tick_12 : decode cX1_tick 12 = .ok (.if_icmp .ge 43, 3) := by decide +kernel
theorem dX1_tick_15 : decode cX1_tick 15 = .ok (.aload_n 0, 1) := by decide +kernel
theorem dX1_tick_16 : decode cX1_tick 16 = .ok (.getfield 11, 3) := by decide +kernel
theorem dX1_tick_19 : decode cX1_tick 19 = .ok (.iload_n 2, 1) := by decide +kernel
theorem dX1_tick_20 : decode cX1_tick 20 = .ok (.aaload, 1) := by decide +kernel
theorem dX1_tick_21 : decode cX1_tick 21 = .ok (.astore_n 3, 1) := by decide +kernel
theorem dX1_tick_22 : decode cX1_tick 22 = .ok (.aload_n 0, 1) := by decide +kernel
theorem dX1_tick_23 : decode cX1_tick 23 = .ok (.aload_n 3, 1) := by decide +kernel
theorem dX1_tick_24 : decode cX1_tick 24 = .ok (.invokevirtual 87, 3) := by decide +kernel
theorem dX1_tick_27 : decode cX1_tick 27 = .ok (.invokevirtual 91, 3) := by decide +kernel
theorem dX1_tick_30 : decode cX1_tick 30 = .ok (.ifCond .eq 11, 3) := by decide +kernel
theorem dX1_tick_33 : decode cX1_tick 33 = .ok (.aload_n 3, 1) := by decide +kernel
theorem dX1_tick_34 : decode cX1_tick 34 = .ok (.iconst 0, 1) := by decide +kernel
theorem dX1_tick_35 : decode cX1_tick 35 = .ok (.putfield 105, 3) := by decide +kernel
theorem dX1_tick_38 : decode cX1_tick 38 = .ok (.goto 7, 3) := by decide +kernel
theorem dX1_tick_41 : decode cX1_tick 41 = .ok (.aload_n 3, 1) := by decide +kernel
theorem dX1_tick_42 : decode cX1_tick 42 = .ok (.invokevirtual 108, 3) := by decide +kernel
theorem dX1_tick_45 : decode cX1_tick 45 = .ok (.aload_n 3, 1) := by decide +kernel
theorem dX1_tick_46 : decode cX1_tick 46 = .ok (.invokevirtual 111, 3) := by decide +kernel
theorem dX1_tick_49 : decode cX1_tick 49 = .ok (.iinc 2 1, 3) := by decide +kernel
theorem dX1_tick_52 : decode cX1_tick 52 = .ok (.goto (-45), 3) := by decide +kernel
theorem dX1_tick_55 : decode cX1_tick 55 = .ok (.iconst 0, 1) := by decide +kernel
theorem dX1_tick_56 : decode cX1_tick 56 = .ok (.istore_n 2, 1) := by decide +kernel
theorem dX1_tick_57 : decode cX1_tick 57 = .ok (.iload_n 2, 1) := by decide +kernel
theorem dX1_tick_58 : decode cX1_tick 58 = .ok (.bipush 8, 2) := by decide +kernel
theorem dX1_tick_60 : decode cX1_tick 60 = .ok (.if_icmp .ge 27, 3) := by decide +kernel
theorem dX1_tick_63 : decode cX1_tick 63 = .ok (.aload_n 0, 1) := by decide +kernel
theorem dX1_tick_64 : decode cX1_tick 64 = .ok (.getfield 24, 3) := by decide +kernel
theorem dX1_tick_67 : decode cX1_tick 67 = .ok (.iload_n 2, 1) := by decide +kernel
theorem dX1_tick_68 : decode cX1_tick 68 = .ok (.iconst 0, 1) := by decide +kernel
theorem dX1_tick_69 : decode cX1_tick 69 = .ok (.aload_n 0, 1) := by decide +kernel
theorem dX1_tick_70 : decode cX1_tick 70 = .ok (.getfield 24, 3) := by decide +kernel
theorem dX1_tick_73 : decode cX1_tick 73 = .ok (.iload_n 2, 1) := by decide +kernel
theorem dX1_tick_74 : decode cX1_tick 74 = .ok (.iaload, 1) := by decide +kernel
theorem dX1_tick_75 : decode cX1_tick 75 = .ok (.iconst 1, 1) := by decide +kernel
theorem dX1_tick_76 : decode cX1_tick 76 = .ok (.isub, 1) := by decide +kernel
theorem dX1_tick_77 : decode cX1_tick 77 = .ok (.invokestatic 114, 3) := by decide +kernel
theorem dX1_tick_80 : decode cX1_tick 80 = .ok (.iastore, 1) := by decide +kernel
theorem dX1_tick_81 : decode cX1_tick 81 = .ok (.iinc 2 1, 3) := by decide +kernel
theorem dX1_tick_84 : decode cX1_tick 84 = .ok (.goto (-27), 3) := by decide +kernel
theorem dX1_tick_87 : decode cX1_tick 87 = .ok (.aload_n 0, 1) := by decide +kernel
theorem dX1_tick_88 : decode cX1_tick 88 = .ok (.dup, 1) := by decide +kernel
theorem dX1_tick_89 : decode cX1_tick 89 = .ok (.getfield 46, 3) := by decide +kernel
theorem dX1_tick_92 : decode cX1_tick 92 = .ok (.iconst 1, 1) := by decide +kernel
theorem dX1_tick_93 : decode cX1_tick 93 = .ok (.iadd, 1) := by decide +kernel
theorem dX1_tick_94 : decode cX1_tick 94 = .ok (.putfield 46, 3) := by decide +kernel
theorem dX1_tick_97 : decode cX1_tick 97 = .ok (.iload_n 1, 1) := by decide +kernel
theorem dX1_tick_98 : decode cX1_tick 98 = .ok (.ireturn, 1) := by decide +kernel
theorem dX1_sendFirst_0 : decode cX1_sendFirst 0 = .ok (.aload_n 0, 1) := by decide +kernel
theorem dX1_sendFirst_1 : decode cX1_sendFirst 1 = .ok (.getfield 20, 3) := by decide +kernel
theorem dX1_sendFirst_4 : decode cX1_sendFirst 4 = .ok (.getfield 120, 3) := by decide +kernel
theorem dX1_sendFirst_7 : decode cX1_sendFirst 7 = .ok (.iconst 1, 1) := by decide +kernel
theorem dX1_sendFirst_8 : decode cX1_sendFirst 8 = .ok (.if_icmp .ge 5, 3) := by decide +kernel
theorem dX1_sendFirst_11 : decode cX1_sendFirst 11 = .ok (.iconst 0, 1) := by decide +kernel
theorem dX1_sendFirst_12 : decode cX1_sendFirst 12 = .ok (.ireturn, 1) := by decide +kernel
theorem dX1_sendFirst_13 : decode cX1_sendFirst 13 = .ok (.aload_n 0, 1) := by decide +kernel
theorem dX1_sendFirst_14 : decode cX1_sendFirst 14 = .ok (.getfield 20, 3) := by decide +kernel
theorem dX1_sendFirst_17 : decode cX1_sendFirst 17 = .ok (.getfield 123, 3) := by decide +kernel
theorem dX1_sendFirst_20 : decode cX1_sendFirst 20 = .ok (.iconst 0, 1) := by decide +kernel
theorem dX1_sendFirst_21 : decode cX1_sendFirst 21 = .ok (.iaload, 1) := by decide +kernel
theorem dX1_sendFirst_22 : decode cX1_sendFirst 22 = .ok (.istore_n 1, 1) := by decide +kernel
theorem dX1_sendFirst_23 : decode cX1_sendFirst 23 = .ok (.aload_n 0, 1) := by decide +kernel
theorem dX1_sendFirst_24 : decode cX1_sendFirst 24 = .ok (.getfield 20, 3) := by decide +kernel
theorem dX1_sendFirst_27 : decode cX1_sendFirst 27 = .ok (.getfield 126, 3) := by decide +kernel
theorem dX1_sendFirst_30 : decode cX1_sendFirst 30 = .ok (.iconst 0, 1) := by decide +kernel
theorem dX1_sendFirst_31 : decode cX1_sendFirst 31 = .ok (.iaload, 1) := by decide +kernel
theorem dX1_sendFirst_32 : decode cX1_sendFirst 32 = .ok (.istore_n 2, 1) := by decide +kernel
theorem dX1_sendFirst_33 : decode cX1_sendFirst 33 = .ok (.iload_n 1, 1) := by decide +kernel
theorem dX1_sendFirst_34 : decode cX1_sendFirst 34 = .ok (.iload_n 2, 1) := by decide +kernel
theorem dX1_sendFirst_35 : decode cX1_sendFirst 35 = .ok (.ixor, 1) := by decide +kernel
theorem dX1_sendFirst_36 : decode cX1_sendFirst 36 = .ok (.istore_n 3, 1) := by decide +kernel
theorem dX1_sendFirst_37 : decode cX1_sendFirst 37 = .ok (.aload_n 0, 1) := by decide +kernel
theorem dX1_sendFirst_38 : decode cX1_sendFirst 38 = .ok (.getfield 20, 3) := by decide +kernel
theorem dX1_sendFirst_41 : decode cX1_sendFirst 41 = .ok (.invokevirtual 129, 3) := by decide +kernel
theorem dX1_sendFirst_44 : decode cX1_sendFirst 44 = .ok (.aload_n 0, 1) := by decide +kernel
theorem dX1_sendFirst_45 : decode cX1_sendFirst 45 = .ok (.getfield 49, 3) := by decide +kernel
theorem dX1_sendFirst_48 : decode cX1_sendFirst 48 = .ok (.ifCond .le 45, 3) := by decide +kernel
theorem dX1_sendFirst_51 : decode cX1_sendFirst 51 = .ok (.aload_n 0, 1) := by decide +kernel
theorem dX1_sendFirst_52 : decode cX1_sendFirst 52 = .ok (.getfield 46, 3) := by decide +kernel
theorem dX1_sendFirst_55 : decode cX1_sendFirst 55 = .ok (.aload_n 0, 1) := by decide +kernel
theorem dX1_sendFirst_56 : decode cX1_sendFirst 56 = .ok (.getfield 52, 3) := by decide +kernel
theorem dX1_sendFirst_59 : decode cX1_sendFirst 59 = .ok (.isub, 1) := by decide +kernel
theorem dX1_sendFirst_60 : decode cX1_sendFirst 60 = .ok (.aload_n 0, 1) := by decide +kernel
theorem dX1_sendFirst_61 : decode cX1_sendFirst 61 = .ok (.getfield 49, 3) := by decide +kernel
theorem dX1_sendFirst_64 : decode cX1_sendFirst 64 = .ok (.if_icmp .lt 29, 3) := by decide +kernel
theorem dX1_sendFirst_67 : decode cX1_sendFirst 67 = .ok (.iload_n 3, 1) := by decide +kernel
theorem dX1_sendFirst_68 : decode cX1_sendFirst 68 = .ok (.iconst 1, 1) := by decide +kernel
theorem dX1_sendFirst_69 : decode cX1_sendFirst 69 = .ok (.iadd, 1) := by decide +kernel
theorem dX1_sendFirst_70 : decode cX1_sendFirst 70 = .ok (.sipush 256, 3) := by decide +kernel
theorem dX1_sendFirst_73 : decode cX1_sendFirst 73 = .ok (.irem, 1) := by decide +kernel
theorem dX1_sendFirst_74 : decode cX1_sendFirst 74 = .ok (.istore_n 3, 1) := by decide +kernel
theorem dX1_sendFirst_75 : decode cX1_sendFirst 75 = .ok (.aload_n 0, 1) := by decide +kernel
theorem dX1_sendFirst_76 : decode cX1_sendFirst 76 = .ok (.aload_n 0, 1) := by decide +kernel
theorem dX1_sendFirst_77 : decode cX1_sendFirst 77 = .ok (.getfield 46, 3) := by decide +kernel
theorem dX1_sendFirst_80 : decode cX1_sendFirst 80 = .ok (.putfield 52, 3) := by decide +kernel
theorem dX1_sendFirst_83 : decode cX1_sendFirst 83 = .ok (.aload_n 0, 1) := by decide +kernel
theorem dX1_sendFirst_84 : decode cX1_sendFirst 84 = .ok (.dup, 1) := by decide +kernel
theorem dX1_sendFirst_85 : decode cX1_sendFirst 85 = .ok (.getfield 61, 3) := by decide +kernel
theorem dX1_sendFirst_88 : decode cX1_sendFirst 88 = .ok (.iconst 1, 1) := by decide +kernel
theorem dX1_sendFirst_89 : decode cX1_sendFirst 89 = .ok (.iadd, 1) := by decide +kernel
theorem dX1_sendFirst_90 : decode cX1_sendFirst 90 = .ok (.putfield 61, 3) := by decide +kernel
theorem dX1_sendFirst_93 : decode cX1_sendFirst 93 = .ok (.aload_n 0, 1) := by decide +kernel
theorem dX1_sendFirst_94 : decode cX1_sendFirst 94 = .ok (.iload_n 1, 1) := by decide +kernel
theorem dX1_sendFirst_95 : decode cX1_sendFirst 95 = .ok (.iload_n 2, 1) := by decide +kernel
theorem dX1_sendFirst_96 : decode cX1_sendFirst 96 = .ok (.iload_n 3, 1) := by decide +kernel
theorem dX1_sendFirst_97 : decode cX1_sendFirst 97 = .ok (.invokevirtual 132, 3) := by decide +kernel
theorem dX1_sendFirst_100 : decode cX1_sendFirst 100 = .ok (.pop, 1) := by decide +kernel
theorem dX1_sendFirst_101 : decode cX1_sendFirst 101 = .ok (.iconst 1, 1) := by decide +kernel
theorem dX1_sendFirst_102 : decode cX1_sendFirst 102 = .ok (.ireturn, 1) := by decide +kernel
theorem dX1_isShorted_0 : decode cX1_isShorted 0 = .ok (.iload_n 1, 1) := by decide +kernel
theorem dX1_isShorted_1 : decode cX1_isShorted 1 = .ok (.ifCond .lt 22, 3) := by decide +kernel
theorem dX1_isShorted_4 : decode cX1_isShorted 4 = .ok (.iload_n 1, 1) := by decide +kernel
theorem dX1_isShorted_5 : decode cX1_isShorted 5 = .ok (.bipush 8, 2) := by decide +kernel
theorem dX1_isShorted_7 : decode cX1_isShorted 7 = .ok (.if_icmp .ge 16, 3) := by decide +kernel
theorem dX1_isShorted_10 : decode cX1_isShorted 10 = .ok (.aload_n 0, 1) := by decide +kernel
theorem dX1_isShorted_11 : decode cX1_isShorted 11 = .ok (.getfield 24, 3) := by decide +kernel
theorem dX1_isShorted_14 : decode cX1_isShorted 14 = .ok (.iload_n 1, 1) := by decide +kernel
theorem dX1_isShorted_15 : decode cX1_isShorted 15 = .ok (.iaload, 1) := by decide +kernel
theorem dX1_isShorted_16 : decode cX1_isShorted 16 = .ok (.ifCond .le 7, 3) := by decide +kernel
theorem dX1_isShorted_19 : decode cX1_isShorted 19 = .ok (.iconst 1, 1) := by decide +kernel
theorem dX1_isShorted_20 : decode cX1_isShorted 20 = .ok (.goto 4, 3) := by decide +kernel
theorem dX1_isShorted_23 : decode cX1_isShorted 23 = .ok (.iconst 0, 1) := by decide +kernel
theorem dX1_isShorted_24 : decode cX1_isShorted 24 = .ok (.ireturn, 1) := by decide +kernel
theorem dX1_locosIn_0 : decode cX1_locosIn 0 = .ok (.iconst 0, 1) := by decide +kernel
theorem dX1_locosIn_1 : decode cX1_locosIn 1 = .ok (.istore_n 2, 1) := by decide +kernel
theorem dX1_locosIn_2 : decode cX1_locosIn 2 = .ok (.iconst 0, 1) := by decide +kernel
theorem dX1_locosIn_3 : decode cX1_locosIn 3 = .ok (.istore_n 3, 1) := by decide +kernel
theorem dX1_locosIn_4 : decode cX1_locosIn 4 = .ok (.iload_n 3, 1) := by decide +kernel
theorem dX1_locosIn_5 : decode cX1_locosIn 5 = .ok (.aload_n 0, 1) := by decide +kernel
theorem dX1_locosIn_6 : decode cX1_locosIn 6 = .ok (.getfield 29, 3) := by decide +kernel
theorem dX1_locosIn_9 : decode cX1_locosIn 9 = .ok (.if_icmp .ge 25, 3) := by decide +kernel
theorem dX1_locosIn_12 : decode cX1_locosIn 12 = .ok (.aload_n 0, 1) := by decide +kernel
theorem dX1_locosIn_13 : decode cX1_locosIn 13 = .ok (.getfield 11, 3) := by decide +kernel
theorem dX1_locosIn_16 : decode cX1_locosIn 16 = .ok (.iload_n 3, 1) := by decide +kernel
theorem dX1_locosIn_17 : decode cX1_locosIn 17 = .ok (.aaload, 1) := by decide +kernel
theorem dX1_locosIn_18 : decode cX1_locosIn 18 = .ok (.invokevirtual 87, 3) := by decide +kernel
theorem dX1_locosIn_21 : decode cX1_locosIn 21 = .ok (.iload_n 1, 1) := by decide +kernel
theorem dX1_locosIn_22 : decode cX1_locosIn 22 = .ok (.if_icmp .ne 6, 3) := by decide +kernel
theorem dX1_locosIn_25 : decode cX1_locosIn 25 = .ok (.iinc 2 1, 3) := by decide +kernel
theorem dX1_locosIn_28 : decode cX1_locosIn 28 = .ok (.iinc 3 1, 3) := by decide +kernel
theorem dX1_locosIn_31 : decode cX1_locosIn 31 = .ok (.goto (-27), 3) := by decide +kernel
theorem dX1_locosIn_34 : decode cX1_locosIn 34 = .ok (.iload_n 2, 1) := by decide +kernel
theorem dX1_locosIn_35 : decode cX1_locosIn 35 = .ok (.ireturn, 1) := by decide +kernel
theorem dX1_blocksWithShort_0 : decode cX1_blocksWithShort 0 = .ok (.iconst 0, 1) := by decide +kernel
theorem dX1_blocksWithShort_1 : decode cX1_blocksWithShort 1 = .ok (.istore_n 1, 1) := by decide +kernel
theorem dX1_blocksWithShort_2 : decode cX1_blocksWithShort 2 = .ok (.iconst 0, 1) := by decide +kernel
theorem dX1_blocksWithShort_3 : decode cX1_blocksWithShort 3 = .ok (.istore_n 2, 1) := by decide +kernel
theorem dX1_blocksWithShort_4 : decode cX1_blocksWithShort 4 = .ok (.iload_n 2, 1) := by decide +kernel
theorem dX1_blocksWithShort_5 : decode cX1_blocksWithShort 5 = .ok (.bipush 8, 2) := by decide +kernel
theorem dX1_blocksWithShort_7 : decode cX1_blocksWithShort 7 = .ok (.if_icmp .ge 21, 3) := by decide +kernel
theorem dX1_blocksWithShort_10 : decode cX1_blocksWithShort 10 = .ok (.aload_n 0, 1) := by decide +kernel
theorem dX1_blocksWithShort_11 : decode cX1_blocksWithShort 11 = .ok (.getfield 24, 3) := by decide +kernel
theorem dX1_blocksWithShort_14 : decode cX1_blocksWithShort 14 = .ok (.iload_n 2, 1) := by decide +kernel
theorem dX1_blocksWithShort_15 : decode cX1_blocksWithShort 15 = .ok (.iaload, 1) := by decide +kernel
theorem dX1_blocksWithShort_16 : decode cX1_blocksWithShort 16 = .ok (.ifCond .le 6, 3) := by decide +kernel
theorem dX1_blocksWithShort_19 : decode cX1_blocksWithShort 19 = .ok (.iinc 1 1, 3) := by decide +kernel
theorem dX1_blocksWithShort_22 : decode cX1_blocksWithShort 22 = .ok (.iinc 2 1, 3) := by decide +kernel
theorem dX1_blocksWithShort_25 : decode cX1_blocksWithShort 25 = .ok (.goto (-21), 3) := by decide +kernel
theorem dX1_blocksWithShort_28 : decode cX1_blocksWithShort 28 = .ok (.iload_n 1, 1) := by decide +kernel
theorem dX1_blocksWithShort_29 : decode cX1_blocksWithShort 29 = .ok (.ireturn, 1) := by decide +kernel
theorem dX1_crowdedBlocks_0 : decode cX1_crowdedBlocks 0 = .ok (.iconst 0, 1) := by decide +kernel
theorem dX1_crowdedBlocks_1 : decode cX1_crowdedBlocks 1 = .ok (.istore_n 1, 1) := by decide +kernel
theorem dX1_crowdedBlocks_2 : decode cX1_crowdedBlocks 2 = .ok (.iconst 0, 1) := by decide +kernel
theorem dX1_crowdedBlocks_3 : decode cX1_crowdedBlocks 3 = .ok (.istore_n 2, 1) := by decide +kernel
theorem dX1_crowdedBlocks_4 : decode cX1_crowdedBlocks 4 = .ok (.iload_n 2, 1) := by decide +kernel
theorem dX1_crowdedBlocks_5 : decode cX1_crowdedBlocks 5 = .ok (.bipush 8, 2) := by decide +kernel
theorem dX1_crowdedBlocks_7 : decode cX1_crowdedBlocks 7 = .ok (.if_icmp .ge 21, 3) := by decide +kernel
theorem dX1_crowdedBlocks_10 : decode cX1_crowdedBlocks 10 = .ok (.aload_n 0, 1) := by decide +kernel
theorem dX1_crowdedBlocks_11 : decode cX1_crowdedBlocks 11 = .ok (.iload_n 2, 1) := by decide +kernel
theorem dX1_crowdedBlocks_12 : decode cX1_crowdedBlocks 12 = .ok (.invokevirtual 136, 3) := by decide +kernel
theorem dX1_crowdedBlocks_15 : decode cX1_crowdedBlocks 15 = .ok (.iconst 1, 1) := by decide +kernel
theorem dX1_crowdedBlocks_16 : decode cX1_crowdedBlocks 16 = .ok (.if_icmp .le 6, 3) := by decide +kernel
theorem dX1_crowdedBlocks_19 : decode cX1_crowdedBlocks 19 = .ok (.iinc 1 1, 3) := by decide +kernel
theorem dX1_crowdedBlocks_22 : decode cX1_crowdedBlocks 22 = .ok (.iinc 2 1, 3) := by decide +kernel
theorem dX1_crowdedBlocks_25 : decode cX1_crowdedBlocks 25 = .ok (.goto (-21), 3) := by decide +kernel
theorem dX1_crowdedBlocks_28 : decode cX1_crowdedBlocks 28 = .ok (.iload_n 1, 1) := by decide +kernel
theorem dX1_crowdedBlocks_29 : decode cX1_crowdedBlocks 29 = .ok (.ireturn, 1) := by decide +kernel
theorem dX1_speedSum_0 : decode cX1_speedSum 0 = .ok (.iconst 0, 1) := by decide +kernel
theorem dX1_speedSum_1 : decode cX1_speedSum 1 = .ok (.istore_n 1, 1) := by decide +kernel
theorem dX1_speedSum_2 : decode cX1_speedSum 2 = .ok (.iconst 0, 1) := by decide +kernel
theorem dX1_speedSum_3 : decode cX1_speedSum 3 = .ok (.istore_n 2, 1) := by decide +kernel
theorem dX1_speedSum_4 : decode cX1_speedSum 4 = .ok (.iload_n 2, 1) := by decide +kernel
theorem dX1_speedSum_5 : decode cX1_speedSum 5 = .ok (.aload_n 0, 1) := by decide +kernel
theorem dX1_speedSum_6 : decode cX1_speedSum 6 = .ok (.getfield 29, 3) := by decide +kernel
theorem dX1_speedSum_9 : decode cX1_speedSum 9 = .ok (.if_icmp .ge 21, 3) := by decide +kernel
theorem dX1_speedSum_12 : decode cX1_speedSum 12 = .ok (.iload_n 1, 1) := by decide +kernel
theorem dX1_speedSum_13 : decode cX1_speedSum 13 = .ok (.aload_n 0, 1) := by decide +kernel
theorem dX1_speedSum_14 : decode cX1_speedSum 14 = .ok (.getfield 11, 3) := by decide +kernel
theorem dX1_speedSum_17 : decode cX1_speedSum 17 = .ok (.iload_n 2, 1) := by decide +kernel
theorem dX1_speedSum_18 : decode cX1_speedSum 18 = .ok (.aaload, 1) := by decide +kernel
theorem dX1_speedSum_19 : decode cX1_speedSum 19 = .ok (.getfield 105, 3) := by decide +kernel
theorem dX1_speedSum_22 : decode cX1_speedSum 22 = .ok (.iadd, 1) := by decide +kernel
theorem dX1_speedSum_23 : decode cX1_speedSum 23 = .ok (.istore_n 1, 1) := by decide +kernel
theorem dX1_speedSum_24 : decode cX1_speedSum 24 = .ok (.iinc 2 1, 3) := by decide +kernel
theorem dX1_speedSum_27 : decode cX1_speedSum 27 = .ok (.goto (-23), 3) := by decide +kernel
theorem dX1_speedSum_30 : decode cX1_speedSum 30 = .ok (.iload_n 1, 1) := by decide +kernel
theorem dX1_speedSum_31 : decode cX1_speedSum 31 = .ok (.ireturn, 1) := by decide +kernel
theorem dX2_init_0 : decode cX2_init 0 = .ok (.aload_n 0, 1) := by decide +kernel
theorem dX2_init_1 : decode cX2_init 1 = .ok (.invokespecial 3, 3) := by decide +kernel
theorem dX2_init_4 : decode cX2_init 4 = .ok (.return_, 1) := by decide +kernel
theorem dX2_begin_0 : decode cX2_begin 0 = .ok (.aload_n 0, 1) := by decide +kernel
theorem dX2_begin_1 : decode cX2_begin 1 = .ok (.iload_n 1, 1) := by decide +kernel
theorem dX2_begin_2 : decode cX2_begin 2 = .ok (.putfield 9, 3) := by decide +kernel
theorem dX2_begin_5 : decode cX2_begin 5 = .ok (.aload_n 0, 1) := by decide +kernel
theorem dX2_begin_6 : decode cX2_begin 6 = .ok (.iload_n 2, 1) := by decide +kernel
theorem dX2_begin_7 : decode cX2_begin 7 = .ok (.putfield 15, 3) := by decide +kernel
theorem dX2_begin_10 : decode cX2_begin 10 = .ok (.aload_n 0, 1) := by decide +kernel
theorem dX2_begin_11 : decode cX2_begin 11 = .ok (.iload_n 3, 1) := by decide +kernel
theorem dX2_begin_12 : decode cX2_begin 12 = .ok (.putfield 18, 3) := by decide +kernel
theorem dX2_begin_15 : decode cX2_begin 15 = .ok (.aload_n 0, 1) := by decide +kernel
theorem dX2_begin_16 : decode cX2_begin 16 = .ok (.iload 4, 2) := by decide +kernel
theorem dX2_begin_18 : decode cX2_begin 18 = .ok (.putfield 21, 3) := by decide +kernel
theorem dX2_begin_21 : decode cX2_begin 21 = .ok (.aload_n 0, 1) := by decide +kernel
theorem dX2_begin_22 : decode cX2_begin 22 = .ok (.iconst 0, 1) := by decide +kernel
theorem dX2_begin_23 : decode cX2_begin 23 = .ok (.putfield 24, 3) := by decide +kernel
theorem dX2_begin_26 : decode cX2_begin 26 = .ok (.aload_n 0, 1) := by decide +kernel
theorem dX2_begin_27 : decode cX2_begin 27 = .ok (.iconst 0, 1) := by decide +kernel
theorem dX2_begin_28 : decode cX2_begin 28 = .ok (.putfield 27, 3) := by decide +kernel
theorem dX2_begin_31 : decode cX2_begin 31 = .ok (.aload_n 0, 1) := by decide +kernel
theorem dX2_begin_32 : decode cX2_begin 32 = .ok (.iconst 0, 1) := by decide +kernel
theorem dX2_begin_33 : decode cX2_begin 33 = .ok (.putfield 30, 3) := by decide +kernel
theorem dX2_begin_36 : decode cX2_begin 36 = .ok (.aload_n 0, 1) := by decide +kernel
theorem dX2_begin_37 : decode cX2_begin 37 = .ok (.iconst 0, 1) := by decide +kernel
theorem dX2_begin_38 : decode cX2_begin 38 = .ok (.putfield 33, 3) := by decide +kernel
theorem dX2_begin_41 : decode cX2_begin 41 = .ok (.aload_n 0, 1) := by decide +kernel
theorem dX2_begin_42 : decode cX2_begin 42 = .ok (.iconst 1, 1) := by decide +kernel
theorem dX2_begin_43 : decode cX2_begin 43 = .ok (.putfield 36, 3) := by decide +kernel
theorem dX2_begin_46 : decode cX2_begin 46 = .ok (.aload_n 0, 1) := by decide +kernel
theorem dX2_begin_47 : decode cX2_begin 47 = .ok (.iconst 0, 1) := by decide +kernel
theorem dX2_begin_48 : decode cX2_begin 48 = .ok (.putfield 39, 3) := by decide +kernel
theorem dX2_begin_51 : decode cX2_begin 51 = .ok (.aload_n 0, 1) := by decide +kernel
theorem dX2_begin_52 : decode cX2_begin 52 = .ok (.iconst 0, 1) := by decide +kernel
theorem dX2_begin_53 : decode cX2_begin 53 = .ok (.putfield 42, 3) := by decide +kernel
theorem dX2_begin_56 : decode cX2_begin 56 = .ok (.return_, 1) := by decide +kernel
theorem dX2_copyFrom_0 : decode cX2_copyFrom 0 = .ok (.aload_n 0, 1) := by decide +kernel
theorem dX2_copyFrom_1 : decode cX2_copyFrom 1 = .ok (.aload_n 1, 1) := by decide +kernel
theorem dX2_copyFrom_2 : decode cX2_copyFrom 2 = .ok (.getfield 9, 3) := by decide +kernel
theorem dX2_copyFrom_5 : decode cX2_copyFrom 5 = .ok (.putfield 9, 3) := by decide +kernel
theorem dX2_copyFrom_8 : decode cX2_copyFrom 8 = .ok (.aload_n 0, 1) := by decide +kernel
theorem dX2_copyFrom_9 : decode cX2_copyFrom 9 = .ok (.aload_n 1, 1) := by decide +kernel
theorem dX2_copyFrom_10 : decode cX2_copyFrom 10 = .ok (.getfield 15, 3) := by decide +kernel
theorem dX2_copyFrom_13 : decode cX2_copyFrom 13 = .ok (.putfield 15, 3) := by decide +kernel
theorem dX2_copyFrom_16 : decode cX2_copyFrom 16 = .ok (.aload_n 0, 1) := by decide +kernel
theorem dX2_copyFrom_17 : decode cX2_copyFrom 17 = .ok (.aload_n 1, 1) := by decide +kernel
theorem dX2_copyFrom_18 : decode cX2_copyFrom 18 = .ok (.getfield 18, 3) := by decide +kernel
theorem dX2_copyFrom_21 : decode cX2_copyFrom 21 = .ok (.putfield 18, 3) := by decide +kernel
theorem dX2_copyFrom_24 : decode cX2_copyFrom 24 = .ok (.aload_n 0, 1) := by decide +kernel
theorem dX2_copyFrom_25 : decode cX2_copyFrom 25 = .ok (.aload_n 1, 1) := by decide +kernel
theorem dX2_copyFrom_26 : decode cX2_copyFrom 26 = .ok (.getfield 21, 3) := by decide +kernel
theorem dX2_copyFrom_29 : decode cX2_copyFrom 29 = .ok (.putfield 21, 3) := by decide +kernel
theorem dX2_copyFrom_32 : decode cX2_copyFrom 32 = .ok (.aload_n 0, 1) := by decide +kernel
theorem dX2_copyFrom_33 : decode cX2_copyFrom 33 = .ok (.aload_n 1, 1) := by decide +kernel
theorem dX2_copyFrom_34 : decode cX2_copyFrom 34 = .ok (.getfield 24, 3) := by decide +kernel
theorem dX2_copyFrom_37 : decode cX2_copyFrom 37 = .ok (.putfield 24, 3) := by decide +kernel
theorem dX2_copyFrom_40 : decode cX2_copyFrom 40 = .ok (.aload_n 0, 1) := by decide +kernel
theorem dX2_copyFrom_41 : decode cX2_copyFrom 41 = .ok (.aload_n 1, 1) := by decide +kernel
theorem dX2_copyFrom_42 : decode cX2_copyFrom 42 = .ok (.getfield 27, 3) := by decide +kernel
theorem dX2_copyFrom_45 : decode cX2_copyFrom 45 = .ok (.putfield 27, 3) := by decide +kernel
theorem dX2_copyFrom_48 : decode cX2_copyFrom 48 = .ok (.aload_n 0, 1) := by decide +kernel
theorem dX2_copyFrom_49 : decode cX2_copyFrom 49 = .ok (.aload_n 1, 1) := by decide +kernel
theorem dX2_copyFrom_50 : decode cX2_copyFrom 50 = .ok (.getfield 30, 3) := by decide +kernel
theorem dX2_copyFrom_53 : decode cX2_copyFrom 53 = .ok (.putfield 30, 3) := by decide +kernel
theorem dX2_copyFrom_56 : decode cX2_copyFrom 56 = .ok (.aload_n 0, 1) := by decide +kernel
theorem dX2_copyFrom_57 : decode cX2_copyFrom 57 = .ok (.aload_n 1, 1) := by decide +kernel
theorem dX2_copyFrom_58 : decode cX2_copyFrom 58 = .ok (.getfield 33, 3) := by decide +kernel
theorem dX2_copyFrom_61 : decode cX2_copyFrom 61 = .ok (.putfield 33, 3) := by decide +kernel
theorem dX2_copyFrom_64 : decode cX2_copyFrom 64 = .ok (.aload_n 0, 1) := by decide +kernel
theorem dX2_copyFrom_65 : decode cX2_copyFrom 65 = .ok (.aload_n 1, 1) := by decide +kernel
theorem dX2_copyFrom_66 : decode cX2_copyFrom 66 = .ok (.getfield 36, 3) := by decide +kernel
theorem dX2_copyFrom_69 : decode cX2_copyFrom 69 = .ok (.putfield 36, 3) := by decide +kernel
theorem dX2_copyFrom_72 : decode cX2_copyFrom 72 = .ok (.aload_n 0, 1) := by decide +kernel
theorem dX2_copyFrom_73 : decode cX2_copyFrom 73 = .ok (.aload_n 1, 1) := by decide +kernel
theorem dX2_copyFrom_74 : decode cX2_copyFrom 74 = .ok (.getfield 39, 3) := by decide +kernel
theorem dX2_copyFrom_77 : decode cX2_copyFrom 77 = .ok (.putfield 39, 3) := by decide +kernel
theorem dX2_copyFrom_80 : decode cX2_copyFrom 80 = .ok (.aload_n 0, 1) := by decide +kernel
theorem dX2_copyFrom_81 : decode cX2_copyFrom 81 = .ok (.aload_n 1, 1) := by decide +kernel
theorem dX2_copyFrom_82 : decode cX2_copyFrom 82 = .ok (.getfield 42, 3) := by decide +kernel
theorem dX2_copyFrom_85 : decode cX2_copyFrom 85 = .ok (.putfield 42, 3) := by decide +kernel
theorem dX2_copyFrom_88 : decode cX2_copyFrom 88 = .ok (.return_, 1) := by decide +kernel
theorem dX2_blockNumber_0 : decode cX2_blockNumber 0 = .ok (.aload_n 0, 1) := by decide +kernel
theorem dX2_blockNumber_1 : decode cX2_blockNumber 1 = .ok (.getfield 21, 3) := by decide +kernel
theorem dX2_blockNumber_4 : decode cX2_blockNumber 4 = .ok (.bipush 100, 2) := by decide +kernel
theorem dX2_blockNumber_6 : decode cX2_blockNumber 6 = .ok (.idiv, 1) := by decide +kernel
theorem dX2_blockNumber_7 : decode cX2_blockNumber 7 = .ok (.ireturn, 1) := by decide +kernel
theorem dX2_goal_0 : decode cX2_goal 0 = .ok (.aload_n 0, 1) := by decide +kernel
theorem dX2_goal_1 : decode cX2_goal 1 = .ok (.getfield 18, 3) := by decide +kernel
theorem dX2_goal_4 : decode cX2_goal 4 = .ok (.aload_n 0, 1) := by decide +kernel
theorem dX2_goal_5 : decode cX2_goal 5 = .ok (.getfield 33, 3) := by decide +kernel
theorem dX2_goal_8 : decode cX2_goal 8 = .ok (.invokestatic 45, 3) := by decide +kernel
theorem dX2_goal_11 : decode cX2_goal 11 = .ok (.istore_n 1, 1) := by decide +kernel
theorem dX2_goal_12 : decode cX2_goal 12 = .ok (.aload_n 0, 1) := by decide +kernel
theorem dX2_goal_13 : decode cX2_goal 13 = .ok (.getfield 36, 3) := by decide +kernel
theorem dX2_goal_16 : decode cX2_goal 16 = .ok (.iconst 1, 1) := by decide +kernel
theorem dX2_goal_17 : decode cX2_goal 17 = .ok (.if_icmp .ne 7, 3) := by decide +kernel
theorem dX2_goal_20 : decode cX2_goal 20 = .ok (.iload_n 1, 1) := by decide +kernel
theorem dX2_goal_21 : decode cX2_goal 21 = .ok (.goto 5, 3) := by decide +kernel
theorem dX2_goal_24 : decode cX2_goal 24 = .ok (.iload_n 1, 1) := by decide +kernel
theorem dX2_goal_25 : decode cX2_goal 25 = .ok (.ineg, 1) := by decide +kernel
theorem dX2_goal_26 : decode cX2_goal 26 = .ok (.ireturn, 1) := by decide +kernel
theorem dX2_mostGain_0 : decode cX2_mostGain 0 = .ok (.aload_n 0, 1) := by decide +kernel
theorem dX2_mostGain_1 : decode cX2_mostGain 1 = .ok (.getfield 15, 3) := by decide +kernel
theorem dX2_mostGain_4 : decode cX2_mostGain 4 = .ok (.ifCond .le 13, 3) := by decide +kernel
theorem dX2_mostGain_7 : decode cX2_mostGain 7 = .ok (.bipush 60, 2) := by decide +kernel
theorem dX2_mostGain_9 : decode cX2_mostGain 9 = .ok (.aload_n 0, 1) := by decide +kernel
theorem dX2_mostGain_10 : decode cX2_mostGain 10 = .ok (.getfield 15, 3) := by decide +kernel
theorem dX2_mostGain_13 : decode cX2_mostGain 13 = .ok (.idiv, 1) := by decide +kernel
theorem dX2_mostGain_14 : decode cX2_mostGain 14 = .ok (.goto 4, 3) := by decide +kernel
theorem dX2_mostGain_17 : decode cX2_mostGain 17 = .ok (.iconst 0, 1) := by decide +kernel
theorem dX2_mostGain_18 : decode cX2_mostGain 18 = .ok (.ireturn, 1) := by decide +kernel
theorem dX2_ticksToGoal_0 : decode cX2_ticksToGoal 0 = .ok (.aload_n 0, 1) := by decide +kernel
theorem dX2_ticksToGoal_1 : decode cX2_ticksToGoal 1 = .ok (.invokevirtual 49, 3) := by decide +kernel
theorem dX2_ticksToGoal_4 : decode cX2_ticksToGoal 4 = .ok (.istore_n 1, 1) := by decide +kernel
theorem dX2_ticksToGoal_5 : decode cX2_ticksToGoal 5 = .ok (.aload_n 0, 1) := by decide +kernel
theorem dX2_ticksToGoal_6 : decode cX2_ticksToGoal 6 = .ok (.invokevirtual 53, 3) := by decide +kernel
theorem dX2_ticksToGoal_9 : decode cX2_ticksToGoal 9 = .ok (.aload_n 0, 1) := by decide +kernel
theorem dX2_ticksToGoal_10 : decode cX2_ticksToGoal 10 = .ok (.getfield 27, 3) := by decide +kernel
theorem dX2_ticksToGoal_13 : decode cX2_ticksToGoal 13 = .ok (.isub, 1) := by decide +kernel
theorem dX2_ticksToGoal_14 : decode cX2_ticksToGoal 14 = .ok (.invokestatic 56, 3) := by decide +kernel
theorem dX2_ticksToGoal_17 : decode cX2_ticksToGoal 17 = .ok (.istore_n 2, 1) := by decide +kernel
theorem dX2_ticksToGoal_18 : decode cX2_ticksToGoal 18 = .ok (.iload_n 1, 1) := by decide +kernel
theorem dX2_ticksToGoal_19 : decode cX2_ticksToGoal 19 = .ok (.ifCond .le 13, 3) := by decide +kernel
theorem dX2_ticksToGoal_22 : decode cX2_ticksToGoal 22 = .ok (.iload_n 2, 1) := by decide +kernel
theorem dX2_ticksToGoal_23 : decode cX2_ticksToGoal 23 = .ok (.iload_n 1, 1) := by decide +kernel
theorem dX2_ticksToGoal_24 : decode cX2_ticksToGoal 24 = .ok (.iadd, 1) := by decide +kernel
theorem dX2_ticksToGoal_25 : decode cX2_ticksToGoal 25 = .ok (.iconst 1, 1) := by decide +kernel
theorem dX2_ticksToGoal_26 : decode cX2_ticksToGoal 26 = .ok (.isub, 1) := by decide +kernel
theorem dX2_ticksToGoal_27 : decode cX2_ticksToGoal 27 = .ok (.iload_n 1, 1) := by decide +kernel
theorem dX2_ticksToGoal_28 : decode cX2_ticksToGoal 28 = .ok (.idiv, 1) := by decide +kernel
theorem dX2_ticksToGoal_29 : decode cX2_ticksToGoal 29 = .ok (.goto 4, 3) := by decide +kernel
theorem dX2_ticksToGoal_32 : decode cX2_ticksToGoal 32 = .ok (.iconst 0, 1) := by decide +kernel
theorem dX2_ticksToGoal_33 : decode cX2_ticksToGoal 33 = .ok (.ireturn, 1) := by decide +kernel
theorem dX2_changeSpeed_0 : decode cX2_changeSpeed 0 = .ok (.aload_n 0, 1) := by decide +kernel
theorem dX2_changeSpeed_1 : decode cX2_changeSpeed 1 = .ok (.invokevirtual 49, 3) := by decide +kernel
theorem dX2_changeSpeed_4 : decode cX2_changeSpeed 4 = .ok (.istore_n 1, 1) := by decide +kernel
theorem dX2_changeSpeed_5 : decode cX2_changeSpeed 5 = .ok (.aload_n 0, 1) := by decide +kernel
theorem dX2_changeSpeed_6 : decode cX2_changeSpeed 6 = .ok (.dup, 1) := by decide +kernel
theorem dX2_changeSpeed_7 : decode cX2_changeSpeed 7 = .ok (.getfield 27, 3) := by decide +kernel
theorem dX2_changeSpeed_10 : decode cX2_changeSpeed 10 = .ok (.iload_n 1, 1) := by decide +kernel
theorem dX2_changeSpeed_11 : decode cX2_changeSpeed 11 = .ok (.ineg, 1) := by decide +kernel
theorem dX2_changeSpeed_12 : decode cX2_changeSpeed 12 = .ok (.iload_n 1, 1) := by decide +kernel
theorem dX2_changeSpeed_13 : decode cX2_changeSpeed 13 = .ok (.aload_n 0, 1) := by decide +kernel
theorem dX2_changeSpeed_14 : decode cX2_changeSpeed 14 = .ok (.invokevirtual 53, 3) := by decide +kernel
theorem dX2_changeSpeed_17 : decode cX2_changeSpeed 17 = .ok (.aload_n 0, 1) := by decide +kernel
theorem dX2_changeSpeed_18 : decode cX2_changeSpeed 18 = .ok (.getfield 27, 3) := by decide +kernel
theorem dX2_changeSpeed_21 : decode cX2_changeSpeed 21 = .ok (.isub, 1) := by decide +kernel
theorem dX2_changeSpeed_22 : decode cX2_changeSpeed 22 = .ok (.invokestatic 62, 3) := by decide +kernel
theorem dX2_changeSpeed_25 : decode cX2_changeSpeed 25 = .ok (.invokestatic 65, 3) := by decide +kernel
theorem dX2_changeSpeed_28 : decode cX2_changeSpeed 28 = .ok (.iadd, 1) := by decide +kernel
theorem dX2_changeSpeed_29 : decode cX2_changeSpeed 29 = .ok (.putfield 27, 3) := by decide +kernel
theorem dX2_changeSpeed_32 : decode cX2_changeSpeed 32 = .ok (.return_, 1) := by decide +kernel
theorem dX2_roll_0 : decode cX2_roll 0 = .ok (.aload_n 0, 1) := by decide +kernel
theorem dX2_roll_1 : decode cX2_roll 1 = .ok (.getfield 21, 3) := by decide +kernel
theorem dX2_roll_4 : decode cX2_roll 4 = .ok (.bipush 10, 2) := by decide +kernel
theorem dX2_roll_6 : decode cX2_roll 6 = .ok (.imul, 1) := by decide +kernel
theorem dX2_roll_7 : decode cX2_roll 7 = .ok (.aload_n 0, 1) := by decide +kernel
theorem dX2_roll_8 : decode cX2_roll 8 = .ok (.getfield 24, 3) := by decide +kernel
theorem dX2_roll_11 : decode cX2_roll 11 = .ok (.iadd, 1) := by decide +kernel
theorem dX2_roll_12 : decode cX2_roll 12 = .ok (.aload_n 0, 1) := by decide +kernel
theorem dX2_roll_13 : decode cX2_roll 13 = .ok (.getfield 27, 3) := by decide +kernel
theorem dX2_roll_16 : decode cX2_roll 16 = .ok (.iadd, 1) := by decide +kernel
theorem dX2_roll_17 : decode cX2_roll 17 = .ok (.istore_n 1, 1) := by decide +kernel
theorem dX2_roll_18 : decode cX2_roll 18 = .ok (.aload_n 0, 1) := by decide +kernel
theorem dX2_roll_19 : decode cX2_roll 19 = .ok (.dup, 1) := by decide +kernel
theorem dX2_roll_20 : decode cX2_roll 20 = .ok (.getfield 30, 3) := by decide +kernel
theorem dX2_roll_23 : decode cX2_roll 23 = .ok (.iload_n 1, 1) := by decide +kernel
theorem dX2_roll_24 : decode cX2_roll 24 = .ok (.sipush 8000, 3) := by decide +kernel
theorem dX2_roll_27 : decode cX2_roll 27 = .ok (.invokestatic 68, 3) := by decide +kernel
theorem dX2_roll_30 : decode cX2_roll 30 = .ok (.iadd, 1) := by decide +kernel
theorem dX2_roll_31 : decode cX2_roll 31 = .ok (.putfield 30, 3) := by decide +kernel
theorem dX2_roll_34 : decode cX2_roll 34 = .ok (.iload_n 1, 1) := by decide +kernel
theorem dX2_roll_35 : decode cX2_roll 35 = .ok (.sipush 8000, 3) := by decide +kernel
theorem dX2_roll_38 : decode cX2_roll 38 = .ok (.invokestatic 71, 3) := by decide +kernel
theorem dX2_roll_41 : decode cX2_roll 41 = .ok (.istore_n 2, 1) := by decide +kernel
theorem dX2_roll_42 : decode cX2_roll 42 = .ok (.aload_n 0, 1) := by decide +kernel
theorem dX2_roll_43 : decode cX2_roll 43 = .ok (.iload_n 2, 1) := by decide +kernel
theorem dX2_roll_44 : decode cX2_roll 44 = .ok (.bipush 10, 2) := by decide +kernel
theorem dX2_roll_46 : decode cX2_roll 46 = .ok (.idiv, 1) := by decide +kernel
theorem dX2_roll_47 : decode cX2_roll 47 = .ok (.putfield 21, 3) := by decide +kernel
theorem dX2_roll_50 : decode cX2_roll 50 = .ok (.aload_n 0, 1) := by decide +kernel
theorem dX2_roll_51 : decode cX2_roll 51 = .ok (.iload_n 2, 1) := by decide +kernel
theorem dX2_roll_52 : decode cX2_roll 52 = .ok (.bipush 10, 2) := by decide +kernel
theorem dX2_roll_54 : decode cX2_roll 54 = .ok (.irem, 1) := by decide +kernel
theorem dX2_roll_55 : decode cX2_roll 55 = .ok (.putfield 24, 3) := by decide +kernel
theorem dX2_roll_58 : decode cX2_roll 58 = .ok (.return_, 1) := by decide +kernel
theorem dX2_hear_0 : decode cX2_hear 0 = .ok (.aload_n 0, 1) := by decide +kernel
theorem dX2_hear_1 : decode cX2_hear 1 = .ok (.dup, 1) := by decide +kernel
theorem dX2_hear_2 : decode cX2_hear 2 = .ok (.getfield 42, 3) := by decide +kernel
theorem dX2_hear_5 : decode cX2_hear 5 = .ok (.iconst 1, 1) := by decide +kernel
theorem dX2_hear_6 : decode cX2_hear 6 = .ok (.iadd, 1) := by decide +kernel
theorem dX2_hear_7 : decode cX2_hear 7 = .ok (.putfield 42, 3) := by decide +kernel
theorem dX2_hear_10 : decode cX2_hear 10 = .ok (.iload_n 1, 1) := by decide +kernel
theorem dX2_hear_11 : decode cX2_hear 11 = .ok (.sipush 128, 3) := by decide +kernel
theorem dX2_hear_14 : decode cX2_hear 14 = .ok (.irem, 1) := by decide +kernel
theorem dX2_hear_15 : decode cX2_hear 15 = .ok (.istore_n 2, 1) := by decide +kernel
theorem dX2_hear_16 : decode cX2_hear 16 = .ok (.iload_n 2, 1) := by decide +kernel
theorem dX2_hear_17 : decode cX2_hear 17 = .ok (.bipush 28, 2) := by decide +kernel
theorem dX2_hear_19 : decode cX2_hear 19 = .ok (.if_icmp .gt 20, 3) := by decide +kernel
theorem dX2_hear_22 : decode cX2_hear 22 = .ok (.aload_n 0, 1) := by decide +kernel
theorem dX2_hear_23 : decode cX2_hear 23 = .ok (.iload_n 2, 1) := by decide +kernel
theorem dX2_hear_24 : decode cX2_hear 24 = .ok (.putfield 33, 3) := by decide +kernel
theorem dX2_hear_27 : decode cX2_hear 27 = .ok (.aload_n 0, 1) := by decide +kernel
theorem dX2_hear_28 : decode cX2_hear 28 = .ok (.iload_n 1, 1) := by decide +kernel
theorem dX2_hear_29 : decode cX2_hear 29 = .ok (.sipush 128, 3) := by decide +kernel
theorem dX2_hear_32 : decode cX2_hear 32 = .ok (.idiv, 1) := by decide +kernel
theorem dX2_hear_33 : decode cX2_hear 33 = .ok (.putfield 36, 3) := by decide +kernel
theorem dX2_hear_36 : decode cX2_hear 36 = .ok (.goto 42, 3) := by decide +kernel
theorem dX2_hear_39 : decode cX2_hear 39 = .ok (.iload_n 1, 1) := by decide +kernel
theorem dX2_hear_40 : decode cX2_hear 40 = .ok (.bipush 31, 2) := by decide +kernel
theorem dX2_hear_42 : decode cX2_hear 42 = .ok (.if_icmp .ne 16, 3) := by decide +kernel
theorem dX2_hear_45 : decode cX2_hear 45 = .ok (.aload_n 0, 1) := by decide +kernel
theorem dX2_hear_46 : decode cX2_hear 46 = .ok (.iconst 0, 1) := by decide +kernel
theorem dX2_hear_47 : decode cX2_hear 47 = .ok (.putfield 33, 3) := by decide +kernel
theorem dX2_hear_50 : decode cX2_hear 50 = .ok (.aload_n 0, 1) := by decide +kernel
theorem dX2_hear_51 : decode cX2_hear 51 = .ok (.iconst 0, 1) := by decide +kernel
theorem dX2_hear_52 : decode cX2_hear 52 = .ok (.putfield 27, 3) := by decide +kernel
theorem dX2_hear_55 : decode cX2_hear 55 = .ok (.goto 23, 3) := by decide +kernel
theorem dX2_hear_58 : decode cX2_hear 58 = .ok (.iload_n 1, 1) := by decide +kernel
theorem dX2_hear_59 : decode cX2_hear 59 = .ok (.bipush 64, 2) := by decide +kernel
theorem dX2_hear_61 : decode cX2_hear 61 = .ok (.if_icmp .lt 17, 3) := by decide +kernel
theorem dX2_hear_64 : decode cX2_hear 64 = .ok (.iload_n 1, 1) := by decide +kernel
theorem dX2_hear_65 : decode cX2_hear 65 = .ok (.bipush 67, 2) := by decide +kernel
theorem dX2_hear_67 : decode cX2_hear 67 = .ok (.if_icmp .gt 11, 3) := by decide +kernel
theorem dX2_hear_70 : decode cX2_hear 70 = .ok (.aload_n 0, 1) := by decide +kernel
theorem dX2_hear_71 : decode cX2_hear 71 = .ok (.iload_n 1, 1) := by decide +kernel
theorem dX2_hear_72 : decode cX2_hear 72 = .ok (.bipush 64, 2) := by decide +kernel
theorem dX2_hear_74 : decode cX2_hear 74 = .ok (.isub, 1) := by decide +kernel
theorem dX2_hear_75 : decode cX2_hear 75 = .ok (.putfield 39, 3) := by decide +kernel
theorem dX2_hear_78 : decode cX2_hear 78 = .ok (.return_, 1) := by decide +kernel
theorem dX2_told_0 : decode cX2_told 0 = .ok (.iload_n 1, 1) := by decide +kernel
theorem dX2_told_1 : decode cX2_told 1 = .ok (.tableswitch 135 0 11 #[63, 68, 73, 78, 83, 92, 101, 106, 111, 116, 121, 126], 63) := by decide +kernel
theorem dX2_told_64 : decode cX2_told 64 = .ok (.aload_n 0, 1) := by decide +kernel
theorem dX2_told_65 : decode cX2_told 65 = .ok (.getfield 15, 3) := by decide +kernel
theorem dX2_told_68 : decode cX2_told 68 = .ok (.ireturn, 1) := by decide +kernel
theorem dX2_told_69 : decode cX2_told 69 = .ok (.aload_n 0, 1) := by decide +kernel
theorem dX2_told_70 : decode cX2_told 70 = .ok (.getfield 18, 3) := by decide +kernel
theorem dX2_told_73 : decode cX2_told 73 = .ok (.ireturn, 1) := by decide +kernel
theorem dX2_told_74 : decode cX2_told 74 = .ok (.aload_n 0, 1) := by decide +kernel
theorem dX2_told_75 : decode cX2_told 75 = .ok (.getfield 21, 3) := by decide +kernel
theorem dX2_told_78 : decode cX2_told 78 = .ok (.ireturn, 1) := by decide +kernel
theorem dX2_told_79 : decode cX2_told 79 = .ok (.aload_n 0, 1) := by decide +kernel
theorem dX2_told_80 : decode cX2_told 80 = .ok (.getfield 24, 3) := by decide +kernel
theorem dX2_told_83 : decode cX2_told 83 = .ok (.ireturn, 1) := by decide +kernel
theorem dX2_told_84 : decode cX2_told 84 = .ok (.aload_n 0, 1) := by decide +kernel
theorem dX2_told_85 : decode cX2_told 85 = .ok (.getfield 27, 3) := by decide +kernel
theorem dX2_told_88 : decode cX2_told 88 = .ok (.sipush 1000, 3) := by decide +kernel
theorem dX2_told_91 : decode cX2_told 91 = .ok (.iadd, 1) := by decide +kernel
theorem dX2_told_92 : decode cX2_told 92 = .ok (.ireturn, 1) := by decide +kernel
theorem dX2_told_93 : decode cX2_told 93 = .ok (.aload_n 0, 1) := by decide +kernel
theorem dX2_told_94 : decode cX2_told 94 = .ok (.invokevirtual 53, 3) := by decide +kernel
theorem dX2_told_97 : decode cX2_told 97 = .ok (.sipush 1000, 3) := by decide +kernel
theorem dX2_told_100 : decode cX2_told 100 = .ok (.iadd, 1) := by decide +kernel
theorem dX2_told_101 : decode cX2_told 101 = .ok (.ireturn, 1) := by decide +kernel
theorem dX2_told_102 : decode cX2_told 102 = .ok (.aload_n 0, 1) := by decide +kernel
theorem dX2_told_103 : decode cX2_told 103 = .ok (.getfield 33, 3) := by decide +kernel
theorem dX2_told_106 : decode cX2_told 106 = .ok (.ireturn, 1) := by decide +kernel
theorem dX2_told_107 : decode cX2_told 107 = .ok (.aload_n 0, 1) := by decide +kernel
theorem dX2_told_108 : decode cX2_told 108 = .ok (.getfield 36, 3) := by decide +kernel
theorem dX2_told_111 : decode cX2_told 111 = .ok (.ireturn, 1) := by decide +kernel
theorem dX2_told_112 : decode cX2_told 112 = .ok (.aload_n 0, 1) := by decide +kernel
theorem dX2_told_113 : decode cX2_told 113 = .ok (.getfield 39, 3) := by decide +kernel
theorem dX2_told_116 : decode cX2_told 116 = .ok (.ireturn, 1) := by decide +kernel
theorem dX2_told_117 : decode cX2_told 117 = .ok (.aload_n 0, 1) := by decide +kernel
theorem dX2_told_118 : decode cX2_told 118 = .ok (.invokevirtual 74, 3) := by decide +kernel
theorem dX2_told_121 : decode cX2_told 121 = .ok (.ireturn, 1) := by decide +kernel
theorem dX2_told_122 : decode cX2_told 122 = .ok (.aload_n 0, 1) := by decide +kernel
theorem dX2_told_123 : decode cX2_told 123 = .ok (.getfield 42, 3) := by decide +kernel
theorem dX2_told_126 : decode cX2_told 126 = .ok (.ireturn, 1) := by decide +kernel
theorem dX2_told_127 : decode cX2_told 127 = .ok (.aload_n 0, 1) := by decide +kernel
theorem dX2_told_128 : decode cX2_told 128 = .ok (.getfield 30, 3) := by decide +kernel
theorem dX2_told_131 : decode cX2_told 131 = .ok (.sipush 1000, 3) := by decide +kernel
theorem dX2_told_134 : decode cX2_told 134 = .ok (.iadd, 1) := by decide +kernel
theorem dX2_told_135 : decode cX2_told 135 = .ok (.ireturn, 1) := by decide +kernel
theorem dX2_told_136 : decode cX2_told 136 = .ok (.bipush (-2), 2) := by decide +kernel
theorem dX2_told_138 : decode cX2_told 138 = .ok (.ireturn, 1) := by decide +kernel
theorem dX3_init_0 : decode cX3_init 0 = .ok (.aload_n 0, 1) := by decide +kernel
theorem dX3_init_1 : decode cX3_init 1 = .ok (.invokespecial 3, 3) := by decide +kernel
theorem dX3_init_4 : decode cX3_init 4 = .ok (.aload_n 0, 1) := by decide +kernel
theorem dX3_init_5 : decode cX3_init 5 = .ok (.bipush 80, 2) := by decide +kernel
theorem dX3_init_7 : decode cX3_init 7 = .ok (.newarray .char, 2) := by decide +kernel
theorem dX3_init_9 : decode cX3_init 9 = .ok (.putfield 9, 3) := by decide +kernel
theorem dX3_init_12 : decode cX3_init 12 = .ok (.aload_n 0, 1) := by decide +kernel
theorem dX3_init_13 : decode cX3_init 13 = .ok (.iconst 3, 1) := by decide +kernel
theorem dX3_init_14 : decode cX3_init 14 = .ok (.newarray .int, 2) := by decide +kernel
theorem dX3_init_16 : decode cX3_init 16 = .ok (.putfield 15, 3) := by decide +kernel
theorem dX3_init_19 : decode cX3_init 19 = .ok (.return_, 1) := by decide +kernel
theorem dX4_init_0 : decode cX4_init 0 = .ok (.aload_n 0, 1) := by decide +kernel
theorem dX4_init_1 : decode cX4_init 1 = .ok (.invokespecial 3, 3) := by decide +kernel
theorem dX4_init_4 : decode cX4_init 4 = .ok (.aload_n 0, 1) := by decide +kernel
theorem dX4_init_5 : decode cX4_init 5 = .ok (.bipush 20, 2) := by decide +kernel
theorem dX4_init_7 : decode cX4_init 7 = .ok (.newarray .int, 2) := by decide +kernel
theorem dX4_init_9 : decode cX4_init 9 = .ok (.putfield 9, 3) := by decide +kernel
theorem dX4_init_12 : decode cX4_init 12 = .ok (.aload_n 0, 1) := by decide +kernel
theorem dX4_init_13 : decode cX4_init 13 = .ok (.bipush 20, 2) := by decide +kernel
theorem dX4_init_15 : decode cX4_init 15 = .ok (.newarray .int, 2) := by decide +kernel
theorem dX4_init_17 : decode cX4_init 17 = .ok (.putfield 15, 3) := by decide +kernel
theorem dX4_init_20 : decode cX4_init 20 = .ok (.aload_n 0, 1) := by decide +kernel
theorem dX4_init_21 : decode cX4_init 21 = .ok (.bipush 20, 2) := by decide +kernel
theorem dX4_init_23 : decode cX4_init 23 = .ok (.newarray .int, 2) := by decide +kernel
theorem dX4_init_25 : decode cX4_init 25 = .ok (.putfield 18, 3) := by decide +kernel
theorem dX4_init_28 : decode cX4_init 28 = .ok (.return_, 1) := by decide +kernel
theorem dX4_copyFrom_0 : decode cX4_copyFrom 0 = .ok (.aload_n 1, 1) := by decide +kernel
theorem dX4_copyFrom_1 : decode cX4_copyFrom 1 = .ok (.getfield 9, 3) := by decide +kernel
theorem dX4_copyFrom_4 : decode cX4_copyFrom 4 = .ok (.iconst 0, 1) := by decide +kernel
theorem dX4_copyFrom_5 : decode cX4_copyFrom 5 = .ok (.aload_n 0, 1) := by decide +kernel
theorem dX4_copyFrom_6 : decode cX4_copyFrom 6 = .ok (.getfield 9, 3) := by decide +kernel
theorem dX4_copyFrom_9 : decode cX4_copyFrom 9 = .ok (.iconst 0, 1) := by decide +kernel
theorem dX4_copyFrom_10 : decode cX4_copyFrom 10 = .ok (.bipush 20, 2) := by decide +kernel
theorem dX4_copyFrom_12 : decode cX4_copyFrom 12 = .ok (.invokestatic 21, 3) := by decide +kernel
theorem dX4_copyFrom_15 : decode cX4_copyFrom 15 = .ok (.aload_n 1, 1) := by decide +kernel
theorem dX4_copyFrom_16 : decode cX4_copyFrom 16 = .ok (.getfield 15, 3) := by decide +kernel
theorem dX4_copyFrom_19 : decode cX4_copyFrom 19 = .ok (.iconst 0, 1) := by decide +kernel
theorem dX4_copyFrom_20 : decode cX4_copyFrom 20 = .ok (.aload_n 0, 1) := by decide +kernel
theorem dX4_copyFrom_21 : decode cX4_copyFrom 21 = .ok (.getfield 15, 3) := by decide +kernel
theorem dX4_copyFrom_24 : decode cX4_copyFrom 24 = .ok (.iconst 0, 1) := by decide +kernel
theorem dX4_copyFrom_25 : decode cX4_copyFrom 25 = .ok (.bipush 20, 2) := by decide +kernel
theorem dX4_copyFrom_27 : decode cX4_copyFrom 27 = .ok (.invokestatic 21, 3) := by decide +kernel
theorem dX4_copyFrom_30 : decode cX4_copyFrom 30 = .ok (.aload_n 1, 1) := by decide +kernel
theorem dX4_copyFrom_31 : decode cX4_copyFrom 31 = .ok (.getfield 18, 3) := by decide +kernel
theorem dX4_copyFrom_34 : decode cX4_copyFrom 34 = .ok (.iconst 0, 1) := by decide +kernel
theorem dX4_copyFrom_35 : decode cX4_copyFrom 35 = .ok (.aload_n 0, 1) := by decide +kernel
theorem dX4_copyFrom_36 : decode cX4_copyFrom 36 = .ok (.getfield 18, 3) := by decide +kernel
theorem dX4_copyFrom_39 : decode cX4_copyFrom 39 = .ok (.iconst 0, 1) := by decide +kernel
theorem dX4_copyFrom_40 : decode cX4_copyFrom 40 = .ok (.bipush 20, 2) := by decide +kernel
theorem dX4_copyFrom_42 : decode cX4_copyFrom 42 = .ok (.invokestatic 21, 3) := by decide +kernel
theorem dX4_copyFrom_45 : decode cX4_copyFrom 45 = .ok (.aload_n 0, 1) := by decide +kernel
theorem dX4_copyFrom_46 : decode cX4_copyFrom 46 = .ok (.aload_n 1, 1) := by decide +kernel
theorem dX4_copyFrom_47 : decode cX4_copyFrom 47 = .ok (.getfield 27, 3) := by decide +kernel
theorem dX4_copyFrom_50 : decode cX4_copyFrom 50 = .ok (.putfield 27, 3) := by decide +kernel
theorem dX4_copyFrom_53 : decode cX4_copyFrom 53 = .ok (.return_, 1) := by decide +kernel
theorem dX4_take_0 : decode cX4_take 0 = .ok (.iload_n 1, 1) := by decide +kernel
theorem dX4_take_1 : decode cX4_take 1 = .ok (.iconst 0, 1) := by decide +kernel
theorem dX4_take_2 : decode cX4_take 2 = .ok (.bipush 99, 2) := by decide +kernel
theorem dX4_take_4 : decode cX4_take 4 = .ok (.invokestatic 31, 3) := by decide +kernel
theorem dX4_take_7 : decode cX4_take 7 = .ok (.ifCond .eq 23, 3) := by decide +kernel
theorem dX4_take_10 : decode cX4_take 10 = .ok (.iload_n 2, 1) := by decide +kernel
theorem dX4_take_11 : decode cX4_take 11 = .ok (.iconst 0, 1) := by decide +kernel
theorem dX4_take_12 : decode cX4_take 12 = .ok (.sipush 255, 3) := by decide +kernel
theorem dX4_take_15 : decode cX4_take 15 = .ok (.invokestatic 31, 3) := by decide +kernel
theorem dX4_take_18 : decode cX4_take 18 = .ok (.ifCond .eq 12, 3) := by decide +kernel
theorem dX4_take_21 : decode cX4_take 21 = .ok (.iload_n 3, 1) := by decide +kernel
theorem dX4_take_22 : decode cX4_take 22 = .ok (.iconst 0, 1) := by decide +kernel
theorem dX4_take_23 : decode cX4_take 23 = .ok (.iconst 3, 1) := by decide +kernel
theorem dX4_take_24 : decode cX4_take 24 = .ok (.invokestatic 31, 3) := by decide +kernel
theorem dX4_take_27 : decode cX4_take 27 = .ok (.ifCond .ne 6, 3) := by decide +kernel
theorem dX4_take_30 : decode cX4_take 30 = .ok (.bipush (-2), 2) := by decide +kernel
theorem dX4_take_32 : decode cX4_take 32 = .ok (.ireturn, 1) := by decide +kernel
theorem dX4_take_33 : decode cX4_take 33 = .ok (.aload_n 0, 1) := by decide +kernel
theorem dX4_take_34 : decode cX4_take 34 = .ok (.getfield 27, 3) := by decide +kernel
theorem dX4_take_37 : decode cX4_take 37 = .ok (.bipush 20, 2) := by decide +kernel
theorem dX4_take_39 : decode cX4_take 39 = .ok (.if_icmp .lt 6, 3) := by decide +kernel
theorem dX4_take_42 : decode cX4_take 42 = .ok (.bipush (-4), 2) := by decide +kernel
theorem dX4_take_44 : decode cX4_take 44 = .ok (.ireturn, 1) := by decide +kernel
theorem dX4_take_45 : decode cX4_take 45 = .ok (.aload_n 0, 1) := by decide +kernel
theorem dX4_take_46 : decode cX4_take 46 = .ok (.getfield 27, 3) := by decide +kernel
theorem dX4_take_49 : decode cX4_take 49 = .ok (.istore 4, 2) := by decide +kernel
theorem dX4_take_51 : decode cX4_take 51 = .ok (.iload 4, 2) := by decide +kernel
theorem dX4_take_53 : decode cX4_take 53 = .ok (.ifCond .le 55, 3) := by decide +kernel
theorem dX4_take_56 : decode cX4_take 56 = .ok (.aload_n 0, 1) := by decide +kernel
theorem dX4_take_57 : decode cX4_take 57 = .ok (.getfield 18, 3) := by decide +kernel
theorem dX4_take_60 : decode cX4_take 60 = .ok (.iload 4, 2) := by decide +kernel
theorem dX4_take_62 : decode cX4_take 62 = .ok (.iconst 1, 1) := by decide +kernel
theorem dX4_take_63 : decode cX4_take 63 = .ok (.isub, 1) := by decide +kernel
theorem dX4_take_64 : decode cX4_take 64 = .ok (.iaload, 1) := by decide +kernel
theorem dX4_take_65 : decode cX4_take 65 = .ok (.iload_n 3, 1) := by decide +kernel
theorem dX4_take_66 : decode cX4_take 66 = .ok (.if_icmp .ge 42, 3) := by decide +kernel
theorem dX4_take_69 : decode cX4_take 69 = .ok (.aload_n 0, 1) := by decide +kernel
theorem dX4_take_70 : decode cX4_take 70 = .ok (.iload 4, 2) := by decide +kernel
theorem dX4_take_72 : decode cX4_take 72 = .ok (.aload_n 0, 1) := by decide +kernel
theorem dX4_take_73 : decode cX4_take 73 = .ok (.getfield 9, 3) := by decide +kernel
theorem dX4_take_76 : decode cX4_take 76 = .ok (.iload 4, 2) := by decide +kernel
theorem dX4_take_78 : decode cX4_take 78 = .ok (.iconst 1, 1) := by decide +kernel
theorem dX4_take_79 : decode cX4_take 79 = .ok (.isub, 1) := by decide +kernel
theorem dX4_take_80 : decode cX4_take 80 = .ok (.iaload, 1) := by decide +kernel
theorem dX4_take_81 : decode cX4_take 81 = .ok (.aload_n 0, 1) := by decide +kernel
theorem dX4_take_82 : decode cX4_take 82 = .ok (.getfield 15, 3) := by decide +kernel
theorem dX4_take_85 : decode cX4_take 85 = .ok (.iload 4, 2) := by decide +kernel
theorem dX4_take_87 : decode cX4_take 87 = .ok (.iconst 1, 1) := by decide +kernel
theorem dX4_take_88 : decode cX4_take 88 = .ok (.isub, 1) := by decide +kernel
theorem dX4_take_89 : decode cX4_take 89 = .ok (.iaload, 1) := by decide +kernel
theorem dX4_take_90 : decode cX4_take 90 = .ok (.aload_n 0, 1) := by decide +kernel
theorem dX4_take_91 : decode cX4_take 91 = .ok (.getfield 18, 3) := by decide +kernel
theorem dX4_take_94 : decode cX4_take 94 = .ok (.iload 4, 2) := by decide +kernel
theorem dX4_take_96 : decode cX4_take 96 = .ok (.iconst 1, 1) := by decide +kernel
theorem dX4_take_97 : decode cX4_take 97 = .ok (.isub, 1) := by decide +kernel
theorem dX4_take_98 : decode cX4_take 98 = .ok (.iaload, 1) := by decide +kernel
theorem dX4_take_99 : decode cX4_take 99 = .ok (.invokevirtual 35, 3) := by decide +kernel
theorem dX4_take_102 : decode cX4_take 102 = .ok (.iinc 4 (-1), 3) := by decide +kernel
theorem dX4_take_105 : decode cX4_take 105 = .ok (.goto (-54), 3) := by decide +kernel
theorem dX4_take_108 : decode cX4_take 108 = .ok (.aload_n 0, 1) := by decide +kernel
theorem dX4_take_109 : decode cX4_take 109 = .ok (.iload 4, 2) := by decide +kernel
theorem dX4_take_111 : decode cX4_take 111 = .ok (.iload_n 1, 1) := by decide +kernel
theorem dX4_take_112 : decode cX4_take 112 = .ok (.iload_n 2, 1) := by decide +kernel
theorem dX4_take_113 : decode cX4_take 113 = .ok (.iload_n 3, 1) := by decide +kernel
theorem dX4_take_114 : decode cX4_take 114 = .ok (.invokevirtual 35, 3) := by decide +kernel
theorem dX4_take_117 : decode cX4_take 117 = .ok (.aload_n 0, 1) := by decide +kernel
theorem dX4_take_118 : decode cX4_take 118 = .ok (.dup, 1) := by decide +kernel
theorem dX4_take_119 : decode cX4_take 119 = .ok (.getfield 27, 3) := by decide +kernel
theorem dX4_take_122 : decode cX4_take 122 = .ok (.iconst 1, 1) := by decide +kernel
theorem dX4_take_123 : decode cX4_take 123 = .ok (.iadd, 1) := by decide +kernel
theorem dX4_take_124 : decode cX4_take 124 = .ok (.putfield 27, 3) := by decide +kernel
theorem dX4_take_127 : decode cX4_take 127 = .ok (.aload_n 0, 1) := by decide +kernel
theorem dX4_take_128 : decode cX4_take 128 = .ok (.getfield 27, 3) := by decide +kernel
theorem dX4_take_131 : decode cX4_take 131 = .ok (.ireturn, 1) := by decide +kernel
theorem dX4_setRow_0 : decode cX4_setRow 0 = .ok (.aload_n 0, 1) := by decide +kernel
theorem dX4_setRow_1 : decode cX4_setRow 1 = .ok (.getfield 9, 3) := by decide +kernel
theorem dX4_setRow_4 : decode cX4_setRow 4 = .ok (.iload_n 1, 1) := by decide +kernel
theorem dX4_setRow_5 : decode cX4_setRow 5 = .ok (.iload_n 2, 1) := by decide +kernel
theorem dX4_setRow_6 : decode cX4_setRow 6 = .ok (.iastore, 1) := by decide +kernel
theorem dX4_setRow_7 : decode cX4_setRow 7 = .ok (.aload_n 0, 1) := by decide +kernel
theorem dX4_setRow_8 : decode cX4_setRow 8 = .ok (.getfield 15, 3) := by decide +kernel
theorem dX4_setRow_11 : decode cX4_setRow 11 = .ok (.iload_n 1, 1) := by decide +kernel
theorem dX4_setRow_12 : decode cX4_setRow 12 = .ok (.iload_n 3, 1) := by decide +kernel
theorem dX4_setRow_13 : decode cX4_setRow 13 = .ok (.iastore, 1) := by decide +kernel
theorem dX4_setRow_14 : decode cX4_setRow 14 = .ok (.aload_n 0, 1) := by decide +kernel
theorem dX4_setRow_15 : decode cX4_setRow 15 = .ok (.getfield 18, 3) := by decide +kernel
theorem dX4_setRow_18 : decode cX4_setRow 18 = .ok (.iload_n 1, 1) := by decide +kernel
theorem dX4_setRow_19 : decode cX4_setRow 19 = .ok (.iload 4, 2) := by decide +kernel
theorem dX4_setRow_21 : decode cX4_setRow 21 = .ok (.iastore, 1) := by decide +kernel
theorem dX4_setRow_22 : decode cX4_setRow 22 = .ok (.return_, 1) := by decide +kernel
theorem dX4_dropFirst_0 : decode cX4_dropFirst 0 = .ok (.iconst 1, 1) := by decide +kernel
theorem dX4_dropFirst_1 : decode cX4_dropFirst 1 = .ok (.istore_n 1, 1) := by decide +kernel
theorem dX4_dropFirst_2 : decode cX4_dropFirst 2 = .ok (.iload_n 1, 1) := by decide +kernel
theorem dX4_dropFirst_3 : decode cX4_dropFirst 3 = .ok (.aload_n 0, 1) := by decide +kernel
theorem dX4_dropFirst_4 : decode cX4_dropFirst 4 = .ok (.getfield 27, 3) := by decide +kernel
theorem dX4_dropFirst_7 : decode cX4_dropFirst 7 = .ok (.if_icmp .ge 34, 3) := by decide +kernel
theorem dX4_dropFirst_10 : decode cX4_dropFirst 10 = .ok (.aload_n 0, 1) := by decide +kernel
theorem dX4_dropFirst_11 : decode cX4_dropFirst 11 = .ok (.iload_n 1, 1) := by decide +kernel
theorem dX4_dropFirst_12 : decode cX4_dropFirst 12 = .ok (.iconst 1, 1) := by decide +kernel
theorem dX4_dropFirst_13 : decode cX4_dropFirst 13 = .ok (.isub, 1) := by decide +kernel
theorem dX4_dropFirst_14 : decode cX4_dropFirst 14 = .ok (.aload_n 0, 1) := by decide +kernel
theorem dX4_dropFirst_15 : decode cX4_dropFirst 15 = .ok (.getfield 9, 3) := by decide +kernel
theorem dX4_dropFirst_18 : decode cX4_dropFirst 18 = .ok (.iload_n 1, 1) := by decide +kernel
theorem dX4_dropFirst_19 : decode cX4_dropFirst 19 = .ok (.iaload, 1) := by decide +kernel
theorem dX4_dropFirst_20 : decode cX4_dropFirst 20 = .ok (.aload_n 0, 1) := by decide +kernel
theorem dX4_dropFirst_21 : decode cX4_dropFirst 21 = .ok (.getfield 15, 3) := by decide +kernel
theorem dX4_dropFirst_24 : decode cX4_dropFirst 24 = .ok (.iload_n 1, 1) := by decide +kernel
theorem dX4_dropFirst_25 : decode cX4_dropFirst 25 = .ok (.iaload, 1) := by decide +kernel
theorem dX4_dropFirst_26 : decode cX4_dropFirst 26 = .ok (.aload_n 0, 1) := by decide +kernel
theorem dX4_dropFirst_27 : decode cX4_dropFirst 27 = .ok (.getfield 18, 3) := by decide +kernel
theorem dX4_dropFirst_30 : decode cX4_dropFirst 30 = .ok (.iload_n 1, 1) := by decide +kernel
theorem dX4_dropFirst_31 : decode cX4_dropFirst 31 = .ok (.iaload, 1) := by decide +kernel
theorem dX4_dropFirst_32 : decode cX4_dropFirst 32 = .ok (.invokevirtual 35, 3) := by decide +kernel
theorem dX4_dropFirst_35 : decode cX4_dropFirst 35 = .ok (.iinc 1 1, 3) := by decide +kernel
theorem dX4_dropFirst_38 : decode cX4_dropFirst 38 = .ok (.goto (-36), 3) := by decide +kernel
theorem dX4_dropFirst_41 : decode cX4_dropFirst 41 = .ok (.aload_n 0, 1) := by decide +kernel
theorem dX4_dropFirst_42 : decode cX4_dropFirst 42 = .ok (.iconst 0, 1) := by decide +kernel
theorem dX4_dropFirst_43 : decode cX4_dropFirst 43 = .ok (.aload_n 0, 1) := by decide +kernel
theorem dX4_dropFirst_44 : decode cX4_dropFirst 44 = .ok (.getfield 27, 3) := by decide +kernel
theorem dX4_dropFirst_47 : decode cX4_dropFirst 47 = .ok (.iconst 1, 1) := by decide +kernel
theorem dX4_dropFirst_48 : decode cX4_dropFirst 48 = .ok (.isub, 1) := by decide +kernel
theorem dX4_dropFirst_49 : decode cX4_dropFirst 49 = .ok (.invokestatic 39, 3) := by decide +kernel
theorem dX4_dropFirst_52 : decode cX4_dropFirst 52 = .ok (.putfield 27, 3) := by decide +kernel
theorem dX4_dropFirst_55 : decode cX4_dropFirst 55 = .ok (.return_, 1) := by decide +kernel
theorem dX4_told_0 : decode cX4_told 0 = .ok (.iload_n 1, 1) := by decide +kernel
theorem dX4_told_1 : decode cX4_told 1 = .ok (.iconst 0, 1) := by decide +kernel
theorem dX4_told_2 : decode cX4_told 2 = .ok (.aload_n 0, 1) := by decide +kernel
theorem dX4_told_3 : decode cX4_told 3 = .ok (.getfield 27, 3) := by decide +kernel
theorem dX4_told_6 : decode cX4_told 6 = .ok (.iconst 1, 1) := by decide +kernel
theorem dX4_told_7 : decode cX4_told 7 = .ok (.isub, 1) := by decide +kernel
theorem dX4_told_8 : decode cX4_told 8 = .ok (.invokestatic 31, 3) := by decide +kernel
theorem dX4_told_11 : decode cX4_told 11 = .ok (.ifCond .ne 5, 3) := by decide +kernel
theorem dX4_told_14 : decode cX4_told 14 = .ok (.iconst (-1), 1) := by decide +kernel
theorem dX4_told_15 : decode cX4_told 15 = .ok (.ireturn, 1) := by decide +kernel
theorem dX4_told_16 : decode cX4_told 16 = .ok (.iload_n 2, 1) := by decide +kernel
theorem dX4_told_17 : decode cX4_told 17 = .ok (.tableswitch 48 0 2 #[27, 34, 41], 27) := by decide +kernel
theorem dX4_told_44 : decode cX4_told 44 = .ok (.aload_n 0, 1) := by decide +kernel
theorem dX4_told_45 : decode cX4_told 45 = .ok (.getfield 9, 3) := by decide +kernel
theorem dX4_told_48 : decode cX4_told 48 = .ok (.iload_n 1, 1) := by decide +kernel
theorem dX4_told_49 : decode cX4_told 49 = .ok (.iaload, 1) := by decide +kernel
theorem dX4_told_50 : decode cX4_told 50 = .ok (.ireturn, 1) := by decide +kernel
theorem dX4_told_51 : decode cX4_told 51 = .ok (.aload_n 0, 1) := by decide +kernel
theorem dX4_told_52 : decode cX4_told 52 = .ok (.getfield 15, 3) := by decide +kernel
theorem dX4_told_55 : decode cX4_told 55 = .ok (.iload_n 1, 1) := by decide +kernel
theorem dX4_told_56 : decode cX4_told 56 = .ok (.iaload, 1) := by decide +kernel
theorem dX4_told_57 : decode cX4_told 57 = .ok (.ireturn, 1) := by decide +kernel
theorem dX4_told_58 : decode cX4_told 58 = .ok (.aload_n 0, 1) := by decide +kernel
theorem dX4_told_59 : decode cX4_told 59 = .ok (.getfield 18, 3) := by decide +kernel
theorem dX4_told_62 : decode cX4_told 62 = .ok (.iload_n 1, 1) := by decide +kernel
theorem dX4_told_63 : decode cX4_told 63 = .ok (.iaload, 1) := by decide +kernel
theorem dX4_told_64 : decode cX4_told 64 = .ok (.ireturn, 1) := by decide +kernel
theorem dX4_told_65 : decode cX4_told 65 = .ok (.bipush (-2), 2) := by decide +kernel
theorem dX4_told_67 : decode cX4_told 67 = .ok (.ireturn, 1) := by decide +kernel
theorem dX5_init_0 : decode cX5_init 0 = .ok (.aload_n 0, 1) := by decide +kernel
theorem dX5_init_1 : decode cX5_init 1 = .ok (.invokespecial 3, 3) := by decide +kernel
theorem dX5_init_4 : decode cX5_init 4 = .ok (.aload_n 0, 1) := by decide +kernel
theorem dX5_init_5 : decode cX5_init 5 = .ok (.new 9, 3) := by decide +kernel
theorem dX5_init_8 : decode cX5_init 8 = .ok (.dup, 1) := by decide +kernel
theorem dX5_init_9 : decode cX5_init 9 = .ok (.invokespecial 11, 3) := by decide +kernel
theorem dX5_init_12 : decode cX5_init 12 = .ok (.putfield 12, 3) := by decide +kernel
theorem dX5_init_15 : decode cX5_init 15 = .ok (.aload_n 0, 1) := by decide +kernel
theorem dX5_init_16 : decode cX5_init 16 = .ok (.new 9, 3) := by decide +kernel
theorem dX5_init_19 : decode cX5_init 19 = .ok (.dup, 1) := by decide +kernel
theorem dX5_init_20 : decode cX5_init 20 = .ok (.invokespecial 11, 3) := by decide +kernel
theorem dX5_init_23 : decode cX5_init 23 = .ok (.putfield 16, 3) := by decide +kernel
theorem dX5_init_26 : decode cX5_init 26 = .ok (.aload_n 0, 1) := by decide +kernel
theorem dX5_init_27 : decode cX5_init 27 = .ok (.new 19, 3) := by decide +kernel
theorem dX5_init_30 : decode cX5_init 30 = .ok (.dup, 1) := by decide +kernel
theorem dX5_init_31 : decode cX5_init 31 = .ok (.invokespecial 21, 3) := by decide +kernel
theorem dX5_init_34 : decode cX5_init 34 = .ok (.putfield 22, 3) := by decide +kernel
theorem dX5_init_37 : decode cX5_init 37 = .ok (.aload_n 0, 1) := by decide +kernel
theorem dX5_init_38 : decode cX5_init 38 = .ok (.iconst 2, 1) := by decide +kernel
theorem dX5_init_39 : decode cX5_init 39 = .ok (.anewarray 9, 3) := by decide +kernel
theorem dX5_init_42 : decode cX5_init 42 = .ok (.putfield 26, 3) := by decide +kernel
theorem dX5_init_45 : decode cX5_init 45 = .ok (.aload_n 0, 1) := by decide +kernel
theorem dX5_init_46 : decode cX5_init 46 = .ok (.iconst 2, 1) := by decide +kernel
theorem dX5_init_47 : decode cX5_init 47 = .ok (.newarray .boolean, 2) := by decide +kernel
theorem dX5_init_49 : decode cX5_init 49 = .ok (.putfield 30, 3) := by decide +kernel
theorem dX5_init_52 : decode cX5_init 52 = .ok (.aload_n 0, 1) := by decide +kernel
theorem dX5_init_53 : decode cX5_init 53 = .ok (.new 34, 3) := by decide +kernel
theorem dX5_init_56 : decode cX5_init 56 = .ok (.dup, 1) := by decide +kernel
theorem dX5_init_57 : decode cX5_init 57 = .ok (.invokespecial 36, 3) := by decide +kernel
theorem dX5_init_60 : decode cX5_init 60 = .ok (.putfield 37, 3) := by decide +kernel
theorem dX5_init_63 : decode cX5_init 63 = .ok (.iconst 0, 1) := by decide +kernel
theorem dX5_init_64 : decode cX5_init 64 = .ok (.istore_n 1, 1) := by decide +kernel
theorem dX5_init_65 : decode cX5_init 65 = .ok (.iload_n 1, 1) := by decide +kernel
theorem dX5_init_66 : decode cX5_init 66 = .ok (.iconst 2, 1) := by decide +kernel
theorem dX5_init_67 : decode cX5_init 67 = .ok (.if_icmp .ge 22, 3) := by decide +kernel
theorem dX5_init_70 : decode cX5_init 70 = .ok (.aload_n 0, 1) := by decide +kernel
theorem dX5_init_71 : decode cX5_init 71 = .ok (.getfield 26, 3) := by decide +kernel
theorem dX5_init_74 : decode cX5_init 74 = .ok (.iload_n 1, 1) := by decide +kernel
theorem dX5_init_75 : decode cX5_init 75 = .ok (.new 9, 3) := by decide +kernel
theorem dX5_init_78 : decode cX5_init 78 = .ok (.dup, 1) := by decide +kernel
theorem dX5_init_79 : decode cX5_init 79 = .ok (.invokespecial 11, 3) := by decide +kernel
theorem dX5_init_82 : decode cX5_init 82 = .ok (.aastore, 1) := by decide +kernel
theorem dX5_init_83 : decode cX5_init 83 = .ok (.iinc 1 1, 3) := by decide +kernel
theorem dX5_init_86 : decode cX5_init 86 = .ok (.goto (-21), 3) := by decide +kernel
theorem dX5_init_89 : decode cX5_init 89 = .ok (.return_, 1) := by decide +kernel
theorem dX5_loco_0 : decode cX5_loco 0 = .ok (.aload_n 0, 1) := by decide +kernel
theorem dX5_loco_1 : decode cX5_loco 1 = .ok (.getfield 22, 3) := by decide +kernel
theorem dX5_loco_4 : decode cX5_loco 4 = .ok (.aload_n 0, 1) := by decide +kernel
theorem dX5_loco_5 : decode cX5_loco 5 = .ok (.getfield 12, 3) := by decide +kernel
theorem dX5_loco_8 : decode cX5_loco 8 = .ok (.invokevirtual 41, 3) := by decide +kernel
theorem dX5_loco_11 : decode cX5_loco 11 = .ok (.aload_n 0, 1) := by decide +kernel
theorem dX5_loco_12 : decode cX5_loco 12 = .ok (.getfield 22, 3) := by decide +kernel
theorem dX5_loco_15 : decode cX5_loco 15 = .ok (.aload_n 0, 1) := by decide +kernel
theorem dX5_loco_16 : decode cX5_loco 16 = .ok (.getfield 12, 3) := by decide +kernel
theorem dX5_loco_19 : decode cX5_loco 19 = .ok (.iload_n 1, 1) := by decide +kernel
theorem dX5_loco_20 : decode cX5_loco 20 = .ok (.iload_n 2, 1) := by decide +kernel
theorem dX5_loco_21 : decode cX5_loco 21 = .ok (.iload_n 3, 1) := by decide +kernel
theorem dX5_loco_22 : decode cX5_loco 22 = .ok (.iload 4, 2) := by decide +kernel
theorem dX5_loco_24 : decode cX5_loco 24 = .ok (.invokevirtual 45, 3) := by decide +kernel
theorem dX5_loco_27 : decode cX5_loco 27 = .ok (.invokevirtual 49, 3) := by decide +kernel
theorem dX5_loco_30 : decode cX5_loco 30 = .ok (.ireturn, 1) := by decide +kernel
theorem dX5_lift_0 : decode cX5_lift 0 = .ok (.aload_n 0, 1) := by decide +kernel
theorem dX5_lift_1 : decode cX5_lift 1 = .ok (.getfield 22, 3) := by decide +kernel
theorem dX5_lift_4 : decode cX5_lift 4 = .ok (.aload_n 0, 1) := by decide +kernel
theorem dX5_lift_5 : decode cX5_lift 5 = .ok (.getfield 12, 3) := by decide +kernel
theorem dX5_lift_8 : decode cX5_lift 8 = .ok (.invokevirtual 41, 3) := by decide +kernel
theorem dX5_lift_11 : decode cX5_lift 11 = .ok (.aload_n 0, 1) := by decide +kernel
theorem dX5_lift_12 : decode cX5_lift 12 = .ok (.getfield 22, 3) := by decide +kernel
theorem dX5_lift_15 : decode cX5_lift 15 = .ok (.aload_n 0, 1) := by decide +kernel
theorem dX5_lift_16 : decode cX5_lift 16 = .ok (.getfield 12, 3) := by decide +kernel
theorem dX5_lift_19 : decode cX5_lift 19 = .ok (.iload_n 1, 1) := by decide +kernel
theorem dX5_lift_20 : decode cX5_lift 20 = .ok (.invokevirtual 53, 3) := by decide +kernel
theorem dX5_lift_23 : decode cX5_lift 23 = .ok (.invokevirtual 49, 3) := by decide +kernel
theorem dX5_lift_26 : decode cX5_lift 26 = .ok (.ireturn, 1) := by decide +kernel
theorem dX5_noise_0 : decode cX5_noise 0 = .ok (.aload_n 0, 1) := by decide +kernel
theorem dX5_noise_1 : decode cX5_noise 1 = .ok (.getfield 22, 3) := by decide +kernel
theorem dX5_noise_4 : decode cX5_noise 4 = .ok (.aload_n 0, 1) := by decide +kernel
theorem dX5_noise_5 : decode cX5_noise 5 = .ok (.getfield 12, 3) := by decide +kernel
theorem dX5_noise_8 : decode cX5_noise 8 = .ok (.invokevirtual 41, 3) := by decide +kernel
theorem dX5_noise_11 : decode cX5_noise 11 = .ok (.aload_n 0, 1) := by decide +kernel
theorem dX5_noise_12 : decode cX5_noise 12 = .ok (.getfield 22, 3) := by decide +kernel
theorem dX5_noise_15 : decode cX5_noise 15 = .ok (.aload_n 0, 1) := by decide +kernel
theorem dX5_noise_16 : decode cX5_noise 16 = .ok (.getfield 12, 3) := by decide +kernel
theorem dX5_noise_19 : decode cX5_noise 19 = .ok (.iload_n 1, 1) := by decide +kernel
theorem dX5_noise_20 : decode cX5_noise 20 = .ok (.invokevirtual 56, 3) := by decide +kernel
theorem dX5_noise_23 : decode cX5_noise 23 = .ok (.invokevirtual 49, 3) := by decide +kernel
theorem dX5_noise_26 : decode cX5_noise 26 = .ok (.ireturn, 1) := by decide +kernel
theorem dX5_order_0 : decode cX5_order 0 = .ok (.aload_n 0, 1) := by decide +kernel
theorem dX5_order_1 : decode cX5_order 1 = .ok (.getfield 22, 3) := by decide +kernel
theorem dX5_order_4 : decode cX5_order 4 = .ok (.aload_n 0, 1) := by decide +kernel
theorem dX5_order_5 : decode cX5_order 5 = .ok (.getfield 12, 3) := by decide +kernel
theorem dX5_order_8 : decode cX5_order 8 = .ok (.invokevirtual 41, 3) := by decide +kernel
theorem dX5_order_11 : decode cX5_order 11 = .ok (.aload_n 0, 1) := by decide +kernel
theorem dX5_order_12 : decode cX5_order 12 = .ok (.getfield 22, 3) := by decide +kernel
theorem dX5_order_15 : decode cX5_order 15 = .ok (.aload_n 0, 1) := by decide +kernel
theorem dX5_order_16 : decode cX5_order 16 = .ok (.getfield 12, 3) := by decide +kernel
theorem dX5_order_19 : decode cX5_order 19 = .ok (.getfield 59, 3) := by decide +kernel
theorem dX5_order_22 : decode cX5_order 22 = .ok (.iload_n 1, 1) := by decide +kernel
theorem dX5_order_23 : decode cX5_order 23 = .ok (.iload_n 2, 1) := by decide +kernel
theorem dX5_order_24 : decode cX5_order 24 = .ok (.iload_n 3, 1) := by decide +kernel
theorem dX5_order_25 : decode cX5_order 25 = .ok (.invokevirtual 63, 3) := by decide +kernel
theorem dX5_order_28 : decode cX5_order 28 = .ok (.invokevirtual 49, 3) := by decide +kernel
theorem dX5_order_31 : decode cX5_order 31 = .ok (.ireturn, 1) := by decide +kernel
theorem dX5_frame_0 : decode cX5_frame 0 = .ok (.aload_n 0, 1) := by decide +kernel
theorem dX5_frame_1 : decode cX5_frame 1 = .ok (.getfield 22, 3) := by decide +kernel
theorem dX5_frame_4 : decode cX5_frame 4 = .ok (.aload_n 0, 1) := by decide +kernel
theorem dX5_frame_5 : decode cX5_frame 5 = .ok (.getfield 12, 3) := by decide +kernel
theorem dX5_frame_8 : decode cX5_frame 8 = .ok (.invokevirtual 41, 3) := by decide +kernel
theorem dX5_frame_11 : decode cX5_frame 11 = .ok (.aload_n 0, 1) := by decide +kernel
theorem dX5_frame_12 : decode cX5_frame 12 = .ok (.getfield 22, 3) := by decide +kernel
theorem dX5_frame_15 : decode cX5_frame 15 = .ok (.aload_n 0, 1) := by decide +kernel
theorem dX5_frame_16 : decode cX5_frame 16 = .ok (.getfield 12, 3) := by decide +kernel
theorem dX5_frame_19 : decode cX5_frame 19 = .ok (.iload_n 1, 1) := by decide +kernel
theorem dX5_frame_20 : decode cX5_frame 20 = .ok (.iload_n 2, 1) := by decide +kernel
theorem dX5_frame_21 : decode cX5_frame 21 = .ok (.iload_n 3, 1) := by decide +kernel
theorem dX5_frame_22 : decode cX5_frame 22 = .ok (.invokevirtual 69, 3) := by decide +kernel
theorem dX5_frame_25 : decode cX5_frame 25 = .ok (.invokevirtual 49, 3) := by decide +kernel
theorem dX5_frame_28 : decode cX5_frame 28 = .ok (.ireturn, 1) := by decide +kernel
theorem dX5_shorts_0 : decode cX5_shorts 0 = .ok (.aload_n 0, 1) := by decide +kernel
theorem dX5_shorts_1 : decode cX5_shorts 1 = .ok (.getfield 22, 3) := by decide +kernel
theorem dX5_shorts_4 : decode cX5_shorts 4 = .ok (.aload_n 0, 1) := by decide +kernel
theorem dX5_shorts_5 : decode cX5_shorts 5 = .ok (.getfield 12, 3) := by decide +kernel
theorem dX5_shorts_8 : decode cX5_shorts 8 = .ok (.invokevirtual 41, 3) := by decide +kernel
theorem dX5_shorts_11 : decode cX5_shorts 11 = .ok (.aload_n 0, 1) := by decide +kernel
theorem dX5_shorts_12 : decode cX5_shorts 12 = .ok (.getfield 22, 3) := by decide +kernel
theorem dX5_shorts_15 : decode cX5_shorts 15 = .ok (.aload_n 0, 1) := by decide +kernel
theorem dX5_shorts_16 : decode cX5_shorts 16 = .ok (.getfield 12, 3) := by decide +kernel
theorem dX5_shorts_19 : decode cX5_shorts 19 = .ok (.iload_n 1, 1) := by decide +kernel
theorem dX5_shorts_20 : decode cX5_shorts 20 = .ok (.iload_n 2, 1) := by decide +kernel
theorem dX5_shorts_21 : decode cX5_shorts 21 = .ok (.invokevirtual 72, 3) := by decide +kernel
theorem dX5_shorts_24 : decode cX5_shorts 24 = .ok (.invokevirtual 49, 3) := by decide +kernel
theorem dX5_shorts_27 : decode cX5_shorts 27 = .ok (.ireturn, 1) := by decide +kernel
theorem dX5_pass_0 : decode cX5_pass 0 = .ok (.aload_n 0, 1) := by decide +kernel
theorem dX5_pass_1 : decode cX5_pass 1 = .ok (.getfield 22, 3) := by decide +kernel
theorem dX5_pass_4 : decode cX5_pass 4 = .ok (.aload_n 0, 1) := by decide +kernel
theorem dX5_pass_5 : decode cX5_pass 5 = .ok (.getfield 12, 3) := by decide +kernel
theorem dX5_pass_8 : decode cX5_pass 8 = .ok (.invokevirtual 41, 3) := by decide +kernel
theorem dX5_pass_11 : decode cX5_pass 11 = .ok (.aload_n 0, 1) := by decide +kernel
theorem dX5_pass_12 : decode cX5_pass 12 = .ok (.getfield 22, 3) := by decide +kernel
theorem dX5_pass_15 : decode cX5_pass 15 = .ok (.aload_n 0, 1) := by decide +kernel
theorem dX5_pass_16 : decode cX5_pass 16 = .ok (.getfield 12, 3) := by decide +kernel
theorem dX5_pass_19 : decode cX5_pass 19 = .ok (.iload_n 1, 1) := by decide +kernel
theorem dX5_pass_20 : decode cX5_pass 20 = .ok (.invokevirtual 76, 3) := by decide +kernel
theorem dX5_pass_23 : decode cX5_pass 23 = .ok (.invokevirtual 49, 3) := by decide +kernel
theorem dX5_pass_26 : decode cX5_pass 26 = .ok (.ireturn, 1) := by decide +kernel
theorem dX5_of_0 : decode cX5_of 0 = .ok (.aload_n 0, 1) := by decide +kernel
theorem dX5_of_1 : decode cX5_of 1 = .ok (.getfield 12, 3) := by decide +kernel
theorem dX5_of_4 : decode cX5_of 4 = .ok (.iload_n 1, 1) := by decide +kernel
theorem dX5_of_5 : decode cX5_of 5 = .ok (.invokevirtual 79, 3) := by decide +kernel
theorem dX5_of_8 : decode cX5_of 8 = .ok (.astore_n 3, 1) := by decide +kernel
theorem dX5_of_9 : decode cX5_of 9 = .ok (.aload_n 3, 1) := by decide +kernel
theorem dX5_of_10 : decode cX5_of 10 = .ok (.ifnonnull 7, 3) := by decide +kernel
theorem dX5_of_13 : decode cX5_of 13 = .ok (.iconst (-1), 1) := by decide +kernel
theorem dX5_of_14 : decode cX5_of 14 = .ok (.goto 8, 3) := by decide +kernel
theorem dX5_of_17 : decode cX5_of 17 = .ok (.aload_n 3, 1) := by decide +kernel
theorem dX5_of_18 : decode cX5_of 18 = .ok (.iload_n 2, 1) := by decide +kernel
theorem dX5_of_19 : decode cX5_of 19 = .ok (.invokevirtual 83, 3) := by decide +kernel
theorem dX5_of_22 : decode cX5_of 22 = .ok (.ireturn, 1) := by decide +kernel
theorem dX5_address_0 : decode cX5_address 0 = .ok (.aload_n 0, 1) := by decide +kernel
theorem dX5_address_1 : decode cX5_address 1 = .ok (.getfield 12, 3) := by decide +kernel
theorem dX5_address_4 : decode cX5_address 4 = .ok (.iload_n 1, 1) := by decide +kernel
theorem dX5_address_5 : decode cX5_address 5 = .ok (.invokevirtual 88, 3) := by decide +kernel
theorem dX5_address_8 : decode cX5_address 8 = .ok (.astore_n 2, 1) := by decide +kernel
theorem dX5_address_9 : decode cX5_address 9 = .ok (.aload_n 2, 1) := by decide +kernel
theorem dX5_address_10 : decode cX5_address 10 = .ok (.ifnonnull 7, 3) := by decide +kernel
theorem dX5_address_13 : decode cX5_address 13 = .ok (.iconst (-1), 1) := by decide +kernel
theorem dX5_address_14 : decode cX5_address 14 = .ok (.goto 7, 3) := by decide +kernel
theorem dX5_address_17 : decode cX5_address 17 = .ok (.aload_n 2, 1) := by decide +kernel
theorem dX5_address_18 : decode cX5_address 18 = .ok (.getfield 91, 3) := by decide +kernel
theorem dX5_address_21 : decode cX5_address 21 = .ok (.ireturn, 1) := by decide +kernel
theorem dX5_waiting_0 : decode cX5_waiting 0 = .ok (.aload_n 0, 1) := by decide +kernel
theorem dX5_waiting_1 : decode cX5_waiting 1 = .ok (.getfield 12, 3) := by decide +kernel
theorem dX5_waiting_4 : decode cX5_waiting 4 = .ok (.getfield 59, 3) := by decide +kernel
theorem dX5_waiting_7 : decode cX5_waiting 7 = .ok (.iload_n 1, 1) := by decide +kernel
theorem dX5_waiting_8 : decode cX5_waiting 8 = .ok (.iload_n 2, 1) := by decide +kernel
theorem dX5_waiting_9 : decode cX5_waiting 9 = .ok (.invokevirtual 95, 3) := by decide +kernel
theorem dX5_waiting_12 : decode cX5_waiting 12 = .ok (.ireturn, 1) := by decide +kernel
theorem dX5_block_0 : decode cX5_block 0 = .ok (.iload_n 1, 1) := by decide +kernel
theorem dX5_block_1 : decode cX5_block 1 = .ok (.invokestatic 97, 3) := by decide +kernel
theorem dX5_block_4 : decode cX5_block 4 = .ok (.ifCond .ne 5, 3) := by decide +kernel
theorem dX5_block_7 : decode cX5_block 7 = .ok (.iconst (-1), 1) := by decide +kernel
theorem dX5_block_8 : decode cX5_block 8 = .ok (.ireturn, 1) := by decide +kernel
theorem dX5_block_9 : decode cX5_block 9 = .ok (.iload_n 2, 1) := by decide +kernel
theorem dX5_block_10 : decode cX5_block 10 = .ok (.lookupswitch 45 #[(0, 26), (1, 36)], 26) := by decide +kernel
theorem dX5_block_36 : decode cX5_block 36 = .ok (.aload_n 0, 1) := by decide +kernel
theorem dX5_block_37 : decode cX5_block 37 = .ok (.getfield 12, 3) := by decide +kernel
theorem dX5_block_40 : decode cX5_block 40 = .ok (.getfield 101, 3) := by decide +kernel
theorem dX5_block_43 : decode cX5_block 43 = .ok (.iload_n 1, 1) := by decide +kernel
theorem dX5_block_44 : decode cX5_block 44 = .ok (.iaload, 1) := by decide +kernel
theorem dX5_block_45 : decode cX5_block 45 = .ok (.ireturn, 1) := by decide +kernel
theorem dX5_block_46 : decode cX5_block 46 = .ok (.aload_n 0, 1) := by decide +kernel
theorem dX5_block_47 : decode cX5_block 47 = .ok (.getfield 12, 3) := by decide +kernel
theorem dX5_block_50 : decode cX5_block 50 = .ok (.iload_n 1, 1) := by decide +kernel
theorem dX5_block_51 : decode cX5_block 51 = .ok (.invokevirtual 105, 3) := by decide +kernel
theorem dX5_block_54 : decode cX5_block 54 = .ok (.ireturn, 1) := by decide +kernel
theorem dX5_block_55 : decode cX5_block 55 = .ok (.bipush (-2), 2) := by decide +kernel
theorem dX5_block_57 : decode cX5_block 57 = .ok (.ireturn, 1) := by decide +kernel
theorem dX5_count_0 : decode cX5_count 0 = .ok (.iload_n 1, 1) := by decide +kernel
theorem dX5_count_1 : decode cX5_count 1 = .ok (.tableswitch 166 0 11 #[63, 71, 79, 90, 98, 106, 114, 122, 130, 138, 150, 158], 63) := by decide +kernel
theorem dX5_count_64 : decode cX5_count 64 = .ok (.aload_n 0, 1) := by decide +kernel
theorem dX5_count_65 : decode cX5_count 65 = .ok (.getfield 12, 3) := by decide +kernel
theorem dX5_count_68 : decode cX5_count 68 = .ok (.getfield 108, 3) := by decide +kernel
theorem dX5_count_71 : decode cX5_count 71 = .ok (.ireturn, 1) := by decide +kernel
theorem dX5_count_72 : decode cX5_count 72 = .ok (.aload_n 0, 1) := by decide +kernel
theorem dX5_count_73 : decode cX5_count 73 = .ok (.getfield 12, 3) := by decide +kernel
theorem dX5_count_76 : decode cX5_count 76 = .ok (.getfield 111, 3) := by decide +kernel
theorem dX5_count_79 : decode cX5_count 79 = .ok (.ireturn, 1) := by decide +kernel
theorem dX5_count_80 : decode cX5_count 80 = .ok (.aload_n 0, 1) := by decide +kernel
theorem dX5_count_81 : decode cX5_count 81 = .ok (.getfield 12, 3) := by decide +kernel
theorem dX5_count_84 : decode cX5_count 84 = .ok (.getfield 59, 3) := by decide +kernel
theorem dX5_count_87 : decode cX5_count 87 = .ok (.getfield 114, 3) := by decide +kernel
theorem dX5_count_90 : decode cX5_count 90 = .ok (.ireturn, 1) := by decide +kernel
theorem dX5_count_91 : decode cX5_count 91 = .ok (.aload_n 0, 1) := by decide +kernel
theorem dX5_count_92 : decode cX5_count 92 = .ok (.getfield 12, 3) := by decide +kernel
theorem dX5_count_95 : decode cX5_count 95 = .ok (.getfield 117, 3) := by decide +kernel
theorem dX5_count_98 : decode cX5_count 98 = .ok (.ireturn, 1) := by decide +kernel
theorem dX5_count_99 : decode cX5_count 99 = .ok (.aload_n 0, 1) := by decide +kernel
theorem dX5_count_100 : decode cX5_count 100 = .ok (.getfield 12, 3) := by decide +kernel
theorem dX5_count_103 : decode cX5_count 103 = .ok (.getfield 120, 3) := by decide +kernel
theorem dX5_count_106 : decode cX5_count 106 = .ok (.ireturn, 1) := by decide +kernel
theorem dX5_count_107 : decode cX5_count 107 = .ok (.aload_n 0, 1) := by decide +kernel
theorem dX5_count_108 : decode cX5_count 108 = .ok (.getfield 12, 3) := by decide +kernel
theorem dX5_count_111 : decode cX5_count 111 = .ok (.getfield 123, 3) := by decide +kernel
theorem dX5_count_114 : decode cX5_count 114 = .ok (.ireturn, 1) := by decide +kernel
theorem dX5_count_115 : decode cX5_count 115 = .ok (.aload_n 0, 1) := by decide +kernel
theorem dX5_count_116 : decode cX5_count 116 = .ok (.getfield 12, 3) := by decide +kernel
theorem dX5_count_119 : decode cX5_count 119 = .ok (.getfield 126, 3) := by decide +kernel
theorem dX5_count_122 : decode cX5_count 122 = .ok (.ireturn, 1) := by decide +kernel
theorem dX5_count_123 : decode cX5_count 123 = .ok (.aload_n 0, 1) := by decide +kernel
theorem dX5_count_124 : decode cX5_count 124 = .ok (.getfield 12, 3) := by decide +kernel
theorem dX5_count_127 : decode cX5_count 127 = .ok (.invokevirtual 129, 3) := by decide +kernel
theorem dX5_count_130 : decode cX5_count 130 = .ok (.ireturn, 1) := by decide +kernel
theorem dX5_count_131 : decode cX5_count 131 = .ok (.aload_n 0, 1) := by decide +kernel
theorem dX5_count_132 : decode cX5_count 132 = .ok (.getfield 12, 3) := by decide +kernel
theorem dX5_count_135 : decode cX5_count 135 = .ok (.invokevirtual 133, 3) := by decide +kernel
theorem dX5_count_138 : decode cX5_count 138 = .ok (.ireturn, 1) := by decide +kernel
theorem dX5_count_139 : decode cX5_count 139 = .ok (.aload_n 0, 1) := by decide +kernel
theorem dX5_count_140 : decode cX5_count 140 = .ok (.getfield 12, 3) := by decide +kernel
theorem dX5_count_143 : decode cX5_count 143 = .ok (.invokevirtual 136, 3) := by decide +kernel
theorem dX5_count_146 : decode cX5_count 146 = .ok (.sipush 10000, 3) := by decide +kernel
theorem dX5_count_149 : decode cX5_count 149 = .ok (.iadd, 1) := by decide +kernel
theorem dX5_count_150 : decode cX5_count 150 = .ok (.ireturn, 1) := by decide +kernel
theorem dX5_count_151 : decode cX5_count 151 = .ok (.aload_n 0, 1) := by decide +kernel
theorem dX5_count_152 : decode cX5_count 152 = .ok (.getfield 37, 3) := by decide +kernel
theorem dX5_count_155 : decode cX5_count 155 = .ok (.getfield 139, 3) := by decide +kernel
theorem dX5_count_158 : decode cX5_count 158 = .ok (.ireturn, 1) := by decide +kernel
theorem dX5_count_159 : decode cX5_count 159 = .ok (.aload_n 0, 1) := by decide +kernel
theorem dX5_count_160 : decode cX5_count 160 = .ok (.getfield 22, 3) := by decide +kernel
theorem dX5_count_163 : decode cX5_count 163 = .ok (.getfield 142, 3) := by decide +kernel
theorem dX5_count_166 : decode cX5_count 166 = .ok (.ireturn, 1) := by decide +kernel
theorem dX5_count_167 : decode cX5_count 167 = .ok (.bipush (-2), 2) := by decide +kernel
theorem dX5_count_169 : decode cX5_count 169 = .ok (.ireturn, 1) := by decide +kernel
theorem dX5_reaches_0 : decode cX5_reaches 0 = .ok (.aload_n 0, 1) := by decide +kernel
theorem dX5_reaches_1 : decode cX5_reaches 1 = .ok (.getfield 16, 3) := by decide +kernel
theorem dX5_reaches_4 : decode cX5_reaches 4 = .ok (.aload_n 0, 1) := by decide +kernel
theorem dX5_reaches_5 : decode cX5_reaches 5 = .ok (.getfield 12, 3) := by decide +kernel
theorem dX5_reaches_8 : decode cX5_reaches 8 = .ok (.invokevirtual 143, 3) := by decide +kernel
theorem dX5_reaches_11 : decode cX5_reaches 11 = .ok (.aload_n 0, 1) := by decide +kernel
theorem dX5_reaches_12 : decode cX5_reaches 12 = .ok (.getfield 16, 3) := by decide +kernel
theorem dX5_reaches_15 : decode cX5_reaches 15 = .ok (.iload_n 1, 1) := by decide +kernel
theorem dX5_reaches_16 : decode cX5_reaches 16 = .ok (.invokevirtual 79, 3) := by decide +kernel
theorem dX5_reaches_19 : decode cX5_reaches 19 = .ok (.astore_n 3, 1) := by decide +kernel
theorem dX5_reaches_20 : decode cX5_reaches 20 = .ok (.aload_n 3, 1) := by decide +kernel
theorem dX5_reaches_21 : decode cX5_reaches 21 = .ok (.ifnull 10, 3) := by decide +kernel
theorem dX5_reaches_24 : decode cX5_reaches 24 = .ok (.iload_n 2, 1) := by decide +kernel
theorem dX5_reaches_25 : decode cX5_reaches 25 = .ok (.invokestatic 97, 3) := by decide +kernel
theorem dX5_reaches_28 : decode cX5_reaches 28 = .ok (.ifCond .ne 5, 3) := by decide +kernel
theorem dX5_reaches_31 : decode cX5_reaches 31 = .ok (.iconst (-1), 1) := by decide +kernel
theorem dX5_reaches_32 : decode cX5_reaches 32 = .ok (.ireturn, 1) := by decide +kernel
theorem dX5_reaches_33 : decode cX5_reaches 33 = .ok (.iconst 0, 1) := by decide +kernel
theorem dX5_reaches_34 : decode cX5_reaches 34 = .ok (.istore 4, 2) := by decide +kernel
theorem dX5_reaches_36 : decode cX5_reaches 36 = .ok (.iload 4, 2) := by decide +kernel
theorem dX5_reaches_38 : decode cX5_reaches 38 = .ok (.sipush 1000, 3) := by decide +kernel
theorem dX5_reaches_41 : decode cX5_reaches 41 = .ok (.if_icmp .gt 28, 3) := by decide +kernel
theorem dX5_reaches_44 : decode cX5_reaches 44 = .ok (.aload_n 3, 1) := by decide +kernel
theorem dX5_reaches_45 : decode cX5_reaches 45 = .ok (.invokevirtual 146, 3) := by decide +kernel
theorem dX5_reaches_48 : decode cX5_reaches 48 = .ok (.iload_n 2, 1) := by decide +kernel
theorem dX5_reaches_49 : decode cX5_reaches 49 = .ok (.if_icmp .ne 6, 3) := by decide +kernel
theorem dX5_reaches_52 : decode cX5_reaches 52 = .ok (.iload 4, 2) := by decide +kernel
theorem dX5_reaches_54 : decode cX5_reaches 54 = .ok (.ireturn, 1) := by decide +kernel
theorem dX5_reaches_55 : decode cX5_reaches 55 = .ok (.aload_n 0, 1) := by decide +kernel
theorem dX5_reaches_56 : decode cX5_reaches 56 = .ok (.getfield 16, 3) := by decide +kernel
theorem dX5_reaches_59 : decode cX5_reaches 59 = .ok (.invokevirtual 149, 3) := by decide +kernel
theorem dX5_reaches_62 : decode cX5_reaches 62 = .ok (.pop, 1) := by decide +kernel
theorem dX5_reaches_63 : decode cX5_reaches 63 = .ok (.iinc 4 1, 3) := by decide +kernel
theorem dX5_reaches_66 : decode cX5_reaches 66 = .ok (.goto (-30), 3) := by decide +kernel
theorem dX5_reaches_69 : decode cX5_reaches 69 = .ok (.bipush (-6), 2) := by decide +kernel
theorem dX5_reaches_71 : decode cX5_reaches 71 = .ok (.ireturn, 1) := by decide +kernel
theorem dX5_settles_0 : decode cX5_settles 0 = .ok (.aload_n 0, 1) := by decide +kernel
theorem dX5_settles_1 : decode cX5_settles 1 = .ok (.getfield 12, 3) := by decide +kernel
theorem dX5_settles_4 : decode cX5_settles 4 = .ok (.iload_n 1, 1) := by decide +kernel
theorem dX5_settles_5 : decode cX5_settles 5 = .ok (.invokevirtual 79, 3) := by decide +kernel
theorem dX5_settles_8 : decode cX5_settles 8 = .ok (.astore_n 2, 1) := by decide +kernel
theorem dX5_settles_9 : decode cX5_settles 9 = .ok (.aload_n 2, 1) := by decide +kernel
theorem dX5_settles_10 : decode cX5_settles 10 = .ok (.ifnonnull 7, 3) := by decide +kernel
theorem dX5_settles_13 : decode cX5_settles 13 = .ok (.iconst (-1), 1) := by decide +kernel
theorem dX5_settles_14 : decode cX5_settles 14 = .ok (.goto 7, 3) := by decide +kernel
theorem dX5_settles_17 : decode cX5_settles 17 = .ok (.aload_n 2, 1) := by decide +kernel
theorem dX5_settles_18 : decode cX5_settles 18 = .ok (.invokevirtual 152, 3) := by decide +kernel
theorem dX5_settles_21 : decode cX5_settles 21 = .ok (.ireturn, 1) := by decide +kernel
theorem dX5_undo_0 : decode cX5_undo 0 = .ok (.aload_n 0, 1) := by decide +kernel
theorem dX5_undo_1 : decode cX5_undo 1 = .ok (.getfield 22, 3) := by decide +kernel
theorem dX5_undo_4 : decode cX5_undo 4 = .ok (.aload_n 0, 1) := by decide +kernel
theorem dX5_undo_5 : decode cX5_undo 5 = .ok (.getfield 12, 3) := by decide +kernel
theorem dX5_undo_8 : decode cX5_undo 8 = .ok (.invokevirtual 188, 3) := by decide +kernel
theorem dX5_undo_11 : decode cX5_undo 11 = .ok (.ireturn, 1) := by decide +kernel
theorem dX5_save_0 : decode cX5_save 0 = .ok (.iload_n 1, 1) := by decide +kernel
theorem dX5_save_1 : decode cX5_save 1 = .ok (.iconst 0, 1) := by decide +kernel
theorem dX5_save_2 : decode cX5_save 2 = .ok (.iconst 1, 1) := by decide +kernel
theorem dX5_save_3 : decode cX5_save 3 = .ok (.invokestatic 155, 3) := by decide +kernel
theorem dX5_save_6 : decode cX5_save 6 = .ok (.ifCond .ne 6, 3) := by decide +kernel
theorem dX5_save_9 : decode cX5_save 9 = .ok (.bipush (-2), 2) := by decide +kernel
theorem dX5_save_11 : decode cX5_save 11 = .ok (.ireturn, 1) := by decide +kernel
theorem dX5_save_12 : decode cX5_save 12 = .ok (.aload_n 0, 1) := by decide +kernel
theorem dX5_save_13 : decode cX5_save 13 = .ok (.getfield 26, 3) := by decide +kernel
theorem dX5_save_16 : decode cX5_save 16 = .ok (.iload_n 1, 1) := by decide +kernel
theorem dX5_save_17 : decode cX5_save 17 = .ok (.aaload, 1) := by decide +kernel
theorem dX5_save_18 : decode cX5_save 18 = .ok (.aload_n 0, 1) := by decide +kernel
theorem dX5_save_19 : decode cX5_save 19 = .ok (.getfield 12, 3) := by decide +kernel
theorem dX5_save_22 : decode cX5_save 22 = .ok (.invokevirtual 143, 3) := by decide +kernel
theorem dX5_save_25 : decode cX5_save 25 = .ok (.aload_n 0, 1) := by decide +kernel
theorem dX5_save_26 : decode cX5_save 26 = .ok (.getfield 30, 3) := by decide +kernel
theorem dX5_save_29 : decode cX5_save 29 = .ok (.iload_n 1, 1) := by decide +kernel
theorem dX5_save_30 : decode cX5_save 30 = .ok (.iconst 1, 1) := by decide +kernel
theorem dX5_save_31 : decode cX5_save 31 = .ok (.bastore, 1) := by decide +kernel
theorem dX5_save_32 : decode cX5_save 32 = .ok (.aload_n 0, 1) := by decide +kernel
theorem dX5_save_33 : decode cX5_save 33 = .ok (.getfield 12, 3) := by decide +kernel
theorem dX5_save_36 : decode cX5_save 36 = .ok (.getfield 111, 3) := by decide +kernel
theorem dX5_save_39 : decode cX5_save 39 = .ok (.ireturn, 1) := by decide +kernel
theorem dX5_restore_0 : decode cX5_restore 0 = .ok (.iload_n 1, 1) := by decide +kernel
theorem dX5_restore_1 : decode cX5_restore 1 = .ok (.iconst 0, 1) := by decide +kernel
theorem dX5_restore_2 : decode cX5_restore 2 = .ok (.iconst 1, 1) := by decide +kernel
theorem dX5_restore_3 : decode cX5_restore 3 = .ok (.invokestatic 155, 3) := by decide +kernel
theorem dX5_restore_6 : decode cX5_restore 6 = .ok (.ifCond .ne 6, 3) := by decide +kernel
theorem dX5_restore_9 : decode cX5_restore 9 = .ok (.bipush (-2), 2) := by decide +kernel
theorem dX5_restore_11 : decode cX5_restore 11 = .ok (.ireturn, 1) := by decide +kernel
theorem dX5_restore_12 : decode cX5_restore 12 = .ok (.aload_n 0, 1) := by decide +kernel
theorem dX5_restore_13 : decode cX5_restore 13 = .ok (.getfield 30, 3) := by decide +kernel
theorem dX5_restore_16 : decode cX5_restore 16 = .ok (.iload_n 1, 1) := by decide +kernel
theorem dX5_restore_17 : decode cX5_restore 17 = .ok (.baload, 1) := by decide +kernel
theorem dX5_restore_18 : decode cX5_restore 18 = .ok (.ifCond .ne 6, 3) := by decide +kernel
theorem dX5_restore_21 : decode cX5_restore 21 = .ok (.bipush (-5), 2) := by decide +kernel
theorem dX5_restore_23 : decode cX5_restore 23 = .ok (.ireturn, 1) := by decide +kernel
theorem dX5_restore_24 : decode cX5_restore 24 = .ok (.aload_n 0, 1) := by decide +kernel
theorem dX5_restore_25 : decode cX5_restore 25 = .ok (.getfield 22, 3) := by decide +kernel
theorem dX5_restore_28 : decode cX5_restore 28 = .ok (.aload_n 0, 1) := by decide +kernel
theorem dX5_restore_29 : decode cX5_restore 29 = .ok (.getfield 12, 3) := by decide +kernel
theorem dX5_restore_32 : decode cX5_restore 32 = .ok (.invokevirtual 41, 3) := by decide +kernel
theorem dX5_restore_35 : decode cX5_restore 35 = .ok (.aload_n 0, 1) := by decide +kernel
theorem dX5_restore_36 : decode cX5_restore 36 = .ok (.getfield 12, 3) := by decide +kernel
theorem dX5_restore_39 : decode cX5_restore 39 = .ok (.aload_n 0, 1) := by decide +kernel
theorem dX5_restore_40 : decode cX5_restore 40 = .ok (.getfield 26, 3) := by decide +kernel
theorem dX5_restore_43 : decode cX5_restore 43 = .ok (.iload_n 1, 1) := by decide +kernel
theorem dX5_restore_44 : decode cX5_restore 44 = .ok (.aaload, 1) := by decide +kernel
theorem dX5_restore_45 : decode cX5_restore 45 = .ok (.invokevirtual 143, 3) := by decide +kernel
theorem dX5_restore_48 : decode cX5_restore 48 = .ok (.aload_n 0, 1) := by decide +kernel
theorem dX5_restore_49 : decode cX5_restore 49 = .ok (.getfield 22, 3) := by decide +kernel
theorem dX5_restore_52 : decode cX5_restore 52 = .ok (.aload_n 0, 1) := by decide +kernel
theorem dX5_restore_53 : decode cX5_restore 53 = .ok (.getfield 12, 3) := by decide +kernel
theorem dX5_restore_56 : decode cX5_restore 56 = .ok (.getfield 111, 3) := by decide +kernel
theorem dX5_restore_59 : decode cX5_restore 59 = .ok (.invokevirtual 49, 3) := by decide +kernel
theorem dX5_restore_62 : decode cX5_restore 62 = .ok (.ireturn, 1) := by decide +kernel
theorem dX5_within_0 : decode cX5_within 0 = .ok (.iload_n 0, 1) := by decide +kernel
theorem dX5_within_1 : decode cX5_within 1 = .ok (.iload_n 1, 1) := by decide +kernel
theorem dX5_within_2 : decode cX5_within 2 = .ok (.if_icmp .lt 12, 3) := by decide +kernel
theorem dX5_within_5 : decode cX5_within 5 = .ok (.iload_n 0, 1) := by decide +kernel
theorem dX5_within_6 : decode cX5_within 6 = .ok (.iload_n 2, 1) := by decide +kernel
theorem dX5_within_7 : decode cX5_within 7 = .ok (.if_icmp .gt 7, 3) := by decide +kernel
theorem dX5_within_10 : decode cX5_within 10 = .ok (.iconst 1, 1) := by decide +kernel
theorem dX5_within_11 : decode cX5_within 11 = .ok (.goto 4, 3) := by decide +kernel
theorem dX5_within_14 : decode cX5_within 14 = .ok (.iconst 0, 1) := by decide +kernel
theorem dX5_within_15 : decode cX5_within 15 = .ok (.ireturn, 1) := by decide +kernel
theorem dX5_isBlock_0 : decode cX5_isBlock 0 = .ok (.iload_n 0, 1) := by decide +kernel
theorem dX5_isBlock_1 : decode cX5_isBlock 1 = .ok (.iconst 0, 1) := by decide +kernel
theorem dX5_isBlock_2 : decode cX5_isBlock 2 = .ok (.bipush 7, 2) := by decide +kernel
theorem dX5_isBlock_4 : decode cX5_isBlock 4 = .ok (.invokestatic 155, 3) := by decide +kernel
theorem dX5_isBlock_7 : decode cX5_isBlock 7 = .ok (.ireturn, 1) := by decide +kernel
theorem dX5_curveSpeed_0 : decode cX5_curveSpeed 0 = .ok (.iload_n 1, 1) := by decide +kernel
theorem dX5_curveSpeed_1 : decode cX5_curveSpeed 1 = .ok (.iload_n 1, 1) := by decide +kernel
theorem dX5_curveSpeed_2 : decode cX5_curveSpeed 2 = .ok (.imul, 1) := by decide +kernel
theorem dX5_curveSpeed_3 : decode cX5_curveSpeed 3 = .ok (.bipush 10, 2) := by decide +kernel
theorem dX5_curveSpeed_5 : decode cX5_curveSpeed 5 = .ok (.imul, 1) := by decide +kernel
theorem dX5_curveSpeed_6 : decode cX5_curveSpeed 6 = .ok (.bipush 28, 2) := by decide +kernel
theorem dX5_curveSpeed_8 : decode cX5_curveSpeed 8 = .ok (.idiv, 1) := by decide +kernel
theorem dX5_curveSpeed_9 : decode cX5_curveSpeed 9 = .ok (.istore_n 2, 1) := by decide +kernel
theorem dX5_curveSpeed_10 : decode cX5_curveSpeed 10 = .ok (.iload_n 0, 1) := by decide +kernel
theorem dX5_curveSpeed_11 : decode cX5_curveSpeed 11 = .ok (.lookupswitch 34 #[(1, 25), (2, 27)], 25) := by decide +kernel
theorem dX5_curveSpeed_36 : decode cX5_curveSpeed 36 = .ok (.iload_n 2, 1) := by decide +kernel
theorem dX5_curveSpeed_37 : decode cX5_curveSpeed 37 = .ok (.ireturn, 1) := by decide +kernel
theorem dX5_curveSpeed_38 : decode cX5_curveSpeed 38 = .ok (.bipush 20, 2) := by decide +kernel
theorem dX5_curveSpeed_40 : decode cX5_curveSpeed 40 = .ok (.iload_n 1, 1) := by decide +kernel
theorem dX5_curveSpeed_41 : decode cX5_curveSpeed 41 = .ok (.imul, 1) := by decide +kernel
theorem dX5_curveSpeed_42 : decode cX5_curveSpeed 42 = .ok (.iload_n 2, 1) := by decide +kernel
theorem dX5_curveSpeed_43 : decode cX5_curveSpeed 43 = .ok (.isub, 1) := by decide +kernel
theorem dX5_curveSpeed_44 : decode cX5_curveSpeed 44 = .ok (.ireturn, 1) := by decide +kernel
theorem dX5_curveSpeed_45 : decode cX5_curveSpeed 45 = .ok (.bipush 10, 2) := by decide +kernel
theorem dX5_curveSpeed_47 : decode cX5_curveSpeed 47 = .ok (.iload_n 1, 1) := by decide +kernel
theorem dX5_curveSpeed_48 : decode cX5_curveSpeed 48 = .ok (.imul, 1) := by decide +kernel
theorem dX5_curveSpeed_49 : decode cX5_curveSpeed 49 = .ok (.ireturn, 1) := by decide +kernel
theorem dJ9_floorDiv_7cf53_0 : decode cJ9_floorDiv_7cf53 0 = .ok (.iload_n 0, 1) := by decide +kernel
theorem dJ9_floorDiv_7cf53_1 : decode cJ9_floorDiv_7cf53 1 = .ok (.iload_n 1, 1) := by decide +kernel
theorem dJ9_floorDiv_7cf53_2 : decode cJ9_floorDiv_7cf53 2 = .ok (.idiv, 1) := by decide +kernel
theorem dJ9_floorDiv_7cf53_3 : decode cJ9_floorDiv_7cf53 3 = .ok (.istore_n 2, 1) := by decide +kernel
theorem dJ9_floorDiv_7cf53_4 : decode cJ9_floorDiv_7cf53 4 = .ok (.iload_n 0, 1) := by decide +kernel
theorem dJ9_floorDiv_7cf53_5 : decode cJ9_floorDiv_7cf53 5 = .ok (.iload_n 1, 1) := by decide +kernel
theorem dJ9_floorDiv_7cf53_6 : decode cJ9_floorDiv_7cf53 6 = .ok (.ixor, 1) := by decide +kernel
theorem dJ9_floorDiv_7cf53_7 : decode cJ9_floorDiv_7cf53 7 = .ok (.ifCond .ge 14, 3) := by decide +kernel
theorem dJ9_floorDiv_7cf53_10 : decode cJ9_floorDiv_7cf53 10 = .ok (.iload_n 2, 1) := by decide +kernel
theorem dJ9_floorDiv_7cf53_11 : decode cJ9_floorDiv_7cf53 11 = .ok (.iload_n 1, 1) := by decide +kernel
theorem dJ9_floorDiv_7cf53_12 : decode cJ9_floorDiv_7cf53 12 = .ok (.imul, 1) := by decide +kernel
theorem dJ9_floorDiv_7cf53_13 : decode cJ9_floorDiv_7cf53 13 = .ok (.iload_n 0, 1) := by decide +kernel
theorem dJ9_floorDiv_7cf53_14 : decode cJ9_floorDiv_7cf53 14 = .ok (.if_icmp .eq 7, 3) := by decide +kernel
theorem dJ9_floorDiv_7cf53_17 : decode cJ9_floorDiv_7cf53 17 = .ok (.iload_n 2, 1) := by decide +kernel
theorem dJ9_floorDiv_7cf53_18 : decode cJ9_floorDiv_7cf53 18 = .ok (.iconst 1, 1) := by decide +kernel
theorem dJ9_floorDiv_7cf53_19 : decode cJ9_floorDiv_7cf53 19 = .ok (.isub, 1) := by decide +kernel
theorem dJ9_floorDiv_7cf53_20 : decode cJ9_floorDiv_7cf53 20 = .ok (.ireturn, 1) := by decide +kernel
theorem dJ9_floorDiv_7cf53_21 : decode cJ9_floorDiv_7cf53 21 = .ok (.iload_n 2, 1) := by decide +kernel
theorem dJ9_floorDiv_7cf53_22 : decode cJ9_floorDiv_7cf53 22 = .ok (.ireturn, 1) := by decide +kernel
theorem dJ9_floorMod_7cf53_0 : decode cJ9_floorMod_7cf53 0 = .ok (.iload_n 0, 1) := by decide +kernel
theorem dJ9_floorMod_7cf53_1 : decode cJ9_floorMod_7cf53 1 = .ok (.iload_n 1, 1) := by decide +kernel
theorem dJ9_floorMod_7cf53_2 : decode cJ9_floorMod_7cf53 2 = .ok (.irem, 1) := by decide +kernel
theorem dJ9_floorMod_7cf53_3 : decode cJ9_floorMod_7cf53 3 = .ok (.istore_n 2, 1) := by decide +kernel
theorem dJ9_floorMod_7cf53_4 : decode cJ9_floorMod_7cf53 4 = .ok (.iload_n 0, 1) := by decide +kernel
theorem dJ9_floorMod_7cf53_5 : decode cJ9_floorMod_7cf53 5 = .ok (.iload_n 1, 1) := by decide +kernel
theorem dJ9_floorMod_7cf53_6 : decode cJ9_floorMod_7cf53 6 = .ok (.ixor, 1) := by decide +kernel
theorem dJ9_floorMod_7cf53_7 : decode cJ9_floorMod_7cf53 7 = .ok (.ifCond .ge 11, 3) := by decide +kernel
theorem dJ9_floorMod_7cf53_10 : decode cJ9_floorMod_7cf53 10 = .ok (.iload_n 2, 1) := by decide +kernel
theorem dJ9_floorMod_7cf53_11 : decode cJ9_floorMod_7cf53 11 = .ok (.ifCond .eq 7, 3) := by decide +kernel
theorem dJ9_floorMod_7cf53_14 : decode cJ9_floorMod_7cf53 14 = .ok (.iload_n 2, 1) := by decide +kernel
theorem dJ9_floorMod_7cf53_15 : decode cJ9_floorMod_7cf53 15 = .ok (.iload_n 1, 1) := by decide +kernel
theorem dJ9_floorMod_7cf53_16 : decode cJ9_floorMod_7cf53 16 = .ok (.iadd, 1) := by decide +kernel
theorem dJ9_floorMod_7cf53_17 : decode cJ9_floorMod_7cf53 17 = .ok (.ireturn, 1) := by decide +kernel
theorem dJ9_floorMod_7cf53_18 : decode cJ9_floorMod_7cf53 18 = .ok (.iload_n 2, 1) := by decide +kernel
theorem dJ9_floorMod_7cf53_19 : decode cJ9_floorMod_7cf53 19 = .ok (.ireturn, 1) := by decide +kernel
theorem dJ9_abs_0f7a4_0 : decode cJ9_abs_0f7a4 0 = .ok (.iload_n 0, 1) := by decide +kernel
theorem dJ9_abs_0f7a4_1 : decode cJ9_abs_0f7a4 1 = .ok (.ifCond .ge 8, 3) := by decide +kernel
theorem dJ9_abs_0f7a4_4 : decode cJ9_abs_0f7a4 4 = .ok (.iload_n 0, 1) := by decide +kernel
theorem dJ9_abs_0f7a4_5 : decode cJ9_abs_0f7a4 5 = .ok (.ineg, 1) := by decide +kernel
theorem dJ9_abs_0f7a4_6 : decode cJ9_abs_0f7a4 6 = .ok (.goto 4, 3) := by decide +kernel
theorem dJ9_abs_0f7a4_9 : decode cJ9_abs_0f7a4 9 = .ok (.iload_n 0, 1) := by decide +kernel
theorem dJ9_abs_0f7a4_10 : decode cJ9_abs_0f7a4 10 = .ok (.ireturn, 1) := by decide +kernel
theorem dJ9_max_7cf53_0 : decode cJ9_max_7cf53 0 = .ok (.iload_n 0, 1) := by decide +kernel
theorem dJ9_max_7cf53_1 : decode cJ9_max_7cf53 1 = .ok (.iload_n 1, 1) := by decide +kernel
theorem dJ9_max_7cf53_2 : decode cJ9_max_7cf53 2 = .ok (.if_icmp .lt 7, 3) := by decide +kernel
theorem dJ9_max_7cf53_5 : decode cJ9_max_7cf53 5 = .ok (.iload_n 0, 1) := by decide +kernel
theorem dJ9_max_7cf53_6 : decode cJ9_max_7cf53 6 = .ok (.goto 4, 3) := by decide +kernel
theorem dJ9_max_7cf53_9 : decode cJ9_max_7cf53 9 = .ok (.iload_n 1, 1) := by decide +kernel
theorem dJ9_max_7cf53_10 : decode cJ9_max_7cf53 10 = .ok (.ireturn, 1) := by decide +kernel
theorem dJ9_min_7cf53_0 : decode cJ9_min_7cf53 0 = .ok (.iload_n 0, 1) := by decide +kernel
theorem dJ9_min_7cf53_1 : decode cJ9_min_7cf53 1 = .ok (.iload_n 1, 1) := by decide +kernel
theorem dJ9_min_7cf53_2 : decode cJ9_min_7cf53 2 = .ok (.if_icmp .gt 7, 3) := by decide +kernel
theorem dJ9_min_7cf53_5 : decode cJ9_min_7cf53 5 = .ok (.iload_n 0, 1) := by decide +kernel
theorem dJ9_min_7cf53_6 : decode cJ9_min_7cf53 6 = .ok (.goto 4, 3) := by decide +kernel
theorem dJ9_min_7cf53_9 : decode cJ9_min_7cf53 9 = .ok (.iload_n 1, 1) := by decide +kernel
theorem dJ9_min_7cf53_10 : decode cJ9_min_7cf53 10 = .ok (.ireturn, 1) := by decide +kernel
