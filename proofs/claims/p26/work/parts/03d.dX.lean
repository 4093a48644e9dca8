theorem dX0_init_0 : decode cX0_init 0 = .ok (.aload_n 0, 1) := by decide +kernel
theorem dX0_init_1 : decode cX0_init 1 = .ok (.invokespecial 3, 3) := by decide +kernel
theorem dX0_init_4 : decode cX0_init 4 = .ok (.aload_n 0, 1) := by decide +kernel
theorem dX0_init_5 : decode cX0_init 5 = .ok (.iconst 0, 1) := by decide +kernel
theorem dX0_init_6 : decode cX0_init 6 = .ok (.putfield 9, 3) := by decide +kernel
theorem dX0_init_9 : decode cX0_init 9 = .ok (.aload_n 0, 1) := by decide +kernel
theorem dX0_init_10 : decode cX0_init 10 = .ok (.iconst 0, 1) := by decide +kernel
theorem dX0_init_11 : decode cX0_init 11 = .ok (.putfield 15, 3) := by decide +kernel
theorem dX0_init_14 : decode cX0_init 14 = .ok (.aload_n 0, 1) := by decide +kernel
theorem dX0_init_15 : decode cX0_init 15 = .ok (.iconst 0, 1) := by decide +kernel
theorem dX0_init_16 : decode cX0_init 16 = .ok (.putfield 18, 3) := by decide +kernel
theorem dX0_init_19 : decode cX0_init 19 = .ok (.aload_n 0, 1) := by decide +kernel
theorem dX0_init_20 : decode cX0_init 20 = .ok (.bipush 10, 2) := by decide +kernel
theorem dX0_init_22 : decode cX0_init 22 = .ok (.putfield 21, 3) := by decide +kernel
theorem dX0_init_25 : decode cX0_init 25 = .ok (.aload_n 0, 1) := by decide +kernel
theorem dX0_init_26 : decode cX0_init 26 = .ok (.bipush 50, 2) := by decide +kernel
theorem dX0_init_28 : decode cX0_init 28 = .ok (.putfield 24, 3) := by decide +kernel
theorem dX0_init_31 : decode cX0_init 31 = .ok (.aload_n 0, 1) := by decide +kernel
theorem dX0_init_32 : decode cX0_init 32 = .ok (.iconst 3, 1) := by decide +kernel
theorem dX0_init_33 : decode cX0_init 33 = .ok (.putfield 27, 3) := by decide +kernel
theorem dX0_init_36 : decode cX0_init 36 = .ok (.aload_n 0, 1) := by decide +kernel
theorem dX0_init_37 : decode cX0_init 37 = .ok (.sipush 200, 3) := by decide +kernel
theorem dX0_init_40 : decode cX0_init 40 = .ok (.putfield 30, 3) := by decide +kernel
theorem dX0_init_43 : decode cX0_init 43 = .ok (.aload_n 0, 1) := by decide +kernel
theorem dX0_init_44 : decode cX0_init 44 = .ok (.iconst 1, 1) := by decide +kernel
theorem dX0_init_45 : decode cX0_init 45 = .ok (.putfield 33, 3) := by decide +kernel
theorem dX0_init_48 : decode cX0_init 48 = .ok (.aload_n 0, 1) := by decide +kernel
theorem dX0_init_49 : decode cX0_init 49 = .ok (.iconst 0, 1) := by decide +kernel
theorem dX0_init_50 : decode cX0_init 50 = .ok (.putfield 37, 3) := by decide +kernel
theorem dX0_init_53 : decode cX0_init 53 = .ok (.aload_n 0, 1) := by decide +kernel
theorem dX0_init_54 : decode cX0_init 54 = .ok (.iconst 0, 1) := by decide +kernel
theorem dX0_init_55 : decode cX0_init 55 = .ok (.putfield 40, 3) := by decide +kernel
theorem dX0_init_58 : decode cX0_init 58 = .ok (.aload_n 0, 1) := by decide +kernel
theorem dX0_init_59 : decode cX0_init 59 = .ok (.iconst 0, 1) := by decide +kernel
theorem dX0_init_60 : decode cX0_init 60 = .ok (.putfield 43, 3) := by decide +kernel
theorem dX0_init_63 : decode cX0_init 63 = .ok (.aload_n 0, 1) := by decide +kernel
theorem dX0_init_64 : decode cX0_init 64 = .ok (.iconst 0, 1) := by decide +kernel
theorem dX0_init_65 : decode cX0_init 65 = .ok (.putfield 46, 3) := by decide +kernel
theorem dX0_init_68 : decode cX0_init 68 = .ok (.aload_n 0, 1) := by decide +kernel
theorem dX0_init_69 : decode cX0_init 69 = .ok (.iload_n 1, 1) := by decide +kernel
theorem dX0_init_70 : decode cX0_init 70 = .ok (.putfield 49, 3) := by decide +kernel
theorem dX0_init_73 : decode cX0_init 73 = .ok (.return_, 1) := by decide +kernel
theorem dX0_isFor_0 : decode cX0_isFor 0 = .ok (.aload_n 0, 1) := by decide +kernel
theorem dX0_isFor_1 : decode cX0_isFor 1 = .ok (.getfield 33, 3) := by decide +kernel
theorem dX0_isFor_4 : decode cX0_isFor 4 = .ok (.ifCond .eq 72, 3) := by decide +kernel
theorem dX0_isFor_7 : decode cX0_isFor 7 = .ok (.aload_n 0, 1) := by decide +kernel
theorem dX0_isFor_8 : decode cX0_isFor 8 = .ok (.getfield 15, 3) := by decide +kernel
theorem dX0_isFor_11 : decode cX0_isFor 11 = .ok (.aload_n 1, 1) := by decide +kernel
theorem dX0_isFor_12 : decode cX0_isFor 12 = .ok (.getfield 52, 3) := by decide +kernel
theorem dX0_isFor_15 : decode cX0_isFor 15 = .ok (.invokestatic 57, 3) := by decide +kernel
theorem dX0_isFor_18 : decode cX0_isFor 18 = .ok (.ifCond .eq 58, 3) := by decide +kernel
theorem dX0_isFor_21 : decode cX0_isFor 21 = .ok (.aload_n 0, 1) := by decide +kernel
theorem dX0_isFor_22 : decode cX0_isFor 22 = .ok (.getfield 18, 3) := by decide +kernel
theorem dX0_isFor_25 : decode cX0_isFor 25 = .ok (.aload_n 1, 1) := by decide +kernel
theorem dX0_isFor_26 : decode cX0_isFor 26 = .ok (.getfield 61, 3) := by decide +kernel
theorem dX0_isFor_29 : decode cX0_isFor 29 = .ok (.invokestatic 57, 3) := by decide +kernel
theorem dX0_isFor_32 : decode cX0_isFor 32 = .ok (.ifCond .eq 44, 3) := by decide +kernel
theorem dX0_isFor_35 : decode cX0_isFor 35 = .ok (.aload_n 1, 1) := by decide +kernel
theorem dX0_isFor_36 : decode cX0_isFor 36 = .ok (.getfield 61, 3) := by decide +kernel
theorem dX0_isFor_39 : decode cX0_isFor 39 = .ok (.aload_n 0, 1) := by decide +kernel
theorem dX0_isFor_40 : decode cX0_isFor 40 = .ok (.getfield 9, 3) := by decide +kernel
theorem dX0_isFor_43 : decode cX0_isFor 43 = .ok (.if_icmp .eq 33, 3) := by decide +kernel
theorem dX0_isFor_46 : decode cX0_isFor 46 = .ok (.aload_n 0, 1) := by decide +kernel
theorem dX0_isFor_47 : decode cX0_isFor 47 = .ok (.aload_n 1, 1) := by decide +kernel
theorem dX0_isFor_48 : decode cX0_isFor 48 = .ok (.invokevirtual 64, 3) := by decide +kernel
theorem dX0_isFor_51 : decode cX0_isFor 51 = .ok (.aload_n 0, 1) := by decide +kernel
theorem dX0_isFor_52 : decode cX0_isFor 52 = .ok (.invokevirtual 68, 3) := by decide +kernel
theorem dX0_isFor_55 : decode cX0_isFor 55 = .ok (.if_icmp .ge 21, 3) := by decide +kernel
theorem dX0_isFor_58 : decode cX0_isFor 58 = .ok (.aload_n 0, 1) := by decide +kernel
theorem dX0_isFor_59 : decode cX0_isFor 59 = .ok (.getfield 46, 3) := by decide +kernel
theorem dX0_isFor_62 : decode cX0_isFor 62 = .ok (.aload_n 1, 1) := by decide +kernel
theorem dX0_isFor_63 : decode cX0_isFor 63 = .ok (.getfield 72, 3) := by decide +kernel
theorem dX0_isFor_66 : decode cX0_isFor 66 = .ok (.invokestatic 57, 3) := by decide +kernel
theorem dX0_isFor_69 : decode cX0_isFor 69 = .ok (.ifCond .ne 7, 3) := by decide +kernel
theorem dX0_isFor_72 : decode cX0_isFor 72 = .ok (.iconst 1, 1) := by decide +kernel
theorem dX0_isFor_73 : decode cX0_isFor 73 = .ok (.goto 4, 3) := by decide +kernel
theorem dX0_isFor_76 : decode cX0_isFor 76 = .ok (.iconst 0, 1) := by decide +kernel
theorem dX0_isFor_77 : decode cX0_isFor 77 = .ok (.ireturn, 1) := by decide +kernel
theorem dX0_countReport_0 : decode cX0_countReport 0 = .ok (.aload_n 0, 1) := by decide +kernel
theorem dX0_countReport_1 : decode cX0_countReport 1 = .ok (.dup, 1) := by decide +kernel
theorem dX0_countReport_2 : decode cX0_countReport 2 = .ok (.getfield 46, 3) := by decide +kernel
theorem dX0_countReport_5 : decode cX0_countReport 5 = .ok (.iconst 1, 1) := by decide +kernel
theorem dX0_countReport_6 : decode cX0_countReport 6 = .ok (.aload_n 1, 1) := by decide +kernel
theorem dX0_countReport_7 : decode cX0_countReport 7 = .ok (.getfield 72, 3) := by decide +kernel
theorem dX0_countReport_10 : decode cX0_countReport 10 = .ok (.ishl, 1) := by decide +kernel
theorem dX0_countReport_11 : decode cX0_countReport 11 = .ok (.ior, 1) := by decide +kernel
theorem dX0_countReport_12 : decode cX0_countReport 12 = .ok (.putfield 46, 3) := by decide +kernel
theorem dX0_countReport_15 : decode cX0_countReport 15 = .ok (.aload_n 0, 1) := by decide +kernel
theorem dX0_countReport_16 : decode cX0_countReport 16 = .ok (.dup, 1) := by decide +kernel
theorem dX0_countReport_17 : decode cX0_countReport 17 = .ok (.getfield 40, 3) := by decide +kernel
theorem dX0_countReport_20 : decode cX0_countReport 20 = .ok (.iconst 1, 1) := by decide +kernel
theorem dX0_countReport_21 : decode cX0_countReport 21 = .ok (.iadd, 1) := by decide +kernel
theorem dX0_countReport_22 : decode cX0_countReport 22 = .ok (.putfield 40, 3) := by decide +kernel
theorem dX0_countReport_25 : decode cX0_countReport 25 = .ok (.iload_n 2, 1) := by decide +kernel
theorem dX0_countReport_26 : decode cX0_countReport 26 = .ok (.ifCond .ne 13, 3) := by decide +kernel
theorem dX0_countReport_29 : decode cX0_countReport 29 = .ok (.aload_n 0, 1) := by decide +kernel
theorem dX0_countReport_30 : decode cX0_countReport 30 = .ok (.dup, 1) := by decide +kernel
theorem dX0_countReport_31 : decode cX0_countReport 31 = .ok (.getfield 43, 3) := by decide +kernel
theorem dX0_countReport_34 : decode cX0_countReport 34 = .ok (.iconst 1, 1) := by decide +kernel
theorem dX0_countReport_35 : decode cX0_countReport 35 = .ok (.iadd, 1) := by decide +kernel
theorem dX0_countReport_36 : decode cX0_countReport 36 = .ok (.putfield 43, 3) := by decide +kernel
theorem dX0_countReport_39 : decode cX0_countReport 39 = .ok (.return_, 1) := by decide +kernel
theorem dX0_judgeRing_0 : decode cX0_judgeRing 0 = .ok (.aload_n 0, 1) := by decide +kernel
theorem dX0_judgeRing_1 : decode cX0_judgeRing 1 = .ok (.getfield 33, 3) := by decide +kernel
theorem dX0_judgeRing_4 : decode cX0_judgeRing 4 = .ok (.ifCond .eq 14, 3) := by decide +kernel
theorem dX0_judgeRing_7 : decode cX0_judgeRing 7 = .ok (.aload_n 0, 1) := by decide +kernel
theorem dX0_judgeRing_8 : decode cX0_judgeRing 8 = .ok (.getfield 40, 3) := by decide +kernel
theorem dX0_judgeRing_11 : decode cX0_judgeRing 11 = .ok (.aload_n 0, 1) := by decide +kernel
theorem dX0_judgeRing_12 : decode cX0_judgeRing 12 = .ok (.getfield 27, 3) := by decide +kernel
theorem dX0_judgeRing_15 : decode cX0_judgeRing 15 = .ok (.if_icmp .ge 4, 3) := by decide +kernel
theorem dX0_judgeRing_18 : decode cX0_judgeRing 18 = .ok (.return_, 1) := by decide +kernel
theorem dX0_judgeRing_19 : decode cX0_judgeRing 19 = .ok (.aload_n 0, 1) := by decide +kernel
theorem dX0_judgeRing_20 : decode cX0_judgeRing 20 = .ok (.getfield 43, 3) := by decide +kernel
theorem dX0_judgeRing_23 : decode cX0_judgeRing 23 = .ok (.sipush 1000, 3) := by decide +kernel
theorem dX0_judgeRing_26 : decode cX0_judgeRing 26 = .ok (.imul, 1) := by decide +kernel
theorem dX0_judgeRing_27 : decode cX0_judgeRing 27 = .ok (.aload_n 0, 1) := by decide +kernel
theorem dX0_judgeRing_28 : decode cX0_judgeRing 28 = .ok (.getfield 40, 3) := by decide +kernel
theorem dX0_judgeRing_31 : decode cX0_judgeRing 31 = .ok (.aload_n 0, 1) := by decide +kernel
theorem dX0_judgeRing_32 : decode cX0_judgeRing 32 = .ok (.getfield 30, 3) := by decide +kernel
theorem dX0_judgeRing_35 : decode cX0_judgeRing 35 = .ok (.imul, 1) := by decide +kernel
theorem dX0_judgeRing_36 : decode cX0_judgeRing 36 = .ok (.if_icmp .le 11, 3) := by decide +kernel
theorem dX0_judgeRing_39 : decode cX0_judgeRing 39 = .ok (.aload_n 0, 1) := by decide +kernel
theorem dX0_judgeRing_40 : decode cX0_judgeRing 40 = .ok (.iconst 0, 1) := by decide +kernel
theorem dX0_judgeRing_41 : decode cX0_judgeRing 41 = .ok (.putfield 33, 3) := by decide +kernel
theorem dX0_judgeRing_44 : decode cX0_judgeRing 44 = .ok (.goto 21, 3) := by decide +kernel
theorem dX0_judgeRing_47 : decode cX0_judgeRing 47 = .ok (.aload_n 0, 1) := by decide +kernel
theorem dX0_judgeRing_48 : decode cX0_judgeRing 48 = .ok (.getfield 37, 3) := by decide +kernel
theorem dX0_judgeRing_51 : decode cX0_judgeRing 51 = .ok (.iconst 2, 1) := by decide +kernel
theorem dX0_judgeRing_52 : decode cX0_judgeRing 52 = .ok (.if_icmp .eq 13, 3) := by decide +kernel
theorem dX0_judgeRing_55 : decode cX0_judgeRing 55 = .ok (.aload_n 0, 1) := by decide +kernel
theorem dX0_judgeRing_56 : decode cX0_judgeRing 56 = .ok (.aload_n 0, 1) := by decide +kernel
theorem dX0_judgeRing_57 : decode cX0_judgeRing 57 = .ok (.getfield 37, 3) := by decide +kernel
theorem dX0_judgeRing_60 : decode cX0_judgeRing 60 = .ok (.iconst 1, 1) := by decide +kernel
theorem dX0_judgeRing_61 : decode cX0_judgeRing 61 = .ok (.iadd, 1) := by decide +kernel
theorem dX0_judgeRing_62 : decode cX0_judgeRing 62 = .ok (.invokevirtual 73, 3) := by decide +kernel
theorem dX0_judgeRing_65 : decode cX0_judgeRing 65 = .ok (.return_, 1) := by decide +kernel
theorem dX0_beginRing_0 : decode cX0_beginRing 0 = .ok (.aload_n 0, 1) := by decide +kernel
theorem dX0_beginRing_1 : decode cX0_beginRing 1 = .ok (.iload_n 1, 1) := by decide +kernel
theorem dX0_beginRing_2 : decode cX0_beginRing 2 = .ok (.putfield 37, 3) := by decide +kernel
theorem dX0_beginRing_5 : decode cX0_beginRing 5 = .ok (.aload_n 0, 1) := by decide +kernel
theorem dX0_beginRing_6 : decode cX0_beginRing 6 = .ok (.iconst 0, 1) := by decide +kernel
theorem dX0_beginRing_7 : decode cX0_beginRing 7 = .ok (.putfield 40, 3) := by decide +kernel
theorem dX0_beginRing_10 : decode cX0_beginRing 10 = .ok (.aload_n 0, 1) := by decide +kernel
theorem dX0_beginRing_11 : decode cX0_beginRing 11 = .ok (.iconst 0, 1) := by decide +kernel
theorem dX0_beginRing_12 : decode cX0_beginRing 12 = .ok (.putfield 43, 3) := by decide +kernel
theorem dX0_beginRing_15 : decode cX0_beginRing 15 = .ok (.return_, 1) := by decide +kernel
theorem dX0_drawOf_0 : decode cX0_drawOf 0 = .ok (.aload_n 1, 1) := by decide +kernel
theorem dX0_drawOf_1 : decode cX0_drawOf 1 = .ok (.getfield 72, 3) := by decide +kernel
theorem dX0_drawOf_4 : decode cX0_drawOf 4 = .ok (.bipush 37, 2) := by decide +kernel
theorem dX0_drawOf_6 : decode cX0_drawOf 6 = .ok (.imul, 1) := by decide +kernel
theorem dX0_drawOf_7 : decode cX0_drawOf 7 = .ok (.aload_n 0, 1) := by decide +kernel
theorem dX0_drawOf_8 : decode cX0_drawOf 8 = .ok (.getfield 49, 3) := by decide +kernel
theorem dX0_drawOf_11 : decode cX0_drawOf 11 = .ok (.bipush 11, 2) := by decide +kernel
theorem dX0_drawOf_13 : decode cX0_drawOf 13 = .ok (.imul, 1) := by decide +kernel
theorem dX0_drawOf_14 : decode cX0_drawOf 14 = .ok (.iadd, 1) := by decide +kernel
theorem dX0_drawOf_15 : decode cX0_drawOf 15 = .ok (.bipush 13, 2) := by decide +kernel
theorem dX0_drawOf_17 : decode cX0_drawOf 17 = .ok (.iadd, 1) := by decide +kernel
theorem dX0_drawOf_18 : decode cX0_drawOf 18 = .ok (.bipush 100, 2) := by decide +kernel
theorem dX0_drawOf_20 : decode cX0_drawOf 20 = .ok (.irem, 1) := by decide +kernel
theorem dX0_drawOf_21 : decode cX0_drawOf 21 = .ok (.ireturn, 1) := by decide +kernel
theorem dX0_share_0 : decode cX0_share 0 = .ok (.aload_n 0, 1) := by decide +kernel
theorem dX0_share_1 : decode cX0_share 1 = .ok (.getfield 37, 3) := by decide +kernel
theorem dX0_share_4 : decode cX0_share 4 = .ok (.ifCond .ne 8, 3) := by decide +kernel
theorem dX0_share_7 : decode cX0_share 7 = .ok (.aload_n 0, 1) := by decide +kernel
theorem dX0_share_8 : decode cX0_share 8 = .ok (.getfield 21, 3) := by decide +kernel
theorem dX0_share_11 : decode cX0_share 11 = .ok (.ireturn, 1) := by decide +kernel
theorem dX0_share_12 : decode cX0_share 12 = .ok (.aload_n 0, 1) := by decide +kernel
theorem dX0_share_13 : decode cX0_share 13 = .ok (.getfield 37, 3) := by decide +kernel
theorem dX0_share_16 : decode cX0_share 16 = .ok (.iconst 1, 1) := by decide +kernel
theorem dX0_share_17 : decode cX0_share 17 = .ok (.if_icmp .ne 10, 3) := by decide +kernel
theorem dX0_share_20 : decode cX0_share 20 = .ok (.aload_n 0, 1) := by decide +kernel
theorem dX0_share_21 : decode cX0_share 21 = .ok (.getfield 24, 3) := by decide +kernel
theorem dX0_share_24 : decode cX0_share 24 = .ok (.goto 5, 3) := by decide +kernel
theorem dX0_share_27 : decode cX0_share 27 = .ok (.bipush 100, 2) := by decide +kernel
theorem dX0_share_29 : decode cX0_share 29 = .ok (.ireturn, 1) := by decide +kernel
theorem dX1_init_0 : decode cX1_init 0 = .ok (.aload_n 0, 1) := by decide +kernel
theorem dX1_init_1 : decode cX1_init 1 = .ok (.invokespecial 3, 3) := by decide +kernel
theorem dX1_init_4 : decode cX1_init 4 = .ok (.aload_n 0, 1) := by decide +kernel
theorem dX1_init_5 : decode cX1_init 5 = .ok (.iconst 0, 1) := by decide +kernel
theorem dX1_init_6 : decode cX1_init 6 = .ok (.putfield 9, 3) := by decide +kernel
theorem dX1_init_9 : decode cX1_init 9 = .ok (.aload_n 0, 1) := by decide +kernel
theorem dX1_init_10 : decode cX1_init 10 = .ok (.iconst 0, 1) := by decide +kernel
theorem dX1_init_11 : decode cX1_init 11 = .ok (.putfield 15, 3) := by decide +kernel
theorem dX1_init_14 : decode cX1_init 14 = .ok (.aload_n 0, 1) := by decide +kernel
theorem dX1_init_15 : decode cX1_init 15 = .ok (.bipush 100, 2) := by decide +kernel
theorem dX1_init_17 : decode cX1_init 17 = .ok (.putfield 18, 3) := by decide +kernel
theorem dX1_init_20 : decode cX1_init 20 = .ok (.aload_n 0, 1) := by decide +kernel
theorem dX1_init_21 : decode cX1_init 21 = .ok (.iconst 0, 1) := by decide +kernel
theorem dX1_init_22 : decode cX1_init 22 = .ok (.putfield 21, 3) := by decide +kernel
theorem dX1_init_25 : decode cX1_init 25 = .ok (.aload_n 0, 1) := by decide +kernel
theorem dX1_init_26 : decode cX1_init 26 = .ok (.bipush 23, 2) := by decide +kernel
theorem dX1_init_28 : decode cX1_init 28 = .ok (.putfield 24, 3) := by decide +kernel
theorem dX1_init_31 : decode cX1_init 31 = .ok (.aload_n 0, 1) := by decide +kernel
theorem dX1_init_32 : decode cX1_init 32 = .ok (.iconst 0, 1) := by decide +kernel
theorem dX1_init_33 : decode cX1_init 33 = .ok (.putfield 27, 3) := by decide +kernel
theorem dX1_init_36 : decode cX1_init 36 = .ok (.aload_n 0, 1) := by decide +kernel
theorem dX1_init_37 : decode cX1_init 37 = .ok (.iconst (-1), 1) := by decide +kernel
theorem dX1_init_38 : decode cX1_init 38 = .ok (.putfield 30, 3) := by decide +kernel
theorem dX1_init_41 : decode cX1_init 41 = .ok (.aload_n 0, 1) := by decide +kernel
theorem dX1_init_42 : decode cX1_init 42 = .ok (.iconst 0, 1) := by decide +kernel
theorem dX1_init_43 : decode cX1_init 43 = .ok (.putfield 33, 3) := by decide +kernel
theorem dX1_init_46 : decode cX1_init 46 = .ok (.aload_n 0, 1) := by decide +kernel
theorem dX1_init_47 : decode cX1_init 47 = .ok (.iload_n 1, 1) := by decide +kernel
theorem dX1_init_48 : decode cX1_init 48 = .ok (.putfield 36, 3) := by decide +kernel
theorem dX1_init_51 : decode cX1_init 51 = .ok (.return_, 1) := by decide +kernel
theorem dX1_take_0 : decode cX1_take 0 = .ok (.aload_n 0, 1) := by decide +kernel
theorem dX1_take_1 : decode cX1_take 1 = .ok (.iconst 1, 1) := by decide +kernel
theorem dX1_take_2 : decode cX1_take 2 = .ok (.putfield 27, 3) := by decide +kernel
theorem dX1_take_5 : decode cX1_take 5 = .ok (.aload_n 0, 1) := by decide +kernel
theorem dX1_take_6 : decode cX1_take 6 = .ok (.aload_n 1, 1) := by decide +kernel
theorem dX1_take_7 : decode cX1_take 7 = .ok (.getfield 39, 3) := by decide +kernel
theorem dX1_take_10 : decode cX1_take 10 = .ok (.putfield 30, 3) := by decide +kernel
theorem dX1_take_13 : decode cX1_take 13 = .ok (.aload_n 0, 1) := by decide +kernel
theorem dX1_take_14 : decode cX1_take 14 = .ok (.iload_n 2, 1) := by decide +kernel
theorem dX1_take_15 : decode cX1_take 15 = .ok (.putfield 33, 3) := by decide +kernel
theorem dX1_take_18 : decode cX1_take 18 = .ok (.return_, 1) := by decide +kernel
theorem dX1_canLoad_0 : decode cX1_canLoad 0 = .ok (.aload_n 0, 1) := by decide +kernel
theorem dX1_canLoad_1 : decode cX1_canLoad 1 = .ok (.getfield 27, 3) := by decide +kernel
theorem dX1_canLoad_4 : decode cX1_canLoad 4 = .ok (.iconst 1, 1) := by decide +kernel
theorem dX1_canLoad_5 : decode cX1_canLoad 5 = .ok (.if_icmp .ne 24, 3) := by decide +kernel
theorem dX1_canLoad_8 : decode cX1_canLoad 8 = .ok (.aload_n 0, 1) := by decide +kernel
theorem dX1_canLoad_9 : decode cX1_canLoad 9 = .ok (.iload_n 1, 1) := by decide +kernel
theorem dX1_canLoad_10 : decode cX1_canLoad 10 = .ok (.invokevirtual 42, 3) := by decide +kernel
theorem dX1_canLoad_13 : decode cX1_canLoad 13 = .ok (.ifCond .eq 16, 3) := by decide +kernel
theorem dX1_canLoad_16 : decode cX1_canLoad 16 = .ok (.aload_n 0, 1) := by decide +kernel
theorem dX1_canLoad_17 : decode cX1_canLoad 17 = .ok (.getfield 18, 3) := by decide +kernel
theorem dX1_canLoad_20 : decode cX1_canLoad 20 = .ok (.bipush 20, 2) := by decide +kernel
theorem dX1_canLoad_22 : decode cX1_canLoad 22 = .ok (.if_icmp .lt 7, 3) := by decide +kernel
theorem dX1_canLoad_25 : decode cX1_canLoad 25 = .ok (.iconst 1, 1) := by decide +kernel
theorem dX1_canLoad_26 : decode cX1_canLoad 26 = .ok (.goto 4, 3) := by decide +kernel
theorem dX1_canLoad_29 : decode cX1_canLoad 29 = .ok (.iconst 0, 1) := by decide +kernel
theorem dX1_canLoad_30 : decode cX1_canLoad 30 = .ok (.ireturn, 1) := by decide +kernel
theorem dX1_load_0 : decode cX1_load 0 = .ok (.aload_n 0, 1) := by decide +kernel
theorem dX1_load_1 : decode cX1_load 1 = .ok (.iconst 0, 1) := by decide +kernel
theorem dX1_load_2 : decode cX1_load 2 = .ok (.aload_n 0, 1) := by decide +kernel
theorem dX1_load_3 : decode cX1_load 3 = .ok (.getfield 33, 3) := by decide +kernel
theorem dX1_load_6 : decode cX1_load 6 = .ok (.bipush 100, 2) := by decide +kernel
theorem dX1_load_8 : decode cX1_load 8 = .ok (.isub, 1) := by decide +kernel
theorem dX1_load_9 : decode cX1_load 9 = .ok (.invokestatic 46, 3) := by decide +kernel
theorem dX1_load_12 : decode cX1_load 12 = .ok (.putfield 33, 3) := by decide +kernel
theorem dX1_load_15 : decode cX1_load 15 = .ok (.aload_n 0, 1) := by decide +kernel
theorem dX1_load_16 : decode cX1_load 16 = .ok (.dup, 1) := by decide +kernel
theorem dX1_load_17 : decode cX1_load 17 = .ok (.getfield 18, 3) := by decide +kernel
theorem dX1_load_20 : decode cX1_load 20 = .ok (.iconst 1, 1) := by decide +kernel
theorem dX1_load_21 : decode cX1_load 21 = .ok (.isub, 1) := by decide +kernel
theorem dX1_load_22 : decode cX1_load 22 = .ok (.putfield 18, 3) := by decide +kernel
theorem dX1_load_25 : decode cX1_load 25 = .ok (.aload_n 0, 1) := by decide +kernel
theorem dX1_load_26 : decode cX1_load 26 = .ok (.getfield 33, 3) := by decide +kernel
theorem dX1_load_29 : decode cX1_load 29 = .ok (.ifCond .ne 8, 3) := by decide +kernel
theorem dX1_load_32 : decode cX1_load 32 = .ok (.aload_n 0, 1) := by decide +kernel
theorem dX1_load_33 : decode cX1_load 33 = .ok (.iconst 2, 1) := by decide +kernel
theorem dX1_load_34 : decode cX1_load 34 = .ok (.putfield 27, 3) := by decide +kernel
theorem dX1_load_37 : decode cX1_load 37 = .ok (.return_, 1) := by decide +kernel
theorem dX1_isInWindow_0 : decode cX1_isInWindow 0 = .ok (.aload_n 0, 1) := by decide +kernel
theorem dX1_isInWindow_1 : decode cX1_isInWindow 1 = .ok (.getfield 21, 3) := by decide +kernel
theorem dX1_isInWindow_4 : decode cX1_isInWindow 4 = .ok (.aload_n 0, 1) := by decide +kernel
theorem dX1_isInWindow_5 : decode cX1_isInWindow 5 = .ok (.getfield 24, 3) := by decide +kernel
theorem dX1_isInWindow_8 : decode cX1_isInWindow 8 = .ok (.if_icmp .gt 25, 3) := by decide +kernel
theorem dX1_isInWindow_11 : decode cX1_isInWindow 11 = .ok (.aload_n 0, 1) := by decide +kernel
theorem dX1_isInWindow_12 : decode cX1_isInWindow 12 = .ok (.getfield 21, 3) := by decide +kernel
theorem dX1_isInWindow_15 : decode cX1_isInWindow 15 = .ok (.iload_n 1, 1) := by decide +kernel
theorem dX1_isInWindow_16 : decode cX1_isInWindow 16 = .ok (.if_icmp .gt 15, 3) := by decide +kernel
theorem dX1_isInWindow_19 : decode cX1_isInWindow 19 = .ok (.iload_n 1, 1) := by decide +kernel
theorem dX1_isInWindow_20 : decode cX1_isInWindow 20 = .ok (.aload_n 0, 1) := by decide +kernel
theorem dX1_isInWindow_21 : decode cX1_isInWindow 21 = .ok (.getfield 24, 3) := by decide +kernel
theorem dX1_isInWindow_24 : decode cX1_isInWindow 24 = .ok (.if_icmp .gt 7, 3) := by decide +kernel
theorem dX1_isInWindow_27 : decode cX1_isInWindow 27 = .ok (.iconst 1, 1) := by decide +kernel
theorem dX1_isInWindow_28 : decode cX1_isInWindow 28 = .ok (.goto 4, 3) := by decide +kernel
theorem dX1_isInWindow_31 : decode cX1_isInWindow 31 = .ok (.iconst 0, 1) := by decide +kernel
theorem dX1_isInWindow_32 : decode cX1_isInWindow 32 = .ok (.ireturn, 1) := by decide +kernel
theorem dX1_isInWindow_33 : decode cX1_isInWindow 33 = .ok (.aload_n 0, 1) := by decide +kernel
theorem dX1_isInWindow_34 : decode cX1_isInWindow 34 = .ok (.getfield 21, 3) := by decide +kernel
theorem dX1_isInWindow_37 : decode cX1_isInWindow 37 = .ok (.iload_n 1, 1) := by decide +kernel
theorem dX1_isInWindow_38 : decode cX1_isInWindow 38 = .ok (.if_icmp .le 11, 3) := by decide +kernel
theorem dX1_isInWindow_41 : decode cX1_isInWindow 41 = .ok (.iload_n 1, 1) := by decide +kernel
theorem dX1_isInWindow_42 : decode cX1_isInWindow 42 = .ok (.aload_n 0, 1) := by decide +kernel
theorem dX1_isInWindow_43 : decode cX1_isInWindow 43 = .ok (.getfield 24, 3) := by decide +kernel
theorem dX1_isInWindow_46 : decode cX1_isInWindow 46 = .ok (.if_icmp .gt 7, 3) := by decide +kernel
theorem dX1_isInWindow_49 : decode cX1_isInWindow 49 = .ok (.iconst 1, 1) := by decide +kernel
theorem dX1_isInWindow_50 : decode cX1_isInWindow 50 = .ok (.goto 4, 3) := by decide +kernel
theorem dX1_isInWindow_53 : decode cX1_isInWindow 53 = .ok (.iconst 0, 1) := by decide +kernel
theorem dX1_isInWindow_54 : decode cX1_isInWindow 54 = .ok (.ireturn, 1) := by decide +kernel
theorem dX2_init_0 : decode cX2_init 0 = .ok (.aload_n 0, 1) := by decide +kernel
theorem dX2_init_1 : decode cX2_init 1 = .ok (.invokespecial 3, 3) := by decide +kernel
theorem dX2_init_4 : decode cX2_init 4 = .ok (.aload_n 0, 1) := by decide +kernel
theorem dX2_init_5 : decode cX2_init 5 = .ok (.bipush 8, 2) := by decide +kernel
theorem dX2_init_7 : decode cX2_init 7 = .ok (.newarray .int, 2) := by decide +kernel
theorem dX2_init_9 : decode cX2_init 9 = .ok (.putfield 9, 3) := by decide +kernel
theorem dX2_init_12 : decode cX2_init 12 = .ok (.aload_n 0, 1) := by decide +kernel
theorem dX2_init_13 : decode cX2_init 13 = .ok (.bipush 8, 2) := by decide +kernel
theorem dX2_init_15 : decode cX2_init 15 = .ok (.bipush 8, 2) := by decide +kernel
theorem dX2_init_17 : decode cX2_init 17 = .ok (.multianewarray 15 2, 4) := by decide +kernel
theorem dX2_init_21 : decode cX2_init 21 = .ok (.putfield 17, 3) := by decide +kernel
theorem dX2_init_24 : decode cX2_init 24 = .ok (.aload_n 0, 1) := by decide +kernel
theorem dX2_init_25 : decode cX2_init 25 = .ok (.bipush 8, 2) := by decide +kernel
theorem dX2_init_27 : decode cX2_init 27 = .ok (.bipush 8, 2) := by decide +kernel
theorem dX2_init_29 : decode cX2_init 29 = .ok (.multianewarray 15 2, 4) := by decide +kernel
theorem dX2_init_33 : decode cX2_init 33 = .ok (.putfield 20, 3) := by decide +kernel
theorem dX2_init_36 : decode cX2_init 36 = .ok (.aload_n 0, 1) := by decide +kernel
theorem dX2_init_37 : decode cX2_init 37 = .ok (.bipush 8, 2) := by decide +kernel
theorem dX2_init_39 : decode cX2_init 39 = .ok (.newarray .int, 2) := by decide +kernel
theorem dX2_init_41 : decode cX2_init 41 = .ok (.putfield 23, 3) := by decide +kernel
theorem dX2_init_44 : decode cX2_init 44 = .ok (.aload_n 0, 1) := by decide +kernel
theorem dX2_init_45 : decode cX2_init 45 = .ok (.getfield 9, 3) := by decide +kernel
theorem dX2_init_48 : decode cX2_init 48 = .ok (.iconst (-1), 1) := by decide +kernel
theorem dX2_init_49 : decode cX2_init 49 = .ok (.invokestatic 26, 3) := by decide +kernel
theorem dX2_init_52 : decode cX2_init 52 = .ok (.iconst 0, 1) := by decide +kernel
theorem dX2_init_53 : decode cX2_init 53 = .ok (.istore_n 1, 1) := by decide +kernel
theorem dX2_init_54 : decode cX2_init 54 = .ok (.iload_n 1, 1) := by decide +kernel
theorem dX2_init_55 : decode cX2_init 55 = .ok (.bipush 8, 2) := by decide +kernel
theorem dX2_init_57 : decode cX2_init 57 = .ok (.if_icmp .ge 19, 3) := by decide +kernel
theorem dX2_init_60 : decode cX2_init 60 = .ok (.aload_n 0, 1) := by decide +kernel
theorem dX2_init_61 : decode cX2_init 61 = .ok (.getfield 17, 3) := by decide +kernel
theorem dX2_init_64 : decode cX2_init 64 = .ok (.iload_n 1, 1) := by decide +kernel
theorem dX2_init_65 : decode cX2_init 65 = .ok (.aaload, 1) := by decide +kernel
theorem dX2_init_66 : decode cX2_init 66 = .ok (.iconst (-1), 1) := by decide +kernel
theorem dX2_init_67 : decode cX2_init 67 = .ok (.invokestatic 26, 3) := by decide +kernel
theorem dX2_init_70 : decode cX2_init 70 = .ok (.iinc 1 1, 3) := by decide +kernel
theorem dX2_init_73 : decode cX2_init 73 = .ok (.goto (-19), 3) := by decide +kernel
theorem dX2_init_76 : decode cX2_init 76 = .ok (.aload_n 0, 1) := by decide +kernel
theorem dX2_init_77 : decode cX2_init 77 = .ok (.invokevirtual 32, 3) := by decide +kernel
theorem dX2_init_80 : decode cX2_init 80 = .ok (.return_, 1) := by decide +kernel
theorem dX2_changeImage_0 : decode cX2_changeImage 0 = .ok (.aload_n 0, 1) := by decide +kernel
theorem dX2_changeImage_1 : decode cX2_changeImage 1 = .ok (.getfield 9, 3) := by decide +kernel
theorem dX2_changeImage_4 : decode cX2_changeImage 4 = .ok (.iload_n 1, 1) := by decide +kernel
theorem dX2_changeImage_5 : decode cX2_changeImage 5 = .ok (.iaload, 1) := by decide +kernel
theorem dX2_changeImage_6 : decode cX2_changeImage 6 = .ok (.istore_n 3, 1) := by decide +kernel
theorem dX2_changeImage_7 : decode cX2_changeImage 7 = .ok (.aload_n 0, 1) := by decide +kernel
theorem dX2_changeImage_8 : decode cX2_changeImage 8 = .ok (.getfield 9, 3) := by decide +kernel
theorem dX2_changeImage_11 : decode cX2_changeImage 11 = .ok (.iload_n 1, 1) := by decide +kernel
theorem dX2_changeImage_12 : decode cX2_changeImage 12 = .ok (.iload_n 2, 1) := by decide +kernel
theorem dX2_changeImage_13 : decode cX2_changeImage 13 = .ok (.iastore, 1) := by decide +kernel
theorem dX2_changeImage_14 : decode cX2_changeImage 14 = .ok (.aload_n 0, 1) := by decide +kernel
theorem dX2_changeImage_15 : decode cX2_changeImage 15 = .ok (.invokevirtual 32, 3) := by decide +kernel
theorem dX2_changeImage_18 : decode cX2_changeImage 18 = .ok (.iload_n 3, 1) := by decide +kernel
theorem dX2_changeImage_19 : decode cX2_changeImage 19 = .ok (.ireturn, 1) := by decide +kernel
theorem dX2_changeDelta_0 : decode cX2_changeDelta 0 = .ok (.aload_n 0, 1) := by decide +kernel
theorem dX2_changeDelta_1 : decode cX2_changeDelta 1 = .ok (.getfield 17, 3) := by decide +kernel
theorem dX2_changeDelta_4 : decode cX2_changeDelta 4 = .ok (.iload_n 1, 1) := by decide +kernel
theorem dX2_changeDelta_5 : decode cX2_changeDelta 5 = .ok (.aaload, 1) := by decide +kernel
theorem dX2_changeDelta_6 : decode cX2_changeDelta 6 = .ok (.iload_n 2, 1) := by decide +kernel
theorem dX2_changeDelta_7 : decode cX2_changeDelta 7 = .ok (.iaload, 1) := by decide +kernel
theorem dX2_changeDelta_8 : decode cX2_changeDelta 8 = .ok (.istore 4, 2) := by decide +kernel
theorem dX2_changeDelta_10 : decode cX2_changeDelta 10 = .ok (.aload_n 0, 1) := by decide +kernel
theorem dX2_changeDelta_11 : decode cX2_changeDelta 11 = .ok (.getfield 17, 3) := by decide +kernel
theorem dX2_changeDelta_14 : decode cX2_changeDelta 14 = .ok (.iload_n 1, 1) := by decide +kernel
theorem dX2_changeDelta_15 : decode cX2_changeDelta 15 = .ok (.aaload, 1) := by decide +kernel
theorem dX2_changeDelta_16 : decode cX2_changeDelta 16 = .ok (.iload_n 2, 1) := by decide +kernel
theorem dX2_changeDelta_17 : decode cX2_changeDelta 17 = .ok (.iload_n 3, 1) := by decide +kernel
theorem dX2_changeDelta_18 : decode cX2_changeDelta 18 = .ok (.iastore, 1) := by decide +kernel
theorem dX2_changeDelta_19 : decode cX2_changeDelta 19 = .ok (.aload_n 0, 1) := by decide +kernel
theorem dX2_changeDelta_20 : decode cX2_changeDelta 20 = .ok (.invokevirtual 32, 3) := by decide +kernel
theorem dX2_changeDelta_23 : decode cX2_changeDelta 23 = .ok (.iload 4, 2) := by decide +kernel
theorem dX2_changeDelta_25 : decode cX2_changeDelta 25 = .ok (.ireturn, 1) := by decide +kernel
theorem dX2_leastBytes_0 : decode cX2_leastBytes 0 = .ok (.iload_n 1, 1) := by decide +kernel
theorem dX2_leastBytes_1 : decode cX2_leastBytes 1 = .ok (.iload_n 2, 1) := by decide +kernel
theorem dX2_leastBytes_2 : decode cX2_leastBytes 2 = .ok (.if_icmp .ne 5, 3) := by decide +kernel
theorem dX2_leastBytes_5 : decode cX2_leastBytes 5 = .ok (.iconst 0, 1) := by decide +kernel
theorem dX2_leastBytes_6 : decode cX2_leastBytes 6 = .ok (.ireturn, 1) := by decide +kernel
theorem dX2_leastBytes_7 : decode cX2_leastBytes 7 = .ok (.aload_n 0, 1) := by decide +kernel
theorem dX2_leastBytes_8 : decode cX2_leastBytes 8 = .ok (.getfield 20, 3) := by decide +kernel
theorem dX2_leastBytes_11 : decode cX2_leastBytes 11 = .ok (.iload_n 1, 1) := by decide +kernel
theorem dX2_leastBytes_12 : decode cX2_leastBytes 12 = .ok (.aaload, 1) := by decide +kernel
theorem dX2_leastBytes_13 : decode cX2_leastBytes 13 = .ok (.iload_n 2, 1) := by decide +kernel
theorem dX2_leastBytes_14 : decode cX2_leastBytes 14 = .ok (.iaload, 1) := by decide +kernel
theorem dX2_leastBytes_15 : decode cX2_leastBytes 15 = .ok (.aload_n 0, 1) := by decide +kernel
theorem dX2_leastBytes_16 : decode cX2_leastBytes 16 = .ok (.getfield 23, 3) := by decide +kernel
theorem dX2_leastBytes_19 : decode cX2_leastBytes 19 = .ok (.iload_n 2, 1) := by decide +kernel
theorem dX2_leastBytes_20 : decode cX2_leastBytes 20 = .ok (.iaload, 1) := by decide +kernel
theorem dX2_leastBytes_21 : decode cX2_leastBytes 21 = .ok (.invokestatic 35, 3) := by decide +kernel
theorem dX2_leastBytes_24 : decode cX2_leastBytes 24 = .ok (.invokestatic 41, 3) := by decide +kernel
theorem dX2_leastBytes_27 : decode cX2_leastBytes 27 = .ok (.ireturn, 1) := by decide +kernel
theorem dX2_leastBytesOfAllWays_0 : decode cX2_leastBytesOfAllWays 0 = .ok (.iload_n 1, 1) := by decide +kernel
theorem dX2_leastBytesOfAllWays_1 : decode cX2_leastBytesOfAllWays 1 = .ok (.iload_n 2, 1) := by decide +kernel
theorem dX2_leastBytesOfAllWays_2 : decode cX2_leastBytesOfAllWays 2 = .ok (.if_icmp .ne 5, 3) := by decide +kernel
theorem dX2_leastBytesOfAllWays_5 : decode cX2_leastBytesOfAllWays 5 = .ok (.iconst 0, 1) := by decide +kernel
theorem dX2_leastBytesOfAllWays_6 : decode cX2_leastBytesOfAllWays 6 = .ok (.ireturn, 1) := by decide +kernel
theorem dX2_leastBytesOfAllWays_7 : decode cX2_leastBytesOfAllWays 7 = .ok (.aload_n 0, 1) := by decide +kernel
theorem dX2_leastBytesOfAllWays_8 : decode cX2_leastBytesOfAllWays 8 = .ok (.getfield 17, 3) := by decide +kernel
theorem dX2_leastBytesOfAllWays_11 : decode cX2_leastBytesOfAllWays 11 = .ok (.iload_n 1, 1) := by decide +kernel
theorem dX2_leastBytesOfAllWays_12 : decode cX2_leastBytesOfAllWays 12 = .ok (.iload_n 2, 1) := by decide +kernel
theorem dX2_leastBytesOfAllWays_13 : decode cX2_leastBytesOfAllWays 13 = .ok (.iconst 1, 1) := by decide +kernel
theorem dX2_leastBytesOfAllWays_14 : decode cX2_leastBytesOfAllWays 14 = .ok (.iload_n 1, 1) := by decide +kernel
theorem dX2_leastBytesOfAllWays_15 : decode cX2_leastBytesOfAllWays 15 = .ok (.ishl, 1) := by decide +kernel
theorem dX2_leastBytesOfAllWays_16 : decode cX2_leastBytesOfAllWays 16 = .ok (.iconst 0, 1) := by decide +kernel
theorem dX2_leastBytesOfAllWays_17 : decode cX2_leastBytesOfAllWays 17 = .ok (.invokestatic 45, 3) := by decide +kernel
theorem dX2_leastBytesOfAllWays_20 : decode cX2_leastBytesOfAllWays 20 = .ok (.istore_n 3, 1) := by decide +kernel
theorem dX2_leastBytesOfAllWays_21 : decode cX2_leastBytesOfAllWays 21 = .ok (.iconst 0, 1) := by decide +kernel
theorem dX2_leastBytesOfAllWays_22 : decode cX2_leastBytesOfAllWays 22 = .ok (.istore 4, 2) := by decide +kernel
theorem dX2_leastBytesOfAllWays_24 : decode cX2_leastBytesOfAllWays 24 = .ok (.iload 4, 2) := by decide +kernel
theorem dX2_leastBytesOfAllWays_26 : decode cX2_leastBytesOfAllWays 26 = .ok (.bipush 8, 2) := by decide +kernel
theorem dX2_leastBytesOfAllWays_28 : decode cX2_leastBytesOfAllWays 28 = .ok (.if_icmp .ge 48, 3) := by decide +kernel
theorem dX2_leastBytesOfAllWays_31 : decode cX2_leastBytesOfAllWays 31 = .ok (.aload_n 0, 1) := by decide +kernel
theorem dX2_leastBytesOfAllWays_32 : decode cX2_leastBytesOfAllWays 32 = .ok (.getfield 9, 3) := by decide +kernel
theorem dX2_leastBytesOfAllWays_35 : decode cX2_leastBytesOfAllWays 35 = .ok (.iload 4, 2) := by decide +kernel
theorem dX2_leastBytesOfAllWays_37 : decode cX2_leastBytesOfAllWays 37 = .ok (.iaload, 1) := by decide +kernel
theorem dX2_leastBytesOfAllWays_38 : decode cX2_leastBytesOfAllWays 38 = .ok (.iconst (-1), 1) := by decide +kernel
theorem dX2_leastBytesOfAllWays_39 : decode cX2_leastBytesOfAllWays 39 = .ok (.if_icmp .eq 31, 3) := by decide +kernel
theorem dX2_leastBytesOfAllWays_42 : decode cX2_leastBytesOfAllWays 42 = .ok (.iload_n 3, 1) := by decide +kernel
theorem dX2_leastBytesOfAllWays_43 : decode cX2_leastBytesOfAllWays 43 = .ok (.aload_n 0, 1) := by decide +kernel
theorem dX2_leastBytesOfAllWays_44 : decode cX2_leastBytesOfAllWays 44 = .ok (.getfield 9, 3) := by decide +kernel
theorem dX2_leastBytesOfAllWays_47 : decode cX2_leastBytesOfAllWays 47 = .ok (.iload 4, 2) := by decide +kernel
theorem dX2_leastBytesOfAllWays_49 : decode cX2_leastBytesOfAllWays 49 = .ok (.iaload, 1) := by decide +kernel
theorem dX2_leastBytesOfAllWays_50 : decode cX2_leastBytesOfAllWays 50 = .ok (.aload_n 0, 1) := by decide +kernel
theorem dX2_leastBytesOfAllWays_51 : decode cX2_leastBytesOfAllWays 51 = .ok (.getfield 17, 3) := by decide +kernel
theorem dX2_leastBytesOfAllWays_54 : decode cX2_leastBytesOfAllWays 54 = .ok (.iload 4, 2) := by decide +kernel
theorem dX2_leastBytesOfAllWays_56 : decode cX2_leastBytesOfAllWays 56 = .ok (.iload_n 2, 1) := by decide +kernel
theorem dX2_leastBytesOfAllWays_57 : decode cX2_leastBytesOfAllWays 57 = .ok (.iconst 1, 1) := by decide +kernel
theorem dX2_leastBytesOfAllWays_58 : decode cX2_leastBytesOfAllWays 58 = .ok (.iload 4, 2) := by decide +kernel
theorem dX2_leastBytesOfAllWays_60 : decode cX2_leastBytesOfAllWays 60 = .ok (.ishl, 1) := by decide +kernel
theorem dX2_leastBytesOfAllWays_61 : decode cX2_leastBytesOfAllWays 61 = .ok (.iconst 0, 1) := by decide +kernel
theorem dX2_leastBytesOfAllWays_62 : decode cX2_leastBytesOfAllWays 62 = .ok (.invokestatic 45, 3) := by decide +kernel
theorem dX2_leastBytesOfAllWays_65 : decode cX2_leastBytesOfAllWays 65 = .ok (.iadd, 1) := by decide +kernel
theorem dX2_leastBytesOfAllWays_66 : decode cX2_leastBytesOfAllWays 66 = .ok (.invokestatic 35, 3) := by decide +kernel
theorem dX2_leastBytesOfAllWays_69 : decode cX2_leastBytesOfAllWays 69 = .ok (.istore_n 3, 1) := by decide +kernel
theorem dX2_leastBytesOfAllWays_70 : decode cX2_leastBytesOfAllWays 70 = .ok (.iinc 4 1, 3) := by decide +kernel
theorem dX2_leastBytesOfAllWays_73 : decode cX2_leastBytesOfAllWays 73 = .ok (.goto (-49), 3) := by decide +kernel
theorem dX2_leastBytesOfAllWays_76 : decode cX2_leastBytesOfAllWays 76 = .ok (.iload_n 3, 1) := by decide +kernel
theorem dX2_leastBytesOfAllWays_77 : decode cX2_leastBytesOfAllWays 77 = .ok (.invokestatic 41, 3) := by decide +kernel
theorem dX2_leastBytesOfAllWays_80 : decode cX2_leastBytesOfAllWays 80 = .ok (.ireturn, 1) := by decide +kernel
theorem dX2_leastAlong_0 : decode cX2_leastAlong 0 = .ok (.iload_n 1, 1) := by decide +kernel
theorem dX2_leastAlong_1 : decode cX2_leastAlong 1 = .ok (.iload_n 2, 1) := by decide +kernel
theorem dX2_leastAlong_2 : decode cX2_leastAlong 2 = .ok (.if_icmp .ne 5, 3) := by decide +kernel
theorem dX2_leastAlong_5 : decode cX2_leastAlong 5 = .ok (.iconst 0, 1) := by decide +kernel
theorem dX2_leastAlong_6 : decode cX2_leastAlong 6 = .ok (.ireturn, 1) := by decide +kernel
theorem dX2_leastAlong_7 : decode cX2_leastAlong 7 = .ok (.iload 4, 2) := by decide +kernel
theorem dX2_leastAlong_9 : decode cX2_leastAlong 9 = .ok (.bipush 8, 2) := by decide +kernel
theorem dX2_leastAlong_11 : decode cX2_leastAlong 11 = .ok (.if_icmp .lt 6, 3) := by decide +kernel
theorem dX2_leastAlong_14 : decode cX2_leastAlong 14 = .ok (.ldc 49, 2) := by decide +kernel
theorem dX2_leastAlong_16 : decode cX2_leastAlong 16 = .ok (.ireturn, 1) := by decide +kernel
theorem dX2_leastAlong_17 : decode cX2_leastAlong 17 = .ok (.ldc 49, 2) := by decide +kernel
theorem dX2_leastAlong_19 : decode cX2_leastAlong 19 = .ok (.istore 5, 2) := by decide +kernel
theorem dX2_leastAlong_21 : decode cX2_leastAlong 21 = .ok (.iconst 0, 1) := by decide +kernel
theorem dX2_leastAlong_22 : decode cX2_leastAlong 22 = .ok (.istore 6, 2) := by decide +kernel
theorem dX2_leastAlong_24 : decode cX2_leastAlong 24 = .ok (.iload 6, 2) := by decide +kernel
theorem dX2_leastAlong_26 : decode cX2_leastAlong 26 = .ok (.bipush 8, 2) := by decide +kernel
theorem dX2_leastAlong_28 : decode cX2_leastAlong 28 = .ok (.if_icmp .ge 63, 3) := by decide +kernel
theorem dX2_leastAlong_31 : decode cX2_leastAlong 31 = .ok (.iload_n 3, 1) := by decide +kernel
theorem dX2_leastAlong_32 : decode cX2_leastAlong 32 = .ok (.iload 6, 2) := by decide +kernel
theorem dX2_leastAlong_34 : decode cX2_leastAlong 34 = .ok (.invokestatic 50, 3) := by decide +kernel
theorem dX2_leastAlong_37 : decode cX2_leastAlong 37 = .ok (.ifCond .ne 48, 3) := by decide +kernel
theorem dX2_leastAlong_40 : decode cX2_leastAlong 40 = .ok (.aload_n 0, 1) := by decide +kernel
theorem dX2_leastAlong_41 : decode cX2_leastAlong 41 = .ok (.iload_n 1, 1) := by decide +kernel
theorem dX2_leastAlong_42 : decode cX2_leastAlong 42 = .ok (.aaload, 1) := by decide +kernel
theorem dX2_leastAlong_43 : decode cX2_leastAlong 43 = .ok (.iload 6, 2) := by decide +kernel
theorem dX2_leastAlong_45 : decode cX2_leastAlong 45 = .ok (.iaload, 1) := by decide +kernel
theorem dX2_leastAlong_46 : decode cX2_leastAlong 46 = .ok (.iconst (-1), 1) := by decide +kernel
theorem dX2_leastAlong_47 : decode cX2_leastAlong 47 = .ok (.if_icmp .eq 38, 3) := by decide +kernel
theorem dX2_leastAlong_50 : decode cX2_leastAlong 50 = .ok (.aload_n 0, 1) := by decide +kernel
theorem dX2_leastAlong_51 : decode cX2_leastAlong 51 = .ok (.iload 6, 2) := by decide +kernel
theorem dX2_leastAlong_53 : decode cX2_leastAlong 53 = .ok (.iload_n 2, 1) := by decide +kernel
theorem dX2_leastAlong_54 : decode cX2_leastAlong 54 = .ok (.iload_n 3, 1) := by decide +kernel
theorem dX2_leastAlong_55 : decode cX2_leastAlong 55 = .ok (.iconst 1, 1) := by decide +kernel
theorem dX2_leastAlong_56 : decode cX2_leastAlong 56 = .ok (.iload 6, 2) := by decide +kernel
theorem dX2_leastAlong_58 : decode cX2_leastAlong 58 = .ok (.ishl, 1) := by decide +kernel
theorem dX2_leastAlong_59 : decode cX2_leastAlong 59 = .ok (.ior, 1) := by decide +kernel
theorem dX2_leastAlong_60 : decode cX2_leastAlong 60 = .ok (.iload 4, 2) := by decide +kernel
theorem dX2_leastAlong_62 : decode cX2_leastAlong 62 = .ok (.iconst 1, 1) := by decide +kernel
theorem dX2_leastAlong_63 : decode cX2_leastAlong 63 = .ok (.iadd, 1) := by decide +kernel
theorem dX2_leastAlong_64 : decode cX2_leastAlong 64 = .ok (.invokestatic 45, 3) := by decide +kernel
theorem dX2_leastAlong_67 : decode cX2_leastAlong 67 = .ok (.istore 7, 2) := by decide +kernel
theorem dX2_leastAlong_69 : decode cX2_leastAlong 69 = .ok (.iload 5, 2) := by decide +kernel
theorem dX2_leastAlong_71 : decode cX2_leastAlong 71 = .ok (.aload_n 0, 1) := by decide +kernel
theorem dX2_leastAlong_72 : decode cX2_leastAlong 72 = .ok (.iload_n 1, 1) := by decide +kernel
theorem dX2_leastAlong_73 : decode cX2_leastAlong 73 = .ok (.aaload, 1) := by decide +kernel
theorem dX2_leastAlong_74 : decode cX2_leastAlong 74 = .ok (.iload 6, 2) := by decide +kernel
theorem dX2_leastAlong_76 : decode cX2_leastAlong 76 = .ok (.iaload, 1) := by decide +kernel
theorem dX2_leastAlong_77 : decode cX2_leastAlong 77 = .ok (.iload 7, 2) := by decide +kernel
theorem dX2_leastAlong_79 : decode cX2_leastAlong 79 = .ok (.iadd, 1) := by decide +kernel
theorem dX2_leastAlong_80 : decode cX2_leastAlong 80 = .ok (.invokestatic 35, 3) := by decide +kernel
theorem dX2_leastAlong_83 : decode cX2_leastAlong 83 = .ok (.istore 5, 2) := by decide +kernel
theorem dX2_leastAlong_85 : decode cX2_leastAlong 85 = .ok (.iinc 6 1, 3) := by decide +kernel
theorem dX2_leastAlong_88 : decode cX2_leastAlong 88 = .ok (.goto (-64), 3) := by decide +kernel
theorem dX2_leastAlong_91 : decode cX2_leastAlong 91 = .ok (.iload 5, 2) := by decide +kernel
theorem dX2_leastAlong_93 : decode cX2_leastAlong 93 = .ok (.ireturn, 1) := by decide +kernel
theorem dX2_measure_0 : decode cX2_measure 0 = .ok (.iconst 0, 1) := by decide +kernel
theorem dX2_measure_1 : decode cX2_measure 1 = .ok (.istore_n 1, 1) := by decide +kernel
theorem dX2_measure_2 : decode cX2_measure 2 = .ok (.iload_n 1, 1) := by decide +kernel
theorem dX2_measure_3 : decode cX2_measure 3 = .ok (.bipush 8, 2) := by decide +kernel
theorem dX2_measure_5 : decode cX2_measure 5 = .ok (.if_icmp .ge 51, 3) := by decide +kernel
theorem dX2_measure_8 : decode cX2_measure 8 = .ok (.iconst 0, 1) := by decide +kernel
theorem dX2_measure_9 : decode cX2_measure 9 = .ok (.istore_n 2, 1) := by decide +kernel
theorem dX2_measure_10 : decode cX2_measure 10 = .ok (.iload_n 2, 1) := by decide +kernel
theorem dX2_measure_11 : decode cX2_measure 11 = .ok (.bipush 8, 2) := by decide +kernel
theorem dX2_measure_13 : decode cX2_measure 13 = .ok (.if_icmp .ge 37, 3) := by decide +kernel
theorem dX2_measure_16 : decode cX2_measure 16 = .ok (.aload_n 0, 1) := by decide +kernel
theorem dX2_measure_17 : decode cX2_measure 17 = .ok (.getfield 20, 3) := by decide +kernel
theorem dX2_measure_20 : decode cX2_measure 20 = .ok (.iload_n 1, 1) := by decide +kernel
theorem dX2_measure_21 : decode cX2_measure 21 = .ok (.aaload, 1) := by decide +kernel
theorem dX2_measure_22 : decode cX2_measure 22 = .ok (.iload_n 2, 1) := by decide +kernel
theorem dX2_measure_23 : decode cX2_measure 23 = .ok (.iload_n 1, 1) := by decide +kernel
theorem dX2_measure_24 : decode cX2_measure 24 = .ok (.iload_n 2, 1) := by decide +kernel
theorem dX2_measure_25 : decode cX2_measure 25 = .ok (.if_icmp .ne 7, 3) := by decide +kernel
theorem dX2_measure_28 : decode cX2_measure 28 = .ok (.iconst 0, 1) := by decide +kernel
theorem dX2_measure_29 : decode cX2_measure 29 = .ok (.goto 14, 3) := by decide +kernel
theorem dX2_measure_32 : decode cX2_measure 32 = .ok (.aload_n 0, 1) := by decide +kernel
theorem dX2_measure_33 : decode cX2_measure 33 = .ok (.getfield 17, 3) := by decide +kernel
theorem dX2_measure_36 : decode cX2_measure 36 = .ok (.iload_n 1, 1) := by decide +kernel
theorem dX2_measure_37 : decode cX2_measure 37 = .ok (.aaload, 1) := by decide +kernel
theorem dX2_measure_38 : decode cX2_measure 38 = .ok (.iload_n 2, 1) := by decide +kernel
theorem dX2_measure_39 : decode cX2_measure 39 = .ok (.iaload, 1) := by decide +kernel
theorem dX2_measure_40 : decode cX2_measure 40 = .ok (.invokestatic 54, 3) := by decide +kernel
theorem dX2_measure_43 : decode cX2_measure 43 = .ok (.iastore, 1) := by decide +kernel
theorem dX2_measure_44 : decode cX2_measure 44 = .ok (.iinc 2 1, 3) := by decide +kernel
theorem dX2_measure_47 : decode cX2_measure 47 = .ok (.goto (-37), 3) := by decide +kernel
theorem dX2_measure_50 : decode cX2_measure 50 = .ok (.iinc 1 1, 3) := by decide +kernel
theorem dX2_measure_53 : decode cX2_measure 53 = .ok (.goto (-51), 3) := by decide +kernel
theorem dX2_measure_56 : decode cX2_measure 56 = .ok (.iconst 0, 1) := by decide +kernel
theorem dX2_measure_57 : decode cX2_measure 57 = .ok (.istore_n 1, 1) := by decide +kernel
theorem dX2_measure_58 : decode cX2_measure 58 = .ok (.iload_n 1, 1) := by decide +kernel
theorem dX2_measure_59 : decode cX2_measure 59 = .ok (.bipush 8, 2) := by decide +kernel
theorem dX2_measure_61 : decode cX2_measure 61 = .ok (.if_icmp .ge 14, 3) := by decide +kernel
theorem dX2_measure_64 : decode cX2_measure 64 = .ok (.aload_n 0, 1) := by decide +kernel
theorem dX2_measure_65 : decode cX2_measure 65 = .ok (.iload_n 1, 1) := by decide +kernel
theorem dX2_measure_66 : decode cX2_measure 66 = .ok (.invokevirtual 57, 3) := by decide +kernel
theorem dX2_measure_69 : decode cX2_measure 69 = .ok (.iinc 1 1, 3) := by decide +kernel
theorem dX2_measure_72 : decode cX2_measure 72 = .ok (.goto (-14), 3) := by decide +kernel
theorem dX2_measure_75 : decode cX2_measure 75 = .ok (.iconst 0, 1) := by decide +kernel
theorem dX2_measure_76 : decode cX2_measure 76 = .ok (.istore_n 1, 1) := by decide +kernel
theorem dX2_measure_77 : decode cX2_measure 77 = .ok (.iload_n 1, 1) := by decide +kernel
theorem dX2_measure_78 : decode cX2_measure 78 = .ok (.bipush 8, 2) := by decide +kernel
theorem dX2_measure_80 : decode cX2_measure 80 = .ok (.if_icmp .ge 64, 3) := by decide +kernel
theorem dX2_measure_83 : decode cX2_measure 83 = .ok (.aload_n 0, 1) := by decide +kernel
theorem dX2_measure_84 : decode cX2_measure 84 = .ok (.getfield 23, 3) := by decide +kernel
theorem dX2_measure_87 : decode cX2_measure 87 = .ok (.iload_n 1, 1) := by decide +kernel
theorem dX2_measure_88 : decode cX2_measure 88 = .ok (.ldc 49, 2) := by decide +kernel
theorem dX2_measure_90 : decode cX2_measure 90 = .ok (.iastore, 1) := by decide +kernel
theorem dX2_measure_91 : decode cX2_measure 91 = .ok (.iconst 0, 1) := by decide +kernel
theorem dX2_measure_92 : decode cX2_measure 92 = .ok (.istore_n 2, 1) := by decide +kernel
theorem dX2_measure_93 : decode cX2_measure 93 = .ok (.iload_n 2, 1) := by decide +kernel
theorem dX2_measure_94 : decode cX2_measure 94 = .ok (.bipush 8, 2) := by decide +kernel
theorem dX2_measure_96 : decode cX2_measure 96 = .ok (.if_icmp .ge 42, 3) := by decide +kernel
theorem dX2_measure_99 : decode cX2_measure 99 = .ok (.aload_n 0, 1) := by decide +kernel
theorem dX2_measure_100 : decode cX2_measure 100 = .ok (.getfield 23, 3) := by decide +kernel
theorem dX2_measure_103 : decode cX2_measure 103 = .ok (.iload_n 1, 1) := by decide +kernel
theorem dX2_measure_104 : decode cX2_measure 104 = .ok (.aload_n 0, 1) := by decide +kernel
theorem dX2_measure_105 : decode cX2_measure 105 = .ok (.getfield 23, 3) := by decide +kernel
theorem dX2_measure_108 : decode cX2_measure 108 = .ok (.iload_n 1, 1) := by decide +kernel
theorem dX2_measure_109 : decode cX2_measure 109 = .ok (.iaload, 1) := by decide +kernel
theorem dX2_measure_110 : decode cX2_measure 110 = .ok (.aload_n 0, 1) := by decide +kernel
theorem dX2_measure_111 : decode cX2_measure 111 = .ok (.getfield 9, 3) := by decide +kernel
theorem dX2_measure_114 : decode cX2_measure 114 = .ok (.iload_n 2, 1) := by decide +kernel
theorem dX2_measure_115 : decode cX2_measure 115 = .ok (.iaload, 1) := by decide +kernel
theorem dX2_measure_116 : decode cX2_measure 116 = .ok (.invokestatic 54, 3) := by decide +kernel
theorem dX2_measure_119 : decode cX2_measure 119 = .ok (.aload_n 0, 1) := by decide +kernel
theorem dX2_measure_120 : decode cX2_measure 120 = .ok (.getfield 20, 3) := by decide +kernel
theorem dX2_measure_123 : decode cX2_measure 123 = .ok (.iload_n 2, 1) := by decide +kernel
theorem dX2_measure_124 : decode cX2_measure 124 = .ok (.aaload, 1) := by decide +kernel
theorem dX2_measure_125 : decode cX2_measure 125 = .ok (.iload_n 1, 1) := by decide +kernel
theorem dX2_measure_126 : decode cX2_measure 126 = .ok (.iaload, 1) := by decide +kernel
theorem dX2_measure_127 : decode cX2_measure 127 = .ok (.iadd, 1) := by decide +kernel
theorem dX2_measure_128 : decode cX2_measure 128 = .ok (.invokestatic 35, 3) := by decide +kernel
theorem dX2_measure_131 : decode cX2_measure 131 = .ok (.iastore, 1) := by decide +kernel
theorem dX2_measure_132 : decode cX2_measure 132 = .ok (.iinc 2 1, 3) := by decide +kernel
theorem dX2_measure_135 : decode cX2_measure 135 = .ok (.goto (-42), 3) := by decide +kernel
theorem dX2_measure_138 : decode cX2_measure 138 = .ok (.iinc 1 1, 3) := by decide +kernel
theorem dX2_measure_141 : decode cX2_measure 141 = .ok (.goto (-64), 3) := by decide +kernel
theorem dX2_measure_144 : decode cX2_measure 144 = .ok (.return_, 1) := by decide +kernel
theorem dX2_measureVia_0 : decode cX2_measureVia 0 = .ok (.iconst 0, 1) := by decide +kernel
theorem dX2_measureVia_1 : decode cX2_measureVia 1 = .ok (.istore_n 2, 1) := by decide +kernel
theorem dX2_measureVia_2 : decode cX2_measureVia 2 = .ok (.iload_n 2, 1) := by decide +kernel
theorem dX2_measureVia_3 : decode cX2_measureVia 3 = .ok (.bipush 8, 2) := by decide +kernel
theorem dX2_measureVia_5 : decode cX2_measureVia 5 = .ok (.if_icmp .ge 63, 3) := by decide +kernel
theorem dX2_measureVia_8 : decode cX2_measureVia 8 = .ok (.iconst 0, 1) := by decide +kernel
theorem dX2_measureVia_9 : decode cX2_measureVia 9 = .ok (.istore_n 3, 1) := by decide +kernel
theorem dX2_measureVia_10 : decode cX2_measureVia 10 = .ok (.iload_n 3, 1) := by decide +kernel
theorem dX2_measureVia_11 : decode cX2_measureVia 11 = .ok (.bipush 8, 2) := by decide +kernel
theorem dX2_measureVia_13 : decode cX2_measureVia 13 = .ok (.if_icmp .ge 49, 3) := by decide +kernel
theorem dX2_measureVia_16 : decode cX2_measureVia 16 = .ok (.aload_n 0, 1) := by decide +kernel
theorem dX2_measureVia_17 : decode cX2_measureVia 17 = .ok (.getfield 20, 3) := by decide +kernel
theorem dX2_measureVia_20 : decode cX2_measureVia 20 = .ok (.iload_n 2, 1) := by decide +kernel
theorem dX2_measureVia_21 : decode cX2_measureVia 21 = .ok (.aaload, 1) := by decide +kernel
theorem dX2_measureVia_22 : decode cX2_measureVia 22 = .ok (.iload_n 1, 1) := by decide +kernel
theorem dX2_measureVia_23 : decode cX2_measureVia 23 = .ok (.iaload, 1) := by decide +kernel
theorem dX2_measureVia_24 : decode cX2_measureVia 24 = .ok (.aload_n 0, 1) := by decide +kernel
theorem dX2_measureVia_25 : decode cX2_measureVia 25 = .ok (.getfield 20, 3) := by decide +kernel
theorem dX2_measureVia_28 : decode cX2_measureVia 28 = .ok (.iload_n 1, 1) := by decide +kernel
theorem dX2_measureVia_29 : decode cX2_measureVia 29 = .ok (.aaload, 1) := by decide +kernel
theorem dX2_measureVia_30 : decode cX2_measureVia 30 = .ok (.iload_n 3, 1) := by decide +kernel
theorem dX2_measureVia_31 : decode cX2_measureVia 31 = .ok (.iaload, 1) := by decide +kernel
theorem dX2_measureVia_32 : decode cX2_measureVia 32 = .ok (.iadd, 1) := by decide +kernel
theorem dX2_measureVia_33 : decode cX2_measureVia 33 = .ok (.istore 4, 2) := by decide +kernel
theorem dX2_measureVia_35 : decode cX2_measureVia 35 = .ok (.aload_n 0, 1) := by decide +kernel
theorem dX2_measureVia_36 : decode cX2_measureVia 36 = .ok (.getfield 20, 3) := by decide +kernel
theorem dX2_measureVia_39 : decode cX2_measureVia 39 = .ok (.iload_n 2, 1) := by decide +kernel
theorem dX2_measureVia_40 : decode cX2_measureVia 40 = .ok (.aaload, 1) := by decide +kernel
theorem dX2_measureVia_41 : decode cX2_measureVia 41 = .ok (.iload_n 3, 1) := by decide +kernel
theorem dX2_measureVia_42 : decode cX2_measureVia 42 = .ok (.aload_n 0, 1) := by decide +kernel
theorem dX2_measureVia_43 : decode cX2_measureVia 43 = .ok (.getfield 20, 3) := by decide +kernel
theorem dX2_measureVia_46 : decode cX2_measureVia 46 = .ok (.iload_n 2, 1) := by decide +kernel
theorem dX2_measureVia_47 : decode cX2_measureVia 47 = .ok (.aaload, 1) := by decide +kernel
theorem dX2_measureVia_48 : decode cX2_measureVia 48 = .ok (.iload_n 3, 1) := by decide +kernel
theorem dX2_measureVia_49 : decode cX2_measureVia 49 = .ok (.iaload, 1) := by decide +kernel
theorem dX2_measureVia_50 : decode cX2_measureVia 50 = .ok (.iload 4, 2) := by decide +kernel
theorem dX2_measureVia_52 : decode cX2_measureVia 52 = .ok (.invokestatic 35, 3) := by decide +kernel
theorem dX2_measureVia_55 : decode cX2_measureVia 55 = .ok (.iastore, 1) := by decide +kernel
theorem dX2_measureVia_56 : decode cX2_measureVia 56 = .ok (.iinc 3 1, 3) := by decide +kernel
theorem dX2_measureVia_59 : decode cX2_measureVia 59 = .ok (.goto (-49), 3) := by decide +kernel
theorem dX2_measureVia_62 : decode cX2_measureVia 62 = .ok (.iinc 2 1, 3) := by decide +kernel
theorem dX2_measureVia_65 : decode cX2_measureVia 65 = .ok (.goto (-63), 3) := by decide +kernel
theorem dX2_measureVia_68 : decode cX2_measureVia 68 = .ok (.return_, 1) := by decide +kernel
theorem dX2_orFar_0 : decode cX2_orFar 0 = .ok (.iload_n 0, 1) := by decide +kernel
theorem dX2_orFar_1 : decode cX2_orFar 1 = .ok (.iconst (-1), 1) := by decide +kernel
theorem dX2_orFar_2 : decode cX2_orFar 2 = .ok (.if_icmp .ne 8, 3) := by decide +kernel
theorem dX2_orFar_5 : decode cX2_orFar 5 = .ok (.ldc 49, 2) := by decide +kernel
theorem dX2_orFar_7 : decode cX2_orFar 7 = .ok (.goto 4, 3) := by decide +kernel
theorem dX2_orFar_10 : decode cX2_orFar 10 = .ok (.iload_n 0, 1) := by decide +kernel
theorem dX2_orFar_11 : decode cX2_orFar 11 = .ok (.ireturn, 1) := by decide +kernel
theorem dX2_orNone_0 : decode cX2_orNone 0 = .ok (.iload_n 0, 1) := by decide +kernel
theorem dX2_orNone_1 : decode cX2_orNone 1 = .ok (.ldc 49, 2) := by decide +kernel
theorem dX2_orNone_3 : decode cX2_orNone 3 = .ok (.if_icmp .lt 7, 3) := by decide +kernel
theorem dX2_orNone_6 : decode cX2_orNone 6 = .ok (.iconst (-1), 1) := by decide +kernel
theorem dX2_orNone_7 : decode cX2_orNone 7 = .ok (.goto 4, 3) := by decide +kernel
theorem dX2_orNone_10 : decode cX2_orNone 10 = .ok (.iload_n 0, 1) := by decide +kernel
theorem dX2_orNone_11 : decode cX2_orNone 11 = .ok (.ireturn, 1) := by decide +kernel
theorem dX3_init_0 : decode cX3_init 0 = .ok (.aload_n 0, 1) := by decide +kernel
theorem dX3_init_1 : decode cX3_init 1 = .ok (.invokespecial 1, 3) := by decide +kernel
theorem dX3_init_4 : decode cX3_init 4 = .ok (.aload_n 0, 1) := by decide +kernel
theorem dX3_init_5 : decode cX3_init 5 = .ok (.bipush 8, 2) := by decide +kernel
theorem dX3_init_7 : decode cX3_init 7 = .ok (.newarray .int, 2) := by decide +kernel
theorem dX3_init_9 : decode cX3_init 9 = .ok (.putfield 9, 3) := by decide +kernel
theorem dX3_init_12 : decode cX3_init 12 = .ok (.aload_n 0, 1) := by decide +kernel
theorem dX3_init_13 : decode cX3_init 13 = .ok (.new 13, 3) := by decide +kernel
theorem dX3_init_16 : decode cX3_init 16 = .ok (.dup, 1) := by decide +kernel
theorem dX3_init_17 : decode cX3_init 17 = .ok (.invokespecial 15, 3) := by decide +kernel
theorem dX3_init_20 : decode cX3_init 20 = .ok (.putfield 16, 3) := by decide +kernel
theorem dX3_init_23 : decode cX3_init 23 = .ok (.aload_n 0, 1) := by decide +kernel
theorem dX3_init_24 : decode cX3_init 24 = .ok (.bipush 10, 2) := by decide +kernel
theorem dX3_init_26 : decode cX3_init 26 = .ok (.anewarray 20, 3) := by decide +kernel
theorem dX3_init_29 : decode cX3_init 29 = .ok (.putfield 22, 3) := by decide +kernel
theorem dX3_init_32 : decode cX3_init 32 = .ok (.aload_n 0, 1) := by decide +kernel
theorem dX3_init_33 : decode cX3_init 33 = .ok (.bipush 6, 2) := by decide +kernel
theorem dX3_init_35 : decode cX3_init 35 = .ok (.anewarray 26, 3) := by decide +kernel
theorem dX3_init_38 : decode cX3_init 38 = .ok (.putfield 28, 3) := by decide +kernel
theorem dX3_init_41 : decode cX3_init 41 = .ok (.aload_n 0, 1) := by decide +kernel
theorem dX3_init_42 : decode cX3_init 42 = .ok (.iconst 0, 1) := by decide +kernel
theorem dX3_init_43 : decode cX3_init 43 = .ok (.putfield 32, 3) := by decide +kernel
theorem dX3_init_46 : decode cX3_init 46 = .ok (.aload_n 0, 1) := by decide +kernel
theorem dX3_init_47 : decode cX3_init 47 = .ok (.iconst 0, 1) := by decide +kernel
theorem dX3_init_48 : decode cX3_init 48 = .ok (.putfield 36, 3) := by decide +kernel
theorem dX3_init_51 : decode cX3_init 51 = .ok (.aload_n 0, 1) := by decide +kernel
theorem dX3_init_52 : decode cX3_init 52 = .ok (.iconst 0, 1) := by decide +kernel
theorem dX3_init_53 : decode cX3_init 53 = .ok (.putfield 39, 3) := by decide +kernel
theorem dX3_init_56 : decode cX3_init 56 = .ok (.aload_n 0, 1) := by decide +kernel
theorem dX3_init_57 : decode cX3_init 57 = .ok (.getfield 9, 3) := by decide +kernel
theorem dX3_init_60 : decode cX3_init 60 = .ok (.bipush 15, 2) := by decide +kernel
theorem dX3_init_62 : decode cX3_init 62 = .ok (.invokestatic 42, 3) := by decide +kernel
theorem dX3_init_65 : decode cX3_init 65 = .ok (.iconst 0, 1) := by decide +kernel
theorem dX3_init_66 : decode cX3_init 66 = .ok (.istore_n 1, 1) := by decide +kernel
theorem dX3_init_67 : decode cX3_init 67 = .ok (.iload_n 1, 1) := by decide +kernel
theorem dX3_init_68 : decode cX3_init 68 = .ok (.bipush 10, 2) := by decide +kernel
theorem dX3_init_70 : decode cX3_init 70 = .ok (.if_icmp .ge 23, 3) := by decide +kernel
theorem dX3_init_73 : decode cX3_init 73 = .ok (.aload_n 0, 1) := by decide +kernel
theorem dX3_init_74 : decode cX3_init 74 = .ok (.getfield 22, 3) := by decide +kernel
theorem dX3_init_77 : decode cX3_init 77 = .ok (.iload_n 1, 1) := by decide +kernel
theorem dX3_init_78 : decode cX3_init 78 = .ok (.new 20, 3) := by decide +kernel
theorem dX3_init_81 : decode cX3_init 81 = .ok (.dup, 1) := by decide +kernel
theorem dX3_init_82 : decode cX3_init 82 = .ok (.iload_n 1, 1) := by decide +kernel
theorem dX3_init_83 : decode cX3_init 83 = .ok (.invokespecial 48, 3) := by decide +kernel
theorem dX3_init_86 : decode cX3_init 86 = .ok (.aastore, 1) := by decide +kernel
theorem dX3_init_87 : decode cX3_init 87 = .ok (.iinc 1 1, 3) := by decide +kernel
theorem dX3_init_90 : decode cX3_init 90 = .ok (.goto (-23), 3) := by decide +kernel
theorem dX3_init_93 : decode cX3_init 93 = .ok (.iconst 0, 1) := by decide +kernel
theorem dX3_init_94 : decode cX3_init 94 = .ok (.istore_n 1, 1) := by decide +kernel
theorem dX3_init_95 : decode cX3_init 95 = .ok (.iload_n 1, 1) := by decide +kernel
theorem dX3_init_96 : decode cX3_init 96 = .ok (.bipush 6, 2) := by decide +kernel
theorem dX3_init_98 : decode cX3_init 98 = .ok (.if_icmp .ge 23, 3) := by decide +kernel
theorem dX3_init_101 : decode cX3_init 101 = .ok (.aload_n 0, 1) := by decide +kernel
theorem dX3_init_102 : decode cX3_init 102 = .ok (.getfield 28, 3) := by decide +kernel
theorem dX3_init_105 : decode cX3_init 105 = .ok (.iload_n 1, 1) := by decide +kernel
theorem dX3_init_106 : decode cX3_init 106 = .ok (.new 26, 3) := by decide +kernel
theorem dX3_init_109 : decode cX3_init 109 = .ok (.dup, 1) := by decide +kernel
theorem dX3_init_110 : decode cX3_init 110 = .ok (.iload_n 1, 1) := by decide +kernel
theorem dX3_init_111 : decode cX3_init 111 = .ok (.invokespecial 51, 3) := by decide +kernel
theorem dX3_init_114 : decode cX3_init 114 = .ok (.aastore, 1) := by decide +kernel
theorem dX3_init_115 : decode cX3_init 115 = .ok (.iinc 1 1, 3) := by decide +kernel
theorem dX3_init_118 : decode cX3_init 118 = .ok (.goto (-23), 3) := by decide +kernel
theorem dX3_init_121 : decode cX3_init 121 = .ok (.return_, 1) := by decide +kernel
theorem dX3_allow_0 : decode cX3_allow 0 = .ok (.iload_n 1, 1) := by decide +kernel
theorem dX3_allow_1 : decode cX3_allow 1 = .ok (.invokestatic 52, 3) := by decide +kernel
theorem dX3_allow_4 : decode cX3_allow 4 = .ok (.iload_n 2, 1) := by decide +kernel
theorem dX3_allow_5 : decode cX3_allow 5 = .ok (.iconst 0, 1) := by decide +kernel
theorem dX3_allow_6 : decode cX3_allow 6 = .ok (.bipush 15, 2) := by decide +kernel
theorem dX3_allow_8 : decode cX3_allow 8 = .ok (.invokestatic 55, 3) := by decide +kernel
theorem dX3_allow_11 : decode cX3_allow 11 = .ok (.aload_n 0, 1) := by decide +kernel
theorem dX3_allow_12 : decode cX3_allow 12 = .ok (.getfield 9, 3) := by decide +kernel
theorem dX3_allow_15 : decode cX3_allow 15 = .ok (.iload_n 1, 1) := by decide +kernel
theorem dX3_allow_16 : decode cX3_allow 16 = .ok (.iaload, 1) := by decide +kernel
theorem dX3_allow_17 : decode cX3_allow 17 = .ok (.istore_n 3, 1) := by decide +kernel
theorem dX3_allow_18 : decode cX3_allow 18 = .ok (.aload_n 0, 1) := by decide +kernel
theorem dX3_allow_19 : decode cX3_allow 19 = .ok (.getfield 9, 3) := by decide +kernel
theorem dX3_allow_22 : decode cX3_allow 22 = .ok (.iload_n 1, 1) := by decide +kernel
theorem dX3_allow_23 : decode cX3_allow 23 = .ok (.iload_n 2, 1) := by decide +kernel
theorem dX3_allow_24 : decode cX3_allow 24 = .ok (.iastore, 1) := by decide +kernel
theorem dX3_allow_25 : decode cX3_allow 25 = .ok (.iload_n 3, 1) := by decide +kernel
theorem dX3_allow_26 : decode cX3_allow 26 = .ok (.ireturn, 1) := by decide +kernel
theorem dX3_setImage_0 : decode cX3_setImage 0 = .ok (.iload_n 1, 1) := by decide +kernel
theorem dX3_setImage_1 : decode cX3_setImage 1 = .ok (.invokestatic 52, 3) := by decide +kernel
theorem dX3_setImage_4 : decode cX3_setImage 4 = .ok (.iload_n 2, 1) := by decide +kernel
theorem dX3_setImage_5 : decode cX3_setImage 5 = .ok (.invokestatic 59, 3) := by decide +kernel
theorem dX3_setImage_8 : decode cX3_setImage 8 = .ok (.aload_n 0, 1) := by decide +kernel
theorem dX3_setImage_9 : decode cX3_setImage 9 = .ok (.getfield 16, 3) := by decide +kernel
theorem dX3_setImage_12 : decode cX3_setImage 12 = .ok (.iload_n 1, 1) := by decide +kernel
theorem dX3_setImage_13 : decode cX3_setImage 13 = .ok (.iload_n 2, 1) := by decide +kernel
theorem dX3_setImage_14 : decode cX3_setImage 14 = .ok (.invokevirtual 62, 3) := by decide +kernel
theorem dX3_setImage_17 : decode cX3_setImage 17 = .ok (.ireturn, 1) := by decide +kernel
theorem dX3_setDelta_0 : decode cX3_setDelta 0 = .ok (.iload_n 1, 1) := by decide +kernel
theorem dX3_setDelta_1 : decode cX3_setDelta 1 = .ok (.invokestatic 52, 3) := by decide +kernel
theorem dX3_setDelta_4 : decode cX3_setDelta 4 = .ok (.iload_n 2, 1) := by decide +kernel
theorem dX3_setDelta_5 : decode cX3_setDelta 5 = .ok (.invokestatic 52, 3) := by decide +kernel
theorem dX3_setDelta_8 : decode cX3_setDelta 8 = .ok (.iload_n 1, 1) := by decide +kernel
theorem dX3_setDelta_9 : decode cX3_setDelta 9 = .ok (.iload_n 2, 1) := by decide +kernel
theorem dX3_setDelta_10 : decode cX3_setDelta 10 = .ok (.if_icmp .ne 13, 3) := by decide +kernel
theorem dX3_setDelta_13 : decode cX3_setDelta 13 = .ok (.new 66, 3) := by decide +kernel
theorem dX3_setDelta_16 : decode cX3_setDelta 16 = .ok (.dup, 1) := by decide +kernel
theorem dX3_setDelta_17 : decode cX3_setDelta 17 = .ok (.ldc 68, 2) := by decide +kernel
theorem dX3_setDelta_19 : decode cX3_setDelta 19 = .ok (.invokespecial 70, 3) := by decide +kernel
theorem dX3_setDelta_22 : decode cX3_setDelta 22 = .ok (.athrow, 1) := by decide +kernel
theorem dX3_setDelta_23 : decode cX3_setDelta 23 = .ok (.iload_n 3, 1) := by decide +kernel
theorem dX3_setDelta_24 : decode cX3_setDelta 24 = .ok (.invokestatic 59, 3) := by decide +kernel
theorem dX3_setDelta_27 : decode cX3_setDelta 27 = .ok (.aload_n 0, 1) := by decide +kernel
theorem dX3_setDelta_28 : decode cX3_setDelta 28 = .ok (.getfield 16, 3) := by decide +kernel
theorem dX3_setDelta_31 : decode cX3_setDelta 31 = .ok (.iload_n 1, 1) := by decide +kernel
theorem dX3_setDelta_32 : decode cX3_setDelta 32 = .ok (.iload_n 2, 1) := by decide +kernel
theorem dX3_setDelta_33 : decode cX3_setDelta 33 = .ok (.iload_n 3, 1) := by decide +kernel
theorem dX3_setDelta_34 : decode cX3_setDelta 34 = .ok (.invokevirtual 73, 3) := by decide +kernel
theorem dX3_setDelta_37 : decode cX3_setDelta 37 = .ok (.ireturn, 1) := by decide +kernel
theorem dX3_size_0 : decode cX3_size 0 = .ok (.iload_n 1, 1) := by decide +kernel
theorem dX3_size_1 : decode cX3_size 1 = .ok (.invokestatic 52, 3) := by decide +kernel
theorem dX3_size_4 : decode cX3_size 4 = .ok (.iload_n 2, 1) := by decide +kernel
theorem dX3_size_5 : decode cX3_size 5 = .ok (.invokestatic 52, 3) := by decide +kernel
theorem dX3_size_8 : decode cX3_size 8 = .ok (.aload_n 0, 1) := by decide +kernel
theorem dX3_size_9 : decode cX3_size 9 = .ok (.getfield 16, 3) := by decide +kernel
theorem dX3_size_12 : decode cX3_size 12 = .ok (.iload_n 1, 1) := by decide +kernel
theorem dX3_size_13 : decode cX3_size 13 = .ok (.iload_n 2, 1) := by decide +kernel
theorem dX3_size_14 : decode cX3_size 14 = .ok (.invokevirtual 77, 3) := by decide +kernel
theorem dX3_size_17 : decode cX3_size 17 = .ok (.ireturn, 1) := by decide +kernel
theorem dX3_sizeByWays_0 : decode cX3_sizeByWays 0 = .ok (.iload_n 1, 1) := by decide +kernel
theorem dX3_sizeByWays_1 : decode cX3_sizeByWays 1 = .ok (.invokestatic 52, 3) := by decide +kernel
theorem dX3_sizeByWays_4 : decode cX3_sizeByWays 4 = .ok (.iload_n 2, 1) := by decide +kernel
theorem dX3_sizeByWays_5 : decode cX3_sizeByWays 5 = .ok (.invokestatic 52, 3) := by decide +kernel
theorem dX3_sizeByWays_8 : decode cX3_sizeByWays 8 = .ok (.aload_n 0, 1) := by decide +kernel
theorem dX3_sizeByWays_9 : decode cX3_sizeByWays 9 = .ok (.getfield 16, 3) := by decide +kernel
theorem dX3_sizeByWays_12 : decode cX3_sizeByWays 12 = .ok (.iload_n 1, 1) := by decide +kernel
theorem dX3_sizeByWays_13 : decode cX3_sizeByWays 13 = .ok (.iload_n 2, 1) := by decide +kernel
theorem dX3_sizeByWays_14 : decode cX3_sizeByWays 14 = .ok (.invokevirtual 80, 3) := by decide +kernel
theorem dX3_sizeByWays_17 : decode cX3_sizeByWays 17 = .ok (.ireturn, 1) := by decide +kernel
theorem dX3_addDevice_0 : decode cX3_addDevice 0 = .ok (.iload_n 1, 1) := by decide +kernel
theorem dX3_addDevice_1 : decode cX3_addDevice 1 = .ok (.ifCond .lt 8, 3) := by decide +kernel
theorem dX3_addDevice_4 : decode cX3_addDevice 4 = .ok (.iload_n 1, 1) := by decide +kernel
theorem dX3_addDevice_5 : decode cX3_addDevice 5 = .ok (.iconst 4, 1) := by decide +kernel
theorem dX3_addDevice_6 : decode cX3_addDevice 6 = .ok (.if_icmp .lt 13, 3) := by decide +kernel
theorem dX3_addDevice_9 : decode cX3_addDevice 9 = .ok (.new 83, 3) := by decide +kernel
theorem dX3_addDevice_12 : decode cX3_addDevice 12 = .ok (.dup, 1) := by decide +kernel
theorem dX3_addDevice_13 : decode cX3_addDevice 13 = .ok (.ldc 85, 2) := by decide +kernel
theorem dX3_addDevice_15 : decode cX3_addDevice 15 = .ok (.invokespecial 87, 3) := by decide +kernel
theorem dX3_addDevice_18 : decode cX3_addDevice 18 = .ok (.athrow, 1) := by decide +kernel
theorem dX3_addDevice_19 : decode cX3_addDevice 19 = .ok (.iload_n 2, 1) := by decide +kernel
theorem dX3_addDevice_20 : decode cX3_addDevice 20 = .ok (.invokestatic 52, 3) := by decide +kernel
theorem dX3_addDevice_23 : decode cX3_addDevice 23 = .ok (.aload_n 0, 1) := by decide +kernel
theorem dX3_addDevice_24 : decode cX3_addDevice 24 = .ok (.getfield 32, 3) := by decide +kernel
theorem dX3_addDevice_27 : decode cX3_addDevice 27 = .ok (.bipush 10, 2) := by decide +kernel
theorem dX3_addDevice_29 : decode cX3_addDevice 29 = .ok (.if_icmp .lt 13, 3) := by decide +kernel
theorem dX3_addDevice_32 : decode cX3_addDevice 32 = .ok (.new 88, 3) := by decide +kernel
theorem dX3_addDevice_35 : decode cX3_addDevice 35 = .ok (.dup, 1) := by decide +kernel
theorem dX3_addDevice_36 : decode cX3_addDevice 36 = .ok (.ldc 90, 2) := by decide +kernel
theorem dX3_addDevice_38 : decode cX3_addDevice 38 = .ok (.invokespecial 92, 3) := by decide +kernel
theorem dX3_addDevice_41 : decode cX3_addDevice 41 = .ok (.athrow, 1) := by decide +kernel
theorem dX3_addDevice_42 : decode cX3_addDevice 42 = .ok (.aload_n 0, 1) := by decide +kernel
theorem dX3_addDevice_43 : decode cX3_addDevice 43 = .ok (.getfield 9, 3) := by decide +kernel
theorem dX3_addDevice_46 : decode cX3_addDevice 46 = .ok (.iload_n 2, 1) := by decide +kernel
theorem dX3_addDevice_47 : decode cX3_addDevice 47 = .ok (.iaload, 1) := by decide +kernel
theorem dX3_addDevice_48 : decode cX3_addDevice 48 = .ok (.iload_n 1, 1) := by decide +kernel
theorem dX3_addDevice_49 : decode cX3_addDevice 49 = .ok (.invokestatic 93, 3) := by decide +kernel
theorem dX3_addDevice_52 : decode cX3_addDevice 52 = .ok (.ifCond .ne 13, 3) := by decide +kernel
theorem dX3_addDevice_55 : decode cX3_addDevice 55 = .ok (.new 88, 3) := by decide +kernel
theorem dX3_addDevice_58 : decode cX3_addDevice 58 = .ok (.dup, 1) := by decide +kernel
theorem dX3_addDevice_59 : decode cX3_addDevice 59 = .ok (.ldc 97, 2) := by decide +kernel
theorem dX3_addDevice_61 : decode cX3_addDevice 61 = .ok (.invokespecial 92, 3) := by decide +kernel
theorem dX3_addDevice_64 : decode cX3_addDevice 64 = .ok (.athrow, 1) := by decide +kernel
theorem dX3_addDevice_65 : decode cX3_addDevice 65 = .ok (.aload_n 0, 1) := by decide +kernel
theorem dX3_addDevice_66 : decode cX3_addDevice 66 = .ok (.getfield 22, 3) := by decide +kernel
theorem dX3_addDevice_69 : decode cX3_addDevice 69 = .ok (.aload_n 0, 1) := by decide +kernel
theorem dX3_addDevice_70 : decode cX3_addDevice 70 = .ok (.getfield 32, 3) := by decide +kernel
theorem dX3_addDevice_73 : decode cX3_addDevice 73 = .ok (.aaload, 1) := by decide +kernel
theorem dX3_addDevice_74 : decode cX3_addDevice 74 = .ok (.astore_n 3, 1) := by decide +kernel
theorem dX3_addDevice_75 : decode cX3_addDevice 75 = .ok (.aload_n 3, 1) := by decide +kernel
theorem dX3_addDevice_76 : decode cX3_addDevice 76 = .ok (.iload_n 1, 1) := by decide +kernel
theorem dX3_addDevice_77 : decode cX3_addDevice 77 = .ok (.putfield 99, 3) := by decide +kernel
theorem dX3_addDevice_80 : decode cX3_addDevice 80 = .ok (.aload_n 3, 1) := by decide +kernel
theorem dX3_addDevice_81 : decode cX3_addDevice 81 = .ok (.iload_n 2, 1) := by decide +kernel
theorem dX3_addDevice_82 : decode cX3_addDevice 82 = .ok (.putfield 102, 3) := by decide +kernel
theorem dX3_addDevice_85 : decode cX3_addDevice 85 = .ok (.aload_n 0, 1) := by decide +kernel
theorem dX3_addDevice_86 : decode cX3_addDevice 86 = .ok (.dup, 1) := by decide +kernel
theorem dX3_addDevice_87 : decode cX3_addDevice 87 = .ok (.getfield 32, 3) := by decide +kernel
theorem dX3_addDevice_90 : decode cX3_addDevice 90 = .ok (.iconst 1, 1) := by decide +kernel
theorem dX3_addDevice_91 : decode cX3_addDevice 91 = .ok (.iadd, 1) := by decide +kernel
theorem dX3_addDevice_92 : decode cX3_addDevice 92 = .ok (.putfield 32, 3) := by decide +kernel
theorem dX3_addDevice_95 : decode cX3_addDevice 95 = .ok (.aload_n 3, 1) := by decide +kernel
theorem dX3_addDevice_96 : decode cX3_addDevice 96 = .ok (.getfield 105, 3) := by decide +kernel
theorem dX3_addDevice_99 : decode cX3_addDevice 99 = .ok (.ireturn, 1) := by decide +kernel
theorem dX3_charge_0 : decode cX3_charge 0 = .ok (.aload_n 0, 1) := by decide +kernel
theorem dX3_charge_1 : decode cX3_charge 1 = .ok (.iload_n 1, 1) := by decide +kernel
theorem dX3_charge_2 : decode cX3_charge 2 = .ok (.invokevirtual 108, 3) := by decide +kernel
theorem dX3_charge_5 : decode cX3_charge 5 = .ok (.astore_n 3, 1) := by decide +kernel
theorem dX3_charge_6 : decode cX3_charge 6 = .ok (.iload_n 2, 1) := by decide +kernel
theorem dX3_charge_7 : decode cX3_charge 7 = .ok (.iconst 0, 1) := by decide +kernel
theorem dX3_charge_8 : decode cX3_charge 8 = .ok (.bipush 100, 2) := by decide +kernel
theorem dX3_charge_10 : decode cX3_charge 10 = .ok (.invokestatic 55, 3) := by decide +kernel
theorem dX3_charge_13 : decode cX3_charge 13 = .ok (.aload_n 3, 1) := by decide +kernel
theorem dX3_charge_14 : decode cX3_charge 14 = .ok (.getfield 112, 3) := by decide +kernel
theorem dX3_charge_17 : decode cX3_charge 17 = .ok (.istore 4, 2) := by decide +kernel
theorem dX3_charge_19 : decode cX3_charge 19 = .ok (.aload_n 3, 1) := by decide +kernel
theorem dX3_charge_20 : decode cX3_charge 20 = .ok (.iload_n 2, 1) := by decide +kernel
theorem dX3_charge_21 : decode cX3_charge 21 = .ok (.putfield 112, 3) := by decide +kernel
theorem dX3_charge_24 : decode cX3_charge 24 = .ok (.iload 4, 2) := by decide +kernel
theorem dX3_charge_26 : decode cX3_charge 26 = .ok (.ireturn, 1) := by decide +kernel
theorem dX3_setWindow_0 : decode cX3_setWindow 0 = .ok (.aload_n 0, 1) := by decide +kernel
theorem dX3_setWindow_1 : decode cX3_setWindow 1 = .ok (.iload_n 1, 1) := by decide +kernel
theorem dX3_setWindow_2 : decode cX3_setWindow 2 = .ok (.invokevirtual 108, 3) := by decide +kernel
theorem dX3_setWindow_5 : decode cX3_setWindow 5 = .ok (.astore 4, 2) := by decide +kernel
theorem dX3_setWindow_7 : decode cX3_setWindow 7 = .ok (.iload_n 2, 1) := by decide +kernel
theorem dX3_setWindow_8 : decode cX3_setWindow 8 = .ok (.iconst 0, 1) := by decide +kernel
theorem dX3_setWindow_9 : decode cX3_setWindow 9 = .ok (.bipush 23, 2) := by decide +kernel
theorem dX3_setWindow_11 : decode cX3_setWindow 11 = .ok (.invokestatic 55, 3) := by decide +kernel
theorem dX3_setWindow_14 : decode cX3_setWindow 14 = .ok (.iload_n 3, 1) := by decide +kernel
theorem dX3_setWindow_15 : decode cX3_setWindow 15 = .ok (.iconst 0, 1) := by decide +kernel
theorem dX3_setWindow_16 : decode cX3_setWindow 16 = .ok (.bipush 23, 2) := by decide +kernel
theorem dX3_setWindow_18 : decode cX3_setWindow 18 = .ok (.invokestatic 55, 3) := by decide +kernel
theorem dX3_setWindow_21 : decode cX3_setWindow 21 = .ok (.aload 4, 2) := by decide +kernel
theorem dX3_setWindow_23 : decode cX3_setWindow 23 = .ok (.iload_n 2, 1) := by decide +kernel
theorem dX3_setWindow_24 : decode cX3_setWindow 24 = .ok (.putfield 115, 3) := by decide +kernel
theorem dX3_setWindow_27 : decode cX3_setWindow 27 = .ok (.aload 4, 2) := by decide +kernel
theorem dX3_setWindow_29 : decode cX3_setWindow 29 = .ok (.iload_n 3, 1) := by decide +kernel
theorem dX3_setWindow_30 : decode cX3_setWindow 30 = .ok (.putfield 118, 3) := by decide +kernel
theorem dX3_setWindow_33 : decode cX3_setWindow 33 = .ok (.return_, 1) := by decide +kernel
theorem dX3_report_0 : decode cX3_report 0 = .ok (.aload_n 0, 1) := by decide +kernel
theorem dX3_report_1 : decode cX3_report 1 = .ok (.iload_n 1, 1) := by decide +kernel
theorem dX3_report_2 : decode cX3_report 2 = .ok (.invokevirtual 108, 3) := by decide +kernel
theorem dX3_report_5 : decode cX3_report 5 = .ok (.astore_n 3, 1) := by decide +kernel
theorem dX3_report_6 : decode cX3_report 6 = .ok (.aload_n 3, 1) := by decide +kernel
theorem dX3_report_7 : decode cX3_report 7 = .ok (.getfield 121, 3) := by decide +kernel
theorem dX3_report_10 : decode cX3_report 10 = .ok (.iconst 2, 1) := by decide +kernel
theorem dX3_report_11 : decode cX3_report 11 = .ok (.if_icmp .eq 13, 3) := by decide +kernel
theorem dX3_report_14 : decode cX3_report 14 = .ok (.new 88, 3) := by decide +kernel
theorem dX3_report_17 : decode cX3_report 17 = .ok (.dup, 1) := by decide +kernel
theorem dX3_report_18 : decode cX3_report 18 = .ok (.ldc 124, 2) := by decide +kernel
theorem dX3_report_20 : decode cX3_report 20 = .ok (.invokespecial 92, 3) := by decide +kernel
theorem dX3_report_23 : decode cX3_report 23 = .ok (.athrow, 1) := by decide +kernel
theorem dX3_report_24 : decode cX3_report 24 = .ok (.aload_n 0, 1) := by decide +kernel
theorem dX3_report_25 : decode cX3_report 25 = .ok (.aload_n 3, 1) := by decide +kernel
theorem dX3_report_26 : decode cX3_report 26 = .ok (.getfield 126, 3) := by decide +kernel
theorem dX3_report_29 : decode cX3_report 29 = .ok (.invokevirtual 129, 3) := by decide +kernel
theorem dX3_report_32 : decode cX3_report 32 = .ok (.astore 4, 2) := by decide +kernel
theorem dX3_report_34 : decode cX3_report 34 = .ok (.iload_n 2, 1) := by decide +kernel
theorem dX3_report_35 : decode cX3_report 35 = .ok (.ifCond .eq 12, 3) := by decide +kernel
theorem dX3_report_38 : decode cX3_report 38 = .ok (.aload_n 3, 1) := by decide +kernel
theorem dX3_report_39 : decode cX3_report 39 = .ok (.aload 4, 2) := by decide +kernel
theorem dX3_report_41 : decode cX3_report 41 = .ok (.getfield 133, 3) := by decide +kernel
theorem dX3_report_44 : decode cX3_report 44 = .ok (.putfield 102, 3) := by decide +kernel
theorem dX3_report_47 : decode cX3_report 47 = .ok (.aload_n 3, 1) := by decide +kernel
theorem dX3_report_48 : decode cX3_report 48 = .ok (.iconst 0, 1) := by decide +kernel
theorem dX3_report_49 : decode cX3_report 49 = .ok (.putfield 121, 3) := by decide +kernel
theorem dX3_report_52 : decode cX3_report 52 = .ok (.aload_n 3, 1) := by decide +kernel
theorem dX3_report_53 : decode cX3_report 53 = .ok (.iconst (-1), 1) := by decide +kernel
theorem dX3_report_54 : decode cX3_report 54 = .ok (.putfield 126, 3) := by decide +kernel
theorem dX3_report_57 : decode cX3_report 57 = .ok (.aload 4, 2) := by decide +kernel
theorem dX3_report_59 : decode cX3_report 59 = .ok (.aload_n 3, 1) := by decide +kernel
theorem dX3_report_60 : decode cX3_report 60 = .ok (.iload_n 2, 1) := by decide +kernel
theorem dX3_report_61 : decode cX3_report 61 = .ok (.invokevirtual 136, 3) := by decide +kernel
theorem dX3_report_64 : decode cX3_report 64 = .ok (.aload 4, 2) := by decide +kernel
theorem dX3_report_66 : decode cX3_report 66 = .ok (.invokevirtual 140, 3) := by decide +kernel
theorem dX3_report_69 : decode cX3_report 69 = .ok (.aload_n 3, 1) := by decide +kernel
theorem dX3_report_70 : decode cX3_report 70 = .ok (.getfield 102, 3) := by decide +kernel
theorem dX3_report_73 : decode cX3_report 73 = .ok (.ireturn, 1) := by decide +kernel
theorem dX3_devices_0 : decode cX3_devices 0 = .ok (.aload_n 0, 1) := by decide +kernel
theorem dX3_devices_1 : decode cX3_devices 1 = .ok (.getfield 32, 3) := by decide +kernel
theorem dX3_devices_4 : decode cX3_devices 4 = .ok (.ireturn, 1) := by decide +kernel
theorem dX3_state_0 : decode cX3_state 0 = .ok (.aload_n 0, 1) := by decide +kernel
theorem dX3_state_1 : decode cX3_state 1 = .ok (.iload_n 1, 1) := by decide +kernel
theorem dX3_state_2 : decode cX3_state 2 = .ok (.invokevirtual 108, 3) := by decide +kernel
theorem dX3_state_5 : decode cX3_state 5 = .ok (.getfield 121, 3) := by decide +kernel
theorem dX3_state_8 : decode cX3_state 8 = .ok (.ireturn, 1) := by decide +kernel
theorem dX3_version_0 : decode cX3_version 0 = .ok (.aload_n 0, 1) := by decide +kernel
theorem dX3_version_1 : decode cX3_version 1 = .ok (.iload_n 1, 1) := by decide +kernel
theorem dX3_version_2 : decode cX3_version 2 = .ok (.invokevirtual 108, 3) := by decide +kernel
theorem dX3_version_5 : decode cX3_version 5 = .ok (.getfield 102, 3) := by decide +kernel
theorem dX3_version_8 : decode cX3_version 8 = .ok (.ireturn, 1) := by decide +kernel
theorem dX3_campaignOf_0 : decode cX3_campaignOf 0 = .ok (.aload_n 0, 1) := by decide +kernel
theorem dX3_campaignOf_1 : decode cX3_campaignOf 1 = .ok (.iload_n 1, 1) := by decide +kernel
theorem dX3_campaignOf_2 : decode cX3_campaignOf 2 = .ok (.invokevirtual 108, 3) := by decide +kernel
theorem dX3_campaignOf_5 : decode cX3_campaignOf 5 = .ok (.getfield 126, 3) := by decide +kernel
theorem dX3_campaignOf_8 : decode cX3_campaignOf 8 = .ok (.ireturn, 1) := by decide +kernel
theorem dX3_toGo_0 : decode cX3_toGo 0 = .ok (.aload_n 0, 1) := by decide +kernel
theorem dX3_toGo_1 : decode cX3_toGo 1 = .ok (.iload_n 1, 1) := by decide +kernel
theorem dX3_toGo_2 : decode cX3_toGo 2 = .ok (.invokevirtual 108, 3) := by decide +kernel
theorem dX3_toGo_5 : decode cX3_toGo 5 = .ok (.getfield 143, 3) := by decide +kernel
theorem dX3_toGo_8 : decode cX3_toGo 8 = .ok (.ireturn, 1) := by decide +kernel
theorem dX3_battery_0 : decode cX3_battery 0 = .ok (.aload_n 0, 1) := by decide +kernel
theorem dX3_battery_1 : decode cX3_battery 1 = .ok (.iload_n 1, 1) := by decide +kernel
theorem dX3_battery_2 : decode cX3_battery 2 = .ok (.invokevirtual 108, 3) := by decide +kernel
theorem dX3_battery_5 : decode cX3_battery 5 = .ok (.getfield 112, 3) := by decide +kernel
theorem dX3_battery_8 : decode cX3_battery 8 = .ok (.ireturn, 1) := by decide +kernel
theorem dX3_begin_0 : decode cX3_begin 0 = .ok (.iload_n 1, 1) := by decide +kernel
theorem dX3_begin_1 : decode cX3_begin 1 = .ok (.invokestatic 52, 3) := by decide +kernel
theorem dX3_begin_4 : decode cX3_begin 4 = .ok (.iload 4, 2) := by decide +kernel
theorem dX3_begin_6 : decode cX3_begin 6 = .ok (.iconst (-1), 1) := by decide +kernel
theorem dX3_begin_7 : decode cX3_begin 7 = .ok (.if_icmp .eq 9, 3) := by decide +kernel
theorem dX3_begin_10 : decode cX3_begin 10 = .ok (.aload_n 0, 1) := by decide +kernel
theorem dX3_begin_11 : decode cX3_begin 11 = .ok (.iload 4, 2) := by decide +kernel
theorem dX3_begin_13 : decode cX3_begin 13 = .ok (.invokevirtual 146, 3) := by decide +kernel
theorem dX3_begin_16 : decode cX3_begin 16 = .ok (.iload_n 2, 1) := by decide +kernel
theorem dX3_begin_17 : decode cX3_begin 17 = .ok (.iconst 0, 1) := by decide +kernel
theorem dX3_begin_18 : decode cX3_begin 18 = .ok (.bipush 15, 2) := by decide +kernel
theorem dX3_begin_20 : decode cX3_begin 20 = .ok (.invokestatic 55, 3) := by decide +kernel
theorem dX3_begin_23 : decode cX3_begin 23 = .ok (.iload_n 3, 1) := by decide +kernel
theorem dX3_begin_24 : decode cX3_begin 24 = .ok (.iconst 0, 1) := by decide +kernel
theorem dX3_begin_25 : decode cX3_begin 25 = .ok (.sipush 255, 3) := by decide +kernel
theorem dX3_begin_28 : decode cX3_begin 28 = .ok (.invokestatic 55, 3) := by decide +kernel
theorem dX3_begin_31 : decode cX3_begin 31 = .ok (.aload_n 0, 1) := by decide +kernel
theorem dX3_begin_32 : decode cX3_begin 32 = .ok (.getfield 36, 3) := by decide +kernel
theorem dX3_begin_35 : decode cX3_begin 35 = .ok (.bipush 6, 2) := by decide +kernel
theorem dX3_begin_37 : decode cX3_begin 37 = .ok (.if_icmp .lt 13, 3) := by decide +kernel
theorem dX3_begin_40 : decode cX3_begin 40 = .ok (.new 88, 3) := by decide +kernel
theorem dX3_begin_43 : decode cX3_begin 43 = .ok (.dup, 1) := by decide +kernel
theorem dX3_begin_44 : decode cX3_begin 44 = .ok (.ldc 149, 2) := by decide +kernel
theorem dX3_begin_46 : decode cX3_begin 46 = .ok (.invokespecial 92, 3) := by decide +kernel
theorem dX3_begin_49 : decode cX3_begin 49 = .ok (.athrow, 1) := by decide +kernel
theorem dX3_begin_50 : decode cX3_begin 50 = .ok (.iload 4, 2) := by decide +kernel
theorem dX3_begin_52 : decode cX3_begin 52 = .ok (.iconst (-1), 1) := by decide +kernel
theorem dX3_begin_53 : decode cX3_begin 53 = .ok (.if_icmp .eq 13, 3) := by decide +kernel
theorem dX3_begin_56 : decode cX3_begin 56 = .ok (.aload_n 0, 1) := by decide +kernel
theorem dX3_begin_57 : decode cX3_begin 57 = .ok (.iload 4, 2) := by decide +kernel
theorem dX3_begin_59 : decode cX3_begin 59 = .ok (.invokevirtual 129, 3) := by decide +kernel
theorem dX3_begin_62 : decode cX3_begin 62 = .ok (.iconst 0, 1) := by decide +kernel
theorem dX3_begin_63 : decode cX3_begin 63 = .ok (.putfield 151, 3) := by decide +kernel
theorem dX3_begin_66 : decode cX3_begin 66 = .ok (.aload_n 0, 1) := by decide +kernel
theorem dX3_begin_67 : decode cX3_begin 67 = .ok (.getfield 28, 3) := by decide +kernel
theorem dX3_begin_70 : decode cX3_begin 70 = .ok (.aload_n 0, 1) := by decide +kernel
theorem dX3_begin_71 : decode cX3_begin 71 = .ok (.getfield 36, 3) := by decide +kernel
theorem dX3_begin_74 : decode cX3_begin 74 = .ok (.aaload, 1) := by decide +kernel
theorem dX3_begin_75 : decode cX3_begin 75 = .ok (.astore 5, 2) := by decide +kernel
theorem dX3_begin_77 : decode cX3_begin 77 = .ok (.aload 5, 2) := by decide +kernel
theorem dX3_begin_79 : decode cX3_begin 79 = .ok (.iload_n 1, 1) := by decide +kernel
theorem dX3_begin_80 : decode cX3_begin 80 = .ok (.putfield 133, 3) := by decide +kernel
theorem dX3_begin_83 : decode cX3_begin 83 = .ok (.aload 5, 2) := by decide +kernel
theorem dX3_begin_85 : decode cX3_begin 85 = .ok (.iload_n 2, 1) := by decide +kernel
theorem dX3_begin_86 : decode cX3_begin 86 = .ok (.putfield 155, 3) := by decide +kernel
theorem dX3_begin_89 : decode cX3_begin 89 = .ok (.aload 5, 2) := by decide +kernel
theorem dX3_begin_91 : decode cX3_begin 91 = .ok (.iload_n 3, 1) := by decide +kernel
theorem dX3_begin_92 : decode cX3_begin 92 = .ok (.putfield 158, 3) := by decide +kernel
theorem dX3_begin_95 : decode cX3_begin 95 = .ok (.aload_n 0, 1) := by decide +kernel
theorem dX3_begin_96 : decode cX3_begin 96 = .ok (.dup, 1) := by decide +kernel
theorem dX3_begin_97 : decode cX3_begin 97 = .ok (.getfield 36, 3) := by decide +kernel
theorem dX3_begin_100 : decode cX3_begin 100 = .ok (.iconst 1, 1) := by decide +kernel
theorem dX3_begin_101 : decode cX3_begin 101 = .ok (.iadd, 1) := by decide +kernel
theorem dX3_begin_102 : decode cX3_begin 102 = .ok (.putfield 36, 3) := by decide +kernel
theorem dX3_begin_105 : decode cX3_begin 105 = .ok (.aload 5, 2) := by decide +kernel
theorem dX3_begin_107 : decode cX3_begin 107 = .ok (.getfield 161, 3) := by decide +kernel
theorem dX3_begin_110 : decode cX3_begin 110 = .ok (.ireturn, 1) := by decide +kernel
theorem dX3_setRules_0 : decode cX3_setRules 0 = .ok (.aload_n 0, 1) := by decide +kernel
theorem dX3_setRules_1 : decode cX3_setRules 1 = .ok (.iload_n 1, 1) := by decide +kernel
theorem dX3_setRules_2 : decode cX3_setRules 2 = .ok (.invokevirtual 129, 3) := by decide +kernel
theorem dX3_setRules_5 : decode cX3_setRules 5 = .ok (.astore 6, 2) := by decide +kernel
theorem dX3_setRules_7 : decode cX3_setRules 7 = .ok (.iload_n 2, 1) := by decide +kernel
theorem dX3_setRules_8 : decode cX3_setRules 8 = .ok (.iconst 0, 1) := by decide +kernel
theorem dX3_setRules_9 : decode cX3_setRules 9 = .ok (.bipush 100, 2) := by decide +kernel
theorem dX3_setRules_11 : decode cX3_setRules 11 = .ok (.invokestatic 55, 3) := by decide +kernel
theorem dX3_setRules_14 : decode cX3_setRules 14 = .ok (.iload_n 3, 1) := by decide +kernel
theorem dX3_setRules_15 : decode cX3_setRules 15 = .ok (.iload_n 2, 1) := by decide +kernel
theorem dX3_setRules_16 : decode cX3_setRules 16 = .ok (.bipush 100, 2) := by decide +kernel
theorem dX3_setRules_18 : decode cX3_setRules 18 = .ok (.invokestatic 55, 3) := by decide +kernel
theorem dX3_setRules_21 : decode cX3_setRules 21 = .ok (.iload 4, 2) := by decide +kernel
theorem dX3_setRules_23 : decode cX3_setRules 23 = .ok (.iconst 1, 1) := by decide +kernel
theorem dX3_setRules_24 : decode cX3_setRules 24 = .ok (.bipush 10, 2) := by decide +kernel
theorem dX3_setRules_26 : decode cX3_setRules 26 = .ok (.invokestatic 55, 3) := by decide +kernel
theorem dX3_setRules_29 : decode cX3_setRules 29 = .ok (.iload 5, 2) := by decide +kernel
theorem dX3_setRules_31 : decode cX3_setRules 31 = .ok (.iconst 0, 1) := by decide +kernel
theorem dX3_setRules_32 : decode cX3_setRules 32 = .ok (.sipush 1000, 3) := by decide +kernel
theorem dX3_setRules_35 : decode cX3_setRules 35 = .ok (.invokestatic 55, 3) := by decide +kernel
theorem dX3_setRules_38 : decode cX3_setRules 38 = .ok (.aload 6, 2) := by decide +kernel
theorem dX3_setRules_40 : decode cX3_setRules 40 = .ok (.iload_n 2, 1) := by decide +kernel
theorem dX3_setRules_41 : decode cX3_setRules 41 = .ok (.putfield 162, 3) := by decide +kernel
theorem dX3_setRules_44 : decode cX3_setRules 44 = .ok (.aload 6, 2) := by decide +kernel
theorem dX3_setRules_46 : decode cX3_setRules 46 = .ok (.iload_n 3, 1) := by decide +kernel
theorem dX3_setRules_47 : decode cX3_setRules 47 = .ok (.putfield 165, 3) := by decide +kernel
theorem dX3_setRules_50 : decode cX3_setRules 50 = .ok (.aload 6, 2) := by decide +kernel
theorem dX3_setRules_52 : decode cX3_setRules 52 = .ok (.iload 4, 2) := by decide +kernel
theorem dX3_setRules_54 : decode cX3_setRules 54 = .ok (.putfield 168, 3) := by decide +kernel
theorem dX3_setRules_57 : decode cX3_setRules 57 = .ok (.aload 6, 2) := by decide +kernel
theorem dX3_setRules_59 : decode cX3_setRules 59 = .ok (.iload 5, 2) := by decide +kernel
theorem dX3_setRules_61 : decode cX3_setRules 61 = .ok (.putfield 171, 3) := by decide +kernel
theorem dX3_setRules_64 : decode cX3_setRules 64 = .ok (.return_, 1) := by decide +kernel
theorem dX3_toggle_0 : decode cX3_toggle 0 = .ok (.aload_n 0, 1) := by decide +kernel
theorem dX3_toggle_1 : decode cX3_toggle 1 = .ok (.iload_n 1, 1) := by decide +kernel
theorem dX3_toggle_2 : decode cX3_toggle 2 = .ok (.invokevirtual 129, 3) := by decide +kernel
theorem dX3_toggle_5 : decode cX3_toggle 5 = .ok (.astore_n 2, 1) := by decide +kernel
theorem dX3_toggle_6 : decode cX3_toggle 6 = .ok (.aload_n 2, 1) := by decide +kernel
theorem dX3_toggle_7 : decode cX3_toggle 7 = .ok (.aload_n 2, 1) := by decide +kernel
theorem dX3_toggle_8 : decode cX3_toggle 8 = .ok (.getfield 151, 3) := by decide +kernel
theorem dX3_toggle_11 : decode cX3_toggle 11 = .ok (.ifCond .ne 7, 3) := by decide +kernel
theorem dX3_toggle_14 : decode cX3_toggle 14 = .ok (.iconst 1, 1) := by decide +kernel
theorem dX3_toggle_15 : decode cX3_toggle 15 = .ok (.goto 4, 3) := by decide +kernel
theorem dX3_toggle_18 : decode cX3_toggle 18 = .ok (.iconst 0, 1) := by decide +kernel
theorem dX3_toggle_19 : decode cX3_toggle 19 = .ok (.putfield 151, 3) := by decide +kernel
theorem dX3_toggle_22 : decode cX3_toggle 22 = .ok (.aload_n 2, 1) := by decide +kernel
theorem dX3_toggle_23 : decode cX3_toggle 23 = .ok (.getfield 151, 3) := by decide +kernel
theorem dX3_toggle_26 : decode cX3_toggle 26 = .ok (.ifCond .eq 11, 3) := by decide +kernel
theorem dX3_toggle_29 : decode cX3_toggle 29 = .ok (.aload_n 2, 1) := by decide +kernel
theorem dX3_toggle_30 : decode cX3_toggle 30 = .ok (.aload_n 2, 1) := by decide +kernel
theorem dX3_toggle_31 : decode cX3_toggle 31 = .ok (.getfield 174, 3) := by decide +kernel
theorem dX3_toggle_34 : decode cX3_toggle 34 = .ok (.invokevirtual 177, 3) := by decide +kernel
theorem dX3_toggle_37 : decode cX3_toggle 37 = .ok (.aload_n 2, 1) := by decide +kernel
theorem dX3_toggle_38 : decode cX3_toggle 38 = .ok (.getfield 151, 3) := by decide +kernel
theorem dX3_toggle_41 : decode cX3_toggle 41 = .ok (.ireturn, 1) := by decide +kernel
theorem dX3_isActive_0 : decode cX3_isActive 0 = .ok (.aload_n 0, 1) := by decide +kernel
theorem dX3_isActive_1 : decode cX3_isActive 1 = .ok (.iload_n 1, 1) := by decide +kernel
theorem dX3_isActive_2 : decode cX3_isActive 2 = .ok (.invokevirtual 129, 3) := by decide +kernel
theorem dX3_isActive_5 : decode cX3_isActive 5 = .ok (.getfield 151, 3) := by decide +kernel
theorem dX3_isActive_8 : decode cX3_isActive 8 = .ok (.ireturn, 1) := by decide +kernel
theorem dX3_ring_0 : decode cX3_ring 0 = .ok (.aload_n 0, 1) := by decide +kernel
theorem dX3_ring_1 : decode cX3_ring 1 = .ok (.iload_n 1, 1) := by decide +kernel
theorem dX3_ring_2 : decode cX3_ring 2 = .ok (.invokevirtual 129, 3) := by decide +kernel
theorem dX3_ring_5 : decode cX3_ring 5 = .ok (.getfield 174, 3) := by decide +kernel
theorem dX3_ring_8 : decode cX3_ring 8 = .ok (.ireturn, 1) := by decide +kernel
theorem dX3_reports_0 : decode cX3_reports 0 = .ok (.aload_n 0, 1) := by decide +kernel
theorem dX3_reports_1 : decode cX3_reports 1 = .ok (.iload_n 1, 1) := by decide +kernel
theorem dX3_reports_2 : decode cX3_reports 2 = .ok (.invokevirtual 129, 3) := by decide +kernel
theorem dX3_reports_5 : decode cX3_reports 5 = .ok (.getfield 180, 3) := by decide +kernel
theorem dX3_reports_8 : decode cX3_reports 8 = .ok (.ireturn, 1) := by decide +kernel
theorem dX3_eligible_0 : decode cX3_eligible 0 = .ok (.aload_n 0, 1) := by decide +kernel
theorem dX3_eligible_1 : decode cX3_eligible 1 = .ok (.iload_n 1, 1) := by decide +kernel
theorem dX3_eligible_2 : decode cX3_eligible 2 = .ok (.invokevirtual 129, 3) := by decide +kernel
theorem dX3_eligible_5 : decode cX3_eligible 5 = .ok (.astore_n 2, 1) := by decide +kernel
theorem dX3_eligible_6 : decode cX3_eligible 6 = .ok (.iconst 0, 1) := by decide +kernel
theorem dX3_eligible_7 : decode cX3_eligible 7 = .ok (.istore_n 3, 1) := by decide +kernel
theorem dX3_eligible_8 : decode cX3_eligible 8 = .ok (.iconst 0, 1) := by decide +kernel
theorem dX3_eligible_9 : decode cX3_eligible 9 = .ok (.istore 4, 2) := by decide +kernel
theorem dX3_eligible_11 : decode cX3_eligible 11 = .ok (.iload 4, 2) := by decide +kernel
theorem dX3_eligible_13 : decode cX3_eligible 13 = .ok (.aload_n 0, 1) := by decide +kernel
theorem dX3_eligible_14 : decode cX3_eligible 14 = .ok (.getfield 32, 3) := by decide +kernel
theorem dX3_eligible_17 : decode cX3_eligible 17 = .ok (.if_icmp .ge 31, 3) := by decide +kernel
theorem dX3_eligible_20 : decode cX3_eligible 20 = .ok (.aload_n 0, 1) := by decide +kernel
theorem dX3_eligible_21 : decode cX3_eligible 21 = .ok (.aload_n 0, 1) := by decide +kernel
theorem dX3_eligible_22 : decode cX3_eligible 22 = .ok (.getfield 22, 3) := by decide +kernel
theorem dX3_eligible_25 : decode cX3_eligible 25 = .ok (.iload 4, 2) := by decide +kernel
theorem dX3_eligible_27 : decode cX3_eligible 27 = .ok (.aaload, 1) := by decide +kernel
theorem dX3_eligible_28 : decode cX3_eligible 28 = .ok (.aload_n 2, 1) := by decide +kernel
theorem dX3_eligible_29 : decode cX3_eligible 29 = .ok (.invokevirtual 183, 3) := by decide +kernel
theorem dX3_eligible_32 : decode cX3_eligible 32 = .ok (.ifCond .eq 10, 3) := by decide +kernel
theorem dX3_eligible_35 : decode cX3_eligible 35 = .ok (.iload_n 3, 1) := by decide +kernel
theorem dX3_eligible_36 : decode cX3_eligible 36 = .ok (.iconst 1, 1) := by decide +kernel
theorem dX3_eligible_37 : decode cX3_eligible 37 = .ok (.iload 4, 2) := by decide +kernel
theorem dX3_eligible_39 : decode cX3_eligible 39 = .ok (.ishl, 1) := by decide +kernel
theorem dX3_eligible_40 : decode cX3_eligible 40 = .ok (.ior, 1) := by decide +kernel
theorem dX3_eligible_41 : decode cX3_eligible 41 = .ok (.istore_n 3, 1) := by decide +kernel
theorem dX3_eligible_42 : decode cX3_eligible 42 = .ok (.iinc 4 1, 3) := by decide +kernel
theorem dX3_eligible_45 : decode cX3_eligible 45 = .ok (.goto (-34), 3) := by decide +kernel
theorem dX3_eligible_48 : decode cX3_eligible 48 = .ok (.iload_n 3, 1) := by decide +kernel
theorem dX3_eligible_49 : decode cX3_eligible 49 = .ok (.ireturn, 1) := by decide +kernel
theorem dX3_pass_0 : decode cX3_pass 0 = .ok (.iload_n 1, 1) := by decide +kernel
theorem dX3_pass_1 : decode cX3_pass 1 = .ok (.iconst 1, 1) := by decide +kernel
theorem dX3_pass_2 : decode cX3_pass 2 = .ok (.bipush 100, 2) := by decide +kernel
theorem dX3_pass_4 : decode cX3_pass 4 = .ok (.invokestatic 55, 3) := by decide +kernel
theorem dX3_pass_7 : decode cX3_pass 7 = .ok (.iconst 0, 1) := by decide +kernel
theorem dX3_pass_8 : decode cX3_pass 8 = .ok (.istore_n 2, 1) := by decide +kernel
theorem dX3_pass_9 : decode cX3_pass 9 = .ok (.iconst 0, 1) := by decide +kernel
theorem dX3_pass_10 : decode cX3_pass 10 = .ok (.istore_n 3, 1) := by decide +kernel
theorem dX3_pass_11 : decode cX3_pass 11 = .ok (.iload_n 3, 1) := by decide +kernel
theorem dX3_pass_12 : decode cX3_pass 12 = .ok (.iload_n 1, 1) := by decide +kernel
theorem dX3_pass_13 : decode cX3_pass 13 = .ok (.if_icmp .ge 16, 3) := by decide +kernel
theorem dX3_pass_16 : decode cX3_pass 16 = .ok (.iload_n 2, 1) := by decide +kernel
theorem dX3_pass_17 : decode cX3_pass 17 = .ok (.aload_n 0, 1) := by decide +kernel
theorem dX3_pass_18 : decode cX3_pass 18 = .ok (.invokevirtual 187, 3) := by decide +kernel
theorem dX3_pass_21 : decode cX3_pass 21 = .ok (.iadd, 1) := by decide +kernel
theorem dX3_pass_22 : decode cX3_pass 22 = .ok (.istore_n 2, 1) := by decide +kernel
theorem dX3_pass_23 : decode cX3_pass 23 = .ok (.iinc 3 1, 3) := by decide +kernel
theorem dX3_pass_26 : decode cX3_pass 26 = .ok (.goto (-15), 3) := by decide +kernel
theorem dX3_pass_29 : decode cX3_pass 29 = .ok (.iload_n 2, 1) := by decide +kernel
theorem dX3_pass_30 : decode cX3_pass 30 = .ok (.ireturn, 1) := by decide +kernel
theorem dX3_passOneHour_0 : decode cX3_passOneHour 0 = .ok (.iconst 0, 1) := by decide +kernel
theorem dX3_passOneHour_1 : decode cX3_passOneHour 1 = .ok (.istore_n 1, 1) := by decide +kernel
theorem dX3_passOneHour_2 : decode cX3_passOneHour 2 = .ok (.iconst 0, 1) := by decide +kernel
theorem dX3_passOneHour_3 : decode cX3_passOneHour 3 = .ok (.istore_n 2, 1) := by decide +kernel
theorem dX3_passOneHour_4 : decode cX3_passOneHour 4 = .ok (.iload_n 2, 1) := by decide +kernel
theorem dX3_passOneHour_5 : decode cX3_passOneHour 5 = .ok (.aload_n 0, 1) := by decide +kernel
theorem dX3_passOneHour_6 : decode cX3_passOneHour 6 = .ok (.getfield 32, 3) := by decide +kernel
theorem dX3_passOneHour_9 : decode cX3_passOneHour 9 = .ok (.if_icmp .ge 47, 3) := by decide +kernel
theorem dX3_passOneHour_12 : decode cX3_passOneHour 12 = .ok (.aload_n 0, 1) := by decide +kernel
theorem dX3_passOneHour_13 : decode cX3_passOneHour 13 = .ok (.getfield 22, 3) := by decide +kernel
theorem dX3_passOneHour_16 : decode cX3_passOneHour 16 = .ok (.iload_n 2, 1) := by decide +kernel
theorem dX3_passOneHour_17 : decode cX3_passOneHour 17 = .ok (.aaload, 1) := by decide +kernel
theorem dX3_passOneHour_18 : decode cX3_passOneHour 18 = .ok (.astore_n 3, 1) := by decide +kernel
theorem dX3_passOneHour_19 : decode cX3_passOneHour 19 = .ok (.aload_n 0, 1) := by decide +kernel
theorem dX3_passOneHour_20 : decode cX3_passOneHour 20 = .ok (.aload_n 3, 1) := by decide +kernel
theorem dX3_passOneHour_21 : decode cX3_passOneHour 21 = .ok (.invokevirtual 191, 3) := by decide +kernel
theorem dX3_passOneHour_24 : decode cX3_passOneHour 24 = .ok (.aload_n 3, 1) := by decide +kernel
theorem dX3_passOneHour_25 : decode cX3_passOneHour 25 = .ok (.aload_n 0, 1) := by decide +kernel
theorem dX3_passOneHour_26 : decode cX3_passOneHour 26 = .ok (.getfield 39, 3) := by decide +kernel
theorem dX3_passOneHour_29 : decode cX3_passOneHour 29 = .ok (.invokevirtual 195, 3) := by decide +kernel
theorem dX3_passOneHour_32 : decode cX3_passOneHour 32 = .ok (.ifCond .eq 18, 3) := by decide +kernel
theorem dX3_passOneHour_35 : decode cX3_passOneHour 35 = .ok (.aload_n 3, 1) := by decide +kernel
theorem dX3_passOneHour_36 : decode cX3_passOneHour 36 = .ok (.invokevirtual 199, 3) := by decide +kernel
theorem dX3_passOneHour_39 : decode cX3_passOneHour 39 = .ok (.aload_n 3, 1) := by decide +kernel
theorem dX3_passOneHour_40 : decode cX3_passOneHour 40 = .ok (.getfield 121, 3) := by decide +kernel
theorem dX3_passOneHour_43 : decode cX3_passOneHour 43 = .ok (.iconst 2, 1) := by decide +kernel
theorem dX3_passOneHour_44 : decode cX3_passOneHour 44 = .ok (.if_icmp .ne 6, 3) := by decide +kernel
theorem dX3_passOneHour_47 : decode cX3_passOneHour 47 = .ok (.iinc 1 1, 3) := by decide +kernel
theorem dX3_passOneHour_50 : decode cX3_passOneHour 50 = .ok (.iinc 2 1, 3) := by decide +kernel
theorem dX3_passOneHour_53 : decode cX3_passOneHour 53 = .ok (.goto (-49), 3) := by decide +kernel
theorem dX3_passOneHour_56 : decode cX3_passOneHour 56 = .ok (.aload_n 0, 1) := by decide +kernel
theorem dX3_passOneHour_57 : decode cX3_passOneHour 57 = .ok (.aload_n 0, 1) := by decide +kernel
theorem dX3_passOneHour_58 : decode cX3_passOneHour 58 = .ok (.getfield 39, 3) := by decide +kernel
theorem dX3_passOneHour_61 : decode cX3_passOneHour 61 = .ok (.iconst 1, 1) := by decide +kernel
theorem dX3_passOneHour_62 : decode cX3_passOneHour 62 = .ok (.iadd, 1) := by decide +kernel
theorem dX3_passOneHour_63 : decode cX3_passOneHour 63 = .ok (.bipush 24, 2) := by decide +kernel
theorem dX3_passOneHour_65 : decode cX3_passOneHour 65 = .ok (.irem, 1) := by decide +kernel
theorem dX3_passOneHour_66 : decode cX3_passOneHour 66 = .ok (.putfield 39, 3) := by decide +kernel
theorem dX3_passOneHour_69 : decode cX3_passOneHour 69 = .ok (.iload_n 1, 1) := by decide +kernel
theorem dX3_passOneHour_70 : decode cX3_passOneHour 70 = .ok (.ireturn, 1) := by decide +kernel
theorem dX3_takeLowestCampaign_0 : decode cX3_takeLowestCampaign 0 = .ok (.iconst 0, 1) := by decide +kernel
theorem dX3_takeLowestCampaign_1 : decode cX3_takeLowestCampaign 1 = .ok (.istore_n 2, 1) := by decide +kernel
theorem dX3_takeLowestCampaign_2 : decode cX3_takeLowestCampaign 2 = .ok (.iload_n 2, 1) := by decide +kernel
theorem dX3_takeLowestCampaign_3 : decode cX3_takeLowestCampaign 3 = .ok (.aload_n 0, 1) := by decide +kernel
theorem dX3_takeLowestCampaign_4 : decode cX3_takeLowestCampaign 4 = .ok (.getfield 36, 3) := by decide +kernel
theorem dX3_takeLowestCampaign_7 : decode cX3_takeLowestCampaign 7 = .ok (.if_icmp .ge 46, 3) := by decide +kernel
theorem dX3_takeLowestCampaign_10 : decode cX3_takeLowestCampaign 10 = .ok (.aload_n 0, 1) := by decide +kernel
theorem dX3_takeLowestCampaign_11 : decode cX3_takeLowestCampaign 11 = .ok (.getfield 28, 3) := by decide +kernel
theorem dX3_takeLowestCampaign_14 : decode cX3_takeLowestCampaign 14 = .ok (.iload_n 2, 1) := by decide +kernel
theorem dX3_takeLowestCampaign_15 : decode cX3_takeLowestCampaign 15 = .ok (.aaload, 1) := by decide +kernel
theorem dX3_takeLowestCampaign_16 : decode cX3_takeLowestCampaign 16 = .ok (.astore_n 3, 1) := by decide +kernel
theorem dX3_takeLowestCampaign_17 : decode cX3_takeLowestCampaign 17 = .ok (.aload_n 0, 1) := by decide +kernel
theorem dX3_takeLowestCampaign_18 : decode cX3_takeLowestCampaign 18 = .ok (.aload_n 1, 1) := by decide +kernel
theorem dX3_takeLowestCampaign_19 : decode cX3_takeLowestCampaign 19 = .ok (.aload_n 3, 1) := by decide +kernel
theorem dX3_takeLowestCampaign_20 : decode cX3_takeLowestCampaign 20 = .ok (.invokevirtual 183, 3) := by decide +kernel
theorem dX3_takeLowestCampaign_23 : decode cX3_takeLowestCampaign 23 = .ok (.ifCond .eq 24, 3) := by decide +kernel
theorem dX3_takeLowestCampaign_26 : decode cX3_takeLowestCampaign 26 = .ok (.aload_n 1, 1) := by decide +kernel
theorem dX3_takeLowestCampaign_27 : decode cX3_takeLowestCampaign 27 = .ok (.aload_n 3, 1) := by decide +kernel
theorem dX3_takeLowestCampaign_28 : decode cX3_takeLowestCampaign 28 = .ok (.aload_n 0, 1) := by decide +kernel
theorem dX3_takeLowestCampaign_29 : decode cX3_takeLowestCampaign 29 = .ok (.getfield 16, 3) := by decide +kernel
theorem dX3_takeLowestCampaign_32 : decode cX3_takeLowestCampaign 32 = .ok (.aload_n 1, 1) := by decide +kernel
theorem dX3_takeLowestCampaign_33 : decode cX3_takeLowestCampaign 33 = .ok (.getfield 102, 3) := by decide +kernel
theorem dX3_takeLowestCampaign_36 : decode cX3_takeLowestCampaign 36 = .ok (.aload_n 3, 1) := by decide +kernel
theorem dX3_takeLowestCampaign_37 : decode cX3_takeLowestCampaign 37 = .ok (.getfield 133, 3) := by decide +kernel
theorem dX3_takeLowestCampaign_40 : decode cX3_takeLowestCampaign 40 = .ok (.invokevirtual 77, 3) := by decide +kernel
theorem dX3_takeLowestCampaign_43 : decode cX3_takeLowestCampaign 43 = .ok (.invokevirtual 202, 3) := by decide +kernel
theorem dX3_takeLowestCampaign_46 : decode cX3_takeLowestCampaign 46 = .ok (.return_, 1) := by decide +kernel
theorem dX3_takeLowestCampaign_47 : decode cX3_takeLowestCampaign 47 = .ok (.iinc 2 1, 3) := by decide +kernel
theorem dX3_takeLowestCampaign_50 : decode cX3_takeLowestCampaign 50 = .ok (.goto (-48), 3) := by decide +kernel
theorem dX3_takeLowestCampaign_53 : decode cX3_takeLowestCampaign 53 = .ok (.return_, 1) := by decide +kernel
theorem dX3_mayTake_0 : decode cX3_mayTake 0 = .ok (.aload_n 1, 1) := by decide +kernel
theorem dX3_mayTake_1 : decode cX3_mayTake 1 = .ok (.getfield 121, 3) := by decide +kernel
theorem dX3_mayTake_4 : decode cX3_mayTake 4 = .ok (.ifCond .ne 53, 3) := by decide +kernel
theorem dX3_mayTake_7 : decode cX3_mayTake 7 = .ok (.aload_n 2, 1) := by decide +kernel
theorem dX3_mayTake_8 : decode cX3_mayTake 8 = .ok (.aload_n 1, 1) := by decide +kernel
theorem dX3_mayTake_9 : decode cX3_mayTake 9 = .ok (.invokevirtual 206, 3) := by decide +kernel
theorem dX3_mayTake_12 : decode cX3_mayTake 12 = .ok (.ifCond .eq 45, 3) := by decide +kernel
theorem dX3_mayTake_15 : decode cX3_mayTake 15 = .ok (.aload_n 0, 1) := by decide +kernel
theorem dX3_mayTake_16 : decode cX3_mayTake 16 = .ok (.getfield 9, 3) := by decide +kernel
theorem dX3_mayTake_19 : decode cX3_mayTake 19 = .ok (.aload_n 2, 1) := by decide +kernel
theorem dX3_mayTake_20 : decode cX3_mayTake 20 = .ok (.getfield 133, 3) := by decide +kernel
theorem dX3_mayTake_23 : decode cX3_mayTake 23 = .ok (.iaload, 1) := by decide +kernel
theorem dX3_mayTake_24 : decode cX3_mayTake 24 = .ok (.aload_n 1, 1) := by decide +kernel
theorem dX3_mayTake_25 : decode cX3_mayTake 25 = .ok (.getfield 99, 3) := by decide +kernel
theorem dX3_mayTake_28 : decode cX3_mayTake 28 = .ok (.invokestatic 93, 3) := by decide +kernel
theorem dX3_mayTake_31 : decode cX3_mayTake 31 = .ok (.ifCond .eq 26, 3) := by decide +kernel
theorem dX3_mayTake_34 : decode cX3_mayTake 34 = .ok (.aload_n 0, 1) := by decide +kernel
theorem dX3_mayTake_35 : decode cX3_mayTake 35 = .ok (.getfield 16, 3) := by decide +kernel
theorem dX3_mayTake_38 : decode cX3_mayTake 38 = .ok (.aload_n 1, 1) := by decide +kernel
theorem dX3_mayTake_39 : decode cX3_mayTake 39 = .ok (.getfield 102, 3) := by decide +kernel
theorem dX3_mayTake_42 : decode cX3_mayTake 42 = .ok (.aload_n 2, 1) := by decide +kernel
theorem dX3_mayTake_43 : decode cX3_mayTake 43 = .ok (.getfield 133, 3) := by decide +kernel
theorem dX3_mayTake_46 : decode cX3_mayTake 46 = .ok (.invokevirtual 77, 3) := by decide +kernel
theorem dX3_mayTake_49 : decode cX3_mayTake 49 = .ok (.iconst (-1), 1) := by decide +kernel
theorem dX3_mayTake_50 : decode cX3_mayTake 50 = .ok (.if_icmp .eq 7, 3) := by decide +kernel
theorem dX3_mayTake_53 : decode cX3_mayTake 53 = .ok (.iconst 1, 1) := by decide +kernel
theorem dX3_mayTake_54 : decode cX3_mayTake 54 = .ok (.goto 4, 3) := by decide +kernel
theorem dX3_mayTake_57 : decode cX3_mayTake 57 = .ok (.iconst 0, 1) := by decide +kernel
theorem dX3_mayTake_58 : decode cX3_mayTake 58 = .ok (.ireturn, 1) := by decide +kernel
theorem dX3_deviceAt_0 : decode cX3_deviceAt 0 = .ok (.iload_n 1, 1) := by decide +kernel
theorem dX3_deviceAt_1 : decode cX3_deviceAt 1 = .ok (.ifCond .lt 11, 3) := by decide +kernel
theorem dX3_deviceAt_4 : decode cX3_deviceAt 4 = .ok (.iload_n 1, 1) := by decide +kernel
theorem dX3_deviceAt_5 : decode cX3_deviceAt 5 = .ok (.aload_n 0, 1) := by decide +kernel
theorem dX3_deviceAt_6 : decode cX3_deviceAt 6 = .ok (.getfield 32, 3) := by decide +kernel
theorem dX3_deviceAt_9 : decode cX3_deviceAt 9 = .ok (.if_icmp .lt 13, 3) := by decide +kernel
theorem dX3_deviceAt_12 : decode cX3_deviceAt 12 = .ok (.new 83, 3) := by decide +kernel
theorem dX3_deviceAt_15 : decode cX3_deviceAt 15 = .ok (.dup, 1) := by decide +kernel
theorem dX3_deviceAt_16 : decode cX3_deviceAt 16 = .ok (.ldc 210, 2) := by decide +kernel
theorem dX3_deviceAt_18 : decode cX3_deviceAt 18 = .ok (.invokespecial 87, 3) := by decide +kernel
theorem dX3_deviceAt_21 : decode cX3_deviceAt 21 = .ok (.athrow, 1) := by decide +kernel
theorem dX3_deviceAt_22 : decode cX3_deviceAt 22 = .ok (.aload_n 0, 1) := by decide +kernel
theorem dX3_deviceAt_23 : decode cX3_deviceAt 23 = .ok (.getfield 22, 3) := by decide +kernel
theorem dX3_deviceAt_26 : decode cX3_deviceAt 26 = .ok (.iload_n 1, 1) := by decide +kernel
theorem dX3_deviceAt_27 : decode cX3_deviceAt 27 = .ok (.aaload, 1) := by decide +kernel
theorem dX3_deviceAt_28 : decode cX3_deviceAt 28 = .ok (.areturn, 1) := by decide +kernel
theorem dX3_campaignAt_0 : decode cX3_campaignAt 0 = .ok (.aload_n 0, 1) := by decide +kernel
theorem dX3_campaignAt_1 : decode cX3_campaignAt 1 = .ok (.iload_n 1, 1) := by decide +kernel
theorem dX3_campaignAt_2 : decode cX3_campaignAt 2 = .ok (.invokevirtual 146, 3) := by decide +kernel
theorem dX3_campaignAt_5 : decode cX3_campaignAt 5 = .ok (.aload_n 0, 1) := by decide +kernel
theorem dX3_campaignAt_6 : decode cX3_campaignAt 6 = .ok (.getfield 28, 3) := by decide +kernel
theorem dX3_campaignAt_9 : decode cX3_campaignAt 9 = .ok (.iload_n 1, 1) := by decide +kernel
theorem dX3_campaignAt_10 : decode cX3_campaignAt 10 = .ok (.aaload, 1) := by decide +kernel
theorem dX3_campaignAt_11 : decode cX3_campaignAt 11 = .ok (.areturn, 1) := by decide +kernel
theorem dX3_needCampaign_0 : decode cX3_needCampaign 0 = .ok (.iload_n 1, 1) := by decide +kernel
theorem dX3_needCampaign_1 : decode cX3_needCampaign 1 = .ok (.ifCond .lt 11, 3) := by decide +kernel
theorem dX3_needCampaign_4 : decode cX3_needCampaign 4 = .ok (.iload_n 1, 1) := by decide +kernel
theorem dX3_needCampaign_5 : decode cX3_needCampaign 5 = .ok (.aload_n 0, 1) := by decide +kernel
theorem dX3_needCampaign_6 : decode cX3_needCampaign 6 = .ok (.getfield 36, 3) := by decide +kernel
theorem dX3_needCampaign_9 : decode cX3_needCampaign 9 = .ok (.if_icmp .lt 13, 3) := by decide +kernel
theorem dX3_needCampaign_12 : decode cX3_needCampaign 12 = .ok (.new 83, 3) := by decide +kernel
theorem dX3_needCampaign_15 : decode cX3_needCampaign 15 = .ok (.dup, 1) := by decide +kernel
theorem dX3_needCampaign_16 : decode cX3_needCampaign 16 = .ok (.ldc 212, 2) := by decide +kernel
theorem dX3_needCampaign_18 : decode cX3_needCampaign 18 = .ok (.invokespecial 87, 3) := by decide +kernel
theorem dX3_needCampaign_21 : decode cX3_needCampaign 21 = .ok (.athrow, 1) := by decide +kernel
theorem dX3_needCampaign_22 : decode cX3_needCampaign 22 = .ok (.return_, 1) := by decide +kernel
theorem dX3_needVersion_0 : decode cX3_needVersion 0 = .ok (.iload_n 0, 1) := by decide +kernel
theorem dX3_needVersion_1 : decode cX3_needVersion 1 = .ok (.ifCond .lt 9, 3) := by decide +kernel
theorem dX3_needVersion_4 : decode cX3_needVersion 4 = .ok (.iload_n 0, 1) := by decide +kernel
theorem dX3_needVersion_5 : decode cX3_needVersion 5 = .ok (.bipush 8, 2) := by decide +kernel
theorem dX3_needVersion_7 : decode cX3_needVersion 7 = .ok (.if_icmp .lt 13, 3) := by decide +kernel
theorem dX3_needVersion_10 : decode cX3_needVersion 10 = .ok (.new 83, 3) := by decide +kernel
theorem dX3_needVersion_13 : decode cX3_needVersion 13 = .ok (.dup, 1) := by decide +kernel
theorem dX3_needVersion_14 : decode cX3_needVersion 14 = .ok (.ldc 214, 2) := by decide +kernel
theorem dX3_needVersion_16 : decode cX3_needVersion 16 = .ok (.invokespecial 87, 3) := by decide +kernel
theorem dX3_needVersion_19 : decode cX3_needVersion 19 = .ok (.athrow, 1) := by decide +kernel
theorem dX3_needVersion_20 : decode cX3_needVersion 20 = .ok (.return_, 1) := by decide +kernel
theorem dX3_needBytesOrNone_0 : decode cX3_needBytesOrNone 0 = .ok (.iload_n 0, 1) := by decide +kernel
theorem dX3_needBytesOrNone_1 : decode cX3_needBytesOrNone 1 = .ok (.iconst (-1), 1) := by decide +kernel
theorem dX3_needBytesOrNone_2 : decode cX3_needBytesOrNone 2 = .ok (.if_icmp .eq 10, 3) := by decide +kernel
theorem dX3_needBytesOrNone_5 : decode cX3_needBytesOrNone 5 = .ok (.iload_n 0, 1) := by decide +kernel
theorem dX3_needBytesOrNone_6 : decode cX3_needBytesOrNone 6 = .ok (.iconst 1, 1) := by decide +kernel
theorem dX3_needBytesOrNone_7 : decode cX3_needBytesOrNone 7 = .ok (.ldc 216, 2) := by decide +kernel
theorem dX3_needBytesOrNone_9 : decode cX3_needBytesOrNone 9 = .ok (.invokestatic 55, 3) := by decide +kernel
theorem dX3_needBytesOrNone_12 : decode cX3_needBytesOrNone 12 = .ok (.return_, 1) := by decide +kernel
theorem dX3_needRange_0 : decode cX3_needRange 0 = .ok (.iload_n 0, 1) := by decide +kernel
theorem dX3_needRange_1 : decode cX3_needRange 1 = .ok (.iload_n 1, 1) := by decide +kernel
theorem dX3_needRange_2 : decode cX3_needRange 2 = .ok (.if_icmp .lt 8, 3) := by decide +kernel
theorem dX3_needRange_5 : decode cX3_needRange 5 = .ok (.iload_n 0, 1) := by decide +kernel
theorem dX3_needRange_6 : decode cX3_needRange 6 = .ok (.iload_n 2, 1) := by decide +kernel
theorem dX3_needRange_7 : decode cX3_needRange 7 = .ok (.if_icmp .le 13, 3) := by decide +kernel
theorem dX3_needRange_10 : decode cX3_needRange 10 = .ok (.new 66, 3) := by decide +kernel
theorem dX3_needRange_13 : decode cX3_needRange 13 = .ok (.dup, 1) := by decide +kernel
theorem dX3_needRange_14 : decode cX3_needRange 14 = .ok (.ldc 217, 2) := by decide +kernel
theorem dX3_needRange_16 : decode cX3_needRange 16 = .ok (.invokespecial 70, 3) := by decide +kernel
theorem dX3_needRange_19 : decode cX3_needRange 19 = .ok (.athrow, 1) := by decide +kernel
theorem dX3_needRange_20 : decode cX3_needRange 20 = .ok (.return_, 1) := by decide +kernel
theorem dX3_has_0 : decode cX3_has 0 = .ok (.iload_n 0, 1) := by decide +kernel
theorem dX3_has_1 : decode cX3_has 1 = .ok (.iload_n 1, 1) := by decide +kernel
theorem dX3_has_2 : decode cX3_has 2 = .ok (.ishr, 1) := by decide +kernel
theorem dX3_has_3 : decode cX3_has 3 = .ok (.iconst 1, 1) := by decide +kernel
theorem dX3_has_4 : decode cX3_has 4 = .ok (.iand, 1) := by decide +kernel
theorem dX3_has_5 : decode cX3_has 5 = .ok (.iconst 1, 1) := by decide +kernel
theorem dX3_has_6 : decode cX3_has 6 = .ok (.if_icmp .ne 7, 3) := by decide +kernel
theorem dX3_has_9 : decode cX3_has 9 = .ok (.iconst 1, 1) := by decide +kernel
theorem dX3_has_10 : decode cX3_has 10 = .ok (.goto 4, 3) := by decide +kernel
theorem dX3_has_13 : decode cX3_has 13 = .ok (.iconst 0, 1) := by decide +kernel
theorem dX3_has_14 : decode cX3_has 14 = .ok (.ireturn, 1) := by decide +kernel
theorem dJ9_max_7cf53_0 : decode cJ9_max_7cf53 0 = .ok (.iload_n 0, 1) := by decide +kernel
theorem dJ9_max_7cf53_1 : decode cJ9_max_7cf53 1 = .ok (.iload_n 1, 1) := by decide +kernel
theorem dJ9_max_7cf53_2 : decode cJ9_max_7cf53 2 = .ok (.if_icmp .lt 7, 3) := by decide +kernel
theorem dJ9_max_7cf53_5 : decode cJ9_max_7cf53 5 = .ok (.iload_n 0, 1) := by decide +kernel
theorem dJ9_max_7cf53_6 : decode cJ9_max_7cf53 6 = .ok (.goto 4, 3) := by decide +kernel
theorem dJ9_max_7cf53_9 : decode cJ9_max_7cf53 9 = .ok (.iload_n 1, 1) := by decide +kernel
theorem dJ9_max_7cf53_10 : decode cJ9_max_7cf53 10 = .ok (.ireturn, 1) := by decide +kernel
theorem dJ9_min_7cf53_0 : decode cJ9_min_7cf53 0 = .ok (.iload_n 0, 1) := by decide +kernel
theorem dJ9_min_7cf53_1 : decode cJ9_min_7cf53 1 = .ok (.iload_n 1, 1) := by decide +kernel
theorem dJ9_min_7cf53_2 : decode cJ9_min_7cf53 2 = .ok (.if_icmp .gt 7, 3) := by decide +kernel
theorem dJ9_min_7cf53_5 : decode cJ9_min_7cf53 5 = .ok (.iload_n 0, 1) := by decide +kernel
theorem dJ9_min_7cf53_6 : decode cJ9_min_7cf53 6 = .ok (.goto 4, 3) := by decide +kernel
theorem dJ9_min_7cf53_9 : decode cJ9_min_7cf53 9 = .ok (.iload_n 1, 1) := by decide +kernel
theorem dJ9_min_7cf53_10 : decode cJ9_min_7cf53 10 = .ok (.ireturn, 1) := by decide +kernel
theorem dJ7_fill_53178_0 : decode cJ7_fill_53178 0 = .ok (.iconst 0, 1) := by decide +kernel
theorem dJ7_fill_53178_1 : decode cJ7_fill_53178 1 = .ok (.istore_n 2, 1) := by decide +kernel
theorem dJ7_fill_53178_2 : decode cJ7_fill_53178 2 = .ok (.aload_n 0, 1) := by decide +kernel
theorem dJ7_fill_53178_3 : decode cJ7_fill_53178 3 = .ok (.arraylength, 1) := by decide +kernel
theorem dJ7_fill_53178_4 : decode cJ7_fill_53178 4 = .ok (.istore_n 3, 1) := by decide +kernel
theorem dJ7_fill_53178_5 : decode cJ7_fill_53178 5 = .ok (.iload_n 2, 1) := by decide +kernel
theorem dJ7_fill_53178_6 : decode cJ7_fill_53178 6 = .ok (.iload_n 3, 1) := by decide +kernel
theorem dJ7_fill_53178_7 : decode cJ7_fill_53178 7 = .ok (.if_icmp .ge 13, 3) := by decide +kernel
theorem dJ7_fill_53178_10 : decode cJ7_fill_53178 10 = .ok (.aload_n 0, 1) := by decide +kernel
theorem dJ7_fill_53178_11 : decode cJ7_fill_53178 11 = .ok (.iload_n 2, 1) := by decide +kernel
theorem dJ7_fill_53178_12 : decode cJ7_fill_53178 12 = .ok (.iload_n 1, 1) := by decide +kernel
theorem dJ7_fill_53178_13 : decode cJ7_fill_53178 13 = .ok (.iastore, 1) := by decide +kernel
theorem dJ7_fill_53178_14 : decode cJ7_fill_53178 14 = .ok (.iinc 2 1, 3) := by decide +kernel
theorem dJ7_fill_53178_17 : decode cJ7_fill_53178 17 = .ok (.goto (-12), 3) := by decide +kernel
theorem dJ7_fill_53178_20 : decode cJ7_fill_53178 20 = .ok (.return_, 1) := by decide +kernel
