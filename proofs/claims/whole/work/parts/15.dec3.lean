theorem d_PG_mustEndAhead_0 : decode b_PG_mustEndAhead 0 = .ok (.aload_n 0, 1) := by decide +kernel
theorem d_PG_mustEndAhead_1 : decode b_PG_mustEndAhead 1 = .ok (.getfield 24, 3) := by decide +kernel
theorem d_PG_mustEndAhead_4 : decode b_PG_mustEndAhead 4 = .ok (.iload_n 1, 1) := by decide +kernel
theorem d_PG_mustEndAhead_5 : decode b_PG_mustEndAhead 5 = .ok (.iconst 1, 1) := by decide +kernel
theorem d_PG_mustEndAhead_6 : decode b_PG_mustEndAhead 6 = .ok (.isub, 1) := by decide +kernel
theorem d_PG_mustEndAhead_7 : decode b_PG_mustEndAhead 7 = .ok (.invokevirtual 90, 3) := by decide +kernel
theorem d_PG_mustEndAhead_10 : decode b_PG_mustEndAhead 10 = .ok (.ifCond .ne 29, 3) := by decide +kernel
theorem d_PG_mustEndAhead_13 : decode b_PG_mustEndAhead 13 = .ok (.aload_n 0, 1) := by decide +kernel
theorem d_PG_mustEndAhead_14 : decode b_PG_mustEndAhead 14 = .ok (.getfield 24, 3) := by decide +kernel
theorem d_PG_mustEndAhead_17 : decode b_PG_mustEndAhead 17 = .ok (.iload_n 1, 1) := by decide +kernel
theorem d_PG_mustEndAhead_18 : decode b_PG_mustEndAhead 18 = .ok (.invokevirtual 71, 3) := by decide +kernel
theorem d_PG_mustEndAhead_21 : decode b_PG_mustEndAhead 21 = .ok (.ifCond .eq 22, 3) := by decide +kernel
theorem d_PG_mustEndAhead_24 : decode b_PG_mustEndAhead 24 = .ok (.aload_n 0, 1) := by decide +kernel
theorem d_PG_mustEndAhead_25 : decode b_PG_mustEndAhead 25 = .ok (.iload_n 1, 1) := by decide +kernel
theorem d_PG_mustEndAhead_26 : decode b_PG_mustEndAhead 26 = .ok (.invokevirtual 74, 3) := by decide +kernel
theorem d_PG_mustEndAhead_29 : decode b_PG_mustEndAhead 29 = .ok (.getfield 78, 3) := by decide +kernel
theorem d_PG_mustEndAhead_32 : decode b_PG_mustEndAhead 32 = .ok (.bipush 9, 2) := by decide +kernel
theorem d_PG_mustEndAhead_34 : decode b_PG_mustEndAhead 34 = .ok (.iaload, 1) := by decide +kernel
theorem d_PG_mustEndAhead_35 : decode b_PG_mustEndAhead 35 = .ok (.iconst 1, 1) := by decide +kernel
theorem d_PG_mustEndAhead_36 : decode b_PG_mustEndAhead 36 = .ok (.if_icmp .ne 7, 3) := by decide +kernel
theorem d_PG_mustEndAhead_39 : decode b_PG_mustEndAhead 39 = .ok (.iconst 1, 1) := by decide +kernel
theorem d_PG_mustEndAhead_40 : decode b_PG_mustEndAhead 40 = .ok (.goto 4, 3) := by decide +kernel
theorem d_PG_mustEndAhead_43 : decode b_PG_mustEndAhead 43 = .ok (.iconst 0, 1) := by decide +kernel
theorem d_PG_mustEndAhead_44 : decode b_PG_mustEndAhead 44 = .ok (.ireturn, 1) := by decide +kernel
theorem d_PG_paragraphOf_0 : decode b_PG_paragraphOf 0 = .ok (.aload_n 0, 1) := by decide +kernel
theorem d_PG_paragraphOf_1 : decode b_PG_paragraphOf 1 = .ok (.getfield 16, 3) := by decide +kernel
theorem d_PG_paragraphOf_4 : decode b_PG_paragraphOf 4 = .ok (.getfield 84, 3) := by decide +kernel
theorem d_PG_paragraphOf_7 : decode b_PG_paragraphOf 7 = .ok (.aload_n 0, 1) := by decide +kernel
theorem d_PG_paragraphOf_8 : decode b_PG_paragraphOf 8 = .ok (.getfield 24, 3) := by decide +kernel
theorem d_PG_paragraphOf_11 : decode b_PG_paragraphOf 11 = .ok (.getfield 49, 3) := by decide +kernel
theorem d_PG_paragraphOf_14 : decode b_PG_paragraphOf 14 = .ok (.iconst 0, 1) := by decide +kernel
theorem d_PG_paragraphOf_15 : decode b_PG_paragraphOf 15 = .ok (.aaload, 1) := by decide +kernel
theorem d_PG_paragraphOf_16 : decode b_PG_paragraphOf 16 = .ok (.iload_n 1, 1) := by decide +kernel
theorem d_PG_paragraphOf_17 : decode b_PG_paragraphOf 17 = .ok (.iaload, 1) := by decide +kernel
theorem d_PG_paragraphOf_18 : decode b_PG_paragraphOf 18 = .ok (.aaload, 1) := by decide +kernel
theorem d_PG_paragraphOf_19 : decode b_PG_paragraphOf 19 = .ok (.areturn, 1) := by decide +kernel
theorem d_PG_bottomOf_0 : decode b_PG_bottomOf 0 = .ok (.aload_n 0, 1) := by decide +kernel
theorem d_PG_bottomOf_1 : decode b_PG_bottomOf 1 = .ok (.getfield 24, 3) := by decide +kernel
theorem d_PG_bottomOf_4 : decode b_PG_bottomOf 4 = .ok (.getfield 49, 3) := by decide +kernel
theorem d_PG_bottomOf_7 : decode b_PG_bottomOf 7 = .ok (.bipush 7, 2) := by decide +kernel
theorem d_PG_bottomOf_9 : decode b_PG_bottomOf 9 = .ok (.aaload, 1) := by decide +kernel
theorem d_PG_bottomOf_10 : decode b_PG_bottomOf 10 = .ok (.iload_n 1, 1) := by decide +kernel
theorem d_PG_bottomOf_11 : decode b_PG_bottomOf 11 = .ok (.iaload, 1) := by decide +kernel
theorem d_PG_bottomOf_12 : decode b_PG_bottomOf 12 = .ok (.aload_n 0, 1) := by decide +kernel
theorem d_PG_bottomOf_13 : decode b_PG_bottomOf 13 = .ok (.getfield 24, 3) := by decide +kernel
theorem d_PG_bottomOf_16 : decode b_PG_bottomOf 16 = .ok (.getfield 49, 3) := by decide +kernel
theorem d_PG_bottomOf_19 : decode b_PG_bottomOf 19 = .ok (.iconst 5, 1) := by decide +kernel
theorem d_PG_bottomOf_20 : decode b_PG_bottomOf 20 = .ok (.aaload, 1) := by decide +kernel
theorem d_PG_bottomOf_21 : decode b_PG_bottomOf 21 = .ok (.iload_n 1, 1) := by decide +kernel
theorem d_PG_bottomOf_22 : decode b_PG_bottomOf 22 = .ok (.iaload, 1) := by decide +kernel
theorem d_PG_bottomOf_23 : decode b_PG_bottomOf 23 = .ok (.iadd, 1) := by decide +kernel
theorem d_PG_bottomOf_24 : decode b_PG_bottomOf 24 = .ok (.ireturn, 1) := by decide +kernel
theorem d_PG_spaceAhead_0 : decode b_PG_spaceAhead 0 = .ok (.aload_n 0, 1) := by decide +kernel
theorem d_PG_spaceAhead_1 : decode b_PG_spaceAhead 1 = .ok (.getfield 24, 3) := by decide +kernel
theorem d_PG_spaceAhead_4 : decode b_PG_spaceAhead 4 = .ok (.iload_n 1, 1) := by decide +kernel
theorem d_PG_spaceAhead_5 : decode b_PG_spaceAhead 5 = .ok (.invokevirtual 71, 3) := by decide +kernel
theorem d_PG_spaceAhead_8 : decode b_PG_spaceAhead 8 = .ok (.ifCond .ne 5, 3) := by decide +kernel
theorem d_PG_spaceAhead_11 : decode b_PG_spaceAhead 11 = .ok (.iconst 0, 1) := by decide +kernel
theorem d_PG_spaceAhead_12 : decode b_PG_spaceAhead 12 = .ok (.ireturn, 1) := by decide +kernel
theorem d_PG_spaceAhead_13 : decode b_PG_spaceAhead 13 = .ok (.aload_n 0, 1) := by decide +kernel
theorem d_PG_spaceAhead_14 : decode b_PG_spaceAhead 14 = .ok (.iload_n 1, 1) := by decide +kernel
theorem d_PG_spaceAhead_15 : decode b_PG_spaceAhead 15 = .ok (.iconst 1, 1) := by decide +kernel
theorem d_PG_spaceAhead_16 : decode b_PG_spaceAhead 16 = .ok (.isub, 1) := by decide +kernel
theorem d_PG_spaceAhead_17 : decode b_PG_spaceAhead 17 = .ok (.invokevirtual 74, 3) := by decide +kernel
theorem d_PG_spaceAhead_20 : decode b_PG_spaceAhead 20 = .ok (.getfield 78, 3) := by decide +kernel
theorem d_PG_spaceAhead_23 : decode b_PG_spaceAhead 23 = .ok (.iconst 4, 1) := by decide +kernel
theorem d_PG_spaceAhead_24 : decode b_PG_spaceAhead 24 = .ok (.iaload, 1) := by decide +kernel
theorem d_PG_spaceAhead_25 : decode b_PG_spaceAhead 25 = .ok (.aload_n 0, 1) := by decide +kernel
theorem d_PG_spaceAhead_26 : decode b_PG_spaceAhead 26 = .ok (.iload_n 1, 1) := by decide +kernel
theorem d_PG_spaceAhead_27 : decode b_PG_spaceAhead 27 = .ok (.invokevirtual 74, 3) := by decide +kernel
theorem d_PG_spaceAhead_30 : decode b_PG_spaceAhead 30 = .ok (.getfield 78, 3) := by decide +kernel
theorem d_PG_spaceAhead_33 : decode b_PG_spaceAhead 33 = .ok (.iconst 3, 1) := by decide +kernel
theorem d_PG_spaceAhead_34 : decode b_PG_spaceAhead 34 = .ok (.iaload, 1) := by decide +kernel
theorem d_PG_spaceAhead_35 : decode b_PG_spaceAhead 35 = .ok (.iadd, 1) := by decide +kernel
theorem d_PG_spaceAhead_36 : decode b_PG_spaceAhead 36 = .ok (.ireturn, 1) := by decide +kernel
theorem d_PG_mayEndAhead_0 : decode b_PG_mayEndAhead 0 = .ok (.aload_n 0, 1) := by decide +kernel
theorem d_PG_mayEndAhead_1 : decode b_PG_mayEndAhead 1 = .ok (.iload_n 1, 1) := by decide +kernel
theorem d_PG_mayEndAhead_2 : decode b_PG_mayEndAhead 2 = .ok (.iconst 1, 1) := by decide +kernel
theorem d_PG_mayEndAhead_3 : decode b_PG_mayEndAhead 3 = .ok (.isub, 1) := by decide +kernel
theorem d_PG_mayEndAhead_4 : decode b_PG_mayEndAhead 4 = .ok (.invokevirtual 74, 3) := by decide +kernel
theorem d_PG_mayEndAhead_7 : decode b_PG_mayEndAhead 7 = .ok (.getfield 78, 3) := by decide +kernel
theorem d_PG_mayEndAhead_10 : decode b_PG_mayEndAhead 10 = .ok (.astore_n 2, 1) := by decide +kernel
theorem d_PG_mayEndAhead_11 : decode b_PG_mayEndAhead 11 = .ok (.aload_n 0, 1) := by decide +kernel
theorem d_PG_mayEndAhead_12 : decode b_PG_mayEndAhead 12 = .ok (.getfield 24, 3) := by decide +kernel
theorem d_PG_mayEndAhead_15 : decode b_PG_mayEndAhead 15 = .ok (.iload_n 1, 1) := by decide +kernel
theorem d_PG_mayEndAhead_16 : decode b_PG_mayEndAhead 16 = .ok (.invokevirtual 71, 3) := by decide +kernel
theorem d_PG_mayEndAhead_19 : decode b_PG_mayEndAhead 19 = .ok (.ifCond .eq 16, 3) := by decide +kernel
theorem d_PG_mayEndAhead_22 : decode b_PG_mayEndAhead 22 = .ok (.aload_n 2, 1) := by decide +kernel
theorem d_PG_mayEndAhead_23 : decode b_PG_mayEndAhead 23 = .ok (.bipush 6, 2) := by decide +kernel
theorem d_PG_mayEndAhead_25 : decode b_PG_mayEndAhead 25 = .ok (.iaload, 1) := by decide +kernel
theorem d_PG_mayEndAhead_26 : decode b_PG_mayEndAhead 26 = .ok (.ifCond .ne 7, 3) := by decide +kernel
theorem d_PG_mayEndAhead_29 : decode b_PG_mayEndAhead 29 = .ok (.iconst 1, 1) := by decide +kernel
theorem d_PG_mayEndAhead_30 : decode b_PG_mayEndAhead 30 = .ok (.goto 4, 3) := by decide +kernel
theorem d_PG_mayEndAhead_33 : decode b_PG_mayEndAhead 33 = .ok (.iconst 0, 1) := by decide +kernel
theorem d_PG_mayEndAhead_34 : decode b_PG_mayEndAhead 34 = .ok (.ireturn, 1) := by decide +kernel
theorem d_PG_mayEndAhead_35 : decode b_PG_mayEndAhead 35 = .ok (.aload_n 0, 1) := by decide +kernel
theorem d_PG_mayEndAhead_36 : decode b_PG_mayEndAhead 36 = .ok (.getfield 24, 3) := by decide +kernel
theorem d_PG_mayEndAhead_39 : decode b_PG_mayEndAhead 39 = .ok (.iload_n 1, 1) := by decide +kernel
theorem d_PG_mayEndAhead_40 : decode b_PG_mayEndAhead 40 = .ok (.iconst 1, 1) := by decide +kernel
theorem d_PG_mayEndAhead_41 : decode b_PG_mayEndAhead 41 = .ok (.isub, 1) := by decide +kernel
theorem d_PG_mayEndAhead_42 : decode b_PG_mayEndAhead 42 = .ok (.invokevirtual 71, 3) := by decide +kernel
theorem d_PG_mayEndAhead_45 : decode b_PG_mayEndAhead 45 = .ok (.ifCond .ne 14, 3) := by decide +kernel
theorem d_PG_mayEndAhead_48 : decode b_PG_mayEndAhead 48 = .ok (.aload_n 0, 1) := by decide +kernel
theorem d_PG_mayEndAhead_49 : decode b_PG_mayEndAhead 49 = .ok (.getfield 24, 3) := by decide +kernel
theorem d_PG_mayEndAhead_52 : decode b_PG_mayEndAhead 52 = .ok (.iload_n 1, 1) := by decide +kernel
theorem d_PG_mayEndAhead_53 : decode b_PG_mayEndAhead 53 = .ok (.invokevirtual 93, 3) := by decide +kernel
theorem d_PG_mayEndAhead_56 : decode b_PG_mayEndAhead 56 = .ok (.ifCond .eq 7, 3) := by decide +kernel
theorem d_PG_mayEndAhead_59 : decode b_PG_mayEndAhead 59 = .ok (.iconst 1, 1) := by decide +kernel
theorem d_PG_mayEndAhead_60 : decode b_PG_mayEndAhead 60 = .ok (.goto 4, 3) := by decide +kernel
theorem d_PG_mayEndAhead_63 : decode b_PG_mayEndAhead 63 = .ok (.iconst 0, 1) := by decide +kernel
theorem d_PG_mayEndAhead_64 : decode b_PG_mayEndAhead 64 = .ok (.istore_n 3, 1) := by decide +kernel
theorem d_PG_mayEndAhead_65 : decode b_PG_mayEndAhead 65 = .ok (.aload_n 2, 1) := by decide +kernel
theorem d_PG_mayEndAhead_66 : decode b_PG_mayEndAhead 66 = .ok (.bipush 7, 2) := by decide +kernel
theorem d_PG_mayEndAhead_68 : decode b_PG_mayEndAhead 68 = .ok (.iaload, 1) := by decide +kernel
theorem d_PG_mayEndAhead_69 : decode b_PG_mayEndAhead 69 = .ok (.ifCond .ne 18, 3) := by decide +kernel
theorem d_PG_mayEndAhead_72 : decode b_PG_mayEndAhead 72 = .ok (.aload_n 2, 1) := by decide +kernel
theorem d_PG_mayEndAhead_73 : decode b_PG_mayEndAhead 73 = .ok (.bipush 8, 2) := by decide +kernel
theorem d_PG_mayEndAhead_75 : decode b_PG_mayEndAhead 75 = .ok (.iaload, 1) := by decide +kernel
theorem d_PG_mayEndAhead_76 : decode b_PG_mayEndAhead 76 = .ok (.ifCond .eq 7, 3) := by decide +kernel
theorem d_PG_mayEndAhead_79 : decode b_PG_mayEndAhead 79 = .ok (.iload_n 3, 1) := by decide +kernel
theorem d_PG_mayEndAhead_80 : decode b_PG_mayEndAhead 80 = .ok (.ifCond .ne 7, 3) := by decide +kernel
theorem d_PG_mayEndAhead_83 : decode b_PG_mayEndAhead 83 = .ok (.iconst 1, 1) := by decide +kernel
theorem d_PG_mayEndAhead_84 : decode b_PG_mayEndAhead 84 = .ok (.goto 4, 3) := by decide +kernel
theorem d_PG_mayEndAhead_87 : decode b_PG_mayEndAhead 87 = .ok (.iconst 0, 1) := by decide +kernel
theorem d_PG_mayEndAhead_88 : decode b_PG_mayEndAhead 88 = .ok (.ireturn, 1) := by decide +kernel
theorem d_PL_count_0 : decode b_PL_count 0 = .ok (.iload_n 1, 1) := by decide +kernel
theorem d_PL_count_1 : decode b_PL_count 1 = .ok (.tableswitch 63 0 3 #[31, 39, 47, 55], 31) := by decide +kernel
theorem d_PL_count_32 : decode b_PL_count 32 = .ok (.aload_n 0, 1) := by decide +kernel
theorem d_PL_count_33 : decode b_PL_count 33 = .ok (.getfield 12, 3) := by decide +kernel
theorem d_PL_count_36 : decode b_PL_count 36 = .ok (.getfield 45, 3) := by decide +kernel
theorem d_PL_count_39 : decode b_PL_count 39 = .ok (.ireturn, 1) := by decide +kernel
theorem d_PL_count_40 : decode b_PL_count 40 = .ok (.aload_n 0, 1) := by decide +kernel
theorem d_PL_count_41 : decode b_PL_count 41 = .ok (.getfield 12, 3) := by decide +kernel
theorem d_PL_count_44 : decode b_PL_count 44 = .ok (.getfield 49, 3) := by decide +kernel
theorem d_PL_count_47 : decode b_PL_count 47 = .ok (.ireturn, 1) := by decide +kernel
theorem d_PL_count_48 : decode b_PL_count 48 = .ok (.aload_n 0, 1) := by decide +kernel
theorem d_PL_count_49 : decode b_PL_count 49 = .ok (.getfield 28, 3) := by decide +kernel
theorem d_PL_count_52 : decode b_PL_count 52 = .ok (.getfield 140, 3) := by decide +kernel
theorem d_PL_count_55 : decode b_PL_count 55 = .ok (.ireturn, 1) := by decide +kernel
theorem d_PL_count_56 : decode b_PL_count 56 = .ok (.aload_n 0, 1) := by decide +kernel
theorem d_PL_count_57 : decode b_PL_count 57 = .ok (.getfield 37, 3) := by decide +kernel
theorem d_PL_count_60 : decode b_PL_count 60 = .ok (.getfield 137, 3) := by decide +kernel
theorem d_PL_count_63 : decode b_PL_count 63 = .ok (.ireturn, 1) := by decide +kernel
theorem d_PL_count_64 : decode b_PL_count 64 = .ok (.iconst (-1), 1) := by decide +kernel
theorem d_PL_count_65 : decode b_PL_count 65 = .ok (.ireturn, 1) := by decide +kernel
theorem d_PL_isOutside_0 : decode b_PL_isOutside 0 = .ok (.iload_n 0, 1) := by decide +kernel
theorem d_PL_isOutside_1 : decode b_PL_isOutside 1 = .ok (.iload_n 1, 1) := by decide +kernel
theorem d_PL_isOutside_2 : decode b_PL_isOutside 2 = .ok (.if_icmp .lt 8, 3) := by decide +kernel
theorem d_PL_isOutside_5 : decode b_PL_isOutside 5 = .ok (.iload_n 0, 1) := by decide +kernel
theorem d_PL_isOutside_6 : decode b_PL_isOutside 6 = .ok (.iload_n 2, 1) := by decide +kernel
theorem d_PL_isOutside_7 : decode b_PL_isOutside 7 = .ok (.if_icmp .le 7, 3) := by decide +kernel
theorem d_PL_isOutside_10 : decode b_PL_isOutside 10 = .ok (.iconst 1, 1) := by decide +kernel
theorem d_PL_isOutside_11 : decode b_PL_isOutside 11 = .ok (.goto 4, 3) := by decide +kernel
theorem d_PL_isOutside_14 : decode b_PL_isOutside 14 = .ok (.iconst 0, 1) := by decide +kernel
theorem d_PL_isOutside_15 : decode b_PL_isOutside 15 = .ok (.ireturn, 1) := by decide +kernel
theorem d_PG_lineAt_0 : decode b_PG_lineAt 0 = .ok (.aload_n 0, 1) := by decide +kernel
theorem d_PG_lineAt_1 : decode b_PG_lineAt 1 = .ok (.getfield 11, 3) := by decide +kernel
theorem d_PG_lineAt_4 : decode b_PG_lineAt 4 = .ok (.iconst 0, 1) := by decide +kernel
theorem d_PG_lineAt_5 : decode b_PG_lineAt 5 = .ok (.aaload, 1) := by decide +kernel
theorem d_PG_lineAt_6 : decode b_PG_lineAt 6 = .ok (.iload_n 1, 1) := by decide +kernel
theorem d_PG_lineAt_7 : decode b_PG_lineAt 7 = .ok (.iaload, 1) := by decide +kernel
theorem d_PG_lineAt_8 : decode b_PG_lineAt 8 = .ok (.istore_n 3, 1) := by decide +kernel
theorem d_PG_lineAt_9 : decode b_PG_lineAt 9 = .ok (.iload_n 3, 1) := by decide +kernel
theorem d_PG_lineAt_10 : decode b_PG_lineAt 10 = .ok (.aload_n 0, 1) := by decide +kernel
theorem d_PG_lineAt_11 : decode b_PG_lineAt 11 = .ok (.getfield 11, 3) := by decide +kernel
theorem d_PG_lineAt_14 : decode b_PG_lineAt 14 = .ok (.iconst 1, 1) := by decide +kernel
theorem d_PG_lineAt_15 : decode b_PG_lineAt 15 = .ok (.aaload, 1) := by decide +kernel
theorem d_PG_lineAt_16 : decode b_PG_lineAt 16 = .ok (.iload_n 1, 1) := by decide +kernel
theorem d_PG_lineAt_17 : decode b_PG_lineAt 17 = .ok (.iaload, 1) := by decide +kernel
theorem d_PG_lineAt_18 : decode b_PG_lineAt 18 = .ok (.iadd, 1) := by decide +kernel
theorem d_PG_lineAt_19 : decode b_PG_lineAt 19 = .ok (.iconst 1, 1) := by decide +kernel
theorem d_PG_lineAt_20 : decode b_PG_lineAt 20 = .ok (.isub, 1) := by decide +kernel
theorem d_PG_lineAt_21 : decode b_PG_lineAt 21 = .ok (.istore 4, 2) := by decide +kernel
theorem d_PG_lineAt_23 : decode b_PG_lineAt 23 = .ok (.iload 4, 2) := by decide +kernel
theorem d_PG_lineAt_25 : decode b_PG_lineAt 25 = .ok (.iload_n 3, 1) := by decide +kernel
theorem d_PG_lineAt_26 : decode b_PG_lineAt 26 = .ok (.if_icmp .le 26, 3) := by decide +kernel
theorem d_PG_lineAt_29 : decode b_PG_lineAt 29 = .ok (.aload_n 0, 1) := by decide +kernel
theorem d_PG_lineAt_30 : decode b_PG_lineAt 30 = .ok (.getfield 24, 3) := by decide +kernel
theorem d_PG_lineAt_33 : decode b_PG_lineAt 33 = .ok (.getfield 49, 3) := by decide +kernel
theorem d_PG_lineAt_36 : decode b_PG_lineAt 36 = .ok (.bipush 7, 2) := by decide +kernel
theorem d_PG_lineAt_38 : decode b_PG_lineAt 38 = .ok (.aaload, 1) := by decide +kernel
theorem d_PG_lineAt_39 : decode b_PG_lineAt 39 = .ok (.iload 4, 2) := by decide +kernel
theorem d_PG_lineAt_41 : decode b_PG_lineAt 41 = .ok (.iaload, 1) := by decide +kernel
theorem d_PG_lineAt_42 : decode b_PG_lineAt 42 = .ok (.iload_n 2, 1) := by decide +kernel
theorem d_PG_lineAt_43 : decode b_PG_lineAt 43 = .ok (.if_icmp .le 9, 3) := by decide +kernel
theorem d_PG_lineAt_46 : decode b_PG_lineAt 46 = .ok (.iinc 4 (-1), 3) := by decide +kernel
theorem d_PG_lineAt_49 : decode b_PG_lineAt 49 = .ok (.goto (-26), 3) := by decide +kernel
theorem d_PG_lineAt_52 : decode b_PG_lineAt 52 = .ok (.iload 4, 2) := by decide +kernel
theorem d_PG_lineAt_54 : decode b_PG_lineAt 54 = .ok (.ireturn, 1) := by decide +kernel
