theorem d_LN_widthsBehindTab_0 : decode b_LN_widthsBehindTab 0 = .ok (.iconst 0, 1) := by decide +kernel
theorem d_LN_widthsBehindTab_1 : decode b_LN_widthsBehindTab 1 = .ok (.istore 4, 2) := by decide +kernel
theorem d_LN_widthsBehindTab_3 : decode b_LN_widthsBehindTab 3 = .ok (.iload_n 1, 1) := by decide +kernel
theorem d_LN_widthsBehindTab_4 : decode b_LN_widthsBehindTab 4 = .ok (.iconst 1, 1) := by decide +kernel
theorem d_LN_widthsBehindTab_5 : decode b_LN_widthsBehindTab 5 = .ok (.iadd, 1) := by decide +kernel
theorem d_LN_widthsBehindTab_6 : decode b_LN_widthsBehindTab 6 = .ok (.istore 5, 2) := by decide +kernel
theorem d_LN_widthsBehindTab_8 : decode b_LN_widthsBehindTab 8 = .ok (.iload 5, 2) := by decide +kernel
theorem d_LN_widthsBehindTab_10 : decode b_LN_widthsBehindTab 10 = .ok (.iload_n 2, 1) := by decide +kernel
theorem d_LN_widthsBehindTab_11 : decode b_LN_widthsBehindTab 11 = .ok (.if_icmp .ge 50, 3) := by decide +kernel
theorem d_LN_widthsBehindTab_14 : decode b_LN_widthsBehindTab 14 = .ok (.aload_n 0, 1) := by decide +kernel
theorem d_LN_widthsBehindTab_15 : decode b_LN_widthsBehindTab 15 = .ok (.getfield 19, 3) := by decide +kernel
theorem d_LN_widthsBehindTab_18 : decode b_LN_widthsBehindTab 18 = .ok (.getfield 121, 3) := by decide +kernel
theorem d_LN_widthsBehindTab_21 : decode b_LN_widthsBehindTab 21 = .ok (.iload 5, 2) := by decide +kernel
theorem d_LN_widthsBehindTab_23 : decode b_LN_widthsBehindTab 23 = .ok (.iaload, 1) := by decide +kernel
theorem d_LN_widthsBehindTab_24 : decode b_LN_widthsBehindTab 24 = .ok (.iconst 2, 1) := by decide +kernel
theorem d_LN_widthsBehindTab_25 : decode b_LN_widthsBehindTab 25 = .ok (.if_icmp .eq 36, 3) := by decide +kernel
theorem d_LN_widthsBehindTab_28 : decode b_LN_widthsBehindTab 28 = .ok (.iload 4, 2) := by decide +kernel
theorem d_LN_widthsBehindTab_30 : decode b_LN_widthsBehindTab 30 = .ok (.aload_n 0, 1) := by decide +kernel
theorem d_LN_widthsBehindTab_31 : decode b_LN_widthsBehindTab 31 = .ok (.getfield 19, 3) := by decide +kernel
theorem d_LN_widthsBehindTab_34 : decode b_LN_widthsBehindTab 34 = .ok (.iload 5, 2) := by decide +kernel
theorem d_LN_widthsBehindTab_36 : decode b_LN_widthsBehindTab 36 = .ok (.iload 5, 2) := by decide +kernel
theorem d_LN_widthsBehindTab_38 : decode b_LN_widthsBehindTab 38 = .ok (.iload_n 3, 1) := by decide +kernel
theorem d_LN_widthsBehindTab_39 : decode b_LN_widthsBehindTab 39 = .ok (.iconst 1, 1) := by decide +kernel
theorem d_LN_widthsBehindTab_40 : decode b_LN_widthsBehindTab 40 = .ok (.isub, 1) := by decide +kernel
theorem d_LN_widthsBehindTab_41 : decode b_LN_widthsBehindTab 41 = .ok (.if_icmp .ne 7, 3) := by decide +kernel
theorem d_LN_widthsBehindTab_44 : decode b_LN_widthsBehindTab 44 = .ok (.iconst 1, 1) := by decide +kernel
theorem d_LN_widthsBehindTab_45 : decode b_LN_widthsBehindTab 45 = .ok (.goto 4, 3) := by decide +kernel
theorem d_LN_widthsBehindTab_48 : decode b_LN_widthsBehindTab 48 = .ok (.iconst 0, 1) := by decide +kernel
theorem d_LN_widthsBehindTab_49 : decode b_LN_widthsBehindTab 49 = .ok (.invokevirtual 134, 3) := by decide +kernel
theorem d_LN_widthsBehindTab_52 : decode b_LN_widthsBehindTab 52 = .ok (.iadd, 1) := by decide +kernel
theorem d_LN_widthsBehindTab_53 : decode b_LN_widthsBehindTab 53 = .ok (.istore 4, 2) := by decide +kernel
theorem d_LN_widthsBehindTab_55 : decode b_LN_widthsBehindTab 55 = .ok (.iinc 5 1, 3) := by decide +kernel
theorem d_LN_widthsBehindTab_58 : decode b_LN_widthsBehindTab 58 = .ok (.goto (-50), 3) := by decide +kernel
theorem d_LN_widthsBehindTab_61 : decode b_LN_widthsBehindTab 61 = .ok (.iload 4, 2) := by decide +kernel
theorem d_LN_widthsBehindTab_63 : decode b_LN_widthsBehindTab 63 = .ok (.ireturn, 1) := by decide +kernel
theorem d_LN_heightOf_0 : decode b_LN_heightOf 0 = .ok (.aload_n 1, 1) := by decide +kernel
theorem d_LN_heightOf_1 : decode b_LN_heightOf 1 = .ok (.getfield 53, 3) := by decide +kernel
theorem d_LN_heightOf_4 : decode b_LN_heightOf 4 = .ok (.bipush 10, 2) := by decide +kernel
theorem d_LN_heightOf_6 : decode b_LN_heightOf 6 = .ok (.iaload, 1) := by decide +kernel
theorem d_LN_heightOf_7 : decode b_LN_heightOf 7 = .ok (.istore 4, 2) := by decide +kernel
theorem d_LN_heightOf_9 : decode b_LN_heightOf 9 = .ok (.iload_n 2, 1) := by decide +kernel
theorem d_LN_heightOf_10 : decode b_LN_heightOf 10 = .ok (.istore 5, 2) := by decide +kernel
theorem d_LN_heightOf_12 : decode b_LN_heightOf 12 = .ok (.iload 5, 2) := by decide +kernel
theorem d_LN_heightOf_14 : decode b_LN_heightOf 14 = .ok (.iload_n 3, 1) := by decide +kernel
theorem d_LN_heightOf_15 : decode b_LN_heightOf 15 = .ok (.if_icmp .ge 26, 3) := by decide +kernel
theorem d_LN_heightOf_18 : decode b_LN_heightOf 18 = .ok (.iload 4, 2) := by decide +kernel
theorem d_LN_heightOf_20 : decode b_LN_heightOf 20 = .ok (.aload_n 0, 1) := by decide +kernel
theorem d_LN_heightOf_21 : decode b_LN_heightOf 21 = .ok (.getfield 19, 3) := by decide +kernel
theorem d_LN_heightOf_24 : decode b_LN_heightOf 24 = .ok (.getfield 138, 3) := by decide +kernel
theorem d_LN_heightOf_27 : decode b_LN_heightOf 27 = .ok (.iload 5, 2) := by decide +kernel
theorem d_LN_heightOf_29 : decode b_LN_heightOf 29 = .ok (.iaload, 1) := by decide +kernel
theorem d_LN_heightOf_30 : decode b_LN_heightOf 30 = .ok (.invokestatic 59, 3) := by decide +kernel
theorem d_LN_heightOf_33 : decode b_LN_heightOf 33 = .ok (.istore 4, 2) := by decide +kernel
theorem d_LN_heightOf_35 : decode b_LN_heightOf 35 = .ok (.iinc 5 1, 3) := by decide +kernel
theorem d_LN_heightOf_38 : decode b_LN_heightOf 38 = .ok (.goto (-26), 3) := by decide +kernel
theorem d_LN_heightOf_41 : decode b_LN_heightOf 41 = .ok (.iload 4, 2) := by decide +kernel
theorem d_LN_heightOf_43 : decode b_LN_heightOf 43 = .ok (.ireturn, 1) := by decide +kernel
theorem d_LN_signBehindLastTab_0 : decode b_LN_signBehindLastTab 0 = .ok (.iload_n 2, 1) := by decide +kernel
theorem d_LN_signBehindLastTab_1 : decode b_LN_signBehindLastTab 1 = .ok (.istore_n 3, 1) := by decide +kernel
theorem d_LN_signBehindLastTab_2 : decode b_LN_signBehindLastTab 2 = .ok (.iload_n 3, 1) := by decide +kernel
theorem d_LN_signBehindLastTab_3 : decode b_LN_signBehindLastTab 3 = .ok (.iload_n 1, 1) := by decide +kernel
theorem d_LN_signBehindLastTab_4 : decode b_LN_signBehindLastTab 4 = .ok (.if_icmp .le 24, 3) := by decide +kernel
theorem d_LN_signBehindLastTab_7 : decode b_LN_signBehindLastTab 7 = .ok (.aload_n 0, 1) := by decide +kernel
theorem d_LN_signBehindLastTab_8 : decode b_LN_signBehindLastTab 8 = .ok (.getfield 19, 3) := by decide +kernel
theorem d_LN_signBehindLastTab_11 : decode b_LN_signBehindLastTab 11 = .ok (.getfield 121, 3) := by decide +kernel
theorem d_LN_signBehindLastTab_14 : decode b_LN_signBehindLastTab 14 = .ok (.iload_n 3, 1) := by decide +kernel
theorem d_LN_signBehindLastTab_15 : decode b_LN_signBehindLastTab 15 = .ok (.iconst 1, 1) := by decide +kernel
theorem d_LN_signBehindLastTab_16 : decode b_LN_signBehindLastTab 16 = .ok (.isub, 1) := by decide +kernel
theorem d_LN_signBehindLastTab_17 : decode b_LN_signBehindLastTab 17 = .ok (.iaload, 1) := by decide +kernel
theorem d_LN_signBehindLastTab_18 : decode b_LN_signBehindLastTab 18 = .ok (.iconst 2, 1) := by decide +kernel
theorem d_LN_signBehindLastTab_19 : decode b_LN_signBehindLastTab 19 = .ok (.if_icmp .eq 9, 3) := by decide +kernel
theorem d_LN_signBehindLastTab_22 : decode b_LN_signBehindLastTab 22 = .ok (.iinc 3 (-1), 3) := by decide +kernel
theorem d_LN_signBehindLastTab_25 : decode b_LN_signBehindLastTab 25 = .ok (.goto (-23), 3) := by decide +kernel
theorem d_LN_signBehindLastTab_28 : decode b_LN_signBehindLastTab 28 = .ok (.iload_n 3, 1) := by decide +kernel
theorem d_LN_signBehindLastTab_29 : decode b_LN_signBehindLastTab 29 = .ok (.ireturn, 1) := by decide +kernel
theorem d_RU_endWith_0 : decode b_RU_endWith 0 = .ok (.aload_n 0, 1) := by decide +kernel
theorem d_RU_endWith_1 : decode b_RU_endWith 1 = .ok (.getfield 23, 3) := by decide +kernel
theorem d_RU_endWith_4 : decode b_RU_endWith 4 = .ok (.ifCond .eq 32, 3) := by decide +kernel
theorem d_RU_endWith_7 : decode b_RU_endWith 7 = .ok (.aload_n 0, 1) := by decide +kernel
theorem d_RU_endWith_8 : decode b_RU_endWith 8 = .ok (.getfield 19, 3) := by decide +kernel
theorem d_RU_endWith_11 : decode b_RU_endWith 11 = .ok (.ifnull 25, 3) := by decide +kernel
theorem d_RU_endWith_14 : decode b_RU_endWith 14 = .ok (.aload_n 0, 1) := by decide +kernel
theorem d_RU_endWith_15 : decode b_RU_endWith 15 = .ok (.getfield 19, 3) := by decide +kernel
theorem d_RU_endWith_18 : decode b_RU_endWith 18 = .ok (.aload_n 0, 1) := by decide +kernel
theorem d_RU_endWith_19 : decode b_RU_endWith 19 = .ok (.getfield 59, 3) := by decide +kernel
theorem d_RU_endWith_22 : decode b_RU_endWith 22 = .ok (.iload_n 1, 1) := by decide +kernel
theorem d_RU_endWith_23 : decode b_RU_endWith 23 = .ok (.aload_n 0, 1) := by decide +kernel
theorem d_RU_endWith_24 : decode b_RU_endWith 24 = .ok (.getfield 15, 3) := by decide +kernel
theorem d_RU_endWith_27 : decode b_RU_endWith 27 = .ok (.getfield 62, 3) := by decide +kernel
theorem d_RU_endWith_30 : decode b_RU_endWith 30 = .ok (.invokevirtual 67, 3) := by decide +kernel
theorem d_RU_endWith_33 : decode b_RU_endWith 33 = .ok (.goto 4, 3) := by decide +kernel
theorem d_RU_endWith_36 : decode b_RU_endWith 36 = .ok (.iconst 0, 1) := by decide +kernel
theorem d_RU_endWith_37 : decode b_RU_endWith 37 = .ok (.istore_n 2, 1) := by decide +kernel
theorem d_RU_endWith_38 : decode b_RU_endWith 38 = .ok (.aload_n 0, 1) := by decide +kernel
theorem d_RU_endWith_39 : decode b_RU_endWith 39 = .ok (.getfield 59, 3) := by decide +kernel
theorem d_RU_endWith_42 : decode b_RU_endWith 42 = .ok (.iload_n 2, 1) := by decide +kernel
theorem d_RU_endWith_43 : decode b_RU_endWith 43 = .ok (.iadd, 1) := by decide +kernel
theorem d_RU_endWith_44 : decode b_RU_endWith 44 = .ok (.iload_n 1, 1) := by decide +kernel
theorem d_RU_endWith_45 : decode b_RU_endWith 45 = .ok (.iadd, 1) := by decide +kernel
theorem d_RU_endWith_46 : decode b_RU_endWith 46 = .ok (.ireturn, 1) := by decide +kernel
theorem d_RU_endBehind_0 : decode b_RU_endBehind 0 = .ok (.aload_n 0, 1) := by decide +kernel
theorem d_RU_endBehind_1 : decode b_RU_endBehind 1 = .ok (.aload_n 0, 1) := by decide +kernel
theorem d_RU_endBehind_2 : decode b_RU_endBehind 2 = .ok (.getfield 9, 3) := by decide +kernel
theorem d_RU_endBehind_5 : decode b_RU_endBehind 5 = .ok (.getfield 31, 3) := by decide +kernel
theorem d_RU_endBehind_8 : decode b_RU_endBehind 8 = .ok (.iload_n 1, 1) := by decide +kernel
theorem d_RU_endBehind_9 : decode b_RU_endBehind 9 = .ok (.iaload, 1) := by decide +kernel
theorem d_RU_endBehind_10 : decode b_RU_endBehind 10 = .ok (.iconst 4, 1) := by decide +kernel
theorem d_RU_endBehind_11 : decode b_RU_endBehind 11 = .ok (.if_icmp .ne 20, 3) := by decide +kernel
theorem d_RU_endBehind_14 : decode b_RU_endBehind 14 = .ok (.aload_n 0, 1) := by decide +kernel
theorem d_RU_endBehind_15 : decode b_RU_endBehind 15 = .ok (.getfield 37, 3) := by decide +kernel
theorem d_RU_endBehind_18 : decode b_RU_endBehind 18 = .ok (.aload_n 0, 1) := by decide +kernel
theorem d_RU_endBehind_19 : decode b_RU_endBehind 19 = .ok (.getfield 9, 3) := by decide +kernel
theorem d_RU_endBehind_22 : decode b_RU_endBehind 22 = .ok (.getfield 56, 3) := by decide +kernel
theorem d_RU_endBehind_25 : decode b_RU_endBehind 25 = .ok (.iload_n 1, 1) := by decide +kernel
theorem d_RU_endBehind_26 : decode b_RU_endBehind 26 = .ok (.iaload, 1) := by decide +kernel
theorem d_RU_endBehind_27 : decode b_RU_endBehind 27 = .ok (.iadd, 1) := by decide +kernel
theorem d_RU_endBehind_28 : decode b_RU_endBehind 28 = .ok (.goto 7, 3) := by decide +kernel
theorem d_RU_endBehind_31 : decode b_RU_endBehind 31 = .ok (.aload_n 0, 1) := by decide +kernel
theorem d_RU_endBehind_32 : decode b_RU_endBehind 32 = .ok (.getfield 53, 3) := by decide +kernel
theorem d_RU_endBehind_35 : decode b_RU_endBehind 35 = .ok (.invokevirtual 41, 3) := by decide +kernel
theorem d_RU_endBehind_38 : decode b_RU_endBehind 38 = .ok (.ireturn, 1) := by decide +kernel
theorem d_RU_leastEnd_0 : decode b_RU_leastEnd 0 = .ok (.aload_n 0, 1) := by decide +kernel
theorem d_RU_leastEnd_1 : decode b_RU_leastEnd 1 = .ok (.aload_n 0, 1) := by decide +kernel
theorem d_RU_leastEnd_2 : decode b_RU_leastEnd 2 = .ok (.getfield 53, 3) := by decide +kernel
theorem d_RU_leastEnd_5 : decode b_RU_leastEnd 5 = .ok (.invokevirtual 41, 3) := by decide +kernel
theorem d_RU_leastEnd_8 : decode b_RU_leastEnd 8 = .ok (.ireturn, 1) := by decide +kernel
theorem d_LN_endsPage_0 : decode b_LN_endsPage 0 = .ok (.aload_n 0, 1) := by decide +kernel
theorem d_LN_endsPage_1 : decode b_LN_endsPage 1 = .ok (.getfield 11, 3) := by decide +kernel
theorem d_LN_endsPage_4 : decode b_LN_endsPage 4 = .ok (.iconst 2, 1) := by decide +kernel
theorem d_LN_endsPage_5 : decode b_LN_endsPage 5 = .ok (.aaload, 1) := by decide +kernel
theorem d_LN_endsPage_6 : decode b_LN_endsPage 6 = .ok (.iload_n 1, 1) := by decide +kernel
theorem d_LN_endsPage_7 : decode b_LN_endsPage 7 = .ok (.iaload, 1) := by decide +kernel
theorem d_LN_endsPage_8 : decode b_LN_endsPage 8 = .ok (.istore_n 2, 1) := by decide +kernel
theorem d_LN_endsPage_9 : decode b_LN_endsPage 9 = .ok (.iload_n 2, 1) := by decide +kernel
theorem d_LN_endsPage_10 : decode b_LN_endsPage 10 = .ok (.ifCond .le 32, 3) := by decide +kernel
theorem d_LN_endsPage_13 : decode b_LN_endsPage 13 = .ok (.aload_n 0, 1) := by decide +kernel
theorem d_LN_endsPage_14 : decode b_LN_endsPage 14 = .ok (.getfield 19, 3) := by decide +kernel
theorem d_LN_endsPage_17 : decode b_LN_endsPage 17 = .ok (.getfield 121, 3) := by decide +kernel
theorem d_LN_endsPage_20 : decode b_LN_endsPage 20 = .ok (.aload_n 0, 1) := by decide +kernel
theorem d_LN_endsPage_21 : decode b_LN_endsPage 21 = .ok (.getfield 11, 3) := by decide +kernel
theorem d_LN_endsPage_24 : decode b_LN_endsPage 24 = .ok (.iconst 1, 1) := by decide +kernel
theorem d_LN_endsPage_25 : decode b_LN_endsPage 25 = .ok (.aaload, 1) := by decide +kernel
theorem d_LN_endsPage_26 : decode b_LN_endsPage 26 = .ok (.iload_n 1, 1) := by decide +kernel
theorem d_LN_endsPage_27 : decode b_LN_endsPage 27 = .ok (.iaload, 1) := by decide +kernel
theorem d_LN_endsPage_28 : decode b_LN_endsPage 28 = .ok (.iload_n 2, 1) := by decide +kernel
theorem d_LN_endsPage_29 : decode b_LN_endsPage 29 = .ok (.iadd, 1) := by decide +kernel
theorem d_LN_endsPage_30 : decode b_LN_endsPage 30 = .ok (.iconst 1, 1) := by decide +kernel
theorem d_LN_endsPage_31 : decode b_LN_endsPage 31 = .ok (.isub, 1) := by decide +kernel
theorem d_LN_endsPage_32 : decode b_LN_endsPage 32 = .ok (.iaload, 1) := by decide +kernel
theorem d_LN_endsPage_33 : decode b_LN_endsPage 33 = .ok (.bipush 6, 2) := by decide +kernel
theorem d_LN_endsPage_35 : decode b_LN_endsPage 35 = .ok (.if_icmp .ne 7, 3) := by decide +kernel
theorem d_LN_endsPage_38 : decode b_LN_endsPage 38 = .ok (.iconst 1, 1) := by decide +kernel
theorem d_LN_endsPage_39 : decode b_LN_endsPage 39 = .ok (.goto 4, 3) := by decide +kernel
theorem d_LN_endsPage_42 : decode b_LN_endsPage 42 = .ok (.iconst 0, 1) := by decide +kernel
theorem d_LN_endsPage_43 : decode b_LN_endsPage 43 = .ok (.ireturn, 1) := by decide +kernel
theorem d_LN_isFirstOfParagraph_0 : decode b_LN_isFirstOfParagraph 0 = .ok (.iload_n 1, 1) := by decide +kernel
theorem d_LN_isFirstOfParagraph_1 : decode b_LN_isFirstOfParagraph 1 = .ok (.iconst 1, 1) := by decide +kernel
theorem d_LN_isFirstOfParagraph_2 : decode b_LN_isFirstOfParagraph 2 = .ok (.if_icmp .lt 24, 3) := by decide +kernel
theorem d_LN_isFirstOfParagraph_5 : decode b_LN_isFirstOfParagraph 5 = .ok (.aload_n 0, 1) := by decide +kernel
theorem d_LN_isFirstOfParagraph_6 : decode b_LN_isFirstOfParagraph 6 = .ok (.getfield 11, 3) := by decide +kernel
theorem d_LN_isFirstOfParagraph_9 : decode b_LN_isFirstOfParagraph 9 = .ok (.iconst 0, 1) := by decide +kernel
theorem d_LN_isFirstOfParagraph_10 : decode b_LN_isFirstOfParagraph 10 = .ok (.aaload, 1) := by decide +kernel
theorem d_LN_isFirstOfParagraph_11 : decode b_LN_isFirstOfParagraph 11 = .ok (.iload_n 1, 1) := by decide +kernel
theorem d_LN_isFirstOfParagraph_12 : decode b_LN_isFirstOfParagraph 12 = .ok (.iconst 1, 1) := by decide +kernel
theorem d_LN_isFirstOfParagraph_13 : decode b_LN_isFirstOfParagraph 13 = .ok (.isub, 1) := by decide +kernel
theorem d_LN_isFirstOfParagraph_14 : decode b_LN_isFirstOfParagraph 14 = .ok (.iaload, 1) := by decide +kernel
theorem d_LN_isFirstOfParagraph_15 : decode b_LN_isFirstOfParagraph 15 = .ok (.aload_n 0, 1) := by decide +kernel
theorem d_LN_isFirstOfParagraph_16 : decode b_LN_isFirstOfParagraph 16 = .ok (.getfield 11, 3) := by decide +kernel
theorem d_LN_isFirstOfParagraph_19 : decode b_LN_isFirstOfParagraph 19 = .ok (.iconst 0, 1) := by decide +kernel
theorem d_LN_isFirstOfParagraph_20 : decode b_LN_isFirstOfParagraph 20 = .ok (.aaload, 1) := by decide +kernel
theorem d_LN_isFirstOfParagraph_21 : decode b_LN_isFirstOfParagraph 21 = .ok (.iload_n 1, 1) := by decide +kernel
theorem d_LN_isFirstOfParagraph_22 : decode b_LN_isFirstOfParagraph 22 = .ok (.iaload, 1) := by decide +kernel
theorem d_LN_isFirstOfParagraph_23 : decode b_LN_isFirstOfParagraph 23 = .ok (.if_icmp .eq 7, 3) := by decide +kernel
theorem d_LN_isFirstOfParagraph_26 : decode b_LN_isFirstOfParagraph 26 = .ok (.iconst 1, 1) := by decide +kernel
theorem d_LN_isFirstOfParagraph_27 : decode b_LN_isFirstOfParagraph 27 = .ok (.goto 4, 3) := by decide +kernel
theorem d_LN_isFirstOfParagraph_30 : decode b_LN_isFirstOfParagraph 30 = .ok (.iconst 0, 1) := by decide +kernel
theorem d_LN_isFirstOfParagraph_31 : decode b_LN_isFirstOfParagraph 31 = .ok (.ireturn, 1) := by decide +kernel
theorem d_LN_isLastOfParagraph_0 : decode b_LN_isLastOfParagraph 0 = .ok (.iload_n 1, 1) := by decide +kernel
theorem d_LN_isLastOfParagraph_1 : decode b_LN_isLastOfParagraph 1 = .ok (.aload_n 0, 1) := by decide +kernel
theorem d_LN_isLastOfParagraph_2 : decode b_LN_isLastOfParagraph 2 = .ok (.getfield 36, 3) := by decide +kernel
theorem d_LN_isLastOfParagraph_5 : decode b_LN_isLastOfParagraph 5 = .ok (.iconst 1, 1) := by decide +kernel
theorem d_LN_isLastOfParagraph_6 : decode b_LN_isLastOfParagraph 6 = .ok (.isub, 1) := by decide +kernel
theorem d_LN_isLastOfParagraph_7 : decode b_LN_isLastOfParagraph 7 = .ok (.if_icmp .ge 24, 3) := by decide +kernel
theorem d_LN_isLastOfParagraph_10 : decode b_LN_isLastOfParagraph 10 = .ok (.aload_n 0, 1) := by decide +kernel
theorem d_LN_isLastOfParagraph_11 : decode b_LN_isLastOfParagraph 11 = .ok (.getfield 11, 3) := by decide +kernel
theorem d_LN_isLastOfParagraph_14 : decode b_LN_isLastOfParagraph 14 = .ok (.iconst 0, 1) := by decide +kernel
theorem d_LN_isLastOfParagraph_15 : decode b_LN_isLastOfParagraph 15 = .ok (.aaload, 1) := by decide +kernel
theorem d_LN_isLastOfParagraph_16 : decode b_LN_isLastOfParagraph 16 = .ok (.iload_n 1, 1) := by decide +kernel
theorem d_LN_isLastOfParagraph_17 : decode b_LN_isLastOfParagraph 17 = .ok (.iconst 1, 1) := by decide +kernel
theorem d_LN_isLastOfParagraph_18 : decode b_LN_isLastOfParagraph 18 = .ok (.iadd, 1) := by decide +kernel
theorem d_LN_isLastOfParagraph_19 : decode b_LN_isLastOfParagraph 19 = .ok (.iaload, 1) := by decide +kernel
theorem d_LN_isLastOfParagraph_20 : decode b_LN_isLastOfParagraph 20 = .ok (.aload_n 0, 1) := by decide +kernel
theorem d_LN_isLastOfParagraph_21 : decode b_LN_isLastOfParagraph 21 = .ok (.getfield 11, 3) := by decide +kernel
theorem d_LN_isLastOfParagraph_24 : decode b_LN_isLastOfParagraph 24 = .ok (.iconst 0, 1) := by decide +kernel
theorem d_LN_isLastOfParagraph_25 : decode b_LN_isLastOfParagraph 25 = .ok (.aaload, 1) := by decide +kernel
theorem d_LN_isLastOfParagraph_26 : decode b_LN_isLastOfParagraph 26 = .ok (.iload_n 1, 1) := by decide +kernel
theorem d_LN_isLastOfParagraph_27 : decode b_LN_isLastOfParagraph 27 = .ok (.iaload, 1) := by decide +kernel
theorem d_LN_isLastOfParagraph_28 : decode b_LN_isLastOfParagraph 28 = .ok (.if_icmp .eq 7, 3) := by decide +kernel
theorem d_LN_isLastOfParagraph_31 : decode b_LN_isLastOfParagraph 31 = .ok (.iconst 1, 1) := by decide +kernel
theorem d_LN_isLastOfParagraph_32 : decode b_LN_isLastOfParagraph 32 = .ok (.goto 4, 3) := by decide +kernel
theorem d_LN_isLastOfParagraph_35 : decode b_LN_isLastOfParagraph 35 = .ok (.iconst 0, 1) := by decide +kernel
theorem d_LN_isLastOfParagraph_36 : decode b_LN_isLastOfParagraph 36 = .ok (.ireturn, 1) := by decide +kernel
theorem d_LN_signAhead_0 : decode b_LN_signAhead 0 = .ok (.aload_n 0, 1) := by decide +kernel
theorem d_LN_signAhead_1 : decode b_LN_signAhead 1 = .ok (.getfield 11, 3) := by decide +kernel
theorem d_LN_signAhead_4 : decode b_LN_signAhead 4 = .ok (.iconst 1, 1) := by decide +kernel
theorem d_LN_signAhead_5 : decode b_LN_signAhead 5 = .ok (.aaload, 1) := by decide +kernel
theorem d_LN_signAhead_6 : decode b_LN_signAhead 6 = .ok (.iload_n 1, 1) := by decide +kernel
theorem d_LN_signAhead_7 : decode b_LN_signAhead 7 = .ok (.iaload, 1) := by decide +kernel
theorem d_LN_signAhead_8 : decode b_LN_signAhead 8 = .ok (.istore_n 3, 1) := by decide +kernel
theorem d_LN_signAhead_9 : decode b_LN_signAhead 9 = .ok (.iload_n 3, 1) := by decide +kernel
theorem d_LN_signAhead_10 : decode b_LN_signAhead 10 = .ok (.aload_n 0, 1) := by decide +kernel
theorem d_LN_signAhead_11 : decode b_LN_signAhead 11 = .ok (.getfield 11, 3) := by decide +kernel
theorem d_LN_signAhead_14 : decode b_LN_signAhead 14 = .ok (.iconst 2, 1) := by decide +kernel
theorem d_LN_signAhead_15 : decode b_LN_signAhead 15 = .ok (.aaload, 1) := by decide +kernel
theorem d_LN_signAhead_16 : decode b_LN_signAhead 16 = .ok (.iload_n 1, 1) := by decide +kernel
theorem d_LN_signAhead_17 : decode b_LN_signAhead 17 = .ok (.iaload, 1) := by decide +kernel
theorem d_LN_signAhead_18 : decode b_LN_signAhead 18 = .ok (.iadd, 1) := by decide +kernel
theorem d_LN_signAhead_19 : decode b_LN_signAhead 19 = .ok (.istore 4, 2) := by decide +kernel
theorem d_LN_signAhead_21 : decode b_LN_signAhead 21 = .ok (.iload_n 3, 1) := by decide +kernel
theorem d_LN_signAhead_22 : decode b_LN_signAhead 22 = .ok (.istore 5, 2) := by decide +kernel
theorem d_LN_signAhead_24 : decode b_LN_signAhead 24 = .ok (.iload 5, 2) := by decide +kernel
theorem d_LN_signAhead_26 : decode b_LN_signAhead 26 = .ok (.iload 4, 2) := by decide +kernel
theorem d_LN_signAhead_28 : decode b_LN_signAhead 28 = .ok (.if_icmp .ge 53, 3) := by decide +kernel
theorem d_LN_signAhead_31 : decode b_LN_signAhead 31 = .ok (.aload_n 0, 1) := by decide +kernel
theorem d_LN_signAhead_32 : decode b_LN_signAhead 32 = .ok (.getfield 16, 3) := by decide +kernel
theorem d_LN_signAhead_35 : decode b_LN_signAhead 35 = .ok (.iconst 1, 1) := by decide +kernel
theorem d_LN_signAhead_36 : decode b_LN_signAhead 36 = .ok (.aaload, 1) := by decide +kernel
theorem d_LN_signAhead_37 : decode b_LN_signAhead 37 = .ok (.iload 5, 2) := by decide +kernel
theorem d_LN_signAhead_39 : decode b_LN_signAhead 39 = .ok (.iaload, 1) := by decide +kernel
theorem d_LN_signAhead_40 : decode b_LN_signAhead 40 = .ok (.aload_n 0, 1) := by decide +kernel
theorem d_LN_signAhead_41 : decode b_LN_signAhead 41 = .ok (.getfield 16, 3) := by decide +kernel
theorem d_LN_signAhead_44 : decode b_LN_signAhead 44 = .ok (.iconst 2, 1) := by decide +kernel
theorem d_LN_signAhead_45 : decode b_LN_signAhead 45 = .ok (.aaload, 1) := by decide +kernel
theorem d_LN_signAhead_46 : decode b_LN_signAhead 46 = .ok (.iload 5, 2) := by decide +kernel
theorem d_LN_signAhead_48 : decode b_LN_signAhead 48 = .ok (.iaload, 1) := by decide +kernel
theorem d_LN_signAhead_49 : decode b_LN_signAhead 49 = .ok (.iconst 2, 1) := by decide +kernel
theorem d_LN_signAhead_50 : decode b_LN_signAhead 50 = .ok (.idiv, 1) := by decide +kernel
theorem d_LN_signAhead_51 : decode b_LN_signAhead 51 = .ok (.iadd, 1) := by decide +kernel
theorem d_LN_signAhead_52 : decode b_LN_signAhead 52 = .ok (.istore 6, 2) := by decide +kernel
theorem d_LN_signAhead_54 : decode b_LN_signAhead 54 = .ok (.iload 6, 2) := by decide +kernel
theorem d_LN_signAhead_56 : decode b_LN_signAhead 56 = .ok (.iload_n 2, 1) := by decide +kernel
theorem d_LN_signAhead_57 : decode b_LN_signAhead 57 = .ok (.if_icmp .gt 15, 3) := by decide +kernel
theorem d_LN_signAhead_60 : decode b_LN_signAhead 60 = .ok (.aload_n 0, 1) := by decide +kernel
theorem d_LN_signAhead_61 : decode b_LN_signAhead 61 = .ok (.getfield 19, 3) := by decide +kernel
theorem d_LN_signAhead_64 : decode b_LN_signAhead 64 = .ok (.iload 5, 2) := by decide +kernel
theorem d_LN_signAhead_66 : decode b_LN_signAhead 66 = .ok (.invokevirtual 103, 3) := by decide +kernel
theorem d_LN_signAhead_69 : decode b_LN_signAhead 69 = .ok (.ifCond .eq 6, 3) := by decide +kernel
theorem d_LN_signAhead_72 : decode b_LN_signAhead 72 = .ok (.iload 5, 2) := by decide +kernel
theorem d_LN_signAhead_74 : decode b_LN_signAhead 74 = .ok (.ireturn, 1) := by decide +kernel
theorem d_LN_signAhead_75 : decode b_LN_signAhead 75 = .ok (.iinc 5 1, 3) := by decide +kernel
theorem d_LN_signAhead_78 : decode b_LN_signAhead 78 = .ok (.goto (-54), 3) := by decide +kernel
theorem d_LN_signAhead_81 : decode b_LN_signAhead 81 = .ok (.iload 4, 2) := by decide +kernel
theorem d_LN_signAhead_83 : decode b_LN_signAhead 83 = .ok (.ireturn, 1) := by decide +kernel
