theorem d_PL_stop_101 : decode b_PL_stop 101 = .ok (.iload_n 3, 1) := by decide +kernel
theorem d_PL_stop_102 : decode b_PL_stop 102 = .ok (.invokevirtual 116, 3) := by decide +kernel
theorem d_PL_stop_105 : decode b_PL_stop 105 = .ok (.ireturn, 1) := by decide +kernel
theorem d_PL_sheet_0 : decode b_PL_sheet 0 = .ok (.iload_n 1, 1) := by decide +kernel
theorem d_PL_sheet_1 : decode b_PL_sheet 1 = .ok (.iconst 1, 1) := by decide +kernel
theorem d_PL_sheet_2 : decode b_PL_sheet 2 = .ok (.sipush 30000, 3) := by decide +kernel
theorem d_PL_sheet_5 : decode b_PL_sheet 5 = .ok (.invokestatic 71, 3) := by decide +kernel
theorem d_PL_sheet_8 : decode b_PL_sheet 8 = .ok (.ifCond .ne 25, 3) := by decide +kernel
theorem d_PL_sheet_11 : decode b_PL_sheet 11 = .ok (.iload_n 2, 1) := by decide +kernel
theorem d_PL_sheet_12 : decode b_PL_sheet 12 = .ok (.iconst 1, 1) := by decide +kernel
theorem d_PL_sheet_13 : decode b_PL_sheet 13 = .ok (.sipush 30000, 3) := by decide +kernel
theorem d_PL_sheet_16 : decode b_PL_sheet 16 = .ok (.invokestatic 71, 3) := by decide +kernel
theorem d_PL_sheet_19 : decode b_PL_sheet 19 = .ok (.ifCond .ne 14, 3) := by decide +kernel
theorem d_PL_sheet_22 : decode b_PL_sheet 22 = .ok (.iload_n 3, 1) := by decide +kernel
theorem d_PL_sheet_23 : decode b_PL_sheet 23 = .ok (.iconst 1, 1) := by decide +kernel
theorem d_PL_sheet_24 : decode b_PL_sheet 24 = .ok (.sipush 30000, 3) := by decide +kernel
theorem d_PL_sheet_27 : decode b_PL_sheet 27 = .ok (.invokestatic 71, 3) := by decide +kernel
theorem d_PL_sheet_30 : decode b_PL_sheet 30 = .ok (.ifCond .eq 13, 3) := by decide +kernel
theorem d_PL_sheet_33 : decode b_PL_sheet 33 = .ok (.new 75, 3) := by decide +kernel
theorem d_PL_sheet_36 : decode b_PL_sheet 36 = .ok (.dup, 1) := by decide +kernel
theorem d_PL_sheet_37 : decode b_PL_sheet 37 = .ok (.ldc 120, 2) := by decide +kernel
theorem d_PL_sheet_39 : decode b_PL_sheet 39 = .ok (.invokespecial 79, 3) := by decide +kernel
theorem d_PL_sheet_42 : decode b_PL_sheet 42 = .ok (.athrow, 1) := by decide +kernel
theorem d_PL_sheet_43 : decode b_PL_sheet 43 = .ok (.aload_n 0, 1) := by decide +kernel
theorem d_PL_sheet_44 : decode b_PL_sheet 44 = .ok (.invokevirtual 52, 3) := by decide +kernel
theorem d_PL_sheet_47 : decode b_PL_sheet 47 = .ok (.aload_n 0, 1) := by decide +kernel
theorem d_PL_sheet_48 : decode b_PL_sheet 48 = .ok (.getfield 19, 3) := by decide +kernel
theorem d_PL_sheet_51 : decode b_PL_sheet 51 = .ok (.iload_n 1, 1) := by decide +kernel
theorem d_PL_sheet_52 : decode b_PL_sheet 52 = .ok (.putfield 122, 3) := by decide +kernel
theorem d_PL_sheet_55 : decode b_PL_sheet 55 = .ok (.aload_n 0, 1) := by decide +kernel
theorem d_PL_sheet_56 : decode b_PL_sheet 56 = .ok (.getfield 19, 3) := by decide +kernel
theorem d_PL_sheet_59 : decode b_PL_sheet 59 = .ok (.iload_n 2, 1) := by decide +kernel
theorem d_PL_sheet_60 : decode b_PL_sheet 60 = .ok (.putfield 125, 3) := by decide +kernel
theorem d_PL_sheet_63 : decode b_PL_sheet 63 = .ok (.aload_n 0, 1) := by decide +kernel
theorem d_PL_sheet_64 : decode b_PL_sheet 64 = .ok (.getfield 19, 3) := by decide +kernel
theorem d_PL_sheet_67 : decode b_PL_sheet 67 = .ok (.iload_n 3, 1) := by decide +kernel
theorem d_PL_sheet_68 : decode b_PL_sheet 68 = .ok (.putfield 128, 3) := by decide +kernel
theorem d_PL_sheet_71 : decode b_PL_sheet 71 = .ok (.return_, 1) := by decide +kernel
theorem d_PL_line_0 : decode b_PL_line 0 = .ok (.iload_n 1, 1) := by decide +kernel
theorem d_PL_line_1 : decode b_PL_line 1 = .ok (.iconst 0, 1) := by decide +kernel
theorem d_PL_line_2 : decode b_PL_line 2 = .ok (.aload_n 0, 1) := by decide +kernel
theorem d_PL_line_3 : decode b_PL_line 3 = .ok (.getfield 28, 3) := by decide +kernel
theorem d_PL_line_6 : decode b_PL_line 6 = .ok (.getfield 140, 3) := by decide +kernel
theorem d_PL_line_9 : decode b_PL_line 9 = .ok (.iconst 1, 1) := by decide +kernel
theorem d_PL_line_10 : decode b_PL_line 10 = .ok (.isub, 1) := by decide +kernel
theorem d_PL_line_11 : decode b_PL_line 11 = .ok (.invokestatic 71, 3) := by decide +kernel
theorem d_PL_line_14 : decode b_PL_line 14 = .ok (.ifCond .eq 13, 3) := by decide +kernel
theorem d_PL_line_17 : decode b_PL_line 17 = .ok (.new 66, 3) := by decide +kernel
theorem d_PL_line_20 : decode b_PL_line 20 = .ok (.dup, 1) := by decide +kernel
theorem d_PL_line_21 : decode b_PL_line 21 = .ok (.ldc 141, 2) := by decide +kernel
theorem d_PL_line_23 : decode b_PL_line 23 = .ok (.invokespecial 70, 3) := by decide +kernel
theorem d_PL_line_26 : decode b_PL_line 26 = .ok (.athrow, 1) := by decide +kernel
theorem d_PL_line_27 : decode b_PL_line 27 = .ok (.iload_n 2, 1) := by decide +kernel
theorem d_PL_line_28 : decode b_PL_line 28 = .ok (.iconst 0, 1) := by decide +kernel
theorem d_PL_line_29 : decode b_PL_line 29 = .ok (.bipush 9, 2) := by decide +kernel
theorem d_PL_line_31 : decode b_PL_line 31 = .ok (.invokestatic 71, 3) := by decide +kernel
theorem d_PL_line_34 : decode b_PL_line 34 = .ok (.ifCond .eq 13, 3) := by decide +kernel
theorem d_PL_line_37 : decode b_PL_line 37 = .ok (.new 75, 3) := by decide +kernel
theorem d_PL_line_40 : decode b_PL_line 40 = .ok (.dup, 1) := by decide +kernel
theorem d_PL_line_41 : decode b_PL_line 41 = .ok (.ldc 143, 2) := by decide +kernel
theorem d_PL_line_43 : decode b_PL_line 43 = .ok (.invokespecial 79, 3) := by decide +kernel
theorem d_PL_line_46 : decode b_PL_line 46 = .ok (.athrow, 1) := by decide +kernel
theorem d_PL_line_47 : decode b_PL_line 47 = .ok (.aload_n 0, 1) := by decide +kernel
theorem d_PL_line_48 : decode b_PL_line 48 = .ok (.getfield 28, 3) := by decide +kernel
theorem d_PL_line_51 : decode b_PL_line 51 = .ok (.getfield 145, 3) := by decide +kernel
theorem d_PL_line_54 : decode b_PL_line 54 = .ok (.iload_n 2, 1) := by decide +kernel
theorem d_PL_line_55 : decode b_PL_line 55 = .ok (.aaload, 1) := by decide +kernel
theorem d_PL_line_56 : decode b_PL_line 56 = .ok (.iload_n 1, 1) := by decide +kernel
theorem d_PL_line_57 : decode b_PL_line 57 = .ok (.iaload, 1) := by decide +kernel
theorem d_PL_line_58 : decode b_PL_line 58 = .ok (.ireturn, 1) := by decide +kernel
theorem d_PL_where_0 : decode b_PL_where 0 = .ok (.aload_n 0, 1) := by decide +kernel
theorem d_PL_where_1 : decode b_PL_where 1 = .ok (.getfield 41, 3) := by decide +kernel
theorem d_PL_where_4 : decode b_PL_where 4 = .ok (.ifCond .eq 20, 3) := by decide +kernel
theorem d_PL_where_7 : decode b_PL_where 7 = .ok (.iload_n 1, 1) := by decide +kernel
theorem d_PL_where_8 : decode b_PL_where 8 = .ok (.iconst 0, 1) := by decide +kernel
theorem d_PL_where_9 : decode b_PL_where 9 = .ok (.aload_n 0, 1) := by decide +kernel
theorem d_PL_where_10 : decode b_PL_where 10 = .ok (.getfield 12, 3) := by decide +kernel
theorem d_PL_where_13 : decode b_PL_where 13 = .ok (.getfield 49, 3) := by decide +kernel
theorem d_PL_where_16 : decode b_PL_where 16 = .ok (.iconst 1, 1) := by decide +kernel
theorem d_PL_where_17 : decode b_PL_where 17 = .ok (.isub, 1) := by decide +kernel
theorem d_PL_where_18 : decode b_PL_where 18 = .ok (.invokestatic 71, 3) := by decide +kernel
theorem d_PL_where_21 : decode b_PL_where 21 = .ok (.ifCond .eq 13, 3) := by decide +kernel
theorem d_PL_where_24 : decode b_PL_where 24 = .ok (.new 66, 3) := by decide +kernel
theorem d_PL_where_27 : decode b_PL_where 27 = .ok (.dup, 1) := by decide +kernel
theorem d_PL_where_28 : decode b_PL_where 28 = .ok (.ldc 149, 2) := by decide +kernel
theorem d_PL_where_30 : decode b_PL_where 30 = .ok (.invokespecial 70, 3) := by decide +kernel
theorem d_PL_where_33 : decode b_PL_where 33 = .ok (.athrow, 1) := by decide +kernel
theorem d_PL_where_34 : decode b_PL_where 34 = .ok (.iload_n 2, 1) := by decide +kernel
theorem d_PL_where_35 : decode b_PL_where 35 = .ok (.iconst 0, 1) := by decide +kernel
theorem d_PL_where_36 : decode b_PL_where 36 = .ok (.iconst 2, 1) := by decide +kernel
theorem d_PL_where_37 : decode b_PL_where 37 = .ok (.invokestatic 71, 3) := by decide +kernel
theorem d_PL_where_40 : decode b_PL_where 40 = .ok (.ifCond .eq 13, 3) := by decide +kernel
theorem d_PL_where_43 : decode b_PL_where 43 = .ok (.new 75, 3) := by decide +kernel
theorem d_PL_where_46 : decode b_PL_where 46 = .ok (.dup, 1) := by decide +kernel
theorem d_PL_where_47 : decode b_PL_where 47 = .ok (.ldc 143, 2) := by decide +kernel
theorem d_PL_where_49 : decode b_PL_where 49 = .ok (.invokespecial 79, 3) := by decide +kernel
theorem d_PL_where_52 : decode b_PL_where 52 = .ok (.athrow, 1) := by decide +kernel
theorem d_PL_where_53 : decode b_PL_where 53 = .ok (.aload_n 0, 1) := by decide +kernel
theorem d_PL_where_54 : decode b_PL_where 54 = .ok (.getfield 28, 3) := by decide +kernel
theorem d_PL_where_57 : decode b_PL_where 57 = .ok (.getfield 151, 3) := by decide +kernel
theorem d_PL_where_60 : decode b_PL_where 60 = .ok (.iload_n 2, 1) := by decide +kernel
theorem d_PL_where_61 : decode b_PL_where 61 = .ok (.aaload, 1) := by decide +kernel
theorem d_PL_where_62 : decode b_PL_where 62 = .ok (.iload_n 1, 1) := by decide +kernel
theorem d_PL_where_63 : decode b_PL_where 63 = .ok (.iaload, 1) := by decide +kernel
theorem d_PL_where_64 : decode b_PL_where 64 = .ok (.ireturn, 1) := by decide +kernel
theorem d_PL_page_0 : decode b_PL_page 0 = .ok (.iload_n 1, 1) := by decide +kernel
theorem d_PL_page_1 : decode b_PL_page 1 = .ok (.iconst 0, 1) := by decide +kernel
theorem d_PL_page_2 : decode b_PL_page 2 = .ok (.aload_n 0, 1) := by decide +kernel
theorem d_PL_page_3 : decode b_PL_page 3 = .ok (.getfield 37, 3) := by decide +kernel
theorem d_PL_page_6 : decode b_PL_page 6 = .ok (.getfield 137, 3) := by decide +kernel
theorem d_PL_page_9 : decode b_PL_page 9 = .ok (.iconst 1, 1) := by decide +kernel
theorem d_PL_page_10 : decode b_PL_page 10 = .ok (.isub, 1) := by decide +kernel
theorem d_PL_page_11 : decode b_PL_page 11 = .ok (.invokestatic 71, 3) := by decide +kernel
theorem d_PL_page_14 : decode b_PL_page 14 = .ok (.ifCond .eq 13, 3) := by decide +kernel
theorem d_PL_page_17 : decode b_PL_page 17 = .ok (.new 66, 3) := by decide +kernel
theorem d_PL_page_20 : decode b_PL_page 20 = .ok (.dup, 1) := by decide +kernel
theorem d_PL_page_21 : decode b_PL_page 21 = .ok (.ldc 154, 2) := by decide +kernel
theorem d_PL_page_23 : decode b_PL_page 23 = .ok (.invokespecial 70, 3) := by decide +kernel
theorem d_PL_page_26 : decode b_PL_page 26 = .ok (.athrow, 1) := by decide +kernel
theorem d_PL_page_27 : decode b_PL_page 27 = .ok (.iload_n 2, 1) := by decide +kernel
theorem d_PL_page_28 : decode b_PL_page 28 = .ok (.iconst 0, 1) := by decide +kernel
theorem d_PL_page_29 : decode b_PL_page 29 = .ok (.iconst 2, 1) := by decide +kernel
theorem d_PL_page_30 : decode b_PL_page 30 = .ok (.invokestatic 71, 3) := by decide +kernel
theorem d_PL_page_33 : decode b_PL_page 33 = .ok (.ifCond .eq 13, 3) := by decide +kernel
theorem d_PL_page_36 : decode b_PL_page 36 = .ok (.new 75, 3) := by decide +kernel
theorem d_PL_page_39 : decode b_PL_page 39 = .ok (.dup, 1) := by decide +kernel
theorem d_PL_page_40 : decode b_PL_page 40 = .ok (.ldc 143, 2) := by decide +kernel
theorem d_PL_page_42 : decode b_PL_page 42 = .ok (.invokespecial 79, 3) := by decide +kernel
theorem d_PL_page_45 : decode b_PL_page 45 = .ok (.athrow, 1) := by decide +kernel
theorem d_PL_page_46 : decode b_PL_page 46 = .ok (.aload_n 0, 1) := by decide +kernel
theorem d_PL_page_47 : decode b_PL_page 47 = .ok (.getfield 37, 3) := by decide +kernel
theorem d_PL_page_50 : decode b_PL_page 50 = .ok (.getfield 156, 3) := by decide +kernel
theorem d_PL_page_53 : decode b_PL_page 53 = .ok (.iload_n 2, 1) := by decide +kernel
theorem d_PL_page_54 : decode b_PL_page 54 = .ok (.aaload, 1) := by decide +kernel
theorem d_PL_page_55 : decode b_PL_page 55 = .ok (.iload_n 1, 1) := by decide +kernel
theorem d_PL_page_56 : decode b_PL_page 56 = .ok (.iaload, 1) := by decide +kernel
theorem d_PL_page_57 : decode b_PL_page 57 = .ok (.ireturn, 1) := by decide +kernel
theorem d_PL_hit_0 : decode b_PL_hit 0 = .ok (.iload_n 1, 1) := by decide +kernel
theorem d_PL_hit_1 : decode b_PL_hit 1 = .ok (.iconst 0, 1) := by decide +kernel
theorem d_PL_hit_2 : decode b_PL_hit 2 = .ok (.aload_n 0, 1) := by decide +kernel
theorem d_PL_hit_3 : decode b_PL_hit 3 = .ok (.getfield 37, 3) := by decide +kernel
theorem d_PL_hit_6 : decode b_PL_hit 6 = .ok (.getfield 137, 3) := by decide +kernel
theorem d_PL_hit_9 : decode b_PL_hit 9 = .ok (.iconst 1, 1) := by decide +kernel
theorem d_PL_hit_10 : decode b_PL_hit 10 = .ok (.isub, 1) := by decide +kernel
theorem d_PL_hit_11 : decode b_PL_hit 11 = .ok (.invokestatic 71, 3) := by decide +kernel
theorem d_PL_hit_14 : decode b_PL_hit 14 = .ok (.ifCond .eq 13, 3) := by decide +kernel
theorem d_PL_hit_17 : decode b_PL_hit 17 = .ok (.new 66, 3) := by decide +kernel
theorem d_PL_hit_20 : decode b_PL_hit 20 = .ok (.dup, 1) := by decide +kernel
theorem d_PL_hit_21 : decode b_PL_hit 21 = .ok (.ldc 154, 2) := by decide +kernel
theorem d_PL_hit_23 : decode b_PL_hit 23 = .ok (.invokespecial 70, 3) := by decide +kernel
theorem d_PL_hit_26 : decode b_PL_hit 26 = .ok (.athrow, 1) := by decide +kernel
theorem d_PL_hit_27 : decode b_PL_hit 27 = .ok (.aload_n 0, 1) := by decide +kernel
theorem d_PL_hit_28 : decode b_PL_hit 28 = .ok (.getfield 28, 3) := by decide +kernel
theorem d_PL_hit_31 : decode b_PL_hit 31 = .ok (.aload_n 0, 1) := by decide +kernel
theorem d_PL_hit_32 : decode b_PL_hit 32 = .ok (.getfield 37, 3) := by decide +kernel
theorem d_PL_hit_35 : decode b_PL_hit 35 = .ok (.iload_n 1, 1) := by decide +kernel
theorem d_PL_hit_36 : decode b_PL_hit 36 = .ok (.iload_n 3, 1) := by decide +kernel
theorem d_PL_hit_37 : decode b_PL_hit 37 = .ok (.invokevirtual 157, 3) := by decide +kernel
theorem d_PL_hit_40 : decode b_PL_hit 40 = .ok (.iload_n 2, 1) := by decide +kernel
theorem d_PL_hit_41 : decode b_PL_hit 41 = .ok (.invokevirtual 160, 3) := by decide +kernel
theorem d_PL_hit_44 : decode b_PL_hit 44 = .ok (.ireturn, 1) := by decide +kernel
