theorem d_LW_paragraph_0 : decode b_LW_paragraph 0 = .ok (.aload_n 1, 1) := by decide +kernel
theorem d_LW_paragraph_1 : decode b_LW_paragraph 1 = .ok (.iconst 0, 1) := by decide +kernel
theorem d_LW_paragraph_2 : decode b_LW_paragraph 2 = .ok (.aload_n 0, 1) := by decide +kernel
theorem d_LW_paragraph_3 : decode b_LW_paragraph 3 = .ok (.invokevirtual 7, 3) := by decide +kernel
theorem d_LW_paragraph_6 : decode b_LW_paragraph 6 = .ok (.i2l, 1) := by decide +kernel
theorem d_LW_paragraph_7 : decode b_LW_paragraph 7 = .ok (.lastore, 1) := by decide +kernel
theorem d_LW_paragraph_8 : decode b_LW_paragraph 8 = .ok (.goto 6, 3) := by decide +kernel
theorem d_LW_paragraph_11 : decode b_LW_paragraph 11 = .ok (.astore_n 2, 1) := by decide +kernel
theorem d_LW_paragraph_12 : decode b_LW_paragraph 12 = .ok (.iconst 1, 1) := by decide +kernel
theorem d_LW_paragraph_13 : decode b_LW_paragraph 13 = .ok (.ireturn, 1) := by decide +kernel
theorem d_LW_paragraph_14 : decode b_LW_paragraph 14 = .ok (.iconst 0, 1) := by decide +kernel
theorem d_LW_paragraph_15 : decode b_LW_paragraph 15 = .ok (.ireturn, 1) := by decide +kernel
theorem d_LW_sign_0 : decode b_LW_sign 0 = .ok (.aload 4, 2) := by decide +kernel
theorem d_LW_sign_2 : decode b_LW_sign 2 = .ok (.iconst 0, 1) := by decide +kernel
theorem d_LW_sign_3 : decode b_LW_sign 3 = .ok (.aload_n 0, 1) := by decide +kernel
theorem d_LW_sign_4 : decode b_LW_sign 4 = .ok (.iload_n 1, 1) := by decide +kernel
theorem d_LW_sign_5 : decode b_LW_sign 5 = .ok (.iload_n 2, 1) := by decide +kernel
theorem d_LW_sign_6 : decode b_LW_sign 6 = .ok (.iload_n 3, 1) := by decide +kernel
theorem d_LW_sign_7 : decode b_LW_sign 7 = .ok (.invokevirtual 15, 3) := by decide +kernel
theorem d_LW_sign_10 : decode b_LW_sign 10 = .ok (.i2l, 1) := by decide +kernel
theorem d_LW_sign_11 : decode b_LW_sign 11 = .ok (.lastore, 1) := by decide +kernel
theorem d_LW_sign_12 : decode b_LW_sign 12 = .ok (.goto 15, 3) := by decide +kernel
theorem d_LW_sign_15 : decode b_LW_sign 15 = .ok (.astore 5, 2) := by decide +kernel
theorem d_LW_sign_17 : decode b_LW_sign 17 = .ok (.iconst 1, 1) := by decide +kernel
theorem d_LW_sign_18 : decode b_LW_sign 18 = .ok (.ireturn, 1) := by decide +kernel
theorem d_LW_sign_19 : decode b_LW_sign 19 = .ok (.astore 5, 2) := by decide +kernel
theorem d_LW_sign_21 : decode b_LW_sign 21 = .ok (.iconst 2, 1) := by decide +kernel
theorem d_LW_sign_22 : decode b_LW_sign 22 = .ok (.ireturn, 1) := by decide +kernel
theorem d_LW_sign_23 : decode b_LW_sign 23 = .ok (.astore 5, 2) := by decide +kernel
theorem d_LW_sign_25 : decode b_LW_sign 25 = .ok (.iconst 3, 1) := by decide +kernel
theorem d_LW_sign_26 : decode b_LW_sign 26 = .ok (.ireturn, 1) := by decide +kernel
theorem d_LW_sign_27 : decode b_LW_sign 27 = .ok (.iconst 0, 1) := by decide +kernel
theorem d_LW_sign_28 : decode b_LW_sign 28 = .ok (.ireturn, 1) := by decide +kernel
theorem d_LW_shape_0 : decode b_LW_shape 0 = .ok (.aload_n 0, 1) := by decide +kernel
theorem d_LW_shape_1 : decode b_LW_shape 1 = .ok (.iload_n 1, 1) := by decide +kernel
theorem d_LW_shape_2 : decode b_LW_shape 2 = .ok (.iload_n 2, 1) := by decide +kernel
theorem d_LW_shape_3 : decode b_LW_shape 3 = .ok (.iload_n 3, 1) := by decide +kernel
theorem d_LW_shape_4 : decode b_LW_shape 4 = .ok (.invokevirtual 23, 3) := by decide +kernel
theorem d_LW_shape_7 : decode b_LW_shape 7 = .ok (.goto 11, 3) := by decide +kernel
theorem d_LW_shape_10 : decode b_LW_shape 10 = .ok (.astore 4, 2) := by decide +kernel
theorem d_LW_shape_12 : decode b_LW_shape 12 = .ok (.iconst 1, 1) := by decide +kernel
theorem d_LW_shape_13 : decode b_LW_shape 13 = .ok (.ireturn, 1) := by decide +kernel
theorem d_LW_shape_14 : decode b_LW_shape 14 = .ok (.astore 4, 2) := by decide +kernel
theorem d_LW_shape_16 : decode b_LW_shape 16 = .ok (.iconst 2, 1) := by decide +kernel
theorem d_LW_shape_17 : decode b_LW_shape 17 = .ok (.ireturn, 1) := by decide +kernel
theorem d_LW_shape_18 : decode b_LW_shape 18 = .ok (.iconst 0, 1) := by decide +kernel
theorem d_LW_shape_19 : decode b_LW_shape 19 = .ok (.ireturn, 1) := by decide +kernel
theorem d_LW_stop_0 : decode b_LW_stop 0 = .ok (.aload 4, 2) := by decide +kernel
theorem d_LW_stop_2 : decode b_LW_stop 2 = .ok (.iconst 0, 1) := by decide +kernel
theorem d_LW_stop_3 : decode b_LW_stop 3 = .ok (.aload_n 0, 1) := by decide +kernel
theorem d_LW_stop_4 : decode b_LW_stop 4 = .ok (.iload_n 1, 1) := by decide +kernel
theorem d_LW_stop_5 : decode b_LW_stop 5 = .ok (.iload_n 2, 1) := by decide +kernel
theorem d_LW_stop_6 : decode b_LW_stop 6 = .ok (.iload_n 3, 1) := by decide +kernel
theorem d_LW_stop_7 : decode b_LW_stop 7 = .ok (.invokevirtual 27, 3) := by decide +kernel
theorem d_LW_stop_10 : decode b_LW_stop 10 = .ok (.i2l, 1) := by decide +kernel
theorem d_LW_stop_11 : decode b_LW_stop 11 = .ok (.lastore, 1) := by decide +kernel
theorem d_LW_stop_12 : decode b_LW_stop 12 = .ok (.goto 15, 3) := by decide +kernel
theorem d_LW_stop_15 : decode b_LW_stop 15 = .ok (.astore 5, 2) := by decide +kernel
theorem d_LW_stop_17 : decode b_LW_stop 17 = .ok (.iconst 1, 1) := by decide +kernel
theorem d_LW_stop_18 : decode b_LW_stop 18 = .ok (.ireturn, 1) := by decide +kernel
theorem d_LW_stop_19 : decode b_LW_stop 19 = .ok (.astore 5, 2) := by decide +kernel
theorem d_LW_stop_21 : decode b_LW_stop 21 = .ok (.iconst 2, 1) := by decide +kernel
theorem d_LW_stop_22 : decode b_LW_stop 22 = .ok (.ireturn, 1) := by decide +kernel
theorem d_LW_stop_23 : decode b_LW_stop 23 = .ok (.astore 5, 2) := by decide +kernel
theorem d_LW_stop_25 : decode b_LW_stop 25 = .ok (.iconst 3, 1) := by decide +kernel
theorem d_LW_stop_26 : decode b_LW_stop 26 = .ok (.ireturn, 1) := by decide +kernel
theorem d_LW_stop_27 : decode b_LW_stop 27 = .ok (.iconst 0, 1) := by decide +kernel
theorem d_LW_stop_28 : decode b_LW_stop 28 = .ok (.ireturn, 1) := by decide +kernel
theorem d_LW_sheet_0 : decode b_LW_sheet 0 = .ok (.aload_n 0, 1) := by decide +kernel
theorem d_LW_sheet_1 : decode b_LW_sheet 1 = .ok (.iload_n 1, 1) := by decide +kernel
theorem d_LW_sheet_2 : decode b_LW_sheet 2 = .ok (.iload_n 2, 1) := by decide +kernel
theorem d_LW_sheet_3 : decode b_LW_sheet 3 = .ok (.iload_n 3, 1) := by decide +kernel
theorem d_LW_sheet_4 : decode b_LW_sheet 4 = .ok (.invokevirtual 30, 3) := by decide +kernel
theorem d_LW_sheet_7 : decode b_LW_sheet 7 = .ok (.goto 7, 3) := by decide +kernel
theorem d_LW_sheet_10 : decode b_LW_sheet 10 = .ok (.astore 4, 2) := by decide +kernel
theorem d_LW_sheet_12 : decode b_LW_sheet 12 = .ok (.iconst 1, 1) := by decide +kernel
theorem d_LW_sheet_13 : decode b_LW_sheet 13 = .ok (.ireturn, 1) := by decide +kernel
theorem d_LW_sheet_14 : decode b_LW_sheet 14 = .ok (.iconst 0, 1) := by decide +kernel
theorem d_LW_sheet_15 : decode b_LW_sheet 15 = .ok (.ireturn, 1) := by decide +kernel
theorem d_LW_line_0 : decode b_LW_line 0 = .ok (.aload_n 3, 1) := by decide +kernel
theorem d_LW_line_1 : decode b_LW_line 1 = .ok (.iconst 0, 1) := by decide +kernel
theorem d_LW_line_2 : decode b_LW_line 2 = .ok (.aload_n 0, 1) := by decide +kernel
theorem d_LW_line_3 : decode b_LW_line 3 = .ok (.iload_n 1, 1) := by decide +kernel
theorem d_LW_line_4 : decode b_LW_line 4 = .ok (.iload_n 2, 1) := by decide +kernel
theorem d_LW_line_5 : decode b_LW_line 5 = .ok (.invokevirtual 33, 3) := by decide +kernel
theorem d_LW_line_8 : decode b_LW_line 8 = .ok (.i2l, 1) := by decide +kernel
theorem d_LW_line_9 : decode b_LW_line 9 = .ok (.lastore, 1) := by decide +kernel
theorem d_LW_line_10 : decode b_LW_line 10 = .ok (.goto 11, 3) := by decide +kernel
theorem d_LW_line_13 : decode b_LW_line 13 = .ok (.astore 4, 2) := by decide +kernel
theorem d_LW_line_15 : decode b_LW_line 15 = .ok (.iconst 1, 1) := by decide +kernel
theorem d_LW_line_16 : decode b_LW_line 16 = .ok (.ireturn, 1) := by decide +kernel
theorem d_LW_line_17 : decode b_LW_line 17 = .ok (.astore 4, 2) := by decide +kernel
theorem d_LW_line_19 : decode b_LW_line 19 = .ok (.iconst 2, 1) := by decide +kernel
theorem d_LW_line_20 : decode b_LW_line 20 = .ok (.ireturn, 1) := by decide +kernel
theorem d_LW_line_21 : decode b_LW_line 21 = .ok (.iconst 0, 1) := by decide +kernel
theorem d_LW_line_22 : decode b_LW_line 22 = .ok (.ireturn, 1) := by decide +kernel
theorem d_LW_where_0 : decode b_LW_where 0 = .ok (.aload_n 3, 1) := by decide +kernel
theorem d_LW_where_1 : decode b_LW_where 1 = .ok (.iconst 0, 1) := by decide +kernel
theorem d_LW_where_2 : decode b_LW_where 2 = .ok (.aload_n 0, 1) := by decide +kernel
theorem d_LW_where_3 : decode b_LW_where 3 = .ok (.iload_n 1, 1) := by decide +kernel
theorem d_LW_where_4 : decode b_LW_where 4 = .ok (.iload_n 2, 1) := by decide +kernel
theorem d_LW_where_5 : decode b_LW_where 5 = .ok (.invokevirtual 37, 3) := by decide +kernel
theorem d_LW_where_8 : decode b_LW_where 8 = .ok (.i2l, 1) := by decide +kernel
theorem d_LW_where_9 : decode b_LW_where 9 = .ok (.lastore, 1) := by decide +kernel
theorem d_LW_where_10 : decode b_LW_where 10 = .ok (.goto 11, 3) := by decide +kernel
theorem d_LW_where_13 : decode b_LW_where 13 = .ok (.astore 4, 2) := by decide +kernel
theorem d_LW_where_15 : decode b_LW_where 15 = .ok (.iconst 1, 1) := by decide +kernel
theorem d_LW_where_16 : decode b_LW_where 16 = .ok (.ireturn, 1) := by decide +kernel
theorem d_LW_where_17 : decode b_LW_where 17 = .ok (.astore 4, 2) := by decide +kernel
theorem d_LW_where_19 : decode b_LW_where 19 = .ok (.iconst 2, 1) := by decide +kernel
theorem d_LW_where_20 : decode b_LW_where 20 = .ok (.ireturn, 1) := by decide +kernel
theorem d_LW_where_21 : decode b_LW_where 21 = .ok (.iconst 0, 1) := by decide +kernel
theorem d_LW_where_22 : decode b_LW_where 22 = .ok (.ireturn, 1) := by decide +kernel
theorem d_LW_page_0 : decode b_LW_page 0 = .ok (.aload_n 3, 1) := by decide +kernel
theorem d_LW_page_1 : decode b_LW_page 1 = .ok (.iconst 0, 1) := by decide +kernel
theorem d_LW_page_2 : decode b_LW_page 2 = .ok (.aload_n 0, 1) := by decide +kernel
theorem d_LW_page_3 : decode b_LW_page 3 = .ok (.iload_n 1, 1) := by decide +kernel
theorem d_LW_page_4 : decode b_LW_page 4 = .ok (.iload_n 2, 1) := by decide +kernel
theorem d_LW_page_5 : decode b_LW_page 5 = .ok (.invokevirtual 40, 3) := by decide +kernel
theorem d_LW_page_8 : decode b_LW_page 8 = .ok (.i2l, 1) := by decide +kernel
theorem d_LW_page_9 : decode b_LW_page 9 = .ok (.lastore, 1) := by decide +kernel
theorem d_LW_page_10 : decode b_LW_page 10 = .ok (.goto 11, 3) := by decide +kernel
theorem d_LW_page_13 : decode b_LW_page 13 = .ok (.astore 4, 2) := by decide +kernel
theorem d_LW_page_15 : decode b_LW_page 15 = .ok (.iconst 1, 1) := by decide +kernel
theorem d_LW_page_16 : decode b_LW_page 16 = .ok (.ireturn, 1) := by decide +kernel
theorem d_LW_page_17 : decode b_LW_page 17 = .ok (.astore 4, 2) := by decide +kernel
theorem d_LW_page_19 : decode b_LW_page 19 = .ok (.iconst 2, 1) := by decide +kernel
theorem d_LW_page_20 : decode b_LW_page 20 = .ok (.ireturn, 1) := by decide +kernel
theorem d_LW_page_21 : decode b_LW_page 21 = .ok (.iconst 0, 1) := by decide +kernel
theorem d_LW_page_22 : decode b_LW_page 22 = .ok (.ireturn, 1) := by decide +kernel
theorem d_LW_hit_0 : decode b_LW_hit 0 = .ok (.aload 4, 2) := by decide +kernel
theorem d_LW_hit_2 : decode b_LW_hit 2 = .ok (.iconst 0, 1) := by decide +kernel
theorem d_LW_hit_3 : decode b_LW_hit 3 = .ok (.aload_n 0, 1) := by decide +kernel
theorem d_LW_hit_4 : decode b_LW_hit 4 = .ok (.iload_n 1, 1) := by decide +kernel
theorem d_LW_hit_5 : decode b_LW_hit 5 = .ok (.iload_n 2, 1) := by decide +kernel
theorem d_LW_hit_6 : decode b_LW_hit 6 = .ok (.iload_n 3, 1) := by decide +kernel
theorem d_LW_hit_7 : decode b_LW_hit 7 = .ok (.invokevirtual 43, 3) := by decide +kernel
theorem d_LW_hit_10 : decode b_LW_hit 10 = .ok (.i2l, 1) := by decide +kernel
theorem d_LW_hit_11 : decode b_LW_hit 11 = .ok (.lastore, 1) := by decide +kernel
theorem d_LW_hit_12 : decode b_LW_hit 12 = .ok (.goto 7, 3) := by decide +kernel
theorem d_LW_hit_15 : decode b_LW_hit 15 = .ok (.astore 5, 2) := by decide +kernel
theorem d_LW_hit_17 : decode b_LW_hit 17 = .ok (.iconst 1, 1) := by decide +kernel
theorem d_LW_hit_18 : decode b_LW_hit 18 = .ok (.ireturn, 1) := by decide +kernel
theorem d_LW_hit_19 : decode b_LW_hit 19 = .ok (.iconst 0, 1) := by decide +kernel
theorem d_LW_hit_20 : decode b_LW_hit 20 = .ok (.ireturn, 1) := by decide +kernel
