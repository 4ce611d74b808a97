theorem d_PL_paragraph_0 : decode b_PL_paragraph 0 = .ok (.aload_n 0, 1) := by decide +kernel
theorem d_PL_paragraph_1 : decode b_PL_paragraph 1 = .ok (.getfield 12, 3) := by decide +kernel
theorem d_PL_paragraph_4 : decode b_PL_paragraph 4 = .ok (.getfield 45, 3) := by decide +kernel
theorem d_PL_paragraph_7 : decode b_PL_paragraph 7 = .ok (.bipush 30, 2) := by decide +kernel
theorem d_PL_paragraph_9 : decode b_PL_paragraph 9 = .ok (.if_icmp .lt 13, 3) := by decide +kernel
theorem d_PL_paragraph_12 : decode b_PL_paragraph 12 = .ok (.new 55, 3) := by decide +kernel
theorem d_PL_paragraph_15 : decode b_PL_paragraph 15 = .ok (.dup, 1) := by decide +kernel
theorem d_PL_paragraph_16 : decode b_PL_paragraph 16 = .ok (.ldc 57, 2) := by decide +kernel
theorem d_PL_paragraph_18 : decode b_PL_paragraph 18 = .ok (.invokespecial 59, 3) := by decide +kernel
theorem d_PL_paragraph_21 : decode b_PL_paragraph 21 = .ok (.athrow, 1) := by decide +kernel
theorem d_PL_paragraph_22 : decode b_PL_paragraph 22 = .ok (.aload_n 0, 1) := by decide +kernel
theorem d_PL_paragraph_23 : decode b_PL_paragraph 23 = .ok (.invokevirtual 52, 3) := by decide +kernel
theorem d_PL_paragraph_26 : decode b_PL_paragraph 26 = .ok (.aload_n 0, 1) := by decide +kernel
theorem d_PL_paragraph_27 : decode b_PL_paragraph 27 = .ok (.getfield 12, 3) := by decide +kernel
theorem d_PL_paragraph_30 : decode b_PL_paragraph 30 = .ok (.invokevirtual 62, 3) := by decide +kernel
theorem d_PL_paragraph_33 : decode b_PL_paragraph 33 = .ok (.ireturn, 1) := by decide +kernel
theorem d_PL_sign_0 : decode b_PL_sign 0 = .ok (.aload_n 0, 1) := by decide +kernel
theorem d_PL_sign_1 : decode b_PL_sign 1 = .ok (.getfield 12, 3) := by decide +kernel
theorem d_PL_sign_4 : decode b_PL_sign 4 = .ok (.getfield 45, 3) := by decide +kernel
theorem d_PL_sign_7 : decode b_PL_sign 7 = .ok (.iconst 1, 1) := by decide +kernel
theorem d_PL_sign_8 : decode b_PL_sign 8 = .ok (.if_icmp .ge 13, 3) := by decide +kernel
theorem d_PL_sign_11 : decode b_PL_sign 11 = .ok (.new 66, 3) := by decide +kernel
theorem d_PL_sign_14 : decode b_PL_sign 14 = .ok (.dup, 1) := by decide +kernel
theorem d_PL_sign_15 : decode b_PL_sign 15 = .ok (.ldc 68, 2) := by decide +kernel
theorem d_PL_sign_17 : decode b_PL_sign 17 = .ok (.invokespecial 70, 3) := by decide +kernel
theorem d_PL_sign_20 : decode b_PL_sign 20 = .ok (.athrow, 1) := by decide +kernel
theorem d_PL_sign_21 : decode b_PL_sign 21 = .ok (.iload_n 1, 1) := by decide +kernel
theorem d_PL_sign_22 : decode b_PL_sign 22 = .ok (.iconst 0, 1) := by decide +kernel
theorem d_PL_sign_23 : decode b_PL_sign 23 = .ok (.bipush 6, 2) := by decide +kernel
theorem d_PL_sign_25 : decode b_PL_sign 25 = .ok (.invokestatic 71, 3) := by decide +kernel
theorem d_PL_sign_28 : decode b_PL_sign 28 = .ok (.ifCond .ne 25, 3) := by decide +kernel
theorem d_PL_sign_31 : decode b_PL_sign 31 = .ok (.iload_n 2, 1) := by decide +kernel
theorem d_PL_sign_32 : decode b_PL_sign 32 = .ok (.iconst 0, 1) := by decide +kernel
theorem d_PL_sign_33 : decode b_PL_sign 33 = .ok (.sipush 4000, 3) := by decide +kernel
theorem d_PL_sign_36 : decode b_PL_sign 36 = .ok (.invokestatic 71, 3) := by decide +kernel
theorem d_PL_sign_39 : decode b_PL_sign 39 = .ok (.ifCond .ne 14, 3) := by decide +kernel
theorem d_PL_sign_42 : decode b_PL_sign 42 = .ok (.iload_n 3, 1) := by decide +kernel
theorem d_PL_sign_43 : decode b_PL_sign 43 = .ok (.iconst 0, 1) := by decide +kernel
theorem d_PL_sign_44 : decode b_PL_sign 44 = .ok (.sipush 2000, 3) := by decide +kernel
theorem d_PL_sign_47 : decode b_PL_sign 47 = .ok (.invokestatic 71, 3) := by decide +kernel
theorem d_PL_sign_50 : decode b_PL_sign 50 = .ok (.ifCond .eq 13, 3) := by decide +kernel
theorem d_PL_sign_53 : decode b_PL_sign 53 = .ok (.new 75, 3) := by decide +kernel
theorem d_PL_sign_56 : decode b_PL_sign 56 = .ok (.dup, 1) := by decide +kernel
theorem d_PL_sign_57 : decode b_PL_sign 57 = .ok (.ldc 77, 2) := by decide +kernel
theorem d_PL_sign_59 : decode b_PL_sign 59 = .ok (.invokespecial 79, 3) := by decide +kernel
theorem d_PL_sign_62 : decode b_PL_sign 62 = .ok (.athrow, 1) := by decide +kernel
theorem d_PL_sign_63 : decode b_PL_sign 63 = .ok (.aload_n 0, 1) := by decide +kernel
theorem d_PL_sign_64 : decode b_PL_sign 64 = .ok (.getfield 12, 3) := by decide +kernel
theorem d_PL_sign_67 : decode b_PL_sign 67 = .ok (.getfield 49, 3) := by decide +kernel
theorem d_PL_sign_70 : decode b_PL_sign 70 = .ok (.sipush 600, 3) := by decide +kernel
theorem d_PL_sign_73 : decode b_PL_sign 73 = .ok (.if_icmp .lt 13, 3) := by decide +kernel
theorem d_PL_sign_76 : decode b_PL_sign 76 = .ok (.new 55, 3) := by decide +kernel
theorem d_PL_sign_79 : decode b_PL_sign 79 = .ok (.dup, 1) := by decide +kernel
theorem d_PL_sign_80 : decode b_PL_sign 80 = .ok (.ldc 80, 2) := by decide +kernel
theorem d_PL_sign_82 : decode b_PL_sign 82 = .ok (.invokespecial 59, 3) := by decide +kernel
theorem d_PL_sign_85 : decode b_PL_sign 85 = .ok (.athrow, 1) := by decide +kernel
theorem d_PL_sign_86 : decode b_PL_sign 86 = .ok (.aload_n 0, 1) := by decide +kernel
theorem d_PL_sign_87 : decode b_PL_sign 87 = .ok (.invokevirtual 52, 3) := by decide +kernel
theorem d_PL_sign_90 : decode b_PL_sign 90 = .ok (.aload_n 0, 1) := by decide +kernel
theorem d_PL_sign_91 : decode b_PL_sign 91 = .ok (.getfield 12, 3) := by decide +kernel
theorem d_PL_sign_94 : decode b_PL_sign 94 = .ok (.iload_n 1, 1) := by decide +kernel
theorem d_PL_sign_95 : decode b_PL_sign 95 = .ok (.iload_n 2, 1) := by decide +kernel
theorem d_PL_sign_96 : decode b_PL_sign 96 = .ok (.iload_n 3, 1) := by decide +kernel
theorem d_PL_sign_97 : decode b_PL_sign 97 = .ok (.invokevirtual 82, 3) := by decide +kernel
theorem d_PL_sign_100 : decode b_PL_sign 100 = .ok (.ireturn, 1) := by decide +kernel
theorem d_PL_shape_0 : decode b_PL_shape 0 = .ok (.iload_n 1, 1) := by decide +kernel
theorem d_PL_shape_1 : decode b_PL_shape 1 = .ok (.iconst 0, 1) := by decide +kernel
theorem d_PL_shape_2 : decode b_PL_shape 2 = .ok (.aload_n 0, 1) := by decide +kernel
theorem d_PL_shape_3 : decode b_PL_shape 3 = .ok (.getfield 12, 3) := by decide +kernel
theorem d_PL_shape_6 : decode b_PL_shape 6 = .ok (.getfield 45, 3) := by decide +kernel
theorem d_PL_shape_9 : decode b_PL_shape 9 = .ok (.iconst 1, 1) := by decide +kernel
theorem d_PL_shape_10 : decode b_PL_shape 10 = .ok (.isub, 1) := by decide +kernel
theorem d_PL_shape_11 : decode b_PL_shape 11 = .ok (.invokestatic 71, 3) := by decide +kernel
theorem d_PL_shape_14 : decode b_PL_shape 14 = .ok (.ifCond .eq 13, 3) := by decide +kernel
theorem d_PL_shape_17 : decode b_PL_shape 17 = .ok (.new 66, 3) := by decide +kernel
theorem d_PL_shape_20 : decode b_PL_shape 20 = .ok (.dup, 1) := by decide +kernel
theorem d_PL_shape_21 : decode b_PL_shape 21 = .ok (.ldc 86, 2) := by decide +kernel
theorem d_PL_shape_23 : decode b_PL_shape 23 = .ok (.invokespecial 70, 3) := by decide +kernel
theorem d_PL_shape_26 : decode b_PL_shape 26 = .ok (.athrow, 1) := by decide +kernel
theorem d_PL_shape_27 : decode b_PL_shape 27 = .ok (.iload_n 2, 1) := by decide +kernel
theorem d_PL_shape_28 : decode b_PL_shape 28 = .ok (.iconst 0, 1) := by decide +kernel
theorem d_PL_shape_29 : decode b_PL_shape 29 = .ok (.bipush 10, 2) := by decide +kernel
theorem d_PL_shape_31 : decode b_PL_shape 31 = .ok (.invokestatic 71, 3) := by decide +kernel
theorem d_PL_shape_34 : decode b_PL_shape 34 = .ok (.ifCond .ne 20, 3) := by decide +kernel
theorem d_PL_shape_37 : decode b_PL_shape 37 = .ok (.iload_n 3, 1) := by decide +kernel
theorem d_PL_shape_38 : decode b_PL_shape 38 = .ok (.getstatic 88, 3) := by decide +kernel
theorem d_PL_shape_41 : decode b_PL_shape 41 = .ok (.iload_n 2, 1) := by decide +kernel
theorem d_PL_shape_42 : decode b_PL_shape 42 = .ok (.iaload, 1) := by decide +kernel
theorem d_PL_shape_43 : decode b_PL_shape 43 = .ok (.getstatic 92, 3) := by decide +kernel
theorem d_PL_shape_46 : decode b_PL_shape 46 = .ok (.iload_n 2, 1) := by decide +kernel
theorem d_PL_shape_47 : decode b_PL_shape 47 = .ok (.iaload, 1) := by decide +kernel
theorem d_PL_shape_48 : decode b_PL_shape 48 = .ok (.invokestatic 71, 3) := by decide +kernel
theorem d_PL_shape_51 : decode b_PL_shape 51 = .ok (.ifCond .eq 13, 3) := by decide +kernel
theorem d_PL_shape_54 : decode b_PL_shape 54 = .ok (.new 75, 3) := by decide +kernel
theorem d_PL_shape_57 : decode b_PL_shape 57 = .ok (.dup, 1) := by decide +kernel
theorem d_PL_shape_58 : decode b_PL_shape 58 = .ok (.ldc 95, 2) := by decide +kernel
theorem d_PL_shape_60 : decode b_PL_shape 60 = .ok (.invokespecial 79, 3) := by decide +kernel
theorem d_PL_shape_63 : decode b_PL_shape 63 = .ok (.athrow, 1) := by decide +kernel
theorem d_PL_shape_64 : decode b_PL_shape 64 = .ok (.aload_n 0, 1) := by decide +kernel
theorem d_PL_shape_65 : decode b_PL_shape 65 = .ok (.invokevirtual 52, 3) := by decide +kernel
theorem d_PL_shape_68 : decode b_PL_shape 68 = .ok (.aload_n 0, 1) := by decide +kernel
theorem d_PL_shape_69 : decode b_PL_shape 69 = .ok (.getfield 12, 3) := by decide +kernel
theorem d_PL_shape_72 : decode b_PL_shape 72 = .ok (.getfield 97, 3) := by decide +kernel
theorem d_PL_shape_75 : decode b_PL_shape 75 = .ok (.iload_n 1, 1) := by decide +kernel
theorem d_PL_shape_76 : decode b_PL_shape 76 = .ok (.aaload, 1) := by decide +kernel
theorem d_PL_shape_77 : decode b_PL_shape 77 = .ok (.getfield 101, 3) := by decide +kernel
theorem d_PL_shape_80 : decode b_PL_shape 80 = .ok (.iload_n 2, 1) := by decide +kernel
theorem d_PL_shape_81 : decode b_PL_shape 81 = .ok (.iload_n 3, 1) := by decide +kernel
theorem d_PL_shape_82 : decode b_PL_shape 82 = .ok (.iastore, 1) := by decide +kernel
theorem d_PL_shape_83 : decode b_PL_shape 83 = .ok (.return_, 1) := by decide +kernel
theorem d_PL_stop_0 : decode b_PL_stop 0 = .ok (.iload_n 1, 1) := by decide +kernel
theorem d_PL_stop_1 : decode b_PL_stop 1 = .ok (.iconst 0, 1) := by decide +kernel
theorem d_PL_stop_2 : decode b_PL_stop 2 = .ok (.aload_n 0, 1) := by decide +kernel
theorem d_PL_stop_3 : decode b_PL_stop 3 = .ok (.getfield 12, 3) := by decide +kernel
theorem d_PL_stop_6 : decode b_PL_stop 6 = .ok (.getfield 45, 3) := by decide +kernel
theorem d_PL_stop_9 : decode b_PL_stop 9 = .ok (.iconst 1, 1) := by decide +kernel
theorem d_PL_stop_10 : decode b_PL_stop 10 = .ok (.isub, 1) := by decide +kernel
theorem d_PL_stop_11 : decode b_PL_stop 11 = .ok (.invokestatic 71, 3) := by decide +kernel
theorem d_PL_stop_14 : decode b_PL_stop 14 = .ok (.ifCond .eq 13, 3) := by decide +kernel
theorem d_PL_stop_17 : decode b_PL_stop 17 = .ok (.new 66, 3) := by decide +kernel
theorem d_PL_stop_20 : decode b_PL_stop 20 = .ok (.dup, 1) := by decide +kernel
theorem d_PL_stop_21 : decode b_PL_stop 21 = .ok (.ldc 86, 2) := by decide +kernel
theorem d_PL_stop_23 : decode b_PL_stop 23 = .ok (.invokespecial 70, 3) := by decide +kernel
theorem d_PL_stop_26 : decode b_PL_stop 26 = .ok (.athrow, 1) := by decide +kernel
theorem d_PL_stop_27 : decode b_PL_stop 27 = .ok (.aload_n 0, 1) := by decide +kernel
theorem d_PL_stop_28 : decode b_PL_stop 28 = .ok (.getfield 12, 3) := by decide +kernel
theorem d_PL_stop_31 : decode b_PL_stop 31 = .ok (.getfield 97, 3) := by decide +kernel
theorem d_PL_stop_34 : decode b_PL_stop 34 = .ok (.iload_n 1, 1) := by decide +kernel
theorem d_PL_stop_35 : decode b_PL_stop 35 = .ok (.aaload, 1) := by decide +kernel
theorem d_PL_stop_36 : decode b_PL_stop 36 = .ok (.astore 4, 2) := by decide +kernel
theorem d_PL_stop_38 : decode b_PL_stop 38 = .ok (.iload_n 2, 1) := by decide +kernel
theorem d_PL_stop_39 : decode b_PL_stop 39 = .ok (.aload 4, 2) := by decide +kernel
theorem d_PL_stop_41 : decode b_PL_stop 41 = .ok (.invokevirtual 106, 3) := by decide +kernel
theorem d_PL_stop_44 : decode b_PL_stop 44 = .ok (.iconst 1, 1) := by decide +kernel
theorem d_PL_stop_45 : decode b_PL_stop 45 = .ok (.iadd, 1) := by decide +kernel
theorem d_PL_stop_46 : decode b_PL_stop 46 = .ok (.sipush 30000, 3) := by decide +kernel
theorem d_PL_stop_49 : decode b_PL_stop 49 = .ok (.invokestatic 71, 3) := by decide +kernel
theorem d_PL_stop_52 : decode b_PL_stop 52 = .ok (.ifCond .ne 12, 3) := by decide +kernel
theorem d_PL_stop_55 : decode b_PL_stop 55 = .ok (.iload_n 3, 1) := by decide +kernel
theorem d_PL_stop_56 : decode b_PL_stop 56 = .ok (.iconst 0, 1) := by decide +kernel
theorem d_PL_stop_57 : decode b_PL_stop 57 = .ok (.iconst 2, 1) := by decide +kernel
theorem d_PL_stop_58 : decode b_PL_stop 58 = .ok (.invokestatic 71, 3) := by decide +kernel
theorem d_PL_stop_61 : decode b_PL_stop 61 = .ok (.ifCond .eq 13, 3) := by decide +kernel
theorem d_PL_stop_64 : decode b_PL_stop 64 = .ok (.new 75, 3) := by decide +kernel
theorem d_PL_stop_67 : decode b_PL_stop 67 = .ok (.dup, 1) := by decide +kernel
theorem d_PL_stop_68 : decode b_PL_stop 68 = .ok (.ldc 109, 2) := by decide +kernel
theorem d_PL_stop_70 : decode b_PL_stop 70 = .ok (.invokespecial 79, 3) := by decide +kernel
theorem d_PL_stop_73 : decode b_PL_stop 73 = .ok (.athrow, 1) := by decide +kernel
theorem d_PL_stop_74 : decode b_PL_stop 74 = .ok (.aload 4, 2) := by decide +kernel
theorem d_PL_stop_76 : decode b_PL_stop 76 = .ok (.getfield 111, 3) := by decide +kernel
theorem d_PL_stop_79 : decode b_PL_stop 79 = .ok (.bipush 8, 2) := by decide +kernel
theorem d_PL_stop_81 : decode b_PL_stop 81 = .ok (.if_icmp .lt 13, 3) := by decide +kernel
theorem d_PL_stop_84 : decode b_PL_stop 84 = .ok (.new 55, 3) := by decide +kernel
theorem d_PL_stop_87 : decode b_PL_stop 87 = .ok (.dup, 1) := by decide +kernel
theorem d_PL_stop_88 : decode b_PL_stop 88 = .ok (.ldc 114, 2) := by decide +kernel
theorem d_PL_stop_90 : decode b_PL_stop 90 = .ok (.invokespecial 59, 3) := by decide +kernel
theorem d_PL_stop_93 : decode b_PL_stop 93 = .ok (.athrow, 1) := by decide +kernel
theorem d_PL_stop_94 : decode b_PL_stop 94 = .ok (.aload_n 0, 1) := by decide +kernel
theorem d_PL_stop_95 : decode b_PL_stop 95 = .ok (.invokevirtual 52, 3) := by decide +kernel
theorem d_PL_stop_98 : decode b_PL_stop 98 = .ok (.aload 4, 2) := by decide +kernel
theorem d_PL_stop_100 : decode b_PL_stop 100 = .ok (.iload_n 2, 1) := by decide +kernel
