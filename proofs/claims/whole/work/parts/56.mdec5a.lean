theorem d_MO_thrown_0 : decode b_MO_thrown 0 = .ok (.aload_n 0, 1) := by decide +kernel
theorem d_MO_thrown_1 : decode b_MO_thrown 1 = .ok (.getfield 92, 3) := by decide +kernel
theorem d_MO_thrown_4 : decode b_MO_thrown 4 = .ok (.ireturn, 1) := by decide +kernel
theorem d_MO_clear_0 : decode b_MO_clear 0 = .ok (.aload_n 0, 1) := by decide +kernel
theorem d_MO_clear_1 : decode b_MO_clear 1 = .ok (.iconst 0, 1) := by decide +kernel
theorem d_MO_clear_2 : decode b_MO_clear 2 = .ok (.putfield 92, 3) := by decide +kernel
theorem d_MO_clear_5 : decode b_MO_clear 5 = .ok (.aload_n 0, 1) := by decide +kernel
theorem d_MO_clear_6 : decode b_MO_clear 6 = .ok (.iconst 0, 1) := by decide +kernel
theorem d_MO_clear_7 : decode b_MO_clear 7 = .ok (.putfield 95, 3) := by decide +kernel
theorem d_MO_clear_10 : decode b_MO_clear 10 = .ok (.aload_n 0, 1) := by decide +kernel
theorem d_MO_clear_11 : decode b_MO_clear 11 = .ok (.iconst 0, 1) := by decide +kernel
theorem d_MO_clear_12 : decode b_MO_clear 12 = .ok (.putfield 98, 3) := by decide +kernel
theorem d_MO_clear_15 : decode b_MO_clear 15 = .ok (.return_, 1) := by decide +kernel
theorem d_MO_paragraph_0 : decode b_MO_paragraph 0 = .ok (.aload_n 0, 1) := by decide +kernel
theorem d_MO_paragraph_1 : decode b_MO_paragraph 1 = .ok (.aload_n 0, 1) := by decide +kernel
theorem d_MO_paragraph_2 : decode b_MO_paragraph 2 = .ok (.getfield 95, 3) := by decide +kernel
theorem d_MO_paragraph_5 : decode b_MO_paragraph 5 = .ok (.bipush 30, 2) := by decide +kernel
theorem d_MO_paragraph_7 : decode b_MO_paragraph 7 = .ok (.if_icmp .ne 7, 3) := by decide +kernel
theorem d_MO_paragraph_10 : decode b_MO_paragraph 10 = .ok (.iconst 1, 1) := by decide +kernel
theorem d_MO_paragraph_11 : decode b_MO_paragraph 11 = .ok (.goto 4, 3) := by decide +kernel
theorem d_MO_paragraph_14 : decode b_MO_paragraph 14 = .ok (.iconst 0, 1) := by decide +kernel
theorem d_MO_paragraph_15 : decode b_MO_paragraph 15 = .ok (.putfield 92, 3) := by decide +kernel
theorem d_MO_paragraph_18 : decode b_MO_paragraph 18 = .ok (.aload_n 0, 1) := by decide +kernel
theorem d_MO_paragraph_19 : decode b_MO_paragraph 19 = .ok (.getfield 92, 3) := by decide +kernel
theorem d_MO_paragraph_22 : decode b_MO_paragraph 22 = .ok (.ifCond .le 5, 3) := by decide +kernel
theorem d_MO_paragraph_25 : decode b_MO_paragraph 25 = .ok (.iconst 0, 1) := by decide +kernel
theorem d_MO_paragraph_26 : decode b_MO_paragraph 26 = .ok (.ireturn, 1) := by decide +kernel
theorem d_MO_paragraph_27 : decode b_MO_paragraph 27 = .ok (.aload_n 0, 1) := by decide +kernel
theorem d_MO_paragraph_28 : decode b_MO_paragraph 28 = .ok (.getfield 95, 3) := by decide +kernel
theorem d_MO_paragraph_31 : decode b_MO_paragraph 31 = .ok (.istore_n 1, 1) := by decide +kernel
theorem d_MO_paragraph_32 : decode b_MO_paragraph 32 = .ok (.iload_n 1, 1) := by decide +kernel
theorem d_MO_paragraph_33 : decode b_MO_paragraph 33 = .ok (.ifCond .ne 10, 3) := by decide +kernel
theorem d_MO_paragraph_36 : decode b_MO_paragraph 36 = .ok (.aload_n 0, 1) := by decide +kernel
theorem d_MO_paragraph_37 : decode b_MO_paragraph 37 = .ok (.getfield 19, 3) := by decide +kernel
theorem d_MO_paragraph_40 : decode b_MO_paragraph 40 = .ok (.iconst 0, 1) := by decide +kernel
theorem d_MO_paragraph_41 : decode b_MO_paragraph 41 = .ok (.iconst 0, 1) := by decide +kernel
theorem d_MO_paragraph_42 : decode b_MO_paragraph 42 = .ok (.iastore, 1) := by decide +kernel
theorem d_MO_paragraph_43 : decode b_MO_paragraph 43 = .ok (.aload_n 0, 1) := by decide +kernel
theorem d_MO_paragraph_44 : decode b_MO_paragraph 44 = .ok (.getfield 19, 3) := by decide +kernel
theorem d_MO_paragraph_47 : decode b_MO_paragraph 47 = .ok (.iload_n 1, 1) := by decide +kernel
theorem d_MO_paragraph_48 : decode b_MO_paragraph 48 = .ok (.iconst 1, 1) := by decide +kernel
theorem d_MO_paragraph_49 : decode b_MO_paragraph 49 = .ok (.iadd, 1) := by decide +kernel
theorem d_MO_paragraph_50 : decode b_MO_paragraph 50 = .ok (.aload_n 0, 1) := by decide +kernel
theorem d_MO_paragraph_51 : decode b_MO_paragraph 51 = .ok (.getfield 19, 3) := by decide +kernel
theorem d_MO_paragraph_54 : decode b_MO_paragraph 54 = .ok (.iload_n 1, 1) := by decide +kernel
theorem d_MO_paragraph_55 : decode b_MO_paragraph 55 = .ok (.iaload, 1) := by decide +kernel
theorem d_MO_paragraph_56 : decode b_MO_paragraph 56 = .ok (.iastore, 1) := by decide +kernel
theorem d_MO_paragraph_57 : decode b_MO_paragraph 57 = .ok (.iconst 0, 1) := by decide +kernel
theorem d_MO_paragraph_58 : decode b_MO_paragraph 58 = .ok (.istore_n 2, 1) := by decide +kernel
theorem d_MO_paragraph_59 : decode b_MO_paragraph 59 = .ok (.iload_n 2, 1) := by decide +kernel
theorem d_MO_paragraph_60 : decode b_MO_paragraph 60 = .ok (.bipush 11, 2) := by decide +kernel
theorem d_MO_paragraph_62 : decode b_MO_paragraph 62 = .ok (.if_icmp .ge 31, 3) := by decide +kernel
theorem d_MO_paragraph_65 : decode b_MO_paragraph 65 = .ok (.aload_n 0, 1) := by decide +kernel
theorem d_MO_paragraph_66 : decode b_MO_paragraph 66 = .ok (.getfield 23, 3) := by decide +kernel
theorem d_MO_paragraph_69 : decode b_MO_paragraph 69 = .ok (.bipush 11, 2) := by decide +kernel
theorem d_MO_paragraph_71 : decode b_MO_paragraph 71 = .ok (.iload_n 1, 1) := by decide +kernel
theorem d_MO_paragraph_72 : decode b_MO_paragraph 72 = .ok (.imul, 1) := by decide +kernel
theorem d_MO_paragraph_73 : decode b_MO_paragraph 73 = .ok (.iload_n 2, 1) := by decide +kernel
theorem d_MO_paragraph_74 : decode b_MO_paragraph 74 = .ok (.iadd, 1) := by decide +kernel
theorem d_MO_paragraph_75 : decode b_MO_paragraph 75 = .ok (.iload_n 2, 1) := by decide +kernel
theorem d_MO_paragraph_76 : decode b_MO_paragraph 76 = .ok (.bipush 10, 2) := by decide +kernel
theorem d_MO_paragraph_78 : decode b_MO_paragraph 78 = .ok (.if_icmp .ne 7, 3) := by decide +kernel
theorem d_MO_paragraph_81 : decode b_MO_paragraph 81 = .ok (.iconst 1, 1) := by decide +kernel
theorem d_MO_paragraph_82 : decode b_MO_paragraph 82 = .ok (.goto 4, 3) := by decide +kernel
theorem d_MO_paragraph_85 : decode b_MO_paragraph 85 = .ok (.iconst 0, 1) := by decide +kernel
theorem d_MO_paragraph_86 : decode b_MO_paragraph 86 = .ok (.iastore, 1) := by decide +kernel
theorem d_MO_paragraph_87 : decode b_MO_paragraph 87 = .ok (.iinc 2 1, 3) := by decide +kernel
theorem d_MO_paragraph_90 : decode b_MO_paragraph 90 = .ok (.goto (-31), 3) := by decide +kernel
theorem d_MO_paragraph_93 : decode b_MO_paragraph 93 = .ok (.aload_n 0, 1) := by decide +kernel
theorem d_MO_paragraph_94 : decode b_MO_paragraph 94 = .ok (.getfield 26, 3) := by decide +kernel
theorem d_MO_paragraph_97 : decode b_MO_paragraph 97 = .ok (.iload_n 1, 1) := by decide +kernel
theorem d_MO_paragraph_98 : decode b_MO_paragraph 98 = .ok (.iconst 0, 1) := by decide +kernel
theorem d_MO_paragraph_99 : decode b_MO_paragraph 99 = .ok (.iastore, 1) := by decide +kernel
theorem d_MO_paragraph_100 : decode b_MO_paragraph 100 = .ok (.aload_n 0, 1) := by decide +kernel
theorem d_MO_paragraph_101 : decode b_MO_paragraph 101 = .ok (.dup, 1) := by decide +kernel
theorem d_MO_paragraph_102 : decode b_MO_paragraph 102 = .ok (.getfield 95, 3) := by decide +kernel
theorem d_MO_paragraph_105 : decode b_MO_paragraph 105 = .ok (.iconst 1, 1) := by decide +kernel
theorem d_MO_paragraph_106 : decode b_MO_paragraph 106 = .ok (.iadd, 1) := by decide +kernel
theorem d_MO_paragraph_107 : decode b_MO_paragraph 107 = .ok (.putfield 95, 3) := by decide +kernel
theorem d_MO_paragraph_110 : decode b_MO_paragraph 110 = .ok (.aload_n 0, 1) := by decide +kernel
theorem d_MO_paragraph_111 : decode b_MO_paragraph 111 = .ok (.iconst 0, 1) := by decide +kernel
theorem d_MO_paragraph_112 : decode b_MO_paragraph 112 = .ok (.putfield 98, 3) := by decide +kernel
theorem d_MO_paragraph_115 : decode b_MO_paragraph 115 = .ok (.iload_n 1, 1) := by decide +kernel
theorem d_MO_paragraph_116 : decode b_MO_paragraph 116 = .ok (.ireturn, 1) := by decide +kernel
theorem d_MO_sign_0 : decode b_MO_sign 0 = .ok (.aload_n 0, 1) := by decide +kernel
theorem d_MO_sign_1 : decode b_MO_sign 1 = .ok (.aload_n 0, 1) := by decide +kernel
theorem d_MO_sign_2 : decode b_MO_sign 2 = .ok (.getfield 95, 3) := by decide +kernel
theorem d_MO_sign_5 : decode b_MO_sign 5 = .ok (.ifCond .ne 7, 3) := by decide +kernel
theorem d_MO_sign_8 : decode b_MO_sign 8 = .ok (.iconst 1, 1) := by decide +kernel
theorem d_MO_sign_9 : decode b_MO_sign 9 = .ok (.goto 59, 3) := by decide +kernel
theorem d_MO_sign_12 : decode b_MO_sign 12 = .ok (.iload_n 1, 1) := by decide +kernel
theorem d_MO_sign_13 : decode b_MO_sign 13 = .ok (.iconst 0, 1) := by decide +kernel
theorem d_MO_sign_14 : decode b_MO_sign 14 = .ok (.bipush 6, 2) := by decide +kernel
theorem d_MO_sign_16 : decode b_MO_sign 16 = .ok (.invokestatic 102, 3) := by decide +kernel
theorem d_MO_sign_19 : decode b_MO_sign 19 = .ok (.ifCond .eq 25, 3) := by decide +kernel
theorem d_MO_sign_22 : decode b_MO_sign 22 = .ok (.iload_n 2, 1) := by decide +kernel
theorem d_MO_sign_23 : decode b_MO_sign 23 = .ok (.iconst 0, 1) := by decide +kernel
theorem d_MO_sign_24 : decode b_MO_sign 24 = .ok (.sipush 4000, 3) := by decide +kernel
theorem d_MO_sign_27 : decode b_MO_sign 27 = .ok (.invokestatic 102, 3) := by decide +kernel
theorem d_MO_sign_30 : decode b_MO_sign 30 = .ok (.ifCond .eq 14, 3) := by decide +kernel
theorem d_MO_sign_33 : decode b_MO_sign 33 = .ok (.iload_n 3, 1) := by decide +kernel
theorem d_MO_sign_34 : decode b_MO_sign 34 = .ok (.iconst 0, 1) := by decide +kernel
theorem d_MO_sign_35 : decode b_MO_sign 35 = .ok (.sipush 2000, 3) := by decide +kernel
theorem d_MO_sign_38 : decode b_MO_sign 38 = .ok (.invokestatic 102, 3) := by decide +kernel
theorem d_MO_sign_41 : decode b_MO_sign 41 = .ok (.ifCond .ne 7, 3) := by decide +kernel
theorem d_MO_sign_44 : decode b_MO_sign 44 = .ok (.iconst 2, 1) := by decide +kernel
theorem d_MO_sign_45 : decode b_MO_sign 45 = .ok (.goto 23, 3) := by decide +kernel
theorem d_MO_sign_48 : decode b_MO_sign 48 = .ok (.aload_n 0, 1) := by decide +kernel
theorem d_MO_sign_49 : decode b_MO_sign 49 = .ok (.getfield 19, 3) := by decide +kernel
theorem d_MO_sign_52 : decode b_MO_sign 52 = .ok (.aload_n 0, 1) := by decide +kernel
theorem d_MO_sign_53 : decode b_MO_sign 53 = .ok (.getfield 95, 3) := by decide +kernel
theorem d_MO_sign_56 : decode b_MO_sign 56 = .ok (.iaload, 1) := by decide +kernel
theorem d_MO_sign_57 : decode b_MO_sign 57 = .ok (.sipush 600, 3) := by decide +kernel
theorem d_MO_sign_60 : decode b_MO_sign 60 = .ok (.if_icmp .ne 7, 3) := by decide +kernel
theorem d_MO_sign_63 : decode b_MO_sign 63 = .ok (.iconst 3, 1) := by decide +kernel
theorem d_MO_sign_64 : decode b_MO_sign 64 = .ok (.goto 4, 3) := by decide +kernel
theorem d_MO_sign_67 : decode b_MO_sign 67 = .ok (.iconst 0, 1) := by decide +kernel
theorem d_MO_sign_68 : decode b_MO_sign 68 = .ok (.putfield 92, 3) := by decide +kernel
theorem d_MO_sign_71 : decode b_MO_sign 71 = .ok (.aload_n 0, 1) := by decide +kernel
theorem d_MO_sign_72 : decode b_MO_sign 72 = .ok (.getfield 92, 3) := by decide +kernel
theorem d_MO_sign_75 : decode b_MO_sign 75 = .ok (.ifCond .le 5, 3) := by decide +kernel
theorem d_MO_sign_78 : decode b_MO_sign 78 = .ok (.iconst 0, 1) := by decide +kernel
theorem d_MO_sign_79 : decode b_MO_sign 79 = .ok (.ireturn, 1) := by decide +kernel
theorem d_MO_sign_80 : decode b_MO_sign 80 = .ok (.aload_n 0, 1) := by decide +kernel
theorem d_MO_sign_81 : decode b_MO_sign 81 = .ok (.getfield 19, 3) := by decide +kernel
theorem d_MO_sign_84 : decode b_MO_sign 84 = .ok (.aload_n 0, 1) := by decide +kernel
theorem d_MO_sign_85 : decode b_MO_sign 85 = .ok (.getfield 95, 3) := by decide +kernel
theorem d_MO_sign_88 : decode b_MO_sign 88 = .ok (.iaload, 1) := by decide +kernel
theorem d_MO_sign_89 : decode b_MO_sign 89 = .ok (.istore 4, 2) := by decide +kernel
theorem d_MO_sign_91 : decode b_MO_sign 91 = .ok (.aload_n 0, 1) := by decide +kernel
theorem d_MO_sign_92 : decode b_MO_sign 92 = .ok (.getfield 35, 3) := by decide +kernel
theorem d_MO_sign_95 : decode b_MO_sign 95 = .ok (.iload 4, 2) := by decide +kernel
theorem d_MO_sign_97 : decode b_MO_sign 97 = .ok (.iload_n 1, 1) := by decide +kernel
theorem d_MO_sign_98 : decode b_MO_sign 98 = .ok (.iastore, 1) := by decide +kernel
theorem d_MO_sign_99 : decode b_MO_sign 99 = .ok (.aload_n 0, 1) := by decide +kernel
theorem d_MO_sign_100 : decode b_MO_sign 100 = .ok (.getfield 38, 3) := by decide +kernel
theorem d_MO_sign_103 : decode b_MO_sign 103 = .ok (.iload 4, 2) := by decide +kernel
theorem d_MO_sign_105 : decode b_MO_sign 105 = .ok (.iload_n 2, 1) := by decide +kernel
theorem d_MO_sign_106 : decode b_MO_sign 106 = .ok (.iastore, 1) := by decide +kernel
theorem d_MO_sign_107 : decode b_MO_sign 107 = .ok (.aload_n 0, 1) := by decide +kernel
theorem d_MO_sign_108 : decode b_MO_sign 108 = .ok (.getfield 41, 3) := by decide +kernel
theorem d_MO_sign_111 : decode b_MO_sign 111 = .ok (.iload 4, 2) := by decide +kernel
theorem d_MO_sign_113 : decode b_MO_sign 113 = .ok (.iload_n 3, 1) := by decide +kernel
theorem d_MO_sign_114 : decode b_MO_sign 114 = .ok (.iastore, 1) := by decide +kernel
theorem d_MO_sign_115 : decode b_MO_sign 115 = .ok (.aload_n 0, 1) := by decide +kernel
theorem d_MO_sign_116 : decode b_MO_sign 116 = .ok (.getfield 19, 3) := by decide +kernel
theorem d_MO_sign_119 : decode b_MO_sign 119 = .ok (.aload_n 0, 1) := by decide +kernel
theorem d_MO_sign_120 : decode b_MO_sign 120 = .ok (.getfield 95, 3) := by decide +kernel
theorem d_MO_sign_123 : decode b_MO_sign 123 = .ok (.dup2, 1) := by decide +kernel
theorem d_MO_sign_124 : decode b_MO_sign 124 = .ok (.iaload, 1) := by decide +kernel
theorem d_MO_sign_125 : decode b_MO_sign 125 = .ok (.iconst 1, 1) := by decide +kernel
theorem d_MO_sign_126 : decode b_MO_sign 126 = .ok (.iadd, 1) := by decide +kernel
theorem d_MO_sign_127 : decode b_MO_sign 127 = .ok (.iastore, 1) := by decide +kernel
theorem d_MO_sign_128 : decode b_MO_sign 128 = .ok (.aload_n 0, 1) := by decide +kernel
theorem d_MO_sign_129 : decode b_MO_sign 129 = .ok (.iconst 0, 1) := by decide +kernel
theorem d_MO_sign_130 : decode b_MO_sign 130 = .ok (.putfield 98, 3) := by decide +kernel
theorem d_MO_sign_133 : decode b_MO_sign 133 = .ok (.iload 4, 2) := by decide +kernel
theorem d_MO_sign_135 : decode b_MO_sign 135 = .ok (.ireturn, 1) := by decide +kernel
theorem d_MO_shape_0 : decode b_MO_shape 0 = .ok (.aload_n 0, 1) := by decide +kernel
theorem d_MO_shape_1 : decode b_MO_shape 1 = .ok (.aload_n 0, 1) := by decide +kernel
theorem d_MO_shape_2 : decode b_MO_shape 2 = .ok (.iload_n 1, 1) := by decide +kernel
theorem d_MO_shape_3 : decode b_MO_shape 3 = .ok (.invokevirtual 106, 3) := by decide +kernel
theorem d_MO_shape_6 : decode b_MO_shape 6 = .ok (.ifCond .ne 7, 3) := by decide +kernel
theorem d_MO_shape_9 : decode b_MO_shape 9 = .ok (.iconst 1, 1) := by decide +kernel
theorem d_MO_shape_10 : decode b_MO_shape 10 = .ok (.goto 33, 3) := by decide +kernel
theorem d_MO_shape_13 : decode b_MO_shape 13 = .ok (.iload_n 2, 1) := by decide +kernel
theorem d_MO_shape_14 : decode b_MO_shape 14 = .ok (.iconst 0, 1) := by decide +kernel
theorem d_MO_shape_15 : decode b_MO_shape 15 = .ok (.bipush 10, 2) := by decide +kernel
theorem d_MO_shape_17 : decode b_MO_shape 17 = .ok (.invokestatic 102, 3) := by decide +kernel
theorem d_MO_shape_20 : decode b_MO_shape 20 = .ok (.ifCond .eq 18, 3) := by decide +kernel
theorem d_MO_shape_23 : decode b_MO_shape 23 = .ok (.iload_n 3, 1) := by decide +kernel
theorem d_MO_shape_24 : decode b_MO_shape 24 = .ok (.iload_n 2, 1) := by decide +kernel
theorem d_MO_shape_25 : decode b_MO_shape 25 = .ok (.invokestatic 110, 3) := by decide +kernel
theorem d_MO_shape_28 : decode b_MO_shape 28 = .ok (.iload_n 2, 1) := by decide +kernel
theorem d_MO_shape_29 : decode b_MO_shape 29 = .ok (.invokestatic 114, 3) := by decide +kernel
theorem d_MO_shape_32 : decode b_MO_shape 32 = .ok (.invokestatic 102, 3) := by decide +kernel
theorem d_MO_shape_35 : decode b_MO_shape 35 = .ok (.ifCond .ne 7, 3) := by decide +kernel
theorem d_MO_shape_38 : decode b_MO_shape 38 = .ok (.iconst 2, 1) := by decide +kernel
theorem d_MO_shape_39 : decode b_MO_shape 39 = .ok (.goto 4, 3) := by decide +kernel
theorem d_MO_shape_42 : decode b_MO_shape 42 = .ok (.iconst 0, 1) := by decide +kernel
theorem d_MO_shape_43 : decode b_MO_shape 43 = .ok (.putfield 92, 3) := by decide +kernel
theorem d_MO_shape_46 : decode b_MO_shape 46 = .ok (.aload_n 0, 1) := by decide +kernel
theorem d_MO_shape_47 : decode b_MO_shape 47 = .ok (.getfield 92, 3) := by decide +kernel
theorem d_MO_shape_50 : decode b_MO_shape 50 = .ok (.ifCond .le 4, 3) := by decide +kernel
theorem d_MO_shape_53 : decode b_MO_shape 53 = .ok (.return_, 1) := by decide +kernel
theorem d_MO_shape_54 : decode b_MO_shape 54 = .ok (.aload_n 0, 1) := by decide +kernel
theorem d_MO_shape_55 : decode b_MO_shape 55 = .ok (.getfield 23, 3) := by decide +kernel
theorem d_MO_shape_58 : decode b_MO_shape 58 = .ok (.bipush 11, 2) := by decide +kernel
