theorem d_PL_clear_0 : decode b_PL_clear 0 = .ok (.aload_n 0, 1) := by decide +kernel
theorem d_PL_clear_1 : decode b_PL_clear 1 = .ok (.getfield 12, 3) := by decide +kernel
theorem d_PL_clear_4 : decode b_PL_clear 4 = .ok (.iconst 0, 1) := by decide +kernel
theorem d_PL_clear_5 : decode b_PL_clear 5 = .ok (.putfield 45, 3) := by decide +kernel
theorem d_PL_clear_8 : decode b_PL_clear 8 = .ok (.aload_n 0, 1) := by decide +kernel
theorem d_PL_clear_9 : decode b_PL_clear 9 = .ok (.getfield 12, 3) := by decide +kernel
theorem d_PL_clear_12 : decode b_PL_clear 12 = .ok (.iconst 0, 1) := by decide +kernel
theorem d_PL_clear_13 : decode b_PL_clear 13 = .ok (.putfield 49, 3) := by decide +kernel
theorem d_PL_clear_16 : decode b_PL_clear 16 = .ok (.aload_n 0, 1) := by decide +kernel
theorem d_PL_clear_17 : decode b_PL_clear 17 = .ok (.invokevirtual 52, 3) := by decide +kernel
theorem d_PL_clear_20 : decode b_PL_clear 20 = .ok (.return_, 1) := by decide +kernel
theorem d_PL_forgetLayout_0 : decode b_PL_forgetLayout 0 = .ok (.aload_n 0, 1) := by decide +kernel
theorem d_PL_forgetLayout_1 : decode b_PL_forgetLayout 1 = .ok (.iconst 0, 1) := by decide +kernel
theorem d_PL_forgetLayout_2 : decode b_PL_forgetLayout 2 = .ok (.putfield 41, 3) := by decide +kernel
theorem d_PL_forgetLayout_5 : decode b_PL_forgetLayout 5 = .ok (.aload_n 0, 1) := by decide +kernel
theorem d_PL_forgetLayout_6 : decode b_PL_forgetLayout 6 = .ok (.getfield 28, 3) := by decide +kernel
theorem d_PL_forgetLayout_9 : decode b_PL_forgetLayout 9 = .ok (.iconst 0, 1) := by decide +kernel
theorem d_PL_forgetLayout_10 : decode b_PL_forgetLayout 10 = .ok (.putfield 140, 3) := by decide +kernel
theorem d_PL_forgetLayout_13 : decode b_PL_forgetLayout 13 = .ok (.aload_n 0, 1) := by decide +kernel
theorem d_PL_forgetLayout_14 : decode b_PL_forgetLayout 14 = .ok (.getfield 37, 3) := by decide +kernel
theorem d_PL_forgetLayout_17 : decode b_PL_forgetLayout 17 = .ok (.iconst 0, 1) := by decide +kernel
theorem d_PL_forgetLayout_18 : decode b_PL_forgetLayout 18 = .ok (.putfield 137, 3) := by decide +kernel
theorem d_PL_forgetLayout_21 : decode b_PL_forgetLayout 21 = .ok (.return_, 1) := by decide +kernel
theorem d_PL_lay_0 : decode b_PL_lay 0 = .ok (.aload_n 0, 1) := by decide +kernel
theorem d_PL_lay_1 : decode b_PL_lay 1 = .ok (.getfield 41, 3) := by decide +kernel
theorem d_PL_lay_4 : decode b_PL_lay 4 = .ok (.ifCond .ne 22, 3) := by decide +kernel
theorem d_PL_lay_7 : decode b_PL_lay 7 = .ok (.aload_n 0, 1) := by decide +kernel
theorem d_PL_lay_8 : decode b_PL_lay 8 = .ok (.getfield 28, 3) := by decide +kernel
theorem d_PL_lay_11 : decode b_PL_lay 11 = .ok (.invokevirtual 131, 3) := by decide +kernel
theorem d_PL_lay_14 : decode b_PL_lay 14 = .ok (.aload_n 0, 1) := by decide +kernel
theorem d_PL_lay_15 : decode b_PL_lay 15 = .ok (.getfield 37, 3) := by decide +kernel
theorem d_PL_lay_18 : decode b_PL_lay 18 = .ok (.invokevirtual 134, 3) := by decide +kernel
theorem d_PL_lay_21 : decode b_PL_lay 21 = .ok (.aload_n 0, 1) := by decide +kernel
theorem d_PL_lay_22 : decode b_PL_lay 22 = .ok (.iconst 1, 1) := by decide +kernel
theorem d_PL_lay_23 : decode b_PL_lay 23 = .ok (.putfield 41, 3) := by decide +kernel
theorem d_PL_lay_26 : decode b_PL_lay 26 = .ok (.aload_n 0, 1) := by decide +kernel
theorem d_PL_lay_27 : decode b_PL_lay 27 = .ok (.getfield 37, 3) := by decide +kernel
theorem d_PL_lay_30 : decode b_PL_lay 30 = .ok (.getfield 137, 3) := by decide +kernel
theorem d_PL_lay_33 : decode b_PL_lay 33 = .ok (.ireturn, 1) := by decide +kernel
theorem d_TX_addParagraph_0 : decode b_TX_addParagraph 0 = .ok (.aload_n 0, 1) := by decide +kernel
theorem d_TX_addParagraph_1 : decode b_TX_addParagraph 1 = .ok (.getfield 11, 3) := by decide +kernel
theorem d_TX_addParagraph_4 : decode b_TX_addParagraph 4 = .ok (.aload_n 0, 1) := by decide +kernel
theorem d_TX_addParagraph_5 : decode b_TX_addParagraph 5 = .ok (.getfield 28, 3) := by decide +kernel
theorem d_TX_addParagraph_8 : decode b_TX_addParagraph 8 = .ok (.aaload, 1) := by decide +kernel
theorem d_TX_addParagraph_9 : decode b_TX_addParagraph 9 = .ok (.aload_n 0, 1) := by decide +kernel
theorem d_TX_addParagraph_10 : decode b_TX_addParagraph 10 = .ok (.getfield 32, 3) := by decide +kernel
theorem d_TX_addParagraph_13 : decode b_TX_addParagraph 13 = .ok (.invokevirtual 35, 3) := by decide +kernel
theorem d_TX_addParagraph_16 : decode b_TX_addParagraph 16 = .ok (.aload_n 0, 1) := by decide +kernel
theorem d_TX_addParagraph_17 : decode b_TX_addParagraph 17 = .ok (.dup, 1) := by decide +kernel
theorem d_TX_addParagraph_18 : decode b_TX_addParagraph 18 = .ok (.getfield 28, 3) := by decide +kernel
theorem d_TX_addParagraph_21 : decode b_TX_addParagraph 21 = .ok (.iconst 1, 1) := by decide +kernel
theorem d_TX_addParagraph_22 : decode b_TX_addParagraph 22 = .ok (.iadd, 1) := by decide +kernel
theorem d_TX_addParagraph_23 : decode b_TX_addParagraph 23 = .ok (.putfield 28, 3) := by decide +kernel
theorem d_TX_addParagraph_26 : decode b_TX_addParagraph 26 = .ok (.aload_n 0, 1) := by decide +kernel
theorem d_TX_addParagraph_27 : decode b_TX_addParagraph 27 = .ok (.getfield 28, 3) := by decide +kernel
theorem d_TX_addParagraph_30 : decode b_TX_addParagraph 30 = .ok (.iconst 1, 1) := by decide +kernel
theorem d_TX_addParagraph_31 : decode b_TX_addParagraph 31 = .ok (.isub, 1) := by decide +kernel
theorem d_TX_addParagraph_32 : decode b_TX_addParagraph 32 = .ok (.ireturn, 1) := by decide +kernel
theorem d_PA_renew_0 : decode b_PA_renew 0 = .ok (.aload_n 0, 1) := by decide +kernel
theorem d_PA_renew_1 : decode b_PA_renew 1 = .ok (.getfield 9, 3) := by decide +kernel
theorem d_PA_renew_4 : decode b_PA_renew 4 = .ok (.iconst 0, 1) := by decide +kernel
theorem d_PA_renew_5 : decode b_PA_renew 5 = .ok (.invokestatic 21, 3) := by decide +kernel
theorem d_PA_renew_8 : decode b_PA_renew 8 = .ok (.aload_n 0, 1) := by decide +kernel
theorem d_PA_renew_9 : decode b_PA_renew 9 = .ok (.getfield 9, 3) := by decide +kernel
theorem d_PA_renew_12 : decode b_PA_renew 12 = .ok (.bipush 10, 2) := by decide +kernel
theorem d_PA_renew_14 : decode b_PA_renew 14 = .ok (.iconst 1, 1) := by decide +kernel
theorem d_PA_renew_15 : decode b_PA_renew 15 = .ok (.iastore, 1) := by decide +kernel
theorem d_PA_renew_16 : decode b_PA_renew 16 = .ok (.aload_n 0, 1) := by decide +kernel
theorem d_PA_renew_17 : decode b_PA_renew 17 = .ok (.iconst 0, 1) := by decide +kernel
theorem d_PA_renew_18 : decode b_PA_renew 18 = .ok (.putfield 27, 3) := by decide +kernel
theorem d_PA_renew_21 : decode b_PA_renew 21 = .ok (.aload_n 0, 1) := by decide +kernel
theorem d_PA_renew_22 : decode b_PA_renew 22 = .ok (.iload_n 1, 1) := by decide +kernel
theorem d_PA_renew_23 : decode b_PA_renew 23 = .ok (.putfield 31, 3) := by decide +kernel
theorem d_PA_renew_26 : decode b_PA_renew 26 = .ok (.aload_n 0, 1) := by decide +kernel
theorem d_PA_renew_27 : decode b_PA_renew 27 = .ok (.iload_n 1, 1) := by decide +kernel
theorem d_PA_renew_28 : decode b_PA_renew 28 = .ok (.putfield 34, 3) := by decide +kernel
theorem d_PA_renew_31 : decode b_PA_renew 31 = .ok (.return_, 1) := by decide +kernel
theorem d_TX_addSign_0 : decode b_TX_addSign 0 = .ok (.aload_n 0, 1) := by decide +kernel
theorem d_TX_addSign_1 : decode b_TX_addSign 1 = .ok (.getfield 17, 3) := by decide +kernel
theorem d_TX_addSign_4 : decode b_TX_addSign 4 = .ok (.aload_n 0, 1) := by decide +kernel
theorem d_TX_addSign_5 : decode b_TX_addSign 5 = .ok (.getfield 32, 3) := by decide +kernel
theorem d_TX_addSign_8 : decode b_TX_addSign 8 = .ok (.iload_n 1, 1) := by decide +kernel
theorem d_TX_addSign_9 : decode b_TX_addSign 9 = .ok (.iastore, 1) := by decide +kernel
theorem d_TX_addSign_10 : decode b_TX_addSign 10 = .ok (.aload_n 0, 1) := by decide +kernel
theorem d_TX_addSign_11 : decode b_TX_addSign 11 = .ok (.getfield 21, 3) := by decide +kernel
theorem d_TX_addSign_14 : decode b_TX_addSign 14 = .ok (.aload_n 0, 1) := by decide +kernel
theorem d_TX_addSign_15 : decode b_TX_addSign 15 = .ok (.getfield 32, 3) := by decide +kernel
theorem d_TX_addSign_18 : decode b_TX_addSign 18 = .ok (.iload_n 2, 1) := by decide +kernel
theorem d_TX_addSign_19 : decode b_TX_addSign 19 = .ok (.iastore, 1) := by decide +kernel
theorem d_TX_addSign_20 : decode b_TX_addSign 20 = .ok (.aload_n 0, 1) := by decide +kernel
theorem d_TX_addSign_21 : decode b_TX_addSign 21 = .ok (.getfield 24, 3) := by decide +kernel
theorem d_TX_addSign_24 : decode b_TX_addSign 24 = .ok (.aload_n 0, 1) := by decide +kernel
theorem d_TX_addSign_25 : decode b_TX_addSign 25 = .ok (.getfield 32, 3) := by decide +kernel
theorem d_TX_addSign_28 : decode b_TX_addSign 28 = .ok (.iload_n 3, 1) := by decide +kernel
theorem d_TX_addSign_29 : decode b_TX_addSign 29 = .ok (.iastore, 1) := by decide +kernel
theorem d_TX_addSign_30 : decode b_TX_addSign 30 = .ok (.aload_n 0, 1) := by decide +kernel
theorem d_TX_addSign_31 : decode b_TX_addSign 31 = .ok (.dup, 1) := by decide +kernel
theorem d_TX_addSign_32 : decode b_TX_addSign 32 = .ok (.getfield 32, 3) := by decide +kernel
theorem d_TX_addSign_35 : decode b_TX_addSign 35 = .ok (.iconst 1, 1) := by decide +kernel
theorem d_TX_addSign_36 : decode b_TX_addSign 36 = .ok (.iadd, 1) := by decide +kernel
theorem d_TX_addSign_37 : decode b_TX_addSign 37 = .ok (.putfield 32, 3) := by decide +kernel
theorem d_TX_addSign_40 : decode b_TX_addSign 40 = .ok (.aload_n 0, 1) := by decide +kernel
theorem d_TX_addSign_41 : decode b_TX_addSign 41 = .ok (.getfield 11, 3) := by decide +kernel
theorem d_TX_addSign_44 : decode b_TX_addSign 44 = .ok (.aload_n 0, 1) := by decide +kernel
theorem d_TX_addSign_45 : decode b_TX_addSign 45 = .ok (.getfield 28, 3) := by decide +kernel
theorem d_TX_addSign_48 : decode b_TX_addSign 48 = .ok (.iconst 1, 1) := by decide +kernel
theorem d_TX_addSign_49 : decode b_TX_addSign 49 = .ok (.isub, 1) := by decide +kernel
theorem d_TX_addSign_50 : decode b_TX_addSign 50 = .ok (.aaload, 1) := by decide +kernel
theorem d_TX_addSign_51 : decode b_TX_addSign 51 = .ok (.aload_n 0, 1) := by decide +kernel
theorem d_TX_addSign_52 : decode b_TX_addSign 52 = .ok (.getfield 32, 3) := by decide +kernel
theorem d_TX_addSign_55 : decode b_TX_addSign 55 = .ok (.putfield 39, 3) := by decide +kernel
theorem d_TX_addSign_58 : decode b_TX_addSign 58 = .ok (.aload_n 0, 1) := by decide +kernel
theorem d_TX_addSign_59 : decode b_TX_addSign 59 = .ok (.getfield 32, 3) := by decide +kernel
theorem d_TX_addSign_62 : decode b_TX_addSign 62 = .ok (.iconst 1, 1) := by decide +kernel
theorem d_TX_addSign_63 : decode b_TX_addSign 63 = .ok (.isub, 1) := by decide +kernel
theorem d_TX_addSign_64 : decode b_TX_addSign 64 = .ok (.ireturn, 1) := by decide +kernel
theorem d_PA_addStop_0 : decode b_PA_addStop 0 = .ok (.aload_n 0, 1) := by decide +kernel
theorem d_PA_addStop_1 : decode b_PA_addStop 1 = .ok (.getfield 15, 3) := by decide +kernel
theorem d_PA_addStop_4 : decode b_PA_addStop 4 = .ok (.aload_n 0, 1) := by decide +kernel
theorem d_PA_addStop_5 : decode b_PA_addStop 5 = .ok (.getfield 27, 3) := by decide +kernel
theorem d_PA_addStop_8 : decode b_PA_addStop 8 = .ok (.iload_n 1, 1) := by decide +kernel
theorem d_PA_addStop_9 : decode b_PA_addStop 9 = .ok (.iastore, 1) := by decide +kernel
theorem d_PA_addStop_10 : decode b_PA_addStop 10 = .ok (.aload_n 0, 1) := by decide +kernel
theorem d_PA_addStop_11 : decode b_PA_addStop 11 = .ok (.getfield 18, 3) := by decide +kernel
theorem d_PA_addStop_14 : decode b_PA_addStop 14 = .ok (.aload_n 0, 1) := by decide +kernel
theorem d_PA_addStop_15 : decode b_PA_addStop 15 = .ok (.getfield 27, 3) := by decide +kernel
theorem d_PA_addStop_18 : decode b_PA_addStop 18 = .ok (.iload_n 2, 1) := by decide +kernel
theorem d_PA_addStop_19 : decode b_PA_addStop 19 = .ok (.iastore, 1) := by decide +kernel
theorem d_PA_addStop_20 : decode b_PA_addStop 20 = .ok (.aload_n 0, 1) := by decide +kernel
theorem d_PA_addStop_21 : decode b_PA_addStop 21 = .ok (.dup, 1) := by decide +kernel
theorem d_PA_addStop_22 : decode b_PA_addStop 22 = .ok (.getfield 27, 3) := by decide +kernel
theorem d_PA_addStop_25 : decode b_PA_addStop 25 = .ok (.iconst 1, 1) := by decide +kernel
theorem d_PA_addStop_26 : decode b_PA_addStop 26 = .ok (.iadd, 1) := by decide +kernel
theorem d_PA_addStop_27 : decode b_PA_addStop 27 = .ok (.putfield 27, 3) := by decide +kernel
theorem d_PA_addStop_30 : decode b_PA_addStop 30 = .ok (.aload_n 0, 1) := by decide +kernel
theorem d_PA_addStop_31 : decode b_PA_addStop 31 = .ok (.getfield 27, 3) := by decide +kernel
theorem d_PA_addStop_34 : decode b_PA_addStop 34 = .ok (.ireturn, 1) := by decide +kernel
theorem d_AR_fill_0 : decode b_AR_fill 0 = .ok (.iconst 0, 1) := by decide +kernel
theorem d_AR_fill_1 : decode b_AR_fill 1 = .ok (.istore_n 2, 1) := by decide +kernel
theorem d_AR_fill_2 : decode b_AR_fill 2 = .ok (.aload_n 0, 1) := by decide +kernel
theorem d_AR_fill_3 : decode b_AR_fill 3 = .ok (.arraylength, 1) := by decide +kernel
theorem d_AR_fill_4 : decode b_AR_fill 4 = .ok (.istore_n 3, 1) := by decide +kernel
theorem d_AR_fill_5 : decode b_AR_fill 5 = .ok (.iload_n 2, 1) := by decide +kernel
theorem d_AR_fill_6 : decode b_AR_fill 6 = .ok (.iload_n 3, 1) := by decide +kernel
theorem d_AR_fill_7 : decode b_AR_fill 7 = .ok (.if_icmp .ge 13, 3) := by decide +kernel
theorem d_AR_fill_10 : decode b_AR_fill 10 = .ok (.aload_n 0, 1) := by decide +kernel
theorem d_AR_fill_11 : decode b_AR_fill 11 = .ok (.iload_n 2, 1) := by decide +kernel
theorem d_AR_fill_12 : decode b_AR_fill 12 = .ok (.iload_n 1, 1) := by decide +kernel
theorem d_AR_fill_13 : decode b_AR_fill 13 = .ok (.iastore, 1) := by decide +kernel
theorem d_AR_fill_14 : decode b_AR_fill 14 = .ok (.iinc 2 1, 3) := by decide +kernel
theorem d_AR_fill_17 : decode b_AR_fill 17 = .ok (.goto (-12), 3) := by decide +kernel
theorem d_AR_fill_20 : decode b_AR_fill 20 = .ok (.return_, 1) := by decide +kernel
