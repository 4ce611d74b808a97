theorem d_PG_fillAll_0 : decode b_PG_fillAll 0 = .ok (.aload_n 0, 1) := by decide +kernel
theorem d_PG_fillAll_1 : decode b_PG_fillAll 1 = .ok (.iconst 0, 1) := by decide +kernel
theorem d_PG_fillAll_2 : decode b_PG_fillAll 2 = .ok (.putfield 28, 3) := by decide +kernel
theorem d_PG_fillAll_5 : decode b_PG_fillAll 5 = .ok (.iconst 0, 1) := by decide +kernel
theorem d_PG_fillAll_6 : decode b_PG_fillAll 6 = .ok (.istore_n 1, 1) := by decide +kernel
theorem d_PG_fillAll_7 : decode b_PG_fillAll 7 = .ok (.iload_n 1, 1) := by decide +kernel
theorem d_PG_fillAll_8 : decode b_PG_fillAll 8 = .ok (.aload_n 0, 1) := by decide +kernel
theorem d_PG_fillAll_9 : decode b_PG_fillAll 9 = .ok (.getfield 24, 3) := by decide +kernel
theorem d_PG_fillAll_12 : decode b_PG_fillAll 12 = .ok (.getfield 32, 3) := by decide +kernel
theorem d_PG_fillAll_15 : decode b_PG_fillAll 15 = .ok (.if_icmp .ge 26, 3) := by decide +kernel
theorem d_PG_fillAll_18 : decode b_PG_fillAll 18 = .ok (.iload_n 1, 1) := by decide +kernel
theorem d_PG_fillAll_19 : decode b_PG_fillAll 19 = .ok (.iconst 1, 1) := by decide +kernel
theorem d_PG_fillAll_20 : decode b_PG_fillAll 20 = .ok (.iadd, 1) := by decide +kernel
theorem d_PG_fillAll_21 : decode b_PG_fillAll 21 = .ok (.aload_n 0, 1) := by decide +kernel
theorem d_PG_fillAll_22 : decode b_PG_fillAll 22 = .ok (.iload_n 1, 1) := by decide +kernel
theorem d_PG_fillAll_23 : decode b_PG_fillAll 23 = .ok (.invokevirtual 35, 3) := by decide +kernel
theorem d_PG_fillAll_26 : decode b_PG_fillAll 26 = .ok (.invokestatic 39, 3) := by decide +kernel
theorem d_PG_fillAll_29 : decode b_PG_fillAll 29 = .ok (.istore_n 2, 1) := by decide +kernel
theorem d_PG_fillAll_30 : decode b_PG_fillAll 30 = .ok (.aload_n 0, 1) := by decide +kernel
theorem d_PG_fillAll_31 : decode b_PG_fillAll 31 = .ok (.iload_n 1, 1) := by decide +kernel
theorem d_PG_fillAll_32 : decode b_PG_fillAll 32 = .ok (.iload_n 2, 1) := by decide +kernel
theorem d_PG_fillAll_33 : decode b_PG_fillAll 33 = .ok (.invokevirtual 45, 3) := by decide +kernel
theorem d_PG_fillAll_36 : decode b_PG_fillAll 36 = .ok (.iload_n 2, 1) := by decide +kernel
theorem d_PG_fillAll_37 : decode b_PG_fillAll 37 = .ok (.istore_n 1, 1) := by decide +kernel
theorem d_PG_fillAll_38 : decode b_PG_fillAll 38 = .ok (.goto (-31), 3) := by decide +kernel
theorem d_PG_fillAll_41 : decode b_PG_fillAll 41 = .ok (.return_, 1) := by decide +kernel
theorem d_PG_pageBehind_0 : decode b_PG_pageBehind 0 = .ok (.aload_n 0, 1) := by decide +kernel
theorem d_PG_pageBehind_1 : decode b_PG_pageBehind 1 = .ok (.iload_n 1, 1) := by decide +kernel
theorem d_PG_pageBehind_2 : decode b_PG_pageBehind 2 = .ok (.invokevirtual 53, 3) := by decide +kernel
theorem d_PG_pageBehind_5 : decode b_PG_pageBehind 5 = .ok (.istore_n 2, 1) := by decide +kernel
theorem d_PG_pageBehind_6 : decode b_PG_pageBehind 6 = .ok (.iload_n 2, 1) := by decide +kernel
theorem d_PG_pageBehind_7 : decode b_PG_pageBehind 7 = .ok (.aload_n 0, 1) := by decide +kernel
theorem d_PG_pageBehind_8 : decode b_PG_pageBehind 8 = .ok (.getfield 24, 3) := by decide +kernel
theorem d_PG_pageBehind_11 : decode b_PG_pageBehind 11 = .ok (.getfield 32, 3) := by decide +kernel
theorem d_PG_pageBehind_14 : decode b_PG_pageBehind 14 = .ok (.if_icmp .ge 11, 3) := by decide +kernel
theorem d_PG_pageBehind_17 : decode b_PG_pageBehind 17 = .ok (.aload_n 0, 1) := by decide +kernel
theorem d_PG_pageBehind_18 : decode b_PG_pageBehind 18 = .ok (.iload_n 2, 1) := by decide +kernel
theorem d_PG_pageBehind_19 : decode b_PG_pageBehind 19 = .ok (.invokevirtual 56, 3) := by decide +kernel
theorem d_PG_pageBehind_22 : decode b_PG_pageBehind 22 = .ok (.ifCond .eq 5, 3) := by decide +kernel
theorem d_PG_pageBehind_25 : decode b_PG_pageBehind 25 = .ok (.iload_n 2, 1) := by decide +kernel
theorem d_PG_pageBehind_26 : decode b_PG_pageBehind 26 = .ok (.ireturn, 1) := by decide +kernel
theorem d_PG_pageBehind_27 : decode b_PG_pageBehind 27 = .ok (.iload_n 2, 1) := by decide +kernel
theorem d_PG_pageBehind_28 : decode b_PG_pageBehind 28 = .ok (.istore_n 3, 1) := by decide +kernel
theorem d_PG_pageBehind_29 : decode b_PG_pageBehind 29 = .ok (.iload_n 3, 1) := by decide +kernel
theorem d_PG_pageBehind_30 : decode b_PG_pageBehind 30 = .ok (.iload_n 1, 1) := by decide +kernel
theorem d_PG_pageBehind_31 : decode b_PG_pageBehind 31 = .ok (.if_icmp .le 19, 3) := by decide +kernel
theorem d_PG_pageBehind_34 : decode b_PG_pageBehind 34 = .ok (.aload_n 0, 1) := by decide +kernel
theorem d_PG_pageBehind_35 : decode b_PG_pageBehind 35 = .ok (.iload_n 3, 1) := by decide +kernel
theorem d_PG_pageBehind_36 : decode b_PG_pageBehind 36 = .ok (.invokevirtual 60, 3) := by decide +kernel
theorem d_PG_pageBehind_39 : decode b_PG_pageBehind 39 = .ok (.ifCond .eq 5, 3) := by decide +kernel
theorem d_PG_pageBehind_42 : decode b_PG_pageBehind 42 = .ok (.iload_n 3, 1) := by decide +kernel
theorem d_PG_pageBehind_43 : decode b_PG_pageBehind 43 = .ok (.ireturn, 1) := by decide +kernel
theorem d_PG_pageBehind_44 : decode b_PG_pageBehind 44 = .ok (.iinc 3 (-1), 3) := by decide +kernel
theorem d_PG_pageBehind_47 : decode b_PG_pageBehind 47 = .ok (.goto (-18), 3) := by decide +kernel
theorem d_PG_pageBehind_50 : decode b_PG_pageBehind 50 = .ok (.iload_n 2, 1) := by decide +kernel
theorem d_PG_pageBehind_51 : decode b_PG_pageBehind 51 = .ok (.ireturn, 1) := by decide +kernel
theorem d_PG_standLines_0 : decode b_PG_standLines 0 = .ok (.aload_n 0, 1) := by decide +kernel
theorem d_PG_standLines_1 : decode b_PG_standLines 1 = .ok (.getfield 24, 3) := by decide +kernel
theorem d_PG_standLines_4 : decode b_PG_standLines 4 = .ok (.getfield 49, 3) := by decide +kernel
theorem d_PG_standLines_7 : decode b_PG_standLines 7 = .ok (.bipush 7, 2) := by decide +kernel
theorem d_PG_standLines_9 : decode b_PG_standLines 9 = .ok (.aaload, 1) := by decide +kernel
theorem d_PG_standLines_10 : decode b_PG_standLines 10 = .ok (.iload_n 1, 1) := by decide +kernel
theorem d_PG_standLines_11 : decode b_PG_standLines 11 = .ok (.iconst 0, 1) := by decide +kernel
theorem d_PG_standLines_12 : decode b_PG_standLines 12 = .ok (.iastore, 1) := by decide +kernel
theorem d_PG_standLines_13 : decode b_PG_standLines 13 = .ok (.iload_n 1, 1) := by decide +kernel
theorem d_PG_standLines_14 : decode b_PG_standLines 14 = .ok (.iconst 1, 1) := by decide +kernel
theorem d_PG_standLines_15 : decode b_PG_standLines 15 = .ok (.iadd, 1) := by decide +kernel
theorem d_PG_standLines_16 : decode b_PG_standLines 16 = .ok (.istore_n 2, 1) := by decide +kernel
theorem d_PG_standLines_17 : decode b_PG_standLines 17 = .ok (.iload_n 2, 1) := by decide +kernel
theorem d_PG_standLines_18 : decode b_PG_standLines 18 = .ok (.aload_n 0, 1) := by decide +kernel
theorem d_PG_standLines_19 : decode b_PG_standLines 19 = .ok (.getfield 24, 3) := by decide +kernel
theorem d_PG_standLines_22 : decode b_PG_standLines 22 = .ok (.getfield 32, 3) := by decide +kernel
theorem d_PG_standLines_25 : decode b_PG_standLines 25 = .ok (.if_icmp .ge 60, 3) := by decide +kernel
theorem d_PG_standLines_28 : decode b_PG_standLines 28 = .ok (.aload_n 0, 1) := by decide +kernel
theorem d_PG_standLines_29 : decode b_PG_standLines 29 = .ok (.iload_n 2, 1) := by decide +kernel
theorem d_PG_standLines_30 : decode b_PG_standLines 30 = .ok (.invokevirtual 56, 3) := by decide +kernel
theorem d_PG_standLines_33 : decode b_PG_standLines 33 = .ok (.ifCond .ne 52, 3) := by decide +kernel
theorem d_PG_standLines_36 : decode b_PG_standLines 36 = .ok (.aload_n 0, 1) := by decide +kernel
theorem d_PG_standLines_37 : decode b_PG_standLines 37 = .ok (.getfield 24, 3) := by decide +kernel
theorem d_PG_standLines_40 : decode b_PG_standLines 40 = .ok (.getfield 49, 3) := by decide +kernel
theorem d_PG_standLines_43 : decode b_PG_standLines 43 = .ok (.bipush 7, 2) := by decide +kernel
theorem d_PG_standLines_45 : decode b_PG_standLines 45 = .ok (.aaload, 1) := by decide +kernel
theorem d_PG_standLines_46 : decode b_PG_standLines 46 = .ok (.iload_n 2, 1) := by decide +kernel
theorem d_PG_standLines_47 : decode b_PG_standLines 47 = .ok (.aload_n 0, 1) := by decide +kernel
theorem d_PG_standLines_48 : decode b_PG_standLines 48 = .ok (.iload_n 2, 1) := by decide +kernel
theorem d_PG_standLines_49 : decode b_PG_standLines 49 = .ok (.iconst 1, 1) := by decide +kernel
theorem d_PG_standLines_50 : decode b_PG_standLines 50 = .ok (.isub, 1) := by decide +kernel
theorem d_PG_standLines_51 : decode b_PG_standLines 51 = .ok (.invokevirtual 50, 3) := by decide +kernel
theorem d_PG_standLines_54 : decode b_PG_standLines 54 = .ok (.aload_n 0, 1) := by decide +kernel
theorem d_PG_standLines_55 : decode b_PG_standLines 55 = .ok (.iload_n 2, 1) := by decide +kernel
theorem d_PG_standLines_56 : decode b_PG_standLines 56 = .ok (.invokevirtual 63, 3) := by decide +kernel
theorem d_PG_standLines_59 : decode b_PG_standLines 59 = .ok (.iadd, 1) := by decide +kernel
theorem d_PG_standLines_60 : decode b_PG_standLines 60 = .ok (.iastore, 1) := by decide +kernel
theorem d_PG_standLines_61 : decode b_PG_standLines 61 = .ok (.aload_n 0, 1) := by decide +kernel
theorem d_PG_standLines_62 : decode b_PG_standLines 62 = .ok (.iload_n 2, 1) := by decide +kernel
theorem d_PG_standLines_63 : decode b_PG_standLines 63 = .ok (.invokevirtual 50, 3) := by decide +kernel
theorem d_PG_standLines_66 : decode b_PG_standLines 66 = .ok (.aload_n 0, 1) := by decide +kernel
theorem d_PG_standLines_67 : decode b_PG_standLines 67 = .ok (.getfield 20, 3) := by decide +kernel
theorem d_PG_standLines_70 : decode b_PG_standLines 70 = .ok (.getfield 66, 3) := by decide +kernel
theorem d_PG_standLines_73 : decode b_PG_standLines 73 = .ok (.if_icmp .le 6, 3) := by decide +kernel
theorem d_PG_standLines_76 : decode b_PG_standLines 76 = .ok (.goto 9, 3) := by decide +kernel
theorem d_PG_standLines_79 : decode b_PG_standLines 79 = .ok (.iinc 2 1, 3) := by decide +kernel
theorem d_PG_standLines_82 : decode b_PG_standLines 82 = .ok (.goto (-65), 3) := by decide +kernel
theorem d_PG_standLines_85 : decode b_PG_standLines 85 = .ok (.iload_n 2, 1) := by decide +kernel
theorem d_PG_standLines_86 : decode b_PG_standLines 86 = .ok (.ireturn, 1) := by decide +kernel
theorem d_PG_addPage_0 : decode b_PG_addPage 0 = .ok (.iload_n 1, 1) := by decide +kernel
theorem d_PG_addPage_1 : decode b_PG_addPage 1 = .ok (.istore_n 3, 1) := by decide +kernel
theorem d_PG_addPage_2 : decode b_PG_addPage 2 = .ok (.iload_n 3, 1) := by decide +kernel
theorem d_PG_addPage_3 : decode b_PG_addPage 3 = .ok (.iload_n 2, 1) := by decide +kernel
theorem d_PG_addPage_4 : decode b_PG_addPage 4 = .ok (.if_icmp .ge 25, 3) := by decide +kernel
theorem d_PG_addPage_7 : decode b_PG_addPage 7 = .ok (.aload_n 0, 1) := by decide +kernel
theorem d_PG_addPage_8 : decode b_PG_addPage 8 = .ok (.getfield 24, 3) := by decide +kernel
theorem d_PG_addPage_11 : decode b_PG_addPage 11 = .ok (.getfield 49, 3) := by decide +kernel
theorem d_PG_addPage_14 : decode b_PG_addPage 14 = .ok (.bipush 6, 2) := by decide +kernel
theorem d_PG_addPage_16 : decode b_PG_addPage 16 = .ok (.aaload, 1) := by decide +kernel
theorem d_PG_addPage_17 : decode b_PG_addPage 17 = .ok (.iload_n 3, 1) := by decide +kernel
theorem d_PG_addPage_18 : decode b_PG_addPage 18 = .ok (.aload_n 0, 1) := by decide +kernel
theorem d_PG_addPage_19 : decode b_PG_addPage 19 = .ok (.getfield 28, 3) := by decide +kernel
theorem d_PG_addPage_22 : decode b_PG_addPage 22 = .ok (.iastore, 1) := by decide +kernel
theorem d_PG_addPage_23 : decode b_PG_addPage 23 = .ok (.iinc 3 1, 3) := by decide +kernel
theorem d_PG_addPage_26 : decode b_PG_addPage 26 = .ok (.goto (-24), 3) := by decide +kernel
theorem d_PG_addPage_29 : decode b_PG_addPage 29 = .ok (.aload_n 0, 1) := by decide +kernel
theorem d_PG_addPage_30 : decode b_PG_addPage 30 = .ok (.getfield 11, 3) := by decide +kernel
theorem d_PG_addPage_33 : decode b_PG_addPage 33 = .ok (.iconst 0, 1) := by decide +kernel
theorem d_PG_addPage_34 : decode b_PG_addPage 34 = .ok (.aaload, 1) := by decide +kernel
theorem d_PG_addPage_35 : decode b_PG_addPage 35 = .ok (.aload_n 0, 1) := by decide +kernel
theorem d_PG_addPage_36 : decode b_PG_addPage 36 = .ok (.getfield 28, 3) := by decide +kernel
theorem d_PG_addPage_39 : decode b_PG_addPage 39 = .ok (.iload_n 1, 1) := by decide +kernel
theorem d_PG_addPage_40 : decode b_PG_addPage 40 = .ok (.iastore, 1) := by decide +kernel
theorem d_PG_addPage_41 : decode b_PG_addPage 41 = .ok (.aload_n 0, 1) := by decide +kernel
theorem d_PG_addPage_42 : decode b_PG_addPage 42 = .ok (.getfield 11, 3) := by decide +kernel
theorem d_PG_addPage_45 : decode b_PG_addPage 45 = .ok (.iconst 1, 1) := by decide +kernel
theorem d_PG_addPage_46 : decode b_PG_addPage 46 = .ok (.aaload, 1) := by decide +kernel
theorem d_PG_addPage_47 : decode b_PG_addPage 47 = .ok (.aload_n 0, 1) := by decide +kernel
theorem d_PG_addPage_48 : decode b_PG_addPage 48 = .ok (.getfield 28, 3) := by decide +kernel
theorem d_PG_addPage_51 : decode b_PG_addPage 51 = .ok (.iload_n 2, 1) := by decide +kernel
theorem d_PG_addPage_52 : decode b_PG_addPage 52 = .ok (.iload_n 1, 1) := by decide +kernel
theorem d_PG_addPage_53 : decode b_PG_addPage 53 = .ok (.isub, 1) := by decide +kernel
theorem d_PG_addPage_54 : decode b_PG_addPage 54 = .ok (.iastore, 1) := by decide +kernel
theorem d_PG_addPage_55 : decode b_PG_addPage 55 = .ok (.aload_n 0, 1) := by decide +kernel
theorem d_PG_addPage_56 : decode b_PG_addPage 56 = .ok (.getfield 11, 3) := by decide +kernel
theorem d_PG_addPage_59 : decode b_PG_addPage 59 = .ok (.iconst 2, 1) := by decide +kernel
theorem d_PG_addPage_60 : decode b_PG_addPage 60 = .ok (.aaload, 1) := by decide +kernel
theorem d_PG_addPage_61 : decode b_PG_addPage 61 = .ok (.aload_n 0, 1) := by decide +kernel
theorem d_PG_addPage_62 : decode b_PG_addPage 62 = .ok (.getfield 28, 3) := by decide +kernel
theorem d_PG_addPage_65 : decode b_PG_addPage 65 = .ok (.aload_n 0, 1) := by decide +kernel
theorem d_PG_addPage_66 : decode b_PG_addPage 66 = .ok (.iload_n 2, 1) := by decide +kernel
theorem d_PG_addPage_67 : decode b_PG_addPage 67 = .ok (.iconst 1, 1) := by decide +kernel
theorem d_PG_addPage_68 : decode b_PG_addPage 68 = .ok (.isub, 1) := by decide +kernel
theorem d_PG_addPage_69 : decode b_PG_addPage 69 = .ok (.invokevirtual 50, 3) := by decide +kernel
theorem d_PG_addPage_72 : decode b_PG_addPage 72 = .ok (.iastore, 1) := by decide +kernel
theorem d_PG_addPage_73 : decode b_PG_addPage 73 = .ok (.aload_n 0, 1) := by decide +kernel
theorem d_PG_addPage_74 : decode b_PG_addPage 74 = .ok (.dup, 1) := by decide +kernel
theorem d_PG_addPage_75 : decode b_PG_addPage 75 = .ok (.getfield 28, 3) := by decide +kernel
theorem d_PG_addPage_78 : decode b_PG_addPage 78 = .ok (.iconst 1, 1) := by decide +kernel
theorem d_PG_addPage_79 : decode b_PG_addPage 79 = .ok (.iadd, 1) := by decide +kernel
theorem d_PG_addPage_80 : decode b_PG_addPage 80 = .ok (.putfield 28, 3) := by decide +kernel
theorem d_PG_addPage_83 : decode b_PG_addPage 83 = .ok (.return_, 1) := by decide +kernel
