theorem dX0_init_0 : decode cX0_init 0 = .ok (.aload_n 0, 1) := by decide +kernel
theorem dX0_init_1 : decode cX0_init 1 = .ok (.invokespecial 3, 3) := by decide +kernel
theorem dX0_init_4 : decode cX0_init 4 = .ok (.aload_n 0, 1) := by decide +kernel
theorem dX0_init_5 : decode cX0_init 5 = .ok (.bipush 14, 2) := by decide +kernel
theorem dX0_init_7 : decode cX0_init 7 = .ok (.anewarray 9, 3) := by decide +kernel
theorem dX0_init_10 : decode cX0_init 10 = .ok (.putfield 11, 3) := by decide +kernel
theorem dX0_init_13 : decode cX0_init 13 = .ok (.iconst 0, 1) := by decide +kernel
theorem dX0_init_14 : decode cX0_init 14 = .ok (.istore_n 2, 1) := by decide +kernel
theorem dX0_init_15 : decode cX0_init 15 = .ok (.iload_n 2, 1) := by decide +kernel
theorem dX0_init_16 : decode cX0_init 16 = .ok (.bipush 14, 2) := by decide +kernel
theorem dX0_init_18 : decode cX0_init 18 = .ok (.if_icmp .ge 23, 3) := by decide +kernel
theorem dX0_init_21 : decode cX0_init 21 = .ok (.aload_n 0, 1) := by decide +kernel
theorem dX0_init_22 : decode cX0_init 22 = .ok (.getfield 11, 3) := by decide +kernel
theorem dX0_init_25 : decode cX0_init 25 = .ok (.iload_n 2, 1) := by decide +kernel
theorem dX0_init_26 : decode cX0_init 26 = .ok (.new 9, 3) := by decide +kernel
theorem dX0_init_29 : decode cX0_init 29 = .ok (.dup, 1) := by decide +kernel
theorem dX0_init_30 : decode cX0_init 30 = .ok (.aload_n 1, 1) := by decide +kernel
theorem dX0_init_31 : decode cX0_init 31 = .ok (.invokespecial 17, 3) := by decide +kernel
theorem dX0_init_34 : decode cX0_init 34 = .ok (.aastore, 1) := by decide +kernel
theorem dX0_init_35 : decode cX0_init 35 = .ok (.iinc 2 1, 3) := by decide +kernel
theorem dX0_init_38 : decode cX0_init 38 = .ok (.goto (-23), 3) := by decide +kernel
theorem dX0_init_41 : decode cX0_init 41 = .ok (.return_, 1) := by decide +kernel
theorem dX0_forgetAll_0 : decode cX0_forgetAll 0 = .ok (.aload_n 0, 1) := by decide +kernel
theorem dX0_forgetAll_1 : decode cX0_forgetAll 1 = .ok (.iconst 0, 1) := by decide +kernel
theorem dX0_forgetAll_2 : decode cX0_forgetAll 2 = .ok (.putfield 20, 3) := by decide +kernel
theorem dX0_forgetAll_5 : decode cX0_forgetAll 5 = .ok (.aload_n 0, 1) := by decide +kernel
theorem dX0_forgetAll_6 : decode cX0_forgetAll 6 = .ok (.iconst 0, 1) := by decide +kernel
theorem dX0_forgetAll_7 : decode cX0_forgetAll 7 = .ok (.putfield 24, 3) := by decide +kernel
theorem dX0_forgetAll_10 : decode cX0_forgetAll 10 = .ok (.return_, 1) := by decide +kernel
theorem dX0_remember_0 : decode cX0_remember 0 = .ok (.aload_n 0, 1) := by decide +kernel
theorem dX0_remember_1 : decode cX0_remember 1 = .ok (.getfield 24, 3) := by decide +kernel
theorem dX0_remember_4 : decode cX0_remember 4 = .ok (.bipush 14, 2) := by decide +kernel
theorem dX0_remember_6 : decode cX0_remember 6 = .ok (.if_icmp .lt 26, 3) := by decide +kernel
theorem dX0_remember_9 : decode cX0_remember 9 = .ok (.aload_n 0, 1) := by decide +kernel
theorem dX0_remember_10 : decode cX0_remember 10 = .ok (.aload_n 0, 1) := by decide +kernel
theorem dX0_remember_11 : decode cX0_remember 11 = .ok (.getfield 20, 3) := by decide +kernel
theorem dX0_remember_14 : decode cX0_remember 14 = .ok (.iconst 1, 1) := by decide +kernel
theorem dX0_remember_15 : decode cX0_remember 15 = .ok (.iadd, 1) := by decide +kernel
theorem dX0_remember_16 : decode cX0_remember 16 = .ok (.bipush 14, 2) := by decide +kernel
theorem dX0_remember_18 : decode cX0_remember 18 = .ok (.irem, 1) := by decide +kernel
theorem dX0_remember_19 : decode cX0_remember 19 = .ok (.putfield 20, 3) := by decide +kernel
theorem dX0_remember_22 : decode cX0_remember 22 = .ok (.aload_n 0, 1) := by decide +kernel
theorem dX0_remember_23 : decode cX0_remember 23 = .ok (.dup, 1) := by decide +kernel
theorem dX0_remember_24 : decode cX0_remember 24 = .ok (.getfield 24, 3) := by decide +kernel
theorem dX0_remember_27 : decode cX0_remember 27 = .ok (.iconst 1, 1) := by decide +kernel
theorem dX0_remember_28 : decode cX0_remember 28 = .ok (.isub, 1) := by decide +kernel
theorem dX0_remember_29 : decode cX0_remember 29 = .ok (.putfield 24, 3) := by decide +kernel
theorem dX0_remember_32 : decode cX0_remember 32 = .ok (.aload_n 0, 1) := by decide +kernel
theorem dX0_remember_33 : decode cX0_remember 33 = .ok (.getfield 11, 3) := by decide +kernel
theorem dX0_remember_36 : decode cX0_remember 36 = .ok (.aload_n 0, 1) := by decide +kernel
theorem dX0_remember_37 : decode cX0_remember 37 = .ok (.getfield 20, 3) := by decide +kernel
theorem dX0_remember_40 : decode cX0_remember 40 = .ok (.aload_n 0, 1) := by decide +kernel
theorem dX0_remember_41 : decode cX0_remember 41 = .ok (.getfield 24, 3) := by decide +kernel
theorem dX0_remember_44 : decode cX0_remember 44 = .ok (.iadd, 1) := by decide +kernel
theorem dX0_remember_45 : decode cX0_remember 45 = .ok (.bipush 14, 2) := by decide +kernel
theorem dX0_remember_47 : decode cX0_remember 47 = .ok (.irem, 1) := by decide +kernel
theorem dX0_remember_48 : decode cX0_remember 48 = .ok (.aaload, 1) := by decide +kernel
theorem dX0_remember_49 : decode cX0_remember 49 = .ok (.aload_n 1, 1) := by decide +kernel
theorem dX0_remember_50 : decode cX0_remember 50 = .ok (.invokevirtual 27, 3) := by decide +kernel
theorem dX0_remember_53 : decode cX0_remember 53 = .ok (.aload_n 0, 1) := by decide +kernel
theorem dX0_remember_54 : decode cX0_remember 54 = .ok (.dup, 1) := by decide +kernel
theorem dX0_remember_55 : decode cX0_remember 55 = .ok (.getfield 24, 3) := by decide +kernel
theorem dX0_remember_58 : decode cX0_remember 58 = .ok (.iconst 1, 1) := by decide +kernel
theorem dX0_remember_59 : decode cX0_remember 59 = .ok (.iadd, 1) := by decide +kernel
theorem dX0_remember_60 : decode cX0_remember 60 = .ok (.putfield 24, 3) := by decide +kernel
theorem dX0_remember_63 : decode cX0_remember 63 = .ok (.return_, 1) := by decide +kernel
theorem dX0_takeBack_0 : decode cX0_takeBack 0 = .ok (.aload_n 0, 1) := by decide +kernel
theorem dX0_takeBack_1 : decode cX0_takeBack 1 = .ok (.getfield 24, 3) := by decide +kernel
theorem dX0_takeBack_4 : decode cX0_takeBack 4 = .ok (.ifCond .le 34, 3) := by decide +kernel
theorem dX0_takeBack_7 : decode cX0_takeBack 7 = .ok (.aload_n 0, 1) := by decide +kernel
theorem dX0_takeBack_8 : decode cX0_takeBack 8 = .ok (.dup, 1) := by decide +kernel
theorem dX0_takeBack_9 : decode cX0_takeBack 9 = .ok (.getfield 24, 3) := by decide +kernel
theorem dX0_takeBack_12 : decode cX0_takeBack 12 = .ok (.iconst 1, 1) := by decide +kernel
theorem dX0_takeBack_13 : decode cX0_takeBack 13 = .ok (.isub, 1) := by decide +kernel
theorem dX0_takeBack_14 : decode cX0_takeBack 14 = .ok (.putfield 24, 3) := by decide +kernel
theorem dX0_takeBack_17 : decode cX0_takeBack 17 = .ok (.aload_n 1, 1) := by decide +kernel
theorem dX0_takeBack_18 : decode cX0_takeBack 18 = .ok (.aload_n 0, 1) := by decide +kernel
theorem dX0_takeBack_19 : decode cX0_takeBack 19 = .ok (.getfield 11, 3) := by decide +kernel
theorem dX0_takeBack_22 : decode cX0_takeBack 22 = .ok (.aload_n 0, 1) := by decide +kernel
theorem dX0_takeBack_23 : decode cX0_takeBack 23 = .ok (.getfield 20, 3) := by decide +kernel
theorem dX0_takeBack_26 : decode cX0_takeBack 26 = .ok (.aload_n 0, 1) := by decide +kernel
theorem dX0_takeBack_27 : decode cX0_takeBack 27 = .ok (.getfield 24, 3) := by decide +kernel
theorem dX0_takeBack_30 : decode cX0_takeBack 30 = .ok (.iadd, 1) := by decide +kernel
theorem dX0_takeBack_31 : decode cX0_takeBack 31 = .ok (.bipush 14, 2) := by decide +kernel
theorem dX0_takeBack_33 : decode cX0_takeBack 33 = .ok (.irem, 1) := by decide +kernel
theorem dX0_takeBack_34 : decode cX0_takeBack 34 = .ok (.aaload, 1) := by decide +kernel
theorem dX0_takeBack_35 : decode cX0_takeBack 35 = .ok (.invokevirtual 27, 3) := by decide +kernel
theorem dX0_takeBack_38 : decode cX0_takeBack 38 = .ok (.return_, 1) := by decide +kernel
theorem dX1_init_0 : decode cX1_init 0 = .ok (.aload_n 0, 1) := by decide +kernel
theorem dX1_init_1 : decode cX1_init 1 = .ok (.invokespecial 3, 3) := by decide +kernel
theorem dX1_init_4 : decode cX1_init 4 = .ok (.aload_n 0, 1) := by decide +kernel
theorem dX1_init_5 : decode cX1_init 5 = .ok (.iconst 4, 1) := by decide +kernel
theorem dX1_init_6 : decode cX1_init 6 = .ok (.newarray .int, 2) := by decide +kernel
theorem dX1_init_8 : decode cX1_init 8 = .ok (.putfield 9, 3) := by decide +kernel
theorem dX1_init_11 : decode cX1_init 11 = .ok (.aload_n 0, 1) := by decide +kernel
theorem dX1_init_12 : decode cX1_init 12 = .ok (.iconst 4, 1) := by decide +kernel
theorem dX1_init_13 : decode cX1_init 13 = .ok (.newarray .int, 2) := by decide +kernel
theorem dX1_init_15 : decode cX1_init 15 = .ok (.putfield 15, 3) := by decide +kernel
theorem dX1_init_18 : decode cX1_init 18 = .ok (.aload_n 0, 1) := by decide +kernel
theorem dX1_init_19 : decode cX1_init 19 = .ok (.iconst 4, 1) := by decide +kernel
theorem dX1_init_20 : decode cX1_init 20 = .ok (.newarray .int, 2) := by decide +kernel
theorem dX1_init_22 : decode cX1_init 22 = .ok (.putfield 18, 3) := by decide +kernel
theorem dX1_init_25 : decode cX1_init 25 = .ok (.aload_n 0, 1) := by decide +kernel
theorem dX1_init_26 : decode cX1_init 26 = .ok (.iconst 5, 1) := by decide +kernel
theorem dX1_init_27 : decode cX1_init 27 = .ok (.newarray .int, 2) := by decide +kernel
theorem dX1_init_29 : decode cX1_init 29 = .ok (.putfield 21, 3) := by decide +kernel
theorem dX1_init_32 : decode cX1_init 32 = .ok (.aload_n 0, 1) := by decide +kernel
theorem dX1_init_33 : decode cX1_init 33 = .ok (.iconst 5, 1) := by decide +kernel
theorem dX1_init_34 : decode cX1_init 34 = .ok (.newarray .int, 2) := by decide +kernel
theorem dX1_init_36 : decode cX1_init 36 = .ok (.putfield 24, 3) := by decide +kernel
theorem dX1_init_39 : decode cX1_init 39 = .ok (.aload_n 0, 1) := by decide +kernel
theorem dX1_init_40 : decode cX1_init 40 = .ok (.iconst 5, 1) := by decide +kernel
theorem dX1_init_41 : decode cX1_init 41 = .ok (.newarray .int, 2) := by decide +kernel
theorem dX1_init_43 : decode cX1_init 43 = .ok (.putfield 27, 3) := by decide +kernel
theorem dX1_init_46 : decode cX1_init 46 = .ok (.return_, 1) := by decide +kernel
theorem dX1_begin_0 : decode cX1_begin 0 = .ok (.aload_n 0, 1) := by decide +kernel
theorem dX1_begin_1 : decode cX1_begin 1 = .ok (.iload_n 1, 1) := by decide +kernel
theorem dX1_begin_2 : decode cX1_begin 2 = .ok (.putfield 30, 3) := by decide +kernel
theorem dX1_begin_5 : decode cX1_begin 5 = .ok (.aload_n 0, 1) := by decide +kernel
theorem dX1_begin_6 : decode cX1_begin 6 = .ok (.iload_n 2, 1) := by decide +kernel
theorem dX1_begin_7 : decode cX1_begin 7 = .ok (.putfield 34, 3) := by decide +kernel
theorem dX1_begin_10 : decode cX1_begin 10 = .ok (.aload_n 0, 1) := by decide +kernel
theorem dX1_begin_11 : decode cX1_begin 11 = .ok (.iconst 0, 1) := by decide +kernel
theorem dX1_begin_12 : decode cX1_begin 12 = .ok (.putfield 37, 3) := by decide +kernel
theorem dX1_begin_15 : decode cX1_begin 15 = .ok (.aload_n 0, 1) := by decide +kernel
theorem dX1_begin_16 : decode cX1_begin 16 = .ok (.iconst 0, 1) := by decide +kernel
theorem dX1_begin_17 : decode cX1_begin 17 = .ok (.putfield 40, 3) := by decide +kernel
theorem dX1_begin_20 : decode cX1_begin 20 = .ok (.return_, 1) := by decide +kernel
theorem dX1_addEnvoy_0 : decode cX1_addEnvoy 0 = .ok (.aload_n 0, 1) := by decide +kernel
theorem dX1_addEnvoy_1 : decode cX1_addEnvoy 1 = .ok (.getfield 37, 3) := by decide +kernel
theorem dX1_addEnvoy_4 : decode cX1_addEnvoy 4 = .ok (.iconst 4, 1) := by decide +kernel
theorem dX1_addEnvoy_5 : decode cX1_addEnvoy 5 = .ok (.if_icmp .ge 43, 3) := by decide +kernel
theorem dX1_addEnvoy_8 : decode cX1_addEnvoy 8 = .ok (.aload_n 0, 1) := by decide +kernel
theorem dX1_addEnvoy_9 : decode cX1_addEnvoy 9 = .ok (.getfield 9, 3) := by decide +kernel
theorem dX1_addEnvoy_12 : decode cX1_addEnvoy 12 = .ok (.aload_n 0, 1) := by decide +kernel
theorem dX1_addEnvoy_13 : decode cX1_addEnvoy 13 = .ok (.getfield 37, 3) := by decide +kernel
theorem dX1_addEnvoy_16 : decode cX1_addEnvoy 16 = .ok (.iload_n 1, 1) := by decide +kernel
theorem dX1_addEnvoy_17 : decode cX1_addEnvoy 17 = .ok (.iastore, 1) := by decide +kernel
theorem dX1_addEnvoy_18 : decode cX1_addEnvoy 18 = .ok (.aload_n 0, 1) := by decide +kernel
theorem dX1_addEnvoy_19 : decode cX1_addEnvoy 19 = .ok (.getfield 15, 3) := by decide +kernel
theorem dX1_addEnvoy_22 : decode cX1_addEnvoy 22 = .ok (.aload_n 0, 1) := by decide +kernel
theorem dX1_addEnvoy_23 : decode cX1_addEnvoy 23 = .ok (.getfield 37, 3) := by decide +kernel
theorem dX1_addEnvoy_26 : decode cX1_addEnvoy 26 = .ok (.iload_n 2, 1) := by decide +kernel
theorem dX1_addEnvoy_27 : decode cX1_addEnvoy 27 = .ok (.iastore, 1) := by decide +kernel
theorem dX1_addEnvoy_28 : decode cX1_addEnvoy 28 = .ok (.aload_n 0, 1) := by decide +kernel
theorem dX1_addEnvoy_29 : decode cX1_addEnvoy 29 = .ok (.getfield 18, 3) := by decide +kernel
theorem dX1_addEnvoy_32 : decode cX1_addEnvoy 32 = .ok (.aload_n 0, 1) := by decide +kernel
theorem dX1_addEnvoy_33 : decode cX1_addEnvoy 33 = .ok (.getfield 37, 3) := by decide +kernel
theorem dX1_addEnvoy_36 : decode cX1_addEnvoy 36 = .ok (.iload_n 3, 1) := by decide +kernel
theorem dX1_addEnvoy_37 : decode cX1_addEnvoy 37 = .ok (.iastore, 1) := by decide +kernel
theorem dX1_addEnvoy_38 : decode cX1_addEnvoy 38 = .ok (.aload_n 0, 1) := by decide +kernel
theorem dX1_addEnvoy_39 : decode cX1_addEnvoy 39 = .ok (.dup, 1) := by decide +kernel
theorem dX1_addEnvoy_40 : decode cX1_addEnvoy 40 = .ok (.getfield 37, 3) := by decide +kernel
theorem dX1_addEnvoy_43 : decode cX1_addEnvoy 43 = .ok (.iconst 1, 1) := by decide +kernel
theorem dX1_addEnvoy_44 : decode cX1_addEnvoy 44 = .ok (.iadd, 1) := by decide +kernel
theorem dX1_addEnvoy_45 : decode cX1_addEnvoy 45 = .ok (.putfield 37, 3) := by decide +kernel
theorem dX1_addEnvoy_48 : decode cX1_addEnvoy 48 = .ok (.return_, 1) := by decide +kernel
theorem dX1_addClause_0 : decode cX1_addClause 0 = .ok (.aload_n 0, 1) := by decide +kernel
theorem dX1_addClause_1 : decode cX1_addClause 1 = .ok (.getfield 40, 3) := by decide +kernel
theorem dX1_addClause_4 : decode cX1_addClause 4 = .ok (.iconst 5, 1) := by decide +kernel
theorem dX1_addClause_5 : decode cX1_addClause 5 = .ok (.if_icmp .ge 43, 3) := by decide +kernel
theorem dX1_addClause_8 : decode cX1_addClause 8 = .ok (.aload_n 0, 1) := by decide +kernel
theorem dX1_addClause_9 : decode cX1_addClause 9 = .ok (.getfield 21, 3) := by decide +kernel
theorem dX1_addClause_12 : decode cX1_addClause 12 = .ok (.aload_n 0, 1) := by decide +kernel
theorem dX1_addClause_13 : decode cX1_addClause 13 = .ok (.getfield 40, 3) := by decide +kernel
theorem dX1_addClause_16 : decode cX1_addClause 16 = .ok (.iload_n 1, 1) := by decide +kernel
theorem dX1_addClause_17 : decode cX1_addClause 17 = .ok (.iastore, 1) := by decide +kernel
theorem dX1_addClause_18 : decode cX1_addClause 18 = .ok (.aload_n 0, 1) := by decide +kernel
theorem dX1_addClause_19 : decode cX1_addClause 19 = .ok (.getfield 24, 3) := by decide +kernel
theorem dX1_addClause_22 : decode cX1_addClause 22 = .ok (.aload_n 0, 1) := by decide +kernel
theorem dX1_addClause_23 : decode cX1_addClause 23 = .ok (.getfield 40, 3) := by decide +kernel
theorem dX1_addClause_26 : decode cX1_addClause 26 = .ok (.iload_n 2, 1) := by decide +kernel
theorem dX1_addClause_27 : decode cX1_addClause 27 = .ok (.iastore, 1) := by decide +kernel
theorem dX1_addClause_28 : decode cX1_addClause 28 = .ok (.aload_n 0, 1) := by decide +kernel
theorem dX1_addClause_29 : decode cX1_addClause 29 = .ok (.getfield 27, 3) := by decide +kernel
theorem dX1_addClause_32 : decode cX1_addClause 32 = .ok (.aload_n 0, 1) := by decide +kernel
theorem dX1_addClause_33 : decode cX1_addClause 33 = .ok (.getfield 40, 3) := by decide +kernel
theorem dX1_addClause_36 : decode cX1_addClause 36 = .ok (.iload_n 3, 1) := by decide +kernel
theorem dX1_addClause_37 : decode cX1_addClause 37 = .ok (.iastore, 1) := by decide +kernel
theorem dX1_addClause_38 : decode cX1_addClause 38 = .ok (.aload_n 0, 1) := by decide +kernel
theorem dX1_addClause_39 : decode cX1_addClause 39 = .ok (.dup, 1) := by decide +kernel
theorem dX1_addClause_40 : decode cX1_addClause 40 = .ok (.getfield 40, 3) := by decide +kernel
theorem dX1_addClause_43 : decode cX1_addClause 43 = .ok (.iconst 1, 1) := by decide +kernel
theorem dX1_addClause_44 : decode cX1_addClause 44 = .ok (.iadd, 1) := by decide +kernel
theorem dX1_addClause_45 : decode cX1_addClause 45 = .ok (.putfield 40, 3) := by decide +kernel
theorem dX1_addClause_48 : decode cX1_addClause 48 = .ok (.return_, 1) := by decide +kernel
theorem dX1_hasEnvoy_0 : decode cX1_hasEnvoy 0 = .ok (.iload_n 1, 1) := by decide +kernel
theorem dX1_hasEnvoy_1 : decode cX1_hasEnvoy 1 = .ok (.ifCond .lt 15, 3) := by decide +kernel
theorem dX1_hasEnvoy_4 : decode cX1_hasEnvoy 4 = .ok (.iload_n 1, 1) := by decide +kernel
theorem dX1_hasEnvoy_5 : decode cX1_hasEnvoy 5 = .ok (.aload_n 0, 1) := by decide +kernel
theorem dX1_hasEnvoy_6 : decode cX1_hasEnvoy 6 = .ok (.getfield 37, 3) := by decide +kernel
theorem dX1_hasEnvoy_9 : decode cX1_hasEnvoy 9 = .ok (.if_icmp .ge 7, 3) := by decide +kernel
theorem dX1_hasEnvoy_12 : decode cX1_hasEnvoy 12 = .ok (.iconst 1, 1) := by decide +kernel
theorem dX1_hasEnvoy_13 : decode cX1_hasEnvoy 13 = .ok (.goto 4, 3) := by decide +kernel
theorem dX1_hasEnvoy_16 : decode cX1_hasEnvoy 16 = .ok (.iconst 0, 1) := by decide +kernel
theorem dX1_hasEnvoy_17 : decode cX1_hasEnvoy 17 = .ok (.ireturn, 1) := by decide +kernel
theorem dX1_hasClause_0 : decode cX1_hasClause 0 = .ok (.iload_n 1, 1) := by decide +kernel
theorem dX1_hasClause_1 : decode cX1_hasClause 1 = .ok (.ifCond .lt 15, 3) := by decide +kernel
theorem dX1_hasClause_4 : decode cX1_hasClause 4 = .ok (.iload_n 1, 1) := by decide +kernel
theorem dX1_hasClause_5 : decode cX1_hasClause 5 = .ok (.aload_n 0, 1) := by decide +kernel
theorem dX1_hasClause_6 : decode cX1_hasClause 6 = .ok (.getfield 40, 3) := by decide +kernel
theorem dX1_hasClause_9 : decode cX1_hasClause 9 = .ok (.if_icmp .ge 7, 3) := by decide +kernel
theorem dX1_hasClause_12 : decode cX1_hasClause 12 = .ok (.iconst 1, 1) := by decide +kernel
theorem dX1_hasClause_13 : decode cX1_hasClause 13 = .ok (.goto 4, 3) := by decide +kernel
theorem dX1_hasClause_16 : decode cX1_hasClause 16 = .ok (.iconst 0, 1) := by decide +kernel
theorem dX1_hasClause_17 : decode cX1_hasClause 17 = .ok (.ireturn, 1) := by decide +kernel
theorem dX1_worth_0 : decode cX1_worth 0 = .ok (.aload_n 0, 1) := by decide +kernel
theorem dX1_worth_1 : decode cX1_worth 1 = .ok (.getfield 21, 3) := by decide +kernel
theorem dX1_worth_4 : decode cX1_worth 4 = .ok (.iload_n 1, 1) := by decide +kernel
theorem dX1_worth_5 : decode cX1_worth 5 = .ok (.iaload, 1) := by decide +kernel
theorem dX1_worth_6 : decode cX1_worth 6 = .ok (.aload_n 0, 1) := by decide +kernel
theorem dX1_worth_7 : decode cX1_worth 7 = .ok (.getfield 24, 3) := by decide +kernel
theorem dX1_worth_10 : decode cX1_worth 10 = .ok (.iload_n 1, 1) := by decide +kernel
theorem dX1_worth_11 : decode cX1_worth 11 = .ok (.iaload, 1) := by decide +kernel
theorem dX1_worth_12 : decode cX1_worth 12 = .ok (.iadd, 1) := by decide +kernel
theorem dX1_worth_13 : decode cX1_worth 13 = .ok (.ireturn, 1) := by decide +kernel
theorem dX1_worthOf_0 : decode cX1_worthOf 0 = .ok (.iconst 0, 1) := by decide +kernel
theorem dX1_worthOf_1 : decode cX1_worthOf 1 = .ok (.istore_n 2, 1) := by decide +kernel
theorem dX1_worthOf_2 : decode cX1_worthOf 2 = .ok (.iconst 0, 1) := by decide +kernel
theorem dX1_worthOf_3 : decode cX1_worthOf 3 = .ok (.istore_n 3, 1) := by decide +kernel
theorem dX1_worthOf_4 : decode cX1_worthOf 4 = .ok (.iload_n 3, 1) := by decide +kernel
theorem dX1_worthOf_5 : decode cX1_worthOf 5 = .ok (.aload_n 0, 1) := by decide +kernel
theorem dX1_worthOf_6 : decode cX1_worthOf 6 = .ok (.getfield 40, 3) := by decide +kernel
theorem dX1_worthOf_9 : decode cX1_worthOf 9 = .ok (.if_icmp .ge 25, 3) := by decide +kernel
theorem dX1_worthOf_12 : decode cX1_worthOf 12 = .ok (.iload_n 1, 1) := by decide +kernel
theorem dX1_worthOf_13 : decode cX1_worthOf 13 = .ok (.iload_n 3, 1) := by decide +kernel
theorem dX1_worthOf_14 : decode cX1_worthOf 14 = .ok (.ishr, 1) := by decide +kernel
theorem dX1_worthOf_15 : decode cX1_worthOf 15 = .ok (.iconst 1, 1) := by decide +kernel
theorem dX1_worthOf_16 : decode cX1_worthOf 16 = .ok (.iand, 1) := by decide +kernel
theorem dX1_worthOf_17 : decode cX1_worthOf 17 = .ok (.ifCond .eq 11, 3) := by decide +kernel
theorem dX1_worthOf_20 : decode cX1_worthOf 20 = .ok (.iload_n 2, 1) := by decide +kernel
theorem dX1_worthOf_21 : decode cX1_worthOf 21 = .ok (.aload_n 0, 1) := by decide +kernel
theorem dX1_worthOf_22 : decode cX1_worthOf 22 = .ok (.iload_n 3, 1) := by decide +kernel
theorem dX1_worthOf_23 : decode cX1_worthOf 23 = .ok (.invokevirtual 43, 3) := by decide +kernel
theorem dX1_worthOf_26 : decode cX1_worthOf 26 = .ok (.iadd, 1) := by decide +kernel
theorem dX1_worthOf_27 : decode cX1_worthOf 27 = .ok (.istore_n 2, 1) := by decide +kernel
theorem dX1_worthOf_28 : decode cX1_worthOf 28 = .ok (.iinc 3 1, 3) := by decide +kernel
theorem dX1_worthOf_31 : decode cX1_worthOf 31 = .ok (.goto (-27), 3) := by decide +kernel
theorem dX1_worthOf_34 : decode cX1_worthOf 34 = .ok (.iload_n 2, 1) := by decide +kernel
theorem dX1_worthOf_35 : decode cX1_worthOf 35 = .ok (.ireturn, 1) := by decide +kernel
theorem dX1_clausesOf_0 : decode cX1_clausesOf 0 = .ok (.iconst 0, 1) := by decide +kernel
theorem dX1_clausesOf_1 : decode cX1_clausesOf 1 = .ok (.istore_n 2, 1) := by decide +kernel
theorem dX1_clausesOf_2 : decode cX1_clausesOf 2 = .ok (.iconst 0, 1) := by decide +kernel
theorem dX1_clausesOf_3 : decode cX1_clausesOf 3 = .ok (.istore_n 3, 1) := by decide +kernel
theorem dX1_clausesOf_4 : decode cX1_clausesOf 4 = .ok (.iload_n 3, 1) := by decide +kernel
theorem dX1_clausesOf_5 : decode cX1_clausesOf 5 = .ok (.aload_n 0, 1) := by decide +kernel
theorem dX1_clausesOf_6 : decode cX1_clausesOf 6 = .ok (.getfield 40, 3) := by decide +kernel
theorem dX1_clausesOf_9 : decode cX1_clausesOf 9 = .ok (.if_icmp .ge 28, 3) := by decide +kernel
theorem dX1_clausesOf_12 : decode cX1_clausesOf 12 = .ok (.iload_n 1, 1) := by decide +kernel
theorem dX1_clausesOf_13 : decode cX1_clausesOf 13 = .ok (.aload_n 0, 1) := by decide +kernel
theorem dX1_clausesOf_14 : decode cX1_clausesOf 14 = .ok (.getfield 27, 3) := by decide +kernel
theorem dX1_clausesOf_17 : decode cX1_clausesOf 17 = .ok (.iload_n 3, 1) := by decide +kernel
theorem dX1_clausesOf_18 : decode cX1_clausesOf 18 = .ok (.iaload, 1) := by decide +kernel
theorem dX1_clausesOf_19 : decode cX1_clausesOf 19 = .ok (.ishr, 1) := by decide +kernel
theorem dX1_clausesOf_20 : decode cX1_clausesOf 20 = .ok (.iconst 1, 1) := by decide +kernel
theorem dX1_clausesOf_21 : decode cX1_clausesOf 21 = .ok (.iand, 1) := by decide +kernel
theorem dX1_clausesOf_22 : decode cX1_clausesOf 22 = .ok (.ifCond .eq 9, 3) := by decide +kernel
theorem dX1_clausesOf_25 : decode cX1_clausesOf 25 = .ok (.iload_n 2, 1) := by decide +kernel
theorem dX1_clausesOf_26 : decode cX1_clausesOf 26 = .ok (.iconst 1, 1) := by decide +kernel
theorem dX1_clausesOf_27 : decode cX1_clausesOf 27 = .ok (.iload_n 3, 1) := by decide +kernel
theorem dX1_clausesOf_28 : decode cX1_clausesOf 28 = .ok (.ishl, 1) := by decide +kernel
theorem dX1_clausesOf_29 : decode cX1_clausesOf 29 = .ok (.ior, 1) := by decide +kernel
theorem dX1_clausesOf_30 : decode cX1_clausesOf 30 = .ok (.istore_n 2, 1) := by decide +kernel
theorem dX1_clausesOf_31 : decode cX1_clausesOf 31 = .ok (.iinc 3 1, 3) := by decide +kernel
theorem dX1_clausesOf_34 : decode cX1_clausesOf 34 = .ok (.goto (-30), 3) := by decide +kernel
theorem dX1_clausesOf_37 : decode cX1_clausesOf 37 = .ok (.iload_n 2, 1) := by decide +kernel
theorem dX1_clausesOf_38 : decode cX1_clausesOf 38 = .ok (.ireturn, 1) := by decide +kernel
theorem dX1_tearsToStop_0 : decode cX1_tearsToStop 0 = .ok (.iconst 2, 1) := by decide +kernel
theorem dX1_tearsToStop_1 : decode cX1_tearsToStop 1 = .ok (.aload_n 0, 1) := by decide +kernel
theorem dX1_tearsToStop_2 : decode cX1_tearsToStop 2 = .ok (.getfield 15, 3) := by decide +kernel
theorem dX1_tearsToStop_5 : decode cX1_tearsToStop 5 = .ok (.iload_n 1, 1) := by decide +kernel
theorem dX1_tearsToStop_6 : decode cX1_tearsToStop 6 = .ok (.iaload, 1) := by decide +kernel
theorem dX1_tearsToStop_7 : decode cX1_tearsToStop 7 = .ok (.imul, 1) := by decide +kernel
theorem dX1_tearsToStop_8 : decode cX1_tearsToStop 8 = .ok (.ireturn, 1) := by decide +kernel
theorem dX1_pain_0 : decode cX1_pain 0 = .ok (.aload_n 0, 1) := by decide +kernel
theorem dX1_pain_1 : decode cX1_pain 1 = .ok (.getfield 18, 3) := by decide +kernel
theorem dX1_pain_4 : decode cX1_pain 4 = .ok (.iload_n 1, 1) := by decide +kernel
theorem dX1_pain_5 : decode cX1_pain 5 = .ok (.iaload, 1) := by decide +kernel
theorem dX1_pain_6 : decode cX1_pain 6 = .ok (.aload_n 0, 1) := by decide +kernel
theorem dX1_pain_7 : decode cX1_pain 7 = .ok (.getfield 9, 3) := by decide +kernel
theorem dX1_pain_10 : decode cX1_pain 10 = .ok (.iload_n 1, 1) := by decide +kernel
theorem dX1_pain_11 : decode cX1_pain 11 = .ok (.iaload, 1) := by decide +kernel
theorem dX1_pain_12 : decode cX1_pain 12 = .ok (.iload_n 2, 1) := by decide +kernel
theorem dX1_pain_13 : decode cX1_pain 13 = .ok (.invokestatic 47, 3) := by decide +kernel
theorem dX1_pain_16 : decode cX1_pain 16 = .ok (.ireturn, 1) := by decide +kernel
theorem dX1_painFor_0 : decode cX1_painFor 0 = .ok (.iconst 0, 1) := by decide +kernel
theorem dX1_painFor_1 : decode cX1_painFor 1 = .ok (.iload_n 2, 1) := by decide +kernel
theorem dX1_painFor_2 : decode cX1_painFor 2 = .ok (.iload_n 1, 1) := by decide +kernel
theorem dX1_painFor_3 : decode cX1_painFor 3 = .ok (.isub, 1) := by decide +kernel
theorem dX1_painFor_4 : decode cX1_painFor 4 = .ok (.invokestatic 51, 3) := by decide +kernel
theorem dX1_painFor_7 : decode cX1_painFor 7 = .ok (.istore_n 3, 1) := by decide +kernel
theorem dX1_painFor_8 : decode cX1_painFor 8 = .ok (.iload_n 0, 1) := by decide +kernel
theorem dX1_painFor_9 : decode cX1_painFor 9 = .ok (.tableswitch 49 1 3 #[27, 29, 41], 27) := by decide +kernel
theorem dX1_painFor_36 : decode cX1_painFor 36 = .ok (.iconst 0, 1) := by decide +kernel
theorem dX1_painFor_37 : decode cX1_painFor 37 = .ok (.ireturn, 1) := by decide +kernel
theorem dX1_painFor_38 : decode cX1_painFor 38 = .ok (.iload_n 3, 1) := by decide +kernel
theorem dX1_painFor_39 : decode cX1_painFor 39 = .ok (.ifCond .le 9, 3) := by decide +kernel
theorem dX1_painFor_42 : decode cX1_painFor 42 = .ok (.iload_n 3, 1) := by decide +kernel
theorem dX1_painFor_43 : decode cX1_painFor 43 = .ok (.iconst 1, 1) := by decide +kernel
theorem dX1_painFor_44 : decode cX1_painFor 44 = .ok (.iadd, 1) := by decide +kernel
theorem dX1_painFor_45 : decode cX1_painFor 45 = .ok (.goto 4, 3) := by decide +kernel
theorem dX1_painFor_48 : decode cX1_painFor 48 = .ok (.iconst 0, 1) := by decide +kernel
theorem dX1_painFor_49 : decode cX1_painFor 49 = .ok (.ireturn, 1) := by decide +kernel
theorem dX1_painFor_50 : decode cX1_painFor 50 = .ok (.iconst 0, 1) := by decide +kernel
theorem dX1_painFor_51 : decode cX1_painFor 51 = .ok (.iload_n 3, 1) := by decide +kernel
theorem dX1_painFor_52 : decode cX1_painFor 52 = .ok (.iconst 1, 1) := by decide +kernel
theorem dX1_painFor_53 : decode cX1_painFor 53 = .ok (.isub, 1) := by decide +kernel
theorem dX1_painFor_54 : decode cX1_painFor 54 = .ok (.invokestatic 51, 3) := by decide +kernel
theorem dX1_painFor_57 : decode cX1_painFor 57 = .ok (.ireturn, 1) := by decide +kernel
theorem dX1_painFor_58 : decode cX1_painFor 58 = .ok (.iload_n 3, 1) := by decide +kernel
theorem dX1_painFor_59 : decode cX1_painFor 59 = .ok (.ireturn, 1) := by decide +kernel
theorem dX1_wordsAt_0 : decode cX1_wordsAt 0 = .ok (.iconst 4, 1) := by decide +kernel
theorem dX1_wordsAt_1 : decode cX1_wordsAt 1 = .ok (.iload_n 0, 1) := by decide +kernel
theorem dX1_wordsAt_2 : decode cX1_wordsAt 2 = .ok (.iconst 3, 1) := by decide +kernel
theorem dX1_wordsAt_3 : decode cX1_wordsAt 3 = .ok (.idiv, 1) := by decide +kernel
theorem dX1_wordsAt_4 : decode cX1_wordsAt 4 = .ok (.isub, 1) := by decide +kernel
theorem dX1_wordsAt_5 : decode cX1_wordsAt 5 = .ok (.ireturn, 1) := by decide +kernel
theorem dX2_init_0 : decode cX2_init 0 = .ok (.aload_n 0, 1) := by decide +kernel
theorem dX2_init_1 : decode cX2_init 1 = .ok (.invokespecial 3, 3) := by decide +kernel
theorem dX2_init_4 : decode cX2_init 4 = .ok (.aload_n 0, 1) := by decide +kernel
theorem dX2_init_5 : decode cX2_init 5 = .ok (.bipush 48, 2) := by decide +kernel
theorem dX2_init_7 : decode cX2_init 7 = .ok (.newarray .int, 2) := by decide +kernel
theorem dX2_init_9 : decode cX2_init 9 = .ok (.putfield 9, 3) := by decide +kernel
theorem dX2_init_12 : decode cX2_init 12 = .ok (.return_, 1) := by decide +kernel
theorem dX2_append_0 : decode cX2_append 0 = .ok (.aload_n 0, 1) := by decide +kernel
theorem dX2_append_1 : decode cX2_append 1 = .ok (.getfield 15, 3) := by decide +kernel
theorem dX2_append_4 : decode cX2_append 4 = .ok (.bipush 48, 2) := by decide +kernel
theorem dX2_append_6 : decode cX2_append 6 = .ok (.if_icmp .ge 23, 3) := by decide +kernel
theorem dX2_append_9 : decode cX2_append 9 = .ok (.aload_n 0, 1) := by decide +kernel
theorem dX2_append_10 : decode cX2_append 10 = .ok (.getfield 9, 3) := by decide +kernel
theorem dX2_append_13 : decode cX2_append 13 = .ok (.aload_n 0, 1) := by decide +kernel
theorem dX2_append_14 : decode cX2_append 14 = .ok (.getfield 15, 3) := by decide +kernel
theorem dX2_append_17 : decode cX2_append 17 = .ok (.iload_n 1, 1) := by decide +kernel
theorem dX2_append_18 : decode cX2_append 18 = .ok (.iastore, 1) := by decide +kernel
theorem dX2_append_19 : decode cX2_append 19 = .ok (.aload_n 0, 1) := by decide +kernel
theorem dX2_append_20 : decode cX2_append 20 = .ok (.dup, 1) := by decide +kernel
theorem dX2_append_21 : decode cX2_append 21 = .ok (.getfield 15, 3) := by decide +kernel
theorem dX2_append_24 : decode cX2_append 24 = .ok (.iconst 1, 1) := by decide +kernel
theorem dX2_append_25 : decode cX2_append 25 = .ok (.iadd, 1) := by decide +kernel
theorem dX2_append_26 : decode cX2_append 26 = .ok (.putfield 15, 3) := by decide +kernel
theorem dX2_append_29 : decode cX2_append 29 = .ok (.return_, 1) := by decide +kernel
theorem dX2_firstFault_0 : decode cX2_firstFault 0 = .ok (.iconst 0, 1) := by decide +kernel
theorem dX2_firstFault_1 : decode cX2_firstFault 1 = .ok (.istore_n 1, 1) := by decide +kernel
theorem dX2_firstFault_2 : decode cX2_firstFault 2 = .ok (.iconst 0, 1) := by decide +kernel
theorem dX2_firstFault_3 : decode cX2_firstFault 3 = .ok (.istore_n 2, 1) := by decide +kernel
theorem dX2_firstFault_4 : decode cX2_firstFault 4 = .ok (.iconst 0, 1) := by decide +kernel
theorem dX2_firstFault_5 : decode cX2_firstFault 5 = .ok (.istore_n 3, 1) := by decide +kernel
theorem dX2_firstFault_6 : decode cX2_firstFault 6 = .ok (.iload_n 3, 1) := by decide +kernel
theorem dX2_firstFault_7 : decode cX2_firstFault 7 = .ok (.aload_n 0, 1) := by decide +kernel
theorem dX2_firstFault_8 : decode cX2_firstFault 8 = .ok (.getfield 15, 3) := by decide +kernel
theorem dX2_firstFault_11 : decode cX2_firstFault 11 = .ok (.if_icmp .ge 52, 3) := by decide +kernel
theorem dX2_firstFault_14 : decode cX2_firstFault 14 = .ok (.aload_n 0, 1) := by decide +kernel
theorem dX2_firstFault_15 : decode cX2_firstFault 15 = .ok (.iload_n 3, 1) := by decide +kernel
theorem dX2_firstFault_16 : decode cX2_firstFault 16 = .ok (.iload_n 1, 1) := by decide +kernel
theorem dX2_firstFault_17 : decode cX2_firstFault 17 = .ok (.iload_n 2, 1) := by decide +kernel
theorem dX2_firstFault_18 : decode cX2_firstFault 18 = .ok (.invokevirtual 19, 3) := by decide +kernel
theorem dX2_firstFault_21 : decode cX2_firstFault 21 = .ok (.ifCond .ne 5, 3) := by decide +kernel
theorem dX2_firstFault_24 : decode cX2_firstFault 24 = .ok (.iload_n 3, 1) := by decide +kernel
theorem dX2_firstFault_25 : decode cX2_firstFault 25 = .ok (.ireturn, 1) := by decide +kernel
theorem dX2_firstFault_26 : decode cX2_firstFault 26 = .ok (.iload_n 3, 1) := by decide +kernel
theorem dX2_firstFault_27 : decode cX2_firstFault 27 = .ok (.invokestatic 23, 3) := by decide +kernel
theorem dX2_firstFault_30 : decode cX2_firstFault 30 = .ok (.ifCond .eq 27, 3) := by decide +kernel
theorem dX2_firstFault_33 : decode cX2_firstFault 33 = .ok (.aload_n 0, 1) := by decide +kernel
theorem dX2_firstFault_34 : decode cX2_firstFault 34 = .ok (.getfield 9, 3) := by decide +kernel
theorem dX2_firstFault_37 : decode cX2_firstFault 37 = .ok (.iload_n 3, 1) := by decide +kernel
theorem dX2_firstFault_38 : decode cX2_firstFault 38 = .ok (.iconst 4, 1) := by decide +kernel
theorem dX2_firstFault_39 : decode cX2_firstFault 39 = .ok (.isub, 1) := by decide +kernel
theorem dX2_firstFault_40 : decode cX2_firstFault 40 = .ok (.iconst 1, 1) := by decide +kernel
theorem dX2_firstFault_41 : decode cX2_firstFault 41 = .ok (.iadd, 1) := by decide +kernel
theorem dX2_firstFault_42 : decode cX2_firstFault 42 = .ok (.iaload, 1) := by decide +kernel
theorem dX2_firstFault_43 : decode cX2_firstFault 43 = .ok (.bipush 69, 2) := by decide +kernel
theorem dX2_firstFault_45 : decode cX2_firstFault 45 = .ok (.if_icmp .ne 9, 3) := by decide +kernel
theorem dX2_firstFault_48 : decode cX2_firstFault 48 = .ok (.iinc 1 1, 3) := by decide +kernel
theorem dX2_firstFault_51 : decode cX2_firstFault 51 = .ok (.goto 6, 3) := by decide +kernel
theorem dX2_firstFault_54 : decode cX2_firstFault 54 = .ok (.iinc 2 1, 3) := by decide +kernel
theorem dX2_firstFault_57 : decode cX2_firstFault 57 = .ok (.iinc 3 1, 3) := by decide +kernel
theorem dX2_firstFault_60 : decode cX2_firstFault 60 = .ok (.goto (-54), 3) := by decide +kernel
theorem dX2_firstFault_63 : decode cX2_firstFault 63 = .ok (.aload_n 0, 1) := by decide +kernel
theorem dX2_firstFault_64 : decode cX2_firstFault 64 = .ok (.getfield 15, 3) := by decide +kernel
theorem dX2_firstFault_67 : decode cX2_firstFault 67 = .ok (.iconst 3, 1) := by decide +kernel
theorem dX2_firstFault_68 : decode cX2_firstFault 68 = .ok (.if_icmp .lt 19, 3) := by decide +kernel
theorem dX2_firstFault_71 : decode cX2_firstFault 71 = .ok (.aload_n 0, 1) := by decide +kernel
theorem dX2_firstFault_72 : decode cX2_firstFault 72 = .ok (.getfield 15, 3) := by decide +kernel
theorem dX2_firstFault_75 : decode cX2_firstFault 75 = .ok (.iconst 3, 1) := by decide +kernel
theorem dX2_firstFault_76 : decode cX2_firstFault 76 = .ok (.isub, 1) := by decide +kernel
theorem dX2_firstFault_77 : decode cX2_firstFault 77 = .ok (.iconst 4, 1) := by decide +kernel
theorem dX2_firstFault_78 : decode cX2_firstFault 78 = .ok (.irem, 1) := by decide +kernel
theorem dX2_firstFault_79 : decode cX2_firstFault 79 = .ok (.ifCond .ne 8, 3) := by decide +kernel
theorem dX2_firstFault_82 : decode cX2_firstFault 82 = .ok (.bipush (-9), 2) := by decide +kernel
theorem dX2_firstFault_84 : decode cX2_firstFault 84 = .ok (.goto 7, 3) := by decide +kernel
theorem dX2_firstFault_87 : decode cX2_firstFault 87 = .ok (.aload_n 0, 1) := by decide +kernel
theorem dX2_firstFault_88 : decode cX2_firstFault 88 = .ok (.getfield 15, 3) := by decide +kernel
theorem dX2_firstFault_91 : decode cX2_firstFault 91 = .ok (.ireturn, 1) := by decide +kernel
theorem dX2_isAtEndOfPart_0 : decode cX2_isAtEndOfPart 0 = .ok (.iload_n 0, 1) := by decide +kernel
theorem dX2_isAtEndOfPart_1 : decode cX2_isAtEndOfPart 1 = .ok (.iconst 3, 1) := by decide +kernel
theorem dX2_isAtEndOfPart_2 : decode cX2_isAtEndOfPart 2 = .ok (.if_icmp .lt 16, 3) := by decide +kernel
theorem dX2_isAtEndOfPart_5 : decode cX2_isAtEndOfPart 5 = .ok (.iload_n 0, 1) := by decide +kernel
theorem dX2_isAtEndOfPart_6 : decode cX2_isAtEndOfPart 6 = .ok (.iconst 3, 1) := by decide +kernel
theorem dX2_isAtEndOfPart_7 : decode cX2_isAtEndOfPart 7 = .ok (.isub, 1) := by decide +kernel
theorem dX2_isAtEndOfPart_8 : decode cX2_isAtEndOfPart 8 = .ok (.iconst 4, 1) := by decide +kernel
theorem dX2_isAtEndOfPart_9 : decode cX2_isAtEndOfPart 9 = .ok (.irem, 1) := by decide +kernel
theorem dX2_isAtEndOfPart_10 : decode cX2_isAtEndOfPart 10 = .ok (.iconst 3, 1) := by decide +kernel
theorem dX2_isAtEndOfPart_11 : decode cX2_isAtEndOfPart 11 = .ok (.if_icmp .ne 7, 3) := by decide +kernel
theorem dX2_isAtEndOfPart_14 : decode cX2_isAtEndOfPart 14 = .ok (.iconst 1, 1) := by decide +kernel
theorem dX2_isAtEndOfPart_15 : decode cX2_isAtEndOfPart 15 = .ok (.goto 4, 3) := by decide +kernel
theorem dX2_isAtEndOfPart_18 : decode cX2_isAtEndOfPart 18 = .ok (.iconst 0, 1) := by decide +kernel
theorem dX2_isAtEndOfPart_19 : decode cX2_isAtEndOfPart 19 = .ok (.ireturn, 1) := by decide +kernel
theorem dX2_fits_0 : decode cX2_fits 0 = .ok (.aload_n 0, 1) := by decide +kernel
theorem dX2_fits_1 : decode cX2_fits 1 = .ok (.getfield 9, 3) := by decide +kernel
theorem dX2_fits_4 : decode cX2_fits 4 = .ok (.iload_n 1, 1) := by decide +kernel
theorem dX2_fits_5 : decode cX2_fits 5 = .ok (.iaload, 1) := by decide +kernel
theorem dX2_fits_6 : decode cX2_fits 6 = .ok (.istore 4, 2) := by decide +kernel
theorem dX2_fits_8 : decode cX2_fits 8 = .ok (.iload_n 1, 1) := by decide +kernel
theorem dX2_fits_9 : decode cX2_fits 9 = .ok (.ifCond .ne 16, 3) := by decide +kernel
theorem dX2_fits_12 : decode cX2_fits 12 = .ok (.iload 4, 2) := by decide +kernel
theorem dX2_fits_14 : decode cX2_fits 14 = .ok (.bipush 77, 2) := by decide +kernel
theorem dX2_fits_16 : decode cX2_fits 16 = .ok (.if_icmp .ne 7, 3) := by decide +kernel
theorem dX2_fits_19 : decode cX2_fits 19 = .ok (.iconst 1, 1) := by decide +kernel
theorem dX2_fits_20 : decode cX2_fits 20 = .ok (.goto 4, 3) := by decide +kernel
theorem dX2_fits_23 : decode cX2_fits 23 = .ok (.iconst 0, 1) := by decide +kernel
theorem dX2_fits_24 : decode cX2_fits 24 = .ok (.ireturn, 1) := by decide +kernel
theorem dX2_fits_25 : decode cX2_fits 25 = .ok (.iload_n 1, 1) := by decide +kernel
theorem dX2_fits_26 : decode cX2_fits 26 = .ok (.iconst 3, 1) := by decide +kernel
theorem dX2_fits_27 : decode cX2_fits 27 = .ok (.if_icmp .ge 12, 3) := by decide +kernel
theorem dX2_fits_30 : decode cX2_fits 30 = .ok (.iload 4, 2) := by decide +kernel
theorem dX2_fits_32 : decode cX2_fits 32 = .ok (.iconst 0, 1) := by decide +kernel
theorem dX2_fits_33 : decode cX2_fits 33 = .ok (.bipush 9, 2) := by decide +kernel
theorem dX2_fits_35 : decode cX2_fits 35 = .ok (.invokestatic 27, 3) := by decide +kernel
theorem dX2_fits_38 : decode cX2_fits 38 = .ok (.ireturn, 1) := by decide +kernel
theorem dX2_fits_39 : decode cX2_fits 39 = .ok (.iload_n 1, 1) := by decide +kernel
theorem dX2_fits_40 : decode cX2_fits 40 = .ok (.iconst 3, 1) := by decide +kernel
theorem dX2_fits_41 : decode cX2_fits 41 = .ok (.isub, 1) := by decide +kernel
theorem dX2_fits_42 : decode cX2_fits 42 = .ok (.iconst 4, 1) := by decide +kernel
theorem dX2_fits_43 : decode cX2_fits 43 = .ok (.irem, 1) := by decide +kernel
theorem dX2_fits_44 : decode cX2_fits 44 = .ok (.istore 5, 2) := by decide +kernel
theorem dX2_fits_46 : decode cX2_fits 46 = .ok (.iload 5, 2) := by decide +kernel
theorem dX2_fits_48 : decode cX2_fits 48 = .ok (.ifCond .ne 37, 3) := by decide +kernel
theorem dX2_fits_51 : decode cX2_fits 51 = .ok (.iload 4, 2) := by decide +kernel
theorem dX2_fits_53 : decode cX2_fits 53 = .ok (.bipush 69, 2) := by decide +kernel
theorem dX2_fits_55 : decode cX2_fits 55 = .ok (.if_icmp .ne 8, 3) := by decide +kernel
theorem dX2_fits_58 : decode cX2_fits 58 = .ok (.iload_n 2, 1) := by decide +kernel
theorem dX2_fits_59 : decode cX2_fits 59 = .ok (.iconst 4, 1) := by decide +kernel
theorem dX2_fits_60 : decode cX2_fits 60 = .ok (.if_icmp .lt 19, 3) := by decide +kernel
theorem dX2_fits_63 : decode cX2_fits 63 = .ok (.iload 4, 2) := by decide +kernel
theorem dX2_fits_65 : decode cX2_fits 65 = .ok (.bipush 67, 2) := by decide +kernel
theorem dX2_fits_67 : decode cX2_fits 67 = .ok (.if_icmp .ne 16, 3) := by decide +kernel
theorem dX2_fits_70 : decode cX2_fits 70 = .ok (.iload_n 3, 1) := by decide +kernel
theorem dX2_fits_71 : decode cX2_fits 71 = .ok (.iconst 5, 1) := by decide +kernel
theorem dX2_fits_72 : decode cX2_fits 72 = .ok (.if_icmp .ge 11, 3) := by decide +kernel
theorem dX2_fits_75 : decode cX2_fits 75 = .ok (.iload_n 2, 1) := by decide +kernel
theorem dX2_fits_76 : decode cX2_fits 76 = .ok (.ifCond .le 7, 3) := by decide +kernel
theorem dX2_fits_79 : decode cX2_fits 79 = .ok (.iconst 1, 1) := by decide +kernel
theorem dX2_fits_80 : decode cX2_fits 80 = .ok (.goto 4, 3) := by decide +kernel
theorem dX2_fits_83 : decode cX2_fits 83 = .ok (.iconst 0, 1) := by decide +kernel
theorem dX2_fits_84 : decode cX2_fits 84 = .ok (.ireturn, 1) := by decide +kernel
theorem dX2_fits_85 : decode cX2_fits 85 = .ok (.aload_n 0, 1) := by decide +kernel
theorem dX2_fits_86 : decode cX2_fits 86 = .ok (.getfield 9, 3) := by decide +kernel
theorem dX2_fits_89 : decode cX2_fits 89 = .ok (.iload_n 1, 1) := by decide +kernel
theorem dX2_fits_90 : decode cX2_fits 90 = .ok (.iload 5, 2) := by decide +kernel
theorem dX2_fits_92 : decode cX2_fits 92 = .ok (.isub, 1) := by decide +kernel
theorem dX2_fits_93 : decode cX2_fits 93 = .ok (.iaload, 1) := by decide +kernel
theorem dX2_fits_94 : decode cX2_fits 94 = .ok (.bipush 69, 2) := by decide +kernel
theorem dX2_fits_96 : decode cX2_fits 96 = .ok (.if_icmp .ne 13, 3) := by decide +kernel
theorem dX2_fits_99 : decode cX2_fits 99 = .ok (.iload 5, 2) := by decide +kernel
theorem dX2_fits_101 : decode cX2_fits 101 = .ok (.iload 4, 2) := by decide +kernel
theorem dX2_fits_103 : decode cX2_fits 103 = .ok (.invokestatic 30, 3) := by decide +kernel
theorem dX2_fits_106 : decode cX2_fits 106 = .ok (.goto 11, 3) := by decide +kernel
theorem dX2_fits_109 : decode cX2_fits 109 = .ok (.iload 5, 2) := by decide +kernel
theorem dX2_fits_111 : decode cX2_fits 111 = .ok (.iload 4, 2) := by decide +kernel
theorem dX2_fits_113 : decode cX2_fits 113 = .ok (.iload_n 2, 1) := by decide +kernel
theorem dX2_fits_114 : decode cX2_fits 114 = .ok (.invokestatic 34, 3) := by decide +kernel
theorem dX2_fits_117 : decode cX2_fits 117 = .ok (.ireturn, 1) := by decide +kernel
theorem dX2_fitsEnvoy_0 : decode cX2_fitsEnvoy 0 = .ok (.iload_n 0, 1) := by decide +kernel
theorem dX2_fitsEnvoy_1 : decode cX2_fitsEnvoy 1 = .ok (.lookupswitch 43 #[(1, 27), (2, 35)], 27) := by decide +kernel
theorem dX2_fitsEnvoy_28 : decode cX2_fitsEnvoy 28 = .ok (.iload_n 1, 1) := by decide +kernel
theorem dX2_fitsEnvoy_29 : decode cX2_fitsEnvoy 29 = .ok (.iconst 0, 1) := by decide +kernel
theorem dX2_fitsEnvoy_30 : decode cX2_fitsEnvoy 30 = .ok (.bipush 9, 2) := by decide +kernel
theorem dX2_fitsEnvoy_32 : decode cX2_fitsEnvoy 32 = .ok (.invokestatic 27, 3) := by decide +kernel
theorem dX2_fitsEnvoy_35 : decode cX2_fitsEnvoy 35 = .ok (.ireturn, 1) := by decide +kernel
theorem dX2_fitsEnvoy_36 : decode cX2_fitsEnvoy 36 = .ok (.iload_n 1, 1) := by decide +kernel
theorem dX2_fitsEnvoy_37 : decode cX2_fitsEnvoy 37 = .ok (.iconst 1, 1) := by decide +kernel
theorem dX2_fitsEnvoy_38 : decode cX2_fitsEnvoy 38 = .ok (.bipush 9, 2) := by decide +kernel
theorem dX2_fitsEnvoy_40 : decode cX2_fitsEnvoy 40 = .ok (.invokestatic 27, 3) := by decide +kernel
theorem dX2_fitsEnvoy_43 : decode cX2_fitsEnvoy 43 = .ok (.ireturn, 1) := by decide +kernel
theorem dX2_fitsEnvoy_44 : decode cX2_fitsEnvoy 44 = .ok (.iload_n 1, 1) := by decide +kernel
theorem dX2_fitsEnvoy_45 : decode cX2_fitsEnvoy 45 = .ok (.iconst 0, 1) := by decide +kernel
theorem dX2_fitsEnvoy_46 : decode cX2_fitsEnvoy 46 = .ok (.iconst 3, 1) := by decide +kernel
theorem dX2_fitsEnvoy_47 : decode cX2_fitsEnvoy 47 = .ok (.invokestatic 27, 3) := by decide +kernel
theorem dX2_fitsEnvoy_50 : decode cX2_fitsEnvoy 50 = .ok (.ireturn, 1) := by decide +kernel
theorem dX2_fitsClause_0 : decode cX2_fitsClause 0 = .ok (.iload_n 0, 1) := by decide +kernel
theorem dX2_fitsClause_1 : decode cX2_fitsClause 1 = .ok (.lookupswitch 42 #[(1, 27), (2, 34)], 27) := by decide +kernel
theorem dX2_fitsClause_28 : decode cX2_fitsClause 28 = .ok (.iload_n 1, 1) := by decide +kernel
theorem dX2_fitsClause_29 : decode cX2_fitsClause 29 = .ok (.iconst 1, 1) := by decide +kernel
theorem dX2_fitsClause_30 : decode cX2_fitsClause 30 = .ok (.iconst 4, 1) := by decide +kernel
theorem dX2_fitsClause_31 : decode cX2_fitsClause 31 = .ok (.invokestatic 27, 3) := by decide +kernel
theorem dX2_fitsClause_34 : decode cX2_fitsClause 34 = .ok (.ireturn, 1) := by decide +kernel
theorem dX2_fitsClause_35 : decode cX2_fitsClause 35 = .ok (.iload_n 1, 1) := by decide +kernel
theorem dX2_fitsClause_36 : decode cX2_fitsClause 36 = .ok (.iconst 0, 1) := by decide +kernel
theorem dX2_fitsClause_37 : decode cX2_fitsClause 37 = .ok (.bipush 9, 2) := by decide +kernel
theorem dX2_fitsClause_39 : decode cX2_fitsClause 39 = .ok (.invokestatic 27, 3) := by decide +kernel
theorem dX2_fitsClause_42 : decode cX2_fitsClause 42 = .ok (.ireturn, 1) := by decide +kernel
theorem dX2_fitsClause_43 : decode cX2_fitsClause 43 = .ok (.iload_n 1, 1) := by decide +kernel
theorem dX2_fitsClause_44 : decode cX2_fitsClause 44 = .ok (.iconst 0, 1) := by decide +kernel
theorem dX2_fitsClause_45 : decode cX2_fitsClause 45 = .ok (.iload_n 2, 1) := by decide +kernel
theorem dX2_fitsClause_46 : decode cX2_fitsClause 46 = .ok (.iconst 1, 1) := by decide +kernel
theorem dX2_fitsClause_47 : decode cX2_fitsClause 47 = .ok (.isub, 1) := by decide +kernel
theorem dX2_fitsClause_48 : decode cX2_fitsClause 48 = .ok (.invokestatic 27, 3) := by decide +kernel
theorem dX2_fitsClause_51 : decode cX2_fitsClause 51 = .ok (.ireturn, 1) := by decide +kernel
theorem dX2_isFigure_0 : decode cX2_isFigure 0 = .ok (.iload_n 0, 1) := by decide +kernel
theorem dX2_isFigure_1 : decode cX2_isFigure 1 = .ok (.bipush 48, 2) := by decide +kernel
theorem dX2_isFigure_3 : decode cX2_isFigure 3 = .ok (.iload_n 1, 1) := by decide +kernel
theorem dX2_isFigure_4 : decode cX2_isFigure 4 = .ok (.iadd, 1) := by decide +kernel
theorem dX2_isFigure_5 : decode cX2_isFigure 5 = .ok (.if_icmp .lt 15, 3) := by decide +kernel
theorem dX2_isFigure_8 : decode cX2_isFigure 8 = .ok (.iload_n 0, 1) := by decide +kernel
theorem dX2_isFigure_9 : decode cX2_isFigure 9 = .ok (.bipush 48, 2) := by decide +kernel
theorem dX2_isFigure_11 : decode cX2_isFigure 11 = .ok (.iload_n 2, 1) := by decide +kernel
theorem dX2_isFigure_12 : decode cX2_isFigure 12 = .ok (.iadd, 1) := by decide +kernel
theorem dX2_isFigure_13 : decode cX2_isFigure 13 = .ok (.if_icmp .gt 7, 3) := by decide +kernel
theorem dX2_isFigure_16 : decode cX2_isFigure 16 = .ok (.iconst 1, 1) := by decide +kernel
theorem dX2_isFigure_17 : decode cX2_isFigure 17 = .ok (.goto 4, 3) := by decide +kernel
theorem dX2_isFigure_20 : decode cX2_isFigure 20 = .ok (.iconst 0, 1) := by decide +kernel
theorem dX2_isFigure_21 : decode cX2_isFigure 21 = .ok (.ireturn, 1) := by decide +kernel
theorem dX2_tellInto_0 : decode cX2_tellInto 0 = .ok (.aload_n 1, 1) := by decide +kernel
theorem dX2_tellInto_1 : decode cX2_tellInto 1 = .ok (.aload_n 0, 1) := by decide +kernel
theorem dX2_tellInto_2 : decode cX2_tellInto 2 = .ok (.iconst 1, 1) := by decide +kernel
theorem dX2_tellInto_3 : decode cX2_tellInto 3 = .ok (.invokevirtual 37, 3) := by decide +kernel
theorem dX2_tellInto_6 : decode cX2_tellInto 6 = .ok (.aload_n 0, 1) := by decide +kernel
theorem dX2_tellInto_7 : decode cX2_tellInto 7 = .ok (.iconst 2, 1) := by decide +kernel
theorem dX2_tellInto_8 : decode cX2_tellInto 8 = .ok (.invokevirtual 37, 3) := by decide +kernel
theorem dX2_tellInto_11 : decode cX2_tellInto 11 = .ok (.invokevirtual 41, 3) := by decide +kernel
theorem dX2_tellInto_14 : decode cX2_tellInto 14 = .ok (.iconst 3, 1) := by decide +kernel
theorem dX2_tellInto_15 : decode cX2_tellInto 15 = .ok (.istore_n 2, 1) := by decide +kernel
theorem dX2_tellInto_16 : decode cX2_tellInto 16 = .ok (.iload_n 2, 1) := by decide +kernel
theorem dX2_tellInto_17 : decode cX2_tellInto 17 = .ok (.iconst 4, 1) := by decide +kernel
theorem dX2_tellInto_18 : decode cX2_tellInto 18 = .ok (.iadd, 1) := by decide +kernel
theorem dX2_tellInto_19 : decode cX2_tellInto 19 = .ok (.aload_n 0, 1) := by decide +kernel
theorem dX2_tellInto_20 : decode cX2_tellInto 20 = .ok (.getfield 15, 3) := by decide +kernel
theorem dX2_tellInto_23 : decode cX2_tellInto 23 = .ok (.if_icmp .gt 73, 3) := by decide +kernel
theorem dX2_tellInto_26 : decode cX2_tellInto 26 = .ok (.aload_n 0, 1) := by decide +kernel
theorem dX2_tellInto_27 : decode cX2_tellInto 27 = .ok (.getfield 9, 3) := by decide +kernel
theorem dX2_tellInto_30 : decode cX2_tellInto 30 = .ok (.iload_n 2, 1) := by decide +kernel
theorem dX2_tellInto_31 : decode cX2_tellInto 31 = .ok (.iaload, 1) := by decide +kernel
theorem dX2_tellInto_32 : decode cX2_tellInto 32 = .ok (.bipush 69, 2) := by decide +kernel
theorem dX2_tellInto_34 : decode cX2_tellInto 34 = .ok (.if_icmp .ne 31, 3) := by decide +kernel
theorem dX2_tellInto_37 : decode cX2_tellInto 37 = .ok (.aload_n 1, 1) := by decide +kernel
theorem dX2_tellInto_38 : decode cX2_tellInto 38 = .ok (.aload_n 0, 1) := by decide +kernel
theorem dX2_tellInto_39 : decode cX2_tellInto 39 = .ok (.iload_n 2, 1) := by decide +kernel
theorem dX2_tellInto_40 : decode cX2_tellInto 40 = .ok (.iconst 1, 1) := by decide +kernel
theorem dX2_tellInto_41 : decode cX2_tellInto 41 = .ok (.iadd, 1) := by decide +kernel
theorem dX2_tellInto_42 : decode cX2_tellInto 42 = .ok (.invokevirtual 37, 3) := by decide +kernel
theorem dX2_tellInto_45 : decode cX2_tellInto 45 = .ok (.aload_n 0, 1) := by decide +kernel
theorem dX2_tellInto_46 : decode cX2_tellInto 46 = .ok (.iload_n 2, 1) := by decide +kernel
theorem dX2_tellInto_47 : decode cX2_tellInto 47 = .ok (.iconst 2, 1) := by decide +kernel
theorem dX2_tellInto_48 : decode cX2_tellInto 48 = .ok (.iadd, 1) := by decide +kernel
theorem dX2_tellInto_49 : decode cX2_tellInto 49 = .ok (.invokevirtual 37, 3) := by decide +kernel
theorem dX2_tellInto_52 : decode cX2_tellInto 52 = .ok (.aload_n 0, 1) := by decide +kernel
theorem dX2_tellInto_53 : decode cX2_tellInto 53 = .ok (.iload_n 2, 1) := by decide +kernel
theorem dX2_tellInto_54 : decode cX2_tellInto 54 = .ok (.iconst 3, 1) := by decide +kernel
theorem dX2_tellInto_55 : decode cX2_tellInto 55 = .ok (.iadd, 1) := by decide +kernel
theorem dX2_tellInto_56 : decode cX2_tellInto 56 = .ok (.invokevirtual 37, 3) := by decide +kernel
theorem dX2_tellInto_59 : decode cX2_tellInto 59 = .ok (.invokevirtual 47, 3) := by decide +kernel
theorem dX2_tellInto_62 : decode cX2_tellInto 62 = .ok (.goto 28, 3) := by decide +kernel
theorem dX2_tellInto_65 : decode cX2_tellInto 65 = .ok (.aload_n 1, 1) := by decide +kernel
theorem dX2_tellInto_66 : decode cX2_tellInto 66 = .ok (.aload_n 0, 1) := by decide +kernel
theorem dX2_tellInto_67 : decode cX2_tellInto 67 = .ok (.iload_n 2, 1) := by decide +kernel
theorem dX2_tellInto_68 : decode cX2_tellInto 68 = .ok (.iconst 1, 1) := by decide +kernel
theorem dX2_tellInto_69 : decode cX2_tellInto 69 = .ok (.iadd, 1) := by decide +kernel
theorem dX2_tellInto_70 : decode cX2_tellInto 70 = .ok (.invokevirtual 37, 3) := by decide +kernel
theorem dX2_tellInto_73 : decode cX2_tellInto 73 = .ok (.aload_n 0, 1) := by decide +kernel
theorem dX2_tellInto_74 : decode cX2_tellInto 74 = .ok (.iload_n 2, 1) := by decide +kernel
theorem dX2_tellInto_75 : decode cX2_tellInto 75 = .ok (.iconst 2, 1) := by decide +kernel
theorem dX2_tellInto_76 : decode cX2_tellInto 76 = .ok (.iadd, 1) := by decide +kernel
theorem dX2_tellInto_77 : decode cX2_tellInto 77 = .ok (.invokevirtual 37, 3) := by decide +kernel
theorem dX2_tellInto_80 : decode cX2_tellInto 80 = .ok (.aload_n 0, 1) := by decide +kernel
theorem dX2_tellInto_81 : decode cX2_tellInto 81 = .ok (.iload_n 2, 1) := by decide +kernel
theorem dX2_tellInto_82 : decode cX2_tellInto 82 = .ok (.iconst 3, 1) := by decide +kernel
theorem dX2_tellInto_83 : decode cX2_tellInto 83 = .ok (.iadd, 1) := by decide +kernel
theorem dX2_tellInto_84 : decode cX2_tellInto 84 = .ok (.invokevirtual 37, 3) := by decide +kernel
theorem dX2_tellInto_87 : decode cX2_tellInto 87 = .ok (.invokevirtual 51, 3) := by decide +kernel
theorem dX2_tellInto_90 : decode cX2_tellInto 90 = .ok (.iinc 2 4, 3) := by decide +kernel
theorem dX2_tellInto_93 : decode cX2_tellInto 93 = .ok (.goto (-77), 3) := by decide +kernel
theorem dX2_tellInto_96 : decode cX2_tellInto 96 = .ok (.return_, 1) := by decide +kernel
theorem dX2_figure_0 : decode cX2_figure 0 = .ok (.aload_n 0, 1) := by decide +kernel
theorem dX2_figure_1 : decode cX2_figure 1 = .ok (.getfield 9, 3) := by decide +kernel
theorem dX2_figure_4 : decode cX2_figure 4 = .ok (.iload_n 1, 1) := by decide +kernel
theorem dX2_figure_5 : decode cX2_figure 5 = .ok (.iaload, 1) := by decide +kernel
theorem dX2_figure_6 : decode cX2_figure 6 = .ok (.bipush 48, 2) := by decide +kernel
theorem dX2_figure_8 : decode cX2_figure 8 = .ok (.isub, 1) := by decide +kernel
theorem dX2_figure_9 : decode cX2_figure 9 = .ok (.ireturn, 1) := by decide +kernel
theorem dX3_init_0 : decode cX3_init 0 = .ok (.aload_n 0, 1) := by decide +kernel
theorem dX3_init_1 : decode cX3_init 1 = .ok (.invokespecial 3, 3) := by decide +kernel
theorem dX3_init_4 : decode cX3_init 4 = .ok (.aload_n 0, 1) := by decide +kernel
theorem dX3_init_5 : decode cX3_init 5 = .ok (.bipush 6, 2) := by decide +kernel
theorem dX3_init_7 : decode cX3_init 7 = .ok (.anewarray 11, 3) := by decide +kernel
theorem dX3_init_10 : decode cX3_init 10 = .ok (.putfield 13, 3) := by decide +kernel
theorem dX3_init_13 : decode cX3_init 13 = .ok (.aload_n 0, 1) := by decide +kernel
theorem dX3_init_14 : decode cX3_init 14 = .ok (.aload_n 1, 1) := by decide +kernel
theorem dX3_init_15 : decode cX3_init 15 = .ok (.putfield 17, 3) := by decide +kernel
theorem dX3_init_18 : decode cX3_init 18 = .ok (.iconst 0, 1) := by decide +kernel
theorem dX3_init_19 : decode cX3_init 19 = .ok (.istore_n 2, 1) := by decide +kernel
theorem dX3_init_20 : decode cX3_init 20 = .ok (.iload_n 2, 1) := by decide +kernel
theorem dX3_init_21 : decode cX3_init 21 = .ok (.iconst 5, 1) := by decide +kernel
theorem dX3_init_22 : decode cX3_init 22 = .ok (.if_icmp .gt 23, 3) := by decide +kernel
theorem dX3_init_25 : decode cX3_init 25 = .ok (.aload_n 0, 1) := by decide +kernel
theorem dX3_init_26 : decode cX3_init 26 = .ok (.getfield 13, 3) := by decide +kernel
theorem dX3_init_29 : decode cX3_init 29 = .ok (.iload_n 2, 1) := by decide +kernel
theorem dX3_init_30 : decode cX3_init 30 = .ok (.new 11, 3) := by decide +kernel
theorem dX3_init_33 : decode cX3_init 33 = .ok (.dup, 1) := by decide +kernel
theorem dX3_init_34 : decode cX3_init 34 = .ok (.aload_n 1, 1) := by decide +kernel
theorem dX3_init_35 : decode cX3_init 35 = .ok (.invokespecial 21, 3) := by decide +kernel
theorem dX3_init_38 : decode cX3_init 38 = .ok (.aastore, 1) := by decide +kernel
theorem dX3_init_39 : decode cX3_init 39 = .ok (.iinc 2 1, 3) := by decide +kernel
theorem dX3_init_42 : decode cX3_init 42 = .ok (.goto (-22), 3) := by decide +kernel
theorem dX3_init_45 : decode cX3_init 45 = .ok (.return_, 1) := by decide +kernel
theorem dX3_mostBy_0 : decode cX3_mostBy 0 = .ok (.aload_n 0, 1) := by decide +kernel
theorem dX3_mostBy_1 : decode cX3_mostBy 1 = .ok (.iload_n 2, 1) := by decide +kernel
theorem dX3_mostBy_2 : decode cX3_mostBy 2 = .ok (.iconst 5, 1) := by decide +kernel
theorem dX3_mostBy_3 : decode cX3_mostBy 3 = .ok (.invokestatic 24, 3) := by decide +kernel
theorem dX3_mostBy_6 : decode cX3_mostBy 6 = .ok (.putfield 30, 3) := by decide +kernel
theorem dX3_mostBy_9 : decode cX3_mostBy 9 = .ok (.aload_n 0, 1) := by decide +kernel
theorem dX3_mostBy_10 : decode cX3_mostBy 10 = .ok (.iload_n 3, 1) := by decide +kernel
theorem dX3_mostBy_11 : decode cX3_mostBy 11 = .ok (.putfield 34, 3) := by decide +kernel
theorem dX3_mostBy_14 : decode cX3_mostBy 14 = .ok (.aload_n 0, 1) := by decide +kernel
theorem dX3_mostBy_15 : decode cX3_mostBy 15 = .ok (.iconst (-1), 1) := by decide +kernel
theorem dX3_mostBy_16 : decode cX3_mostBy 16 = .ok (.putfield 37, 3) := by decide +kernel
theorem dX3_mostBy_19 : decode cX3_mostBy 19 = .ok (.aload_n 0, 1) := by decide +kernel
theorem dX3_mostBy_20 : decode cX3_mostBy 20 = .ok (.iconst 1, 1) := by decide +kernel
theorem dX3_mostBy_21 : decode cX3_mostBy 21 = .ok (.putfield 40, 3) := by decide +kernel
theorem dX3_mostBy_24 : decode cX3_mostBy 24 = .ok (.aload_n 0, 1) := by decide +kernel
theorem dX3_mostBy_25 : decode cX3_mostBy 25 = .ok (.getfield 13, 3) := by decide +kernel
theorem dX3_mostBy_28 : decode cX3_mostBy 28 = .ok (.iconst 0, 1) := by decide +kernel
theorem dX3_mostBy_29 : decode cX3_mostBy 29 = .ok (.aaload, 1) := by decide +kernel
theorem dX3_mostBy_30 : decode cX3_mostBy 30 = .ok (.aload_n 1, 1) := by decide +kernel
theorem dX3_mostBy_31 : decode cX3_mostBy 31 = .ok (.invokevirtual 43, 3) := by decide +kernel
theorem dX3_mostBy_34 : decode cX3_mostBy 34 = .ok (.aload_n 0, 1) := by decide +kernel
theorem dX3_mostBy_35 : decode cX3_mostBy 35 = .ok (.iconst 0, 1) := by decide +kernel
theorem dX3_mostBy_36 : decode cX3_mostBy 36 = .ok (.iconst 1, 1) := by decide +kernel
theorem dX3_mostBy_37 : decode cX3_mostBy 37 = .ok (.iconst 0, 1) := by decide +kernel
theorem dX3_mostBy_38 : decode cX3_mostBy 38 = .ok (.invokevirtual 47, 3) := by decide +kernel
theorem dX3_mostBy_41 : decode cX3_mostBy 41 = .ok (.aload_n 0, 1) := by decide +kernel
theorem dX3_mostBy_42 : decode cX3_mostBy 42 = .ok (.getfield 37, 3) := by decide +kernel
theorem dX3_mostBy_45 : decode cX3_mostBy 45 = .ok (.ireturn, 1) := by decide +kernel
theorem dX3_goOn_0 : decode cX3_goOn 0 = .ok (.iload_n 1, 1) := by decide +kernel
theorem dX3_goOn_1 : decode cX3_goOn 1 = .ok (.aload_n 0, 1) := by decide +kernel
theorem dX3_goOn_2 : decode cX3_goOn 2 = .ok (.getfield 30, 3) := by decide +kernel
theorem dX3_goOn_5 : decode cX3_goOn 5 = .ok (.if_icmp .ge 8, 3) := by decide +kernel
theorem dX3_goOn_8 : decode cX3_goOn 8 = .ok (.iload_n 1, 1) := by decide +kernel
theorem dX3_goOn_9 : decode cX3_goOn 9 = .ok (.iconst 5, 1) := by decide +kernel
theorem dX3_goOn_10 : decode cX3_goOn 10 = .ok (.if_icmp .lt 22, 3) := by decide +kernel
theorem dX3_goOn_13 : decode cX3_goOn 13 = .ok (.iload_n 3, 1) := by decide +kernel
theorem dX3_goOn_14 : decode cX3_goOn 14 = .ok (.aload_n 0, 1) := by decide +kernel
theorem dX3_goOn_15 : decode cX3_goOn 15 = .ok (.getfield 37, 3) := by decide +kernel
theorem dX3_goOn_18 : decode cX3_goOn 18 = .ok (.if_icmp .le 13, 3) := by decide +kernel
theorem dX3_goOn_21 : decode cX3_goOn 21 = .ok (.aload_n 0, 1) := by decide +kernel
theorem dX3_goOn_22 : decode cX3_goOn 22 = .ok (.iload_n 3, 1) := by decide +kernel
theorem dX3_goOn_23 : decode cX3_goOn 23 = .ok (.putfield 37, 3) := by decide +kernel
theorem dX3_goOn_26 : decode cX3_goOn 26 = .ok (.aload_n 0, 1) := by decide +kernel
theorem dX3_goOn_27 : decode cX3_goOn 27 = .ok (.iload_n 2, 1) := by decide +kernel
theorem dX3_goOn_28 : decode cX3_goOn 28 = .ok (.putfield 40, 3) := by decide +kernel
theorem dX3_goOn_31 : decode cX3_goOn 31 = .ok (.return_, 1) := by decide +kernel
theorem dX3_goOn_32 : decode cX3_goOn 32 = .ok (.aload_n 0, 1) := by decide +kernel
theorem dX3_goOn_33 : decode cX3_goOn 33 = .ok (.getfield 13, 3) := by decide +kernel
theorem dX3_goOn_36 : decode cX3_goOn 36 = .ok (.iload_n 1, 1) := by decide +kernel
theorem dX3_goOn_37 : decode cX3_goOn 37 = .ok (.aaload, 1) := by decide +kernel
theorem dX3_goOn_38 : decode cX3_goOn 38 = .ok (.astore 4, 2) := by decide +kernel
theorem dX3_goOn_40 : decode cX3_goOn 40 = .ok (.aload_n 0, 1) := by decide +kernel
theorem dX3_goOn_41 : decode cX3_goOn 41 = .ok (.getfield 13, 3) := by decide +kernel
theorem dX3_goOn_44 : decode cX3_goOn 44 = .ok (.iload_n 1, 1) := by decide +kernel
theorem dX3_goOn_45 : decode cX3_goOn 45 = .ok (.iconst 1, 1) := by decide +kernel
theorem dX3_goOn_46 : decode cX3_goOn 46 = .ok (.iadd, 1) := by decide +kernel
theorem dX3_goOn_47 : decode cX3_goOn 47 = .ok (.aaload, 1) := by decide +kernel
theorem dX3_goOn_48 : decode cX3_goOn 48 = .ok (.astore 5, 2) := by decide +kernel
theorem dX3_goOn_50 : decode cX3_goOn 50 = .ok (.aload 5, 2) := by decide +kernel
theorem dX3_goOn_52 : decode cX3_goOn 52 = .ok (.aload 4, 2) := by decide +kernel
theorem dX3_goOn_54 : decode cX3_goOn 54 = .ok (.invokevirtual 43, 3) := by decide +kernel
theorem dX3_goOn_57 : decode cX3_goOn 57 = .ok (.aload 5, 2) := by decide +kernel
theorem dX3_goOn_59 : decode cX3_goOn 59 = .ok (.invokevirtual 51, 3) := by decide +kernel
theorem dX3_goOn_62 : decode cX3_goOn 62 = .ok (.aload_n 0, 1) := by decide +kernel
theorem dX3_goOn_63 : decode cX3_goOn 63 = .ok (.iload_n 1, 1) := by decide +kernel
theorem dX3_goOn_64 : decode cX3_goOn 64 = .ok (.iconst 1, 1) := by decide +kernel
theorem dX3_goOn_65 : decode cX3_goOn 65 = .ok (.iadd, 1) := by decide +kernel
theorem dX3_goOn_66 : decode cX3_goOn 66 = .ok (.bipush 10, 2) := by decide +kernel
theorem dX3_goOn_68 : decode cX3_goOn 68 = .ok (.iload_n 2, 1) := by decide +kernel
theorem dX3_goOn_69 : decode cX3_goOn 69 = .ok (.imul, 1) := by decide +kernel
theorem dX3_goOn_70 : decode cX3_goOn 70 = .ok (.iload_n 3, 1) := by decide +kernel
theorem dX3_goOn_71 : decode cX3_goOn 71 = .ok (.invokevirtual 47, 3) := by decide +kernel
theorem dX3_goOn_74 : decode cX3_goOn 74 = .ok (.iconst 0, 1) := by decide +kernel
theorem dX3_goOn_75 : decode cX3_goOn 75 = .ok (.istore 6, 2) := by decide +kernel
theorem dX3_goOn_77 : decode cX3_goOn 77 = .ok (.iload 6, 2) := by decide +kernel
theorem dX3_goOn_79 : decode cX3_goOn 79 = .ok (.aload_n 0, 1) := by decide +kernel
theorem dX3_goOn_80 : decode cX3_goOn 80 = .ok (.getfield 17, 3) := by decide +kernel
theorem dX3_goOn_83 : decode cX3_goOn 83 = .ok (.getfield 54, 3) := by decide +kernel
theorem dX3_goOn_86 : decode cX3_goOn 86 = .ok (.if_icmp .ge 72, 3) := by decide +kernel
theorem dX3_goOn_89 : decode cX3_goOn 89 = .ok (.aload_n 0, 1) := by decide +kernel
theorem dX3_goOn_90 : decode cX3_goOn 90 = .ok (.getfield 34, 3) := by decide +kernel
theorem dX3_goOn_93 : decode cX3_goOn 93 = .ok (.iload 6, 2) := by decide +kernel
theorem dX3_goOn_95 : decode cX3_goOn 95 = .ok (.ishr, 1) := by decide +kernel
theorem dX3_goOn_96 : decode cX3_goOn 96 = .ok (.iconst 1, 1) := by decide +kernel
theorem dX3_goOn_97 : decode cX3_goOn 97 = .ok (.iand, 1) := by decide +kernel
theorem dX3_goOn_98 : decode cX3_goOn 98 = .ok (.ifCond .eq 54, 3) := by decide +kernel
theorem dX3_goOn_101 : decode cX3_goOn 101 = .ok (.aload 4, 2) := by decide +kernel
theorem dX3_goOn_103 : decode cX3_goOn 103 = .ok (.iload 6, 2) := by decide +kernel
theorem dX3_goOn_105 : decode cX3_goOn 105 = .ok (.invokevirtual 59, 3) := by decide +kernel
theorem dX3_goOn_108 : decode cX3_goOn 108 = .ok (.ifCond .eq 44, 3) := by decide +kernel
theorem dX3_goOn_111 : decode cX3_goOn 111 = .ok (.aload 5, 2) := by decide +kernel
theorem dX3_goOn_113 : decode cX3_goOn 113 = .ok (.aload 4, 2) := by decide +kernel
theorem dX3_goOn_115 : decode cX3_goOn 115 = .ok (.invokevirtual 43, 3) := by decide +kernel
theorem dX3_goOn_118 : decode cX3_goOn 118 = .ok (.aload 5, 2) := by decide +kernel
theorem dX3_goOn_120 : decode cX3_goOn 120 = .ok (.iload 6, 2) := by decide +kernel
theorem dX3_goOn_122 : decode cX3_goOn 122 = .ok (.invokevirtual 63, 3) := by decide +kernel
theorem dX3_goOn_125 : decode cX3_goOn 125 = .ok (.aload_n 0, 1) := by decide +kernel
theorem dX3_goOn_126 : decode cX3_goOn 126 = .ok (.iload_n 1, 1) := by decide +kernel
theorem dX3_goOn_127 : decode cX3_goOn 127 = .ok (.iconst 1, 1) := by decide +kernel
theorem dX3_goOn_128 : decode cX3_goOn 128 = .ok (.iadd, 1) := by decide +kernel
theorem dX3_goOn_129 : decode cX3_goOn 129 = .ok (.bipush 10, 2) := by decide +kernel
theorem dX3_goOn_131 : decode cX3_goOn 131 = .ok (.iload_n 2, 1) := by decide +kernel
theorem dX3_goOn_132 : decode cX3_goOn 132 = .ok (.imul, 1) := by decide +kernel
theorem dX3_goOn_133 : decode cX3_goOn 133 = .ok (.iload 6, 2) := by decide +kernel
theorem dX3_goOn_135 : decode cX3_goOn 135 = .ok (.iadd, 1) := by decide +kernel
theorem dX3_goOn_136 : decode cX3_goOn 136 = .ok (.iconst 1, 1) := by decide +kernel
theorem dX3_goOn_137 : decode cX3_goOn 137 = .ok (.iadd, 1) := by decide +kernel
theorem dX3_goOn_138 : decode cX3_goOn 138 = .ok (.iload_n 3, 1) := by decide +kernel
theorem dX3_goOn_139 : decode cX3_goOn 139 = .ok (.aload_n 0, 1) := by decide +kernel
theorem dX3_goOn_140 : decode cX3_goOn 140 = .ok (.getfield 17, 3) := by decide +kernel
theorem dX3_goOn_143 : decode cX3_goOn 143 = .ok (.iload 6, 2) := by decide +kernel
theorem dX3_goOn_145 : decode cX3_goOn 145 = .ok (.invokevirtual 67, 3) := by decide +kernel
theorem dX3_goOn_148 : decode cX3_goOn 148 = .ok (.iadd, 1) := by decide +kernel
theorem dX3_goOn_149 : decode cX3_goOn 149 = .ok (.invokevirtual 47, 3) := by decide +kernel
theorem dX3_goOn_152 : decode cX3_goOn 152 = .ok (.iinc 6 1, 3) := by decide +kernel
theorem dX3_goOn_155 : decode cX3_goOn 155 = .ok (.goto (-78), 3) := by decide +kernel
theorem dX3_goOn_158 : decode cX3_goOn 158 = .ok (.return_, 1) := by decide +kernel
theorem dX4_init_0 : decode cX4_init 0 = .ok (.aload_n 0, 1) := by decide +kernel
theorem dX4_init_1 : decode cX4_init 1 = .ok (.invokespecial 3, 3) := by decide +kernel
theorem dX4_init_4 : decode cX4_init 4 = .ok (.aload_n 0, 1) := by decide +kernel
theorem dX4_init_5 : decode cX4_init 5 = .ok (.bipush 6, 2) := by decide +kernel
theorem dX4_init_7 : decode cX4_init 7 = .ok (.newarray .int, 2) := by decide +kernel
theorem dX4_init_9 : decode cX4_init 9 = .ok (.putfield 9, 3) := by decide +kernel
theorem dX4_init_12 : decode cX4_init 12 = .ok (.aload_n 0, 1) := by decide +kernel
theorem dX4_init_13 : decode cX4_init 13 = .ok (.bipush 6, 2) := by decide +kernel
theorem dX4_init_15 : decode cX4_init 15 = .ok (.newarray .int, 2) := by decide +kernel
theorem dX4_init_17 : decode cX4_init 17 = .ok (.putfield 15, 3) := by decide +kernel
theorem dX4_init_20 : decode cX4_init 20 = .ok (.aload_n 0, 1) := by decide +kernel
theorem dX4_init_21 : decode cX4_init 21 = .ok (.bipush 6, 2) := by decide +kernel
theorem dX4_init_23 : decode cX4_init 23 = .ok (.newarray .int, 2) := by decide +kernel
theorem dX4_init_25 : decode cX4_init 25 = .ok (.putfield 18, 3) := by decide +kernel
theorem dX4_init_28 : decode cX4_init 28 = .ok (.return_, 1) := by decide +kernel
theorem dX4_add_0 : decode cX4_add 0 = .ok (.aload_n 0, 1) := by decide +kernel
theorem dX4_add_1 : decode cX4_add 1 = .ok (.getfield 21, 3) := by decide +kernel
theorem dX4_add_4 : decode cX4_add 4 = .ok (.bipush 6, 2) := by decide +kernel
theorem dX4_add_6 : decode cX4_add 6 = .ok (.if_icmp .ge 43, 3) := by decide +kernel
theorem dX4_add_9 : decode cX4_add 9 = .ok (.aload_n 0, 1) := by decide +kernel
theorem dX4_add_10 : decode cX4_add 10 = .ok (.getfield 9, 3) := by decide +kernel
theorem dX4_add_13 : decode cX4_add 13 = .ok (.aload_n 0, 1) := by decide +kernel
theorem dX4_add_14 : decode cX4_add 14 = .ok (.getfield 21, 3) := by decide +kernel
theorem dX4_add_17 : decode cX4_add 17 = .ok (.iload_n 1, 1) := by decide +kernel
theorem dX4_add_18 : decode cX4_add 18 = .ok (.iastore, 1) := by decide +kernel
theorem dX4_add_19 : decode cX4_add 19 = .ok (.aload_n 0, 1) := by decide +kernel
theorem dX4_add_20 : decode cX4_add 20 = .ok (.getfield 15, 3) := by decide +kernel
theorem dX4_add_23 : decode cX4_add 23 = .ok (.aload_n 0, 1) := by decide +kernel
theorem dX4_add_24 : decode cX4_add 24 = .ok (.getfield 21, 3) := by decide +kernel
theorem dX4_add_27 : decode cX4_add 27 = .ok (.iload_n 2, 1) := by decide +kernel
theorem dX4_add_28 : decode cX4_add 28 = .ok (.iastore, 1) := by decide +kernel
theorem dX4_add_29 : decode cX4_add 29 = .ok (.aload_n 0, 1) := by decide +kernel
theorem dX4_add_30 : decode cX4_add 30 = .ok (.getfield 18, 3) := by decide +kernel
theorem dX4_add_33 : decode cX4_add 33 = .ok (.aload_n 0, 1) := by decide +kernel
theorem dX4_add_34 : decode cX4_add 34 = .ok (.getfield 21, 3) := by decide +kernel
theorem dX4_add_37 : decode cX4_add 37 = .ok (.iload_n 3, 1) := by decide +kernel
theorem dX4_add_38 : decode cX4_add 38 = .ok (.iastore, 1) := by decide +kernel
theorem dX4_add_39 : decode cX4_add 39 = .ok (.aload_n 0, 1) := by decide +kernel
theorem dX4_add_40 : decode cX4_add 40 = .ok (.dup, 1) := by decide +kernel
theorem dX4_add_41 : decode cX4_add 41 = .ok (.getfield 21, 3) := by decide +kernel
theorem dX4_add_44 : decode cX4_add 44 = .ok (.iconst 1, 1) := by decide +kernel
theorem dX4_add_45 : decode cX4_add 45 = .ok (.iadd, 1) := by decide +kernel
theorem dX4_add_46 : decode cX4_add 46 = .ok (.putfield 21, 3) := by decide +kernel
theorem dX4_add_49 : decode cX4_add 49 = .ok (.return_, 1) := by decide +kernel
theorem dX4_palatesThatFit_0 : decode cX4_palatesThatFit 0 = .ok (.iconst 0, 1) := by decide +kernel
theorem dX4_palatesThatFit_1 : decode cX4_palatesThatFit 1 = .ok (.istore_n 2, 1) := by decide +kernel
theorem dX4_palatesThatFit_2 : decode cX4_palatesThatFit 2 = .ok (.iconst 0, 1) := by decide +kernel
theorem dX4_palatesThatFit_3 : decode cX4_palatesThatFit 3 = .ok (.istore_n 3, 1) := by decide +kernel
theorem dX4_palatesThatFit_4 : decode cX4_palatesThatFit 4 = .ok (.iload_n 3, 1) := by decide +kernel
theorem dX4_palatesThatFit_5 : decode cX4_palatesThatFit 5 = .ok (.bipush 9, 2) := by decide +kernel
theorem dX4_palatesThatFit_7 : decode cX4_palatesThatFit 7 = .ok (.if_icmp .gt 24, 3) := by decide +kernel
theorem dX4_palatesThatFit_10 : decode cX4_palatesThatFit 10 = .ok (.aload_n 0, 1) := by decide +kernel
theorem dX4_palatesThatFit_11 : decode cX4_palatesThatFit 11 = .ok (.iload_n 1, 1) := by decide +kernel
theorem dX4_palatesThatFit_12 : decode cX4_palatesThatFit 12 = .ok (.iload_n 3, 1) := by decide +kernel
theorem dX4_palatesThatFit_13 : decode cX4_palatesThatFit 13 = .ok (.invokevirtual 25, 3) := by decide +kernel
theorem dX4_palatesThatFit_16 : decode cX4_palatesThatFit 16 = .ok (.ifCond .eq 9, 3) := by decide +kernel
theorem dX4_palatesThatFit_19 : decode cX4_palatesThatFit 19 = .ok (.iload_n 2, 1) := by decide +kernel
theorem dX4_palatesThatFit_20 : decode cX4_palatesThatFit 20 = .ok (.iconst 1, 1) := by decide +kernel
theorem dX4_palatesThatFit_21 : decode cX4_palatesThatFit 21 = .ok (.iload_n 3, 1) := by decide +kernel
theorem dX4_palatesThatFit_22 : decode cX4_palatesThatFit 22 = .ok (.ishl, 1) := by decide +kernel
theorem dX4_palatesThatFit_23 : decode cX4_palatesThatFit 23 = .ok (.ior, 1) := by decide +kernel
theorem dX4_palatesThatFit_24 : decode cX4_palatesThatFit 24 = .ok (.istore_n 2, 1) := by decide +kernel
theorem dX4_palatesThatFit_25 : decode cX4_palatesThatFit 25 = .ok (.iinc 3 1, 3) := by decide +kernel
theorem dX4_palatesThatFit_28 : decode cX4_palatesThatFit 28 = .ok (.goto (-24), 3) := by decide +kernel
theorem dX4_palatesThatFit_31 : decode cX4_palatesThatFit 31 = .ok (.iload_n 2, 1) := by decide +kernel
theorem dX4_palatesThatFit_32 : decode cX4_palatesThatFit 32 = .ok (.ireturn, 1) := by decide +kernel
theorem dX4_fitsAll_0 : decode cX4_fitsAll 0 = .ok (.iconst 0, 1) := by decide +kernel
theorem dX4_fitsAll_1 : decode cX4_fitsAll 1 = .ok (.istore_n 3, 1) := by decide +kernel
theorem dX4_fitsAll_2 : decode cX4_fitsAll 2 = .ok (.iload_n 3, 1) := by decide +kernel
theorem dX4_fitsAll_3 : decode cX4_fitsAll 3 = .ok (.aload_n 0, 1) := by decide +kernel
theorem dX4_fitsAll_4 : decode cX4_fitsAll 4 = .ok (.getfield 21, 3) := by decide +kernel
theorem dX4_fitsAll_7 : decode cX4_fitsAll 7 = .ok (.if_icmp .ge 41, 3) := by decide +kernel
theorem dX4_fitsAll_10 : decode cX4_fitsAll 10 = .ok (.aload_n 0, 1) := by decide +kernel
theorem dX4_fitsAll_11 : decode cX4_fitsAll 11 = .ok (.getfield 9, 3) := by decide +kernel
theorem dX4_fitsAll_14 : decode cX4_fitsAll 14 = .ok (.iload_n 3, 1) := by decide +kernel
theorem dX4_fitsAll_15 : decode cX4_fitsAll 15 = .ok (.iaload, 1) := by decide +kernel
theorem dX4_fitsAll_16 : decode cX4_fitsAll 16 = .ok (.iload_n 1, 1) := by decide +kernel
theorem dX4_fitsAll_17 : decode cX4_fitsAll 17 = .ok (.if_icmp .ne 25, 3) := by decide +kernel
theorem dX4_fitsAll_20 : decode cX4_fitsAll 20 = .ok (.iload_n 1, 1) := by decide +kernel
theorem dX4_fitsAll_21 : decode cX4_fitsAll 21 = .ok (.iload_n 2, 1) := by decide +kernel
theorem dX4_fitsAll_22 : decode cX4_fitsAll 22 = .ok (.aload_n 0, 1) := by decide +kernel
theorem dX4_fitsAll_23 : decode cX4_fitsAll 23 = .ok (.getfield 15, 3) := by decide +kernel
theorem dX4_fitsAll_26 : decode cX4_fitsAll 26 = .ok (.iload_n 3, 1) := by decide +kernel
theorem dX4_fitsAll_27 : decode cX4_fitsAll 27 = .ok (.iaload, 1) := by decide +kernel
theorem dX4_fitsAll_28 : decode cX4_fitsAll 28 = .ok (.invokestatic 29, 3) := by decide +kernel
theorem dX4_fitsAll_31 : decode cX4_fitsAll 31 = .ok (.aload_n 0, 1) := by decide +kernel
theorem dX4_fitsAll_32 : decode cX4_fitsAll 32 = .ok (.getfield 18, 3) := by decide +kernel
theorem dX4_fitsAll_35 : decode cX4_fitsAll 35 = .ok (.iload_n 3, 1) := by decide +kernel
theorem dX4_fitsAll_36 : decode cX4_fitsAll 36 = .ok (.iaload, 1) := by decide +kernel
theorem dX4_fitsAll_37 : decode cX4_fitsAll 37 = .ok (.if_icmp .eq 5, 3) := by decide +kernel
theorem dX4_fitsAll_40 : decode cX4_fitsAll 40 = .ok (.iconst 0, 1) := by decide +kernel
theorem dX4_fitsAll_41 : decode cX4_fitsAll 41 = .ok (.ireturn, 1) := by decide +kernel
theorem dX4_fitsAll_42 : decode cX4_fitsAll 42 = .ok (.iinc 3 1, 3) := by decide +kernel
theorem dX4_fitsAll_45 : decode cX4_fitsAll 45 = .ok (.goto (-43), 3) := by decide +kernel
theorem dX4_fitsAll_48 : decode cX4_fitsAll 48 = .ok (.iconst 1, 1) := by decide +kernel
theorem dX4_fitsAll_49 : decode cX4_fitsAll 49 = .ok (.ireturn, 1) := by decide +kernel
theorem dX5_init_0 : decode cX5_init 0 = .ok (.aload_n 0, 1) := by decide +kernel
theorem dX5_init_1 : decode cX5_init 1 = .ok (.invokespecial 3, 3) := by decide +kernel
theorem dX5_init_4 : decode cX5_init 4 = .ok (.aload_n 0, 1) := by decide +kernel
theorem dX5_init_5 : decode cX5_init 5 = .ok (.iconst 2, 1) := by decide +kernel
theorem dX5_init_6 : decode cX5_init 6 = .ok (.anewarray 9, 3) := by decide +kernel
theorem dX5_init_9 : decode cX5_init 9 = .ok (.putfield 11, 3) := by decide +kernel
theorem dX5_init_12 : decode cX5_init 12 = .ok (.aload_n 0, 1) := by decide +kernel
theorem dX5_init_13 : decode cX5_init 13 = .ok (.iconst 2, 1) := by decide +kernel
theorem dX5_init_14 : decode cX5_init 14 = .ok (.newarray .boolean, 2) := by decide +kernel
theorem dX5_init_16 : decode cX5_init 16 = .ok (.putfield 17, 3) := by decide +kernel
theorem dX5_init_19 : decode cX5_init 19 = .ok (.iconst 0, 1) := by decide +kernel
theorem dX5_init_20 : decode cX5_init 20 = .ok (.istore_n 2, 1) := by decide +kernel
theorem dX5_init_21 : decode cX5_init 21 = .ok (.iload_n 2, 1) := by decide +kernel
theorem dX5_init_22 : decode cX5_init 22 = .ok (.iconst 2, 1) := by decide +kernel
theorem dX5_init_23 : decode cX5_init 23 = .ok (.if_icmp .ge 23, 3) := by decide +kernel
theorem dX5_init_26 : decode cX5_init 26 = .ok (.aload_n 0, 1) := by decide +kernel
theorem dX5_init_27 : decode cX5_init 27 = .ok (.getfield 11, 3) := by decide +kernel
theorem dX5_init_30 : decode cX5_init 30 = .ok (.iload_n 2, 1) := by decide +kernel
theorem dX5_init_31 : decode cX5_init 31 = .ok (.new 9, 3) := by decide +kernel
theorem dX5_init_34 : decode cX5_init 34 = .ok (.dup, 1) := by decide +kernel
theorem dX5_init_35 : decode cX5_init 35 = .ok (.aload_n 1, 1) := by decide +kernel
theorem dX5_init_36 : decode cX5_init 36 = .ok (.invokespecial 21, 3) := by decide +kernel
theorem dX5_init_39 : decode cX5_init 39 = .ok (.aastore, 1) := by decide +kernel
theorem dX5_init_40 : decode cX5_init 40 = .ok (.iinc 2 1, 3) := by decide +kernel
theorem dX5_init_43 : decode cX5_init 43 = .ok (.goto (-22), 3) := by decide +kernel
theorem dX5_init_46 : decode cX5_init 46 = .ok (.return_, 1) := by decide +kernel
theorem dX5_put_0 : decode cX5_put 0 = .ok (.aload_n 0, 1) := by decide +kernel
theorem dX5_put_1 : decode cX5_put 1 = .ok (.getfield 11, 3) := by decide +kernel
theorem dX5_put_4 : decode cX5_put 4 = .ok (.iload_n 1, 1) := by decide +kernel
theorem dX5_put_5 : decode cX5_put 5 = .ok (.aaload, 1) := by decide +kernel
theorem dX5_put_6 : decode cX5_put 6 = .ok (.aload_n 2, 1) := by decide +kernel
theorem dX5_put_7 : decode cX5_put 7 = .ok (.invokevirtual 24, 3) := by decide +kernel
theorem dX5_put_10 : decode cX5_put 10 = .ok (.aload_n 0, 1) := by decide +kernel
theorem dX5_put_11 : decode cX5_put 11 = .ok (.getfield 17, 3) := by decide +kernel
theorem dX5_put_14 : decode cX5_put 14 = .ok (.iload_n 1, 1) := by decide +kernel
theorem dX5_put_15 : decode cX5_put 15 = .ok (.iconst 1, 1) := by decide +kernel
theorem dX5_put_16 : decode cX5_put 16 = .ok (.bastore, 1) := by decide +kernel
theorem dX5_put_17 : decode cX5_put 17 = .ok (.return_, 1) := by decide +kernel
theorem dX5_forgetAll_0 : decode cX5_forgetAll 0 = .ok (.iconst 0, 1) := by decide +kernel
theorem dX5_forgetAll_1 : decode cX5_forgetAll 1 = .ok (.istore_n 1, 1) := by decide +kernel
theorem dX5_forgetAll_2 : decode cX5_forgetAll 2 = .ok (.iload_n 1, 1) := by decide +kernel
theorem dX5_forgetAll_3 : decode cX5_forgetAll 3 = .ok (.iconst 2, 1) := by decide +kernel
theorem dX5_forgetAll_4 : decode cX5_forgetAll 4 = .ok (.if_icmp .ge 16, 3) := by decide +kernel
theorem dX5_forgetAll_7 : decode cX5_forgetAll 7 = .ok (.aload_n 0, 1) := by decide +kernel
theorem dX5_forgetAll_8 : decode cX5_forgetAll 8 = .ok (.getfield 17, 3) := by decide +kernel
theorem dX5_forgetAll_11 : decode cX5_forgetAll 11 = .ok (.iload_n 1, 1) := by decide +kernel
theorem dX5_forgetAll_12 : decode cX5_forgetAll 12 = .ok (.iconst 0, 1) := by decide +kernel
theorem dX5_forgetAll_13 : decode cX5_forgetAll 13 = .ok (.bastore, 1) := by decide +kernel
theorem dX5_forgetAll_14 : decode cX5_forgetAll 14 = .ok (.iinc 1 1, 3) := by decide +kernel
theorem dX5_forgetAll_17 : decode cX5_forgetAll 17 = .ok (.goto (-15), 3) := by decide +kernel
theorem dX5_forgetAll_20 : decode cX5_forgetAll 20 = .ok (.return_, 1) := by decide +kernel
theorem dX6_init_0 : decode cX6_init 0 = .ok (.aload_n 0, 1) := by decide +kernel
theorem dX6_init_1 : decode cX6_init 1 = .ok (.invokespecial 3, 3) := by decide +kernel
theorem dX6_init_4 : decode cX6_init 4 = .ok (.aload_n 0, 1) := by decide +kernel
theorem dX6_init_5 : decode cX6_init 5 = .ok (.aload_n 1, 1) := by decide +kernel
theorem dX6_init_6 : decode cX6_init 6 = .ok (.putfield 9, 3) := by decide +kernel
theorem dX6_init_9 : decode cX6_init 9 = .ok (.return_, 1) := by decide +kernel
theorem dX6_find_0 : decode cX6_find 0 = .ok (.aload_n 0, 1) := by decide +kernel
theorem dX6_find_1 : decode cX6_find 1 = .ok (.iconst 0, 1) := by decide +kernel
theorem dX6_find_2 : decode cX6_find 2 = .ok (.putfield 15, 3) := by decide +kernel
theorem dX6_find_5 : decode cX6_find 5 = .ok (.aload_n 0, 1) := by decide +kernel
theorem dX6_find_6 : decode cX6_find 6 = .ok (.bipush (-9), 2) := by decide +kernel
theorem dX6_find_8 : decode cX6_find 8 = .ok (.putfield 19, 3) := by decide +kernel
theorem dX6_find_11 : decode cX6_find 11 = .ok (.iconst 0, 1) := by decide +kernel
theorem dX6_find_12 : decode cX6_find 12 = .ok (.istore 4, 2) := by decide +kernel
theorem dX6_find_14 : decode cX6_find 14 = .ok (.iload 4, 2) := by decide +kernel
theorem dX6_find_16 : decode cX6_find 16 = .ok (.iconst 4, 1) := by decide +kernel
theorem dX6_find_17 : decode cX6_find 17 = .ok (.if_icmp .gt 79, 3) := by decide +kernel
theorem dX6_find_20 : decode cX6_find 20 = .ok (.iconst 0, 1) := by decide +kernel
theorem dX6_find_21 : decode cX6_find 21 = .ok (.istore 5, 2) := by decide +kernel
theorem dX6_find_23 : decode cX6_find 23 = .ok (.iload 5, 2) := by decide +kernel
theorem dX6_find_25 : decode cX6_find 25 = .ok (.iconst 4, 1) := by decide +kernel
theorem dX6_find_26 : decode cX6_find 26 = .ok (.if_icmp .gt 64, 3) := by decide +kernel
theorem dX6_find_29 : decode cX6_find 29 = .ok (.aload_n 0, 1) := by decide +kernel
theorem dX6_find_30 : decode cX6_find 30 = .ok (.iload_n 1, 1) := by decide +kernel
theorem dX6_find_31 : decode cX6_find 31 = .ok (.iload 4, 2) := by decide +kernel
theorem dX6_find_33 : decode cX6_find 33 = .ok (.iload 5, 2) := by decide +kernel
theorem dX6_find_35 : decode cX6_find 35 = .ok (.iload_n 3, 1) := by decide +kernel
theorem dX6_find_36 : decode cX6_find 36 = .ok (.invokevirtual 22, 3) := by decide +kernel
theorem dX6_find_39 : decode cX6_find 39 = .ok (.ifCond .eq 45, 3) := by decide +kernel
theorem dX6_find_42 : decode cX6_find 42 = .ok (.aload_n 0, 1) := by decide +kernel
theorem dX6_find_43 : decode cX6_find 43 = .ok (.iload_n 2, 1) := by decide +kernel
theorem dX6_find_44 : decode cX6_find 44 = .ok (.iload 5, 2) := by decide +kernel
theorem dX6_find_46 : decode cX6_find 46 = .ok (.iload 4, 2) := by decide +kernel
theorem dX6_find_48 : decode cX6_find 48 = .ok (.iload_n 3, 1) := by decide +kernel
theorem dX6_find_49 : decode cX6_find 49 = .ok (.invokevirtual 22, 3) := by decide +kernel
theorem dX6_find_52 : decode cX6_find 52 = .ok (.ifCond .eq 32, 3) := by decide +kernel
theorem dX6_find_55 : decode cX6_find 55 = .ok (.aload_n 0, 1) := by decide +kernel
theorem dX6_find_56 : decode cX6_find 56 = .ok (.getfield 15, 3) := by decide +kernel
theorem dX6_find_59 : decode cX6_find 59 = .ok (.ifCond .ne 15, 3) := by decide +kernel
theorem dX6_find_62 : decode cX6_find 62 = .ok (.aload_n 0, 1) := by decide +kernel
theorem dX6_find_63 : decode cX6_find 63 = .ok (.bipush 10, 2) := by decide +kernel
theorem dX6_find_65 : decode cX6_find 65 = .ok (.iload 4, 2) := by decide +kernel
theorem dX6_find_67 : decode cX6_find 67 = .ok (.imul, 1) := by decide +kernel
theorem dX6_find_68 : decode cX6_find 68 = .ok (.iload 5, 2) := by decide +kernel
theorem dX6_find_70 : decode cX6_find 70 = .ok (.iadd, 1) := by decide +kernel
theorem dX6_find_71 : decode cX6_find 71 = .ok (.putfield 19, 3) := by decide +kernel
theorem dX6_find_74 : decode cX6_find 74 = .ok (.aload_n 0, 1) := by decide +kernel
theorem dX6_find_75 : decode cX6_find 75 = .ok (.dup, 1) := by decide +kernel
theorem dX6_find_76 : decode cX6_find 76 = .ok (.getfield 15, 3) := by decide +kernel
theorem dX6_find_79 : decode cX6_find 79 = .ok (.iconst 1, 1) := by decide +kernel
theorem dX6_find_80 : decode cX6_find 80 = .ok (.iadd, 1) := by decide +kernel
theorem dX6_find_81 : decode cX6_find 81 = .ok (.putfield 15, 3) := by decide +kernel
theorem dX6_find_84 : decode cX6_find 84 = .ok (.iinc 5 1, 3) := by decide +kernel
theorem dX6_find_87 : decode cX6_find 87 = .ok (.goto (-64), 3) := by decide +kernel
theorem dX6_find_90 : decode cX6_find 90 = .ok (.iinc 4 1, 3) := by decide +kernel
theorem dX6_find_93 : decode cX6_find 93 = .ok (.goto (-79), 3) := by decide +kernel
theorem dX6_find_96 : decode cX6_find 96 = .ok (.return_, 1) := by decide +kernel
theorem dX6_isLeast_0 : decode cX6_isLeast 0 = .ok (.aload_n 0, 1) := by decide +kernel
theorem dX6_isLeast_1 : decode cX6_isLeast 1 = .ok (.iload_n 1, 1) := by decide +kernel
theorem dX6_isLeast_2 : decode cX6_isLeast 2 = .ok (.iload_n 2, 1) := by decide +kernel
theorem dX6_isLeast_3 : decode cX6_isLeast 3 = .ok (.iload_n 3, 1) := by decide +kernel
theorem dX6_isLeast_4 : decode cX6_isLeast 4 = .ok (.iload 4, 2) := by decide +kernel
theorem dX6_isLeast_6 : decode cX6_isLeast 6 = .ok (.invokevirtual 26, 3) := by decide +kernel
theorem dX6_isLeast_9 : decode cX6_isLeast 9 = .ok (.istore 5, 2) := by decide +kernel
theorem dX6_isLeast_11 : decode cX6_isLeast 11 = .ok (.iconst 0, 1) := by decide +kernel
theorem dX6_isLeast_12 : decode cX6_isLeast 12 = .ok (.istore 6, 2) := by decide +kernel
theorem dX6_isLeast_14 : decode cX6_isLeast 14 = .ok (.iload 6, 2) := by decide +kernel
theorem dX6_isLeast_16 : decode cX6_isLeast 16 = .ok (.iconst 4, 1) := by decide +kernel
theorem dX6_isLeast_17 : decode cX6_isLeast 17 = .ok (.if_icmp .gt 26, 3) := by decide +kernel
theorem dX6_isLeast_20 : decode cX6_isLeast 20 = .ok (.aload_n 0, 1) := by decide +kernel
theorem dX6_isLeast_21 : decode cX6_isLeast 21 = .ok (.iload_n 1, 1) := by decide +kernel
theorem dX6_isLeast_22 : decode cX6_isLeast 22 = .ok (.iload 6, 2) := by decide +kernel
theorem dX6_isLeast_24 : decode cX6_isLeast 24 = .ok (.iload_n 3, 1) := by decide +kernel
theorem dX6_isLeast_25 : decode cX6_isLeast 25 = .ok (.iload 4, 2) := by decide +kernel
theorem dX6_isLeast_27 : decode cX6_isLeast 27 = .ok (.invokevirtual 26, 3) := by decide +kernel
theorem dX6_isLeast_30 : decode cX6_isLeast 30 = .ok (.iload 5, 2) := by decide +kernel
theorem dX6_isLeast_32 : decode cX6_isLeast 32 = .ok (.if_icmp .ge 5, 3) := by decide +kernel
theorem dX6_isLeast_35 : decode cX6_isLeast 35 = .ok (.iconst 0, 1) := by decide +kernel
theorem dX6_isLeast_36 : decode cX6_isLeast 36 = .ok (.ireturn, 1) := by decide +kernel
theorem dX6_isLeast_37 : decode cX6_isLeast 37 = .ok (.iinc 6 1, 3) := by decide +kernel
theorem dX6_isLeast_40 : decode cX6_isLeast 40 = .ok (.goto (-26), 3) := by decide +kernel
theorem dX6_isLeast_43 : decode cX6_isLeast 43 = .ok (.iconst 1, 1) := by decide +kernel
theorem dX6_isLeast_44 : decode cX6_isLeast 44 = .ok (.ireturn, 1) := by decide +kernel
theorem dX6_loss_0 : decode cX6_loss 0 = .ok (.iconst 0, 1) := by decide +kernel
theorem dX6_loss_1 : decode cX6_loss 1 = .ok (.istore 5, 2) := by decide +kernel
theorem dX6_loss_3 : decode cX6_loss 3 = .ok (.iload_n 2, 1) := by decide +kernel
theorem dX6_loss_4 : decode cX6_loss 4 = .ok (.iload_n 3, 1) := by decide +kernel
theorem dX6_loss_5 : decode cX6_loss 5 = .ok (.if_icmp .ge 9, 3) := by decide +kernel
theorem dX6_loss_8 : decode cX6_loss 8 = .ok (.iconst 4, 1) := by decide +kernel
theorem dX6_loss_9 : decode cX6_loss 9 = .ok (.istore 5, 2) := by decide +kernel
theorem dX6_loss_11 : decode cX6_loss 11 = .ok (.goto 11, 3) := by decide +kernel
theorem dX6_loss_14 : decode cX6_loss 14 = .ok (.iload_n 2, 1) := by decide +kernel
theorem dX6_loss_15 : decode cX6_loss 15 = .ok (.iload_n 3, 1) := by decide +kernel
theorem dX6_loss_16 : decode cX6_loss 16 = .ok (.if_icmp .ne 6, 3) := by decide +kernel
theorem dX6_loss_19 : decode cX6_loss 19 = .ok (.iconst 2, 1) := by decide +kernel
theorem dX6_loss_20 : decode cX6_loss 20 = .ok (.istore 5, 2) := by decide +kernel
theorem dX6_loss_22 : decode cX6_loss 22 = .ok (.iload_n 2, 1) := by decide +kernel
theorem dX6_loss_23 : decode cX6_loss 23 = .ok (.iload_n 3, 1) := by decide +kernel
theorem dX6_loss_24 : decode cX6_loss 24 = .ok (.invokestatic 30, 3) := by decide +kernel
theorem dX6_loss_27 : decode cX6_loss 27 = .ok (.istore 6, 2) := by decide +kernel
theorem dX6_loss_29 : decode cX6_loss 29 = .ok (.iconst 0, 1) := by decide +kernel
theorem dX6_loss_30 : decode cX6_loss 30 = .ok (.istore 7, 2) := by decide +kernel
theorem dX6_loss_32 : decode cX6_loss 32 = .ok (.iload 7, 2) := by decide +kernel
theorem dX6_loss_34 : decode cX6_loss 34 = .ok (.iload 6, 2) := by decide +kernel
theorem dX6_loss_36 : decode cX6_loss 36 = .ok (.if_icmp .ge 31, 3) := by decide +kernel
theorem dX6_loss_39 : decode cX6_loss 39 = .ok (.iload 5, 2) := by decide +kernel
theorem dX6_loss_41 : decode cX6_loss 41 = .ok (.aload_n 0, 1) := by decide +kernel
theorem dX6_loss_42 : decode cX6_loss 42 = .ok (.getfield 9, 3) := by decide +kernel
theorem dX6_loss_45 : decode cX6_loss 45 = .ok (.iload_n 1, 1) := by decide +kernel
theorem dX6_loss_46 : decode cX6_loss 46 = .ok (.iconst 0, 1) := by decide +kernel
theorem dX6_loss_47 : decode cX6_loss 47 = .ok (.iload 4, 2) := by decide +kernel
theorem dX6_loss_49 : decode cX6_loss 49 = .ok (.iload 7, 2) := by decide +kernel
theorem dX6_loss_51 : decode cX6_loss 51 = .ok (.isub, 1) := by decide +kernel
theorem dX6_loss_52 : decode cX6_loss 52 = .ok (.invokestatic 36, 3) := by decide +kernel
theorem dX6_loss_55 : decode cX6_loss 55 = .ok (.invokevirtual 39, 3) := by decide +kernel
theorem dX6_loss_58 : decode cX6_loss 58 = .ok (.iadd, 1) := by decide +kernel
theorem dX6_loss_59 : decode cX6_loss 59 = .ok (.istore 5, 2) := by decide +kernel
theorem dX6_loss_61 : decode cX6_loss 61 = .ok (.iinc 7 1, 3) := by decide +kernel
theorem dX6_loss_64 : decode cX6_loss 64 = .ok (.goto (-32), 3) := by decide +kernel
theorem dX6_loss_67 : decode cX6_loss 67 = .ok (.iload 5, 2) := by decide +kernel
theorem dX6_loss_69 : decode cX6_loss 69 = .ok (.ireturn, 1) := by decide +kernel
theorem dX7_init_0 : decode cX7_init 0 = .ok (.aload_n 0, 1) := by decide +kernel
theorem dX7_init_1 : decode cX7_init 1 = .ok (.invokespecial 3, 3) := by decide +kernel
theorem dX7_init_4 : decode cX7_init 4 = .ok (.aload_n 0, 1) := by decide +kernel
theorem dX7_init_5 : decode cX7_init 5 = .ok (.iconst 4, 1) := by decide +kernel
theorem dX7_init_6 : decode cX7_init 6 = .ok (.newarray .int, 2) := by decide +kernel
theorem dX7_init_8 : decode cX7_init 8 = .ok (.putfield 9, 3) := by decide +kernel
theorem dX7_init_11 : decode cX7_init 11 = .ok (.aload_n 0, 1) := by decide +kernel
theorem dX7_init_12 : decode cX7_init 12 = .ok (.aload_n 1, 1) := by decide +kernel
theorem dX7_init_13 : decode cX7_init 13 = .ok (.putfield 15, 3) := by decide +kernel
theorem dX7_init_16 : decode cX7_init 16 = .ok (.return_, 1) := by decide +kernel
theorem dX7_layAnew_0 : decode cX7_layAnew 0 = .ok (.aload_n 0, 1) := by decide +kernel
theorem dX7_layAnew_1 : decode cX7_layAnew 1 = .ok (.aload_n 0, 1) := by decide +kernel
theorem dX7_layAnew_2 : decode cX7_layAnew 2 = .ok (.getfield 15, 3) := by decide +kernel
theorem dX7_layAnew_5 : decode cX7_layAnew 5 = .ok (.getfield 19, 3) := by decide +kernel
theorem dX7_layAnew_8 : decode cX7_layAnew 8 = .ok (.putfield 25, 3) := by decide +kernel
theorem dX7_layAnew_11 : decode cX7_layAnew 11 = .ok (.aload_n 0, 1) := by decide +kernel
theorem dX7_layAnew_12 : decode cX7_layAnew 12 = .ok (.aload_n 0, 1) := by decide +kernel
theorem dX7_layAnew_13 : decode cX7_layAnew 13 = .ok (.getfield 15, 3) := by decide +kernel
theorem dX7_layAnew_16 : decode cX7_layAnew 16 = .ok (.getfield 28, 3) := by decide +kernel
theorem dX7_layAnew_19 : decode cX7_layAnew 19 = .ok (.putfield 31, 3) := by decide +kernel
theorem dX7_layAnew_22 : decode cX7_layAnew 22 = .ok (.aload_n 0, 1) := by decide +kernel
theorem dX7_layAnew_23 : decode cX7_layAnew 23 = .ok (.iconst 1, 1) := by decide +kernel
theorem dX7_layAnew_24 : decode cX7_layAnew 24 = .ok (.aload_n 0, 1) := by decide +kernel
theorem dX7_layAnew_25 : decode cX7_layAnew 25 = .ok (.getfield 15, 3) := by decide +kernel
theorem dX7_layAnew_28 : decode cX7_layAnew 28 = .ok (.getfield 34, 3) := by decide +kernel
theorem dX7_layAnew_31 : decode cX7_layAnew 31 = .ok (.ishl, 1) := by decide +kernel
theorem dX7_layAnew_32 : decode cX7_layAnew 32 = .ok (.iconst 1, 1) := by decide +kernel
theorem dX7_layAnew_33 : decode cX7_layAnew 33 = .ok (.isub, 1) := by decide +kernel
theorem dX7_layAnew_34 : decode cX7_layAnew 34 = .ok (.putfield 37, 3) := by decide +kernel
theorem dX7_layAnew_37 : decode cX7_layAnew 37 = .ok (.aload_n 0, 1) := by decide +kernel
theorem dX7_layAnew_38 : decode cX7_layAnew 38 = .ok (.iconst 0, 1) := by decide +kernel
theorem dX7_layAnew_39 : decode cX7_layAnew 39 = .ok (.putfield 40, 3) := by decide +kernel
theorem dX7_layAnew_42 : decode cX7_layAnew 42 = .ok (.aload_n 0, 1) := by decide +kernel
theorem dX7_layAnew_43 : decode cX7_layAnew 43 = .ok (.iconst 0, 1) := by decide +kernel
theorem dX7_layAnew_44 : decode cX7_layAnew 44 = .ok (.putfield 43, 3) := by decide +kernel
theorem dX7_layAnew_47 : decode cX7_layAnew 47 = .ok (.aload_n 0, 1) := by decide +kernel
theorem dX7_layAnew_48 : decode cX7_layAnew 48 = .ok (.iconst 0, 1) := by decide +kernel
theorem dX7_layAnew_49 : decode cX7_layAnew 49 = .ok (.putfield 46, 3) := by decide +kernel
theorem dX7_layAnew_52 : decode cX7_layAnew 52 = .ok (.iconst 0, 1) := by decide +kernel
theorem dX7_layAnew_53 : decode cX7_layAnew 53 = .ok (.istore_n 1, 1) := by decide +kernel
theorem dX7_layAnew_54 : decode cX7_layAnew 54 = .ok (.iload_n 1, 1) := by decide +kernel
theorem dX7_layAnew_55 : decode cX7_layAnew 55 = .ok (.iconst 4, 1) := by decide +kernel
theorem dX7_layAnew_56 : decode cX7_layAnew 56 = .ok (.if_icmp .ge 16, 3) := by decide +kernel
theorem dX7_layAnew_59 : decode cX7_layAnew 59 = .ok (.aload_n 0, 1) := by decide +kernel
theorem dX7_layAnew_60 : decode cX7_layAnew 60 = .ok (.getfield 9, 3) := by decide +kernel
theorem dX7_layAnew_63 : decode cX7_layAnew 63 = .ok (.iload_n 1, 1) := by decide +kernel
theorem dX7_layAnew_64 : decode cX7_layAnew 64 = .ok (.iconst 0, 1) := by decide +kernel
theorem dX7_layAnew_65 : decode cX7_layAnew 65 = .ok (.iastore, 1) := by decide +kernel
theorem dX7_layAnew_66 : decode cX7_layAnew 66 = .ok (.iinc 1 1, 3) := by decide +kernel
theorem dX7_layAnew_69 : decode cX7_layAnew 69 = .ok (.goto (-15), 3) := by decide +kernel
theorem dX7_layAnew_72 : decode cX7_layAnew 72 = .ok (.return_, 1) := by decide +kernel
theorem dX7_copyFrom_0 : decode cX7_copyFrom 0 = .ok (.aload_n 0, 1) := by decide +kernel
theorem dX7_copyFrom_1 : decode cX7_copyFrom 1 = .ok (.aload_n 1, 1) := by decide +kernel
theorem dX7_copyFrom_2 : decode cX7_copyFrom 2 = .ok (.getfield 25, 3) := by decide +kernel
theorem dX7_copyFrom_5 : decode cX7_copyFrom 5 = .ok (.putfield 25, 3) := by decide +kernel
theorem dX7_copyFrom_8 : decode cX7_copyFrom 8 = .ok (.aload_n 0, 1) := by decide +kernel
theorem dX7_copyFrom_9 : decode cX7_copyFrom 9 = .ok (.aload_n 1, 1) := by decide +kernel
theorem dX7_copyFrom_10 : decode cX7_copyFrom 10 = .ok (.getfield 31, 3) := by decide +kernel
theorem dX7_copyFrom_13 : decode cX7_copyFrom 13 = .ok (.putfield 31, 3) := by decide +kernel
theorem dX7_copyFrom_16 : decode cX7_copyFrom 16 = .ok (.aload_n 0, 1) := by decide +kernel
theorem dX7_copyFrom_17 : decode cX7_copyFrom 17 = .ok (.aload_n 1, 1) := by decide +kernel
theorem dX7_copyFrom_18 : decode cX7_copyFrom 18 = .ok (.getfield 37, 3) := by decide +kernel
theorem dX7_copyFrom_21 : decode cX7_copyFrom 21 = .ok (.putfield 37, 3) := by decide +kernel
theorem dX7_copyFrom_24 : decode cX7_copyFrom 24 = .ok (.aload_n 0, 1) := by decide +kernel
theorem dX7_copyFrom_25 : decode cX7_copyFrom 25 = .ok (.aload_n 1, 1) := by decide +kernel
theorem dX7_copyFrom_26 : decode cX7_copyFrom 26 = .ok (.getfield 40, 3) := by decide +kernel
theorem dX7_copyFrom_29 : decode cX7_copyFrom 29 = .ok (.putfield 40, 3) := by decide +kernel
theorem dX7_copyFrom_32 : decode cX7_copyFrom 32 = .ok (.aload_n 0, 1) := by decide +kernel
theorem dX7_copyFrom_33 : decode cX7_copyFrom 33 = .ok (.aload_n 1, 1) := by decide +kernel
theorem dX7_copyFrom_34 : decode cX7_copyFrom 34 = .ok (.getfield 43, 3) := by decide +kernel
theorem dX7_copyFrom_37 : decode cX7_copyFrom 37 = .ok (.putfield 43, 3) := by decide +kernel
theorem dX7_copyFrom_40 : decode cX7_copyFrom 40 = .ok (.aload_n 0, 1) := by decide +kernel
theorem dX7_copyFrom_41 : decode cX7_copyFrom 41 = .ok (.aload_n 1, 1) := by decide +kernel
theorem dX7_copyFrom_42 : decode cX7_copyFrom 42 = .ok (.getfield 46, 3) := by decide +kernel
theorem dX7_copyFrom_45 : decode cX7_copyFrom 45 = .ok (.putfield 46, 3) := by decide +kernel
theorem dX7_copyFrom_48 : decode cX7_copyFrom 48 = .ok (.iconst 0, 1) := by decide +kernel
theorem dX7_copyFrom_49 : decode cX7_copyFrom 49 = .ok (.istore_n 2, 1) := by decide +kernel
theorem dX7_copyFrom_50 : decode cX7_copyFrom 50 = .ok (.iload_n 2, 1) := by decide +kernel
theorem dX7_copyFrom_51 : decode cX7_copyFrom 51 = .ok (.iconst 4, 1) := by decide +kernel
theorem dX7_copyFrom_52 : decode cX7_copyFrom 52 = .ok (.if_icmp .ge 21, 3) := by decide +kernel
theorem dX7_copyFrom_55 : decode cX7_copyFrom 55 = .ok (.aload_n 0, 1) := by decide +kernel
theorem dX7_copyFrom_56 : decode cX7_copyFrom 56 = .ok (.getfield 9, 3) := by decide +kernel
theorem dX7_copyFrom_59 : decode cX7_copyFrom 59 = .ok (.iload_n 2, 1) := by decide +kernel
theorem dX7_copyFrom_60 : decode cX7_copyFrom 60 = .ok (.aload_n 1, 1) := by decide +kernel
theorem dX7_copyFrom_61 : decode cX7_copyFrom 61 = .ok (.getfield 9, 3) := by decide +kernel
theorem dX7_copyFrom_64 : decode cX7_copyFrom 64 = .ok (.iload_n 2, 1) := by decide +kernel
theorem dX7_copyFrom_65 : decode cX7_copyFrom 65 = .ok (.iaload, 1) := by decide +kernel
theorem dX7_copyFrom_66 : decode cX7_copyFrom 66 = .ok (.iastore, 1) := by decide +kernel
theorem dX7_copyFrom_67 : decode cX7_copyFrom 67 = .ok (.iinc 2 1, 3) := by decide +kernel
theorem dX7_copyFrom_70 : decode cX7_copyFrom 70 = .ok (.goto (-20), 3) := by decide +kernel
theorem dX7_copyFrom_73 : decode cX7_copyFrom 73 = .ok (.return_, 1) := by decide +kernel
theorem dX7_eats_0 : decode cX7_eats 0 = .ok (.aload_n 0, 1) := by decide +kernel
theorem dX7_eats_1 : decode cX7_eats 1 = .ok (.getfield 37, 3) := by decide +kernel
theorem dX7_eats_4 : decode cX7_eats 4 = .ok (.iload_n 1, 1) := by decide +kernel
theorem dX7_eats_5 : decode cX7_eats 5 = .ok (.ishr, 1) := by decide +kernel
theorem dX7_eats_6 : decode cX7_eats 6 = .ok (.iconst 1, 1) := by decide +kernel
theorem dX7_eats_7 : decode cX7_eats 7 = .ok (.iand, 1) := by decide +kernel
theorem dX7_eats_8 : decode cX7_eats 8 = .ok (.ifCond .eq 7, 3) := by decide +kernel
theorem dX7_eats_11 : decode cX7_eats 11 = .ok (.iconst 1, 1) := by decide +kernel
theorem dX7_eats_12 : decode cX7_eats 12 = .ok (.goto 4, 3) := by decide +kernel
theorem dX7_eats_15 : decode cX7_eats 15 = .ok (.iconst 0, 1) := by decide +kernel
theorem dX7_eats_16 : decode cX7_eats 16 = .ok (.ireturn, 1) := by decide +kernel
theorem dX7_hadBread_0 : decode cX7_hadBread 0 = .ok (.aload_n 0, 1) := by decide +kernel
theorem dX7_hadBread_1 : decode cX7_hadBread 1 = .ok (.getfield 40, 3) := by decide +kernel
theorem dX7_hadBread_4 : decode cX7_hadBread 4 = .ok (.iload_n 1, 1) := by decide +kernel
theorem dX7_hadBread_5 : decode cX7_hadBread 5 = .ok (.ishr, 1) := by decide +kernel
theorem dX7_hadBread_6 : decode cX7_hadBread 6 = .ok (.iconst 1, 1) := by decide +kernel
theorem dX7_hadBread_7 : decode cX7_hadBread 7 = .ok (.iand, 1) := by decide +kernel
theorem dX7_hadBread_8 : decode cX7_hadBread 8 = .ok (.ifCond .eq 7, 3) := by decide +kernel
theorem dX7_hadBread_11 : decode cX7_hadBread 11 = .ok (.iconst 1, 1) := by decide +kernel
theorem dX7_hadBread_12 : decode cX7_hadBread 12 = .ok (.goto 4, 3) := by decide +kernel
theorem dX7_hadBread_15 : decode cX7_hadBread 15 = .ok (.iconst 0, 1) := by decide +kernel
theorem dX7_hadBread_16 : decode cX7_hadBread 16 = .ok (.ireturn, 1) := by decide +kernel
theorem dX7_isBound_0 : decode cX7_isBound 0 = .ok (.aload_n 0, 1) := by decide +kernel
theorem dX7_isBound_1 : decode cX7_isBound 1 = .ok (.getfield 43, 3) := by decide +kernel
theorem dX7_isBound_4 : decode cX7_isBound 4 = .ok (.iload_n 1, 1) := by decide +kernel
theorem dX7_isBound_5 : decode cX7_isBound 5 = .ok (.ishr, 1) := by decide +kernel
theorem dX7_isBound_6 : decode cX7_isBound 6 = .ok (.iconst 1, 1) := by decide +kernel
theorem dX7_isBound_7 : decode cX7_isBound 7 = .ok (.iand, 1) := by decide +kernel
theorem dX7_isBound_8 : decode cX7_isBound 8 = .ok (.ifCond .eq 7, 3) := by decide +kernel
theorem dX7_isBound_11 : decode cX7_isBound 11 = .ok (.iconst 1, 1) := by decide +kernel
theorem dX7_isBound_12 : decode cX7_isBound 12 = .ok (.goto 4, 3) := by decide +kernel
theorem dX7_isBound_15 : decode cX7_isBound 15 = .ok (.iconst 0, 1) := by decide +kernel
theorem dX7_isBound_16 : decode cX7_isBound 16 = .ok (.ireturn, 1) := by decide +kernel
theorem dX7_canBeSaid_0 : decode cX7_canBeSaid 0 = .ok (.aload_n 0, 1) := by decide +kernel
theorem dX7_canBeSaid_1 : decode cX7_canBeSaid 1 = .ok (.getfield 15, 3) := by decide +kernel
theorem dX7_canBeSaid_4 : decode cX7_canBeSaid 4 = .ok (.iload_n 1, 1) := by decide +kernel
theorem dX7_canBeSaid_5 : decode cX7_canBeSaid 5 = .ok (.invokevirtual 49, 3) := by decide +kernel
theorem dX7_canBeSaid_8 : decode cX7_canBeSaid 8 = .ok (.ifCond .eq 66, 3) := by decide +kernel
theorem dX7_canBeSaid_11 : decode cX7_canBeSaid 11 = .ok (.aload_n 0, 1) := by decide +kernel
theorem dX7_canBeSaid_12 : decode cX7_canBeSaid 12 = .ok (.iload_n 1, 1) := by decide +kernel
theorem dX7_canBeSaid_13 : decode cX7_canBeSaid 13 = .ok (.invokevirtual 53, 3) := by decide +kernel
theorem dX7_canBeSaid_16 : decode cX7_canBeSaid 16 = .ok (.ifCond .ne 58, 3) := by decide +kernel
theorem dX7_canBeSaid_19 : decode cX7_canBeSaid 19 = .ok (.aload_n 0, 1) := by decide +kernel
theorem dX7_canBeSaid_20 : decode cX7_canBeSaid 20 = .ok (.aload_n 0, 1) := by decide +kernel
theorem dX7_canBeSaid_21 : decode cX7_canBeSaid 21 = .ok (.getfield 15, 3) := by decide +kernel
theorem dX7_canBeSaid_24 : decode cX7_canBeSaid 24 = .ok (.getfield 56, 3) := by decide +kernel
theorem dX7_canBeSaid_27 : decode cX7_canBeSaid 27 = .ok (.iload_n 1, 1) := by decide +kernel
theorem dX7_canBeSaid_28 : decode cX7_canBeSaid 28 = .ok (.iaload, 1) := by decide +kernel
theorem dX7_canBeSaid_29 : decode cX7_canBeSaid 29 = .ok (.invokevirtual 59, 3) := by decide +kernel
theorem dX7_canBeSaid_32 : decode cX7_canBeSaid 32 = .ok (.ifCond .eq 42, 3) := by decide +kernel
theorem dX7_canBeSaid_35 : decode cX7_canBeSaid 35 = .ok (.aload_n 0, 1) := by decide +kernel
theorem dX7_canBeSaid_36 : decode cX7_canBeSaid 36 = .ok (.getfield 25, 3) := by decide +kernel
theorem dX7_canBeSaid_39 : decode cX7_canBeSaid 39 = .ok (.aload_n 0, 1) := by decide +kernel
theorem dX7_canBeSaid_40 : decode cX7_canBeSaid 40 = .ok (.getfield 15, 3) := by decide +kernel
theorem dX7_canBeSaid_43 : decode cX7_canBeSaid 43 = .ok (.getfield 62, 3) := by decide +kernel
theorem dX7_canBeSaid_46 : decode cX7_canBeSaid 46 = .ok (.iload_n 1, 1) := by decide +kernel
theorem dX7_canBeSaid_47 : decode cX7_canBeSaid 47 = .ok (.iaload, 1) := by decide +kernel
theorem dX7_canBeSaid_48 : decode cX7_canBeSaid 48 = .ok (.if_icmp .lt 26, 3) := by decide +kernel
theorem dX7_canBeSaid_51 : decode cX7_canBeSaid 51 = .ok (.aload_n 0, 1) := by decide +kernel
theorem dX7_canBeSaid_52 : decode cX7_canBeSaid 52 = .ok (.getfield 15, 3) := by decide +kernel
theorem dX7_canBeSaid_55 : decode cX7_canBeSaid 55 = .ok (.getfield 65, 3) := by decide +kernel
theorem dX7_canBeSaid_58 : decode cX7_canBeSaid 58 = .ok (.iload_n 1, 1) := by decide +kernel
theorem dX7_canBeSaid_59 : decode cX7_canBeSaid 59 = .ok (.iaload, 1) := by decide +kernel
theorem dX7_canBeSaid_60 : decode cX7_canBeSaid 60 = .ok (.aload_n 0, 1) := by decide +kernel
theorem dX7_canBeSaid_61 : decode cX7_canBeSaid 61 = .ok (.getfield 25, 3) := by decide +kernel
theorem dX7_canBeSaid_64 : decode cX7_canBeSaid 64 = .ok (.invokestatic 68, 3) := by decide +kernel
theorem dX7_canBeSaid_67 : decode cX7_canBeSaid 67 = .ok (.if_icmp .gt 7, 3) := by decide +kernel
theorem dX7_canBeSaid_70 : decode cX7_canBeSaid 70 = .ok (.iconst 1, 1) := by decide +kernel
theorem dX7_canBeSaid_71 : decode cX7_canBeSaid 71 = .ok (.goto 4, 3) := by decide +kernel
theorem dX7_canBeSaid_74 : decode cX7_canBeSaid 74 = .ok (.iconst 0, 1) := by decide +kernel
theorem dX7_canBeSaid_75 : decode cX7_canBeSaid 75 = .ok (.ireturn, 1) := by decide +kernel
theorem dX7_sayable_0 : decode cX7_sayable 0 = .ok (.iconst 0, 1) := by decide +kernel
theorem dX7_sayable_1 : decode cX7_sayable 1 = .ok (.istore_n 1, 1) := by decide +kernel
theorem dX7_sayable_2 : decode cX7_sayable 2 = .ok (.iconst 0, 1) := by decide +kernel
theorem dX7_sayable_3 : decode cX7_sayable 3 = .ok (.istore_n 2, 1) := by decide +kernel
theorem dX7_sayable_4 : decode cX7_sayable 4 = .ok (.iload_n 2, 1) := by decide +kernel
theorem dX7_sayable_5 : decode cX7_sayable 5 = .ok (.aload_n 0, 1) := by decide +kernel
theorem dX7_sayable_6 : decode cX7_sayable 6 = .ok (.getfield 15, 3) := by decide +kernel
theorem dX7_sayable_9 : decode cX7_sayable 9 = .ok (.getfield 72, 3) := by decide +kernel
theorem dX7_sayable_12 : decode cX7_sayable 12 = .ok (.if_icmp .ge 23, 3) := by decide +kernel
theorem dX7_sayable_15 : decode cX7_sayable 15 = .ok (.aload_n 0, 1) := by decide +kernel
theorem dX7_sayable_16 : decode cX7_sayable 16 = .ok (.iload_n 2, 1) := by decide +kernel
theorem dX7_sayable_17 : decode cX7_sayable 17 = .ok (.invokevirtual 75, 3) := by decide +kernel
theorem dX7_sayable_20 : decode cX7_sayable 20 = .ok (.ifCond .eq 9, 3) := by decide +kernel
theorem dX7_sayable_23 : decode cX7_sayable 23 = .ok (.iload_n 1, 1) := by decide +kernel
theorem dX7_sayable_24 : decode cX7_sayable 24 = .ok (.iconst 1, 1) := by decide +kernel
theorem dX7_sayable_25 : decode cX7_sayable 25 = .ok (.iload_n 2, 1) := by decide +kernel
theorem dX7_sayable_26 : decode cX7_sayable 26 = .ok (.ishl, 1) := by decide +kernel
theorem dX7_sayable_27 : decode cX7_sayable 27 = .ok (.ior, 1) := by decide +kernel
theorem dX7_sayable_28 : decode cX7_sayable 28 = .ok (.istore_n 1, 1) := by decide +kernel
theorem dX7_sayable_29 : decode cX7_sayable 29 = .ok (.iinc 2 1, 3) := by decide +kernel
theorem dX7_sayable_32 : decode cX7_sayable 32 = .ok (.goto (-28), 3) := by decide +kernel
theorem dX7_sayable_35 : decode cX7_sayable 35 = .ok (.iload_n 1, 1) := by decide +kernel
theorem dX7_sayable_36 : decode cX7_sayable 36 = .ok (.ireturn, 1) := by decide +kernel
theorem dX7_takeBite_0 : decode cX7_takeBite 0 = .ok (.iconst 0, 1) := by decide +kernel
theorem dX7_takeBite_1 : decode cX7_takeBite 1 = .ok (.istore_n 1, 1) := by decide +kernel
theorem dX7_takeBite_2 : decode cX7_takeBite 2 = .ok (.iload_n 1, 1) := by decide +kernel
theorem dX7_takeBite_3 : decode cX7_takeBite 3 = .ok (.aload_n 0, 1) := by decide +kernel
theorem dX7_takeBite_4 : decode cX7_takeBite 4 = .ok (.getfield 15, 3) := by decide +kernel
theorem dX7_takeBite_7 : decode cX7_takeBite 7 = .ok (.getfield 34, 3) := by decide +kernel
theorem dX7_takeBite_10 : decode cX7_takeBite 10 = .ok (.if_icmp .ge 69, 3) := by decide +kernel
theorem dX7_takeBite_13 : decode cX7_takeBite 13 = .ok (.aload_n 0, 1) := by decide +kernel
theorem dX7_takeBite_14 : decode cX7_takeBite 14 = .ok (.iload_n 1, 1) := by decide +kernel
theorem dX7_takeBite_15 : decode cX7_takeBite 15 = .ok (.invokevirtual 59, 3) := by decide +kernel
theorem dX7_takeBite_18 : decode cX7_takeBite 18 = .ok (.ifCond .eq 55, 3) := by decide +kernel
theorem dX7_takeBite_21 : decode cX7_takeBite 21 = .ok (.aload_n 0, 1) := by decide +kernel
theorem dX7_takeBite_22 : decode cX7_takeBite 22 = .ok (.getfield 9, 3) := by decide +kernel
theorem dX7_takeBite_25 : decode cX7_takeBite 25 = .ok (.iload_n 1, 1) := by decide +kernel
theorem dX7_takeBite_26 : decode cX7_takeBite 26 = .ok (.dup2, 1) := by decide +kernel
theorem dX7_takeBite_27 : decode cX7_takeBite 27 = .ok (.iaload, 1) := by decide +kernel
theorem dX7_takeBite_28 : decode cX7_takeBite 28 = .ok (.aload_n 0, 1) := by decide +kernel
theorem dX7_takeBite_29 : decode cX7_takeBite 29 = .ok (.getfield 15, 3) := by decide +kernel
theorem dX7_takeBite_32 : decode cX7_takeBite 32 = .ok (.iload_n 1, 1) := by decide +kernel
theorem dX7_takeBite_33 : decode cX7_takeBite 33 = .ok (.aload_n 0, 1) := by decide +kernel
theorem dX7_takeBite_34 : decode cX7_takeBite 34 = .ok (.getfield 25, 3) := by decide +kernel
theorem dX7_takeBite_37 : decode cX7_takeBite 37 = .ok (.invokevirtual 78, 3) := by decide +kernel
theorem dX7_takeBite_40 : decode cX7_takeBite 40 = .ok (.iadd, 1) := by decide +kernel
theorem dX7_takeBite_41 : decode cX7_takeBite 41 = .ok (.iastore, 1) := by decide +kernel
theorem dX7_takeBite_42 : decode cX7_takeBite 42 = .ok (.aload_n 0, 1) := by decide +kernel
theorem dX7_takeBite_43 : decode cX7_takeBite 43 = .ok (.getfield 9, 3) := by decide +kernel
theorem dX7_takeBite_46 : decode cX7_takeBite 46 = .ok (.iload_n 1, 1) := by decide +kernel
theorem dX7_takeBite_47 : decode cX7_takeBite 47 = .ok (.iaload, 1) := by decide +kernel
theorem dX7_takeBite_48 : decode cX7_takeBite 48 = .ok (.aload_n 0, 1) := by decide +kernel
theorem dX7_takeBite_49 : decode cX7_takeBite 49 = .ok (.getfield 15, 3) := by decide +kernel
theorem dX7_takeBite_52 : decode cX7_takeBite 52 = .ok (.iload_n 1, 1) := by decide +kernel
theorem dX7_takeBite_53 : decode cX7_takeBite 53 = .ok (.invokevirtual 82, 3) := by decide +kernel
theorem dX7_takeBite_56 : decode cX7_takeBite 56 = .ok (.if_icmp .lt 17, 3) := by decide +kernel
theorem dX7_takeBite_59 : decode cX7_takeBite 59 = .ok (.aload_n 0, 1) := by decide +kernel
theorem dX7_takeBite_60 : decode cX7_takeBite 60 = .ok (.dup, 1) := by decide +kernel
theorem dX7_takeBite_61 : decode cX7_takeBite 61 = .ok (.getfield 37, 3) := by decide +kernel
theorem dX7_takeBite_64 : decode cX7_takeBite 64 = .ok (.iconst 1, 1) := by decide +kernel
theorem dX7_takeBite_65 : decode cX7_takeBite 65 = .ok (.iload_n 1, 1) := by decide +kernel
theorem dX7_takeBite_66 : decode cX7_takeBite 66 = .ok (.ishl, 1) := by decide +kernel
theorem dX7_takeBite_67 : decode cX7_takeBite 67 = .ok (.iconst (-1), 1) := by decide +kernel
theorem dX7_takeBite_68 : decode cX7_takeBite 68 = .ok (.ixor, 1) := by decide +kernel
theorem dX7_takeBite_69 : decode cX7_takeBite 69 = .ok (.iand, 1) := by decide +kernel
theorem dX7_takeBite_70 : decode cX7_takeBite 70 = .ok (.putfield 37, 3) := by decide +kernel
theorem dX7_takeBite_73 : decode cX7_takeBite 73 = .ok (.iinc 1 1, 3) := by decide +kernel
theorem dX7_takeBite_76 : decode cX7_takeBite 76 = .ok (.goto (-74), 3) := by decide +kernel
theorem dX7_takeBite_79 : decode cX7_takeBite 79 = .ok (.aload_n 0, 1) := by decide +kernel
theorem dX7_takeBite_80 : decode cX7_takeBite 80 = .ok (.iconst 0, 1) := by decide +kernel
theorem dX7_takeBite_81 : decode cX7_takeBite 81 = .ok (.aload_n 0, 1) := by decide +kernel
theorem dX7_takeBite_82 : decode cX7_takeBite 82 = .ok (.getfield 25, 3) := by decide +kernel
theorem dX7_takeBite_85 : decode cX7_takeBite 85 = .ok (.iconst 1, 1) := by decide +kernel
theorem dX7_takeBite_86 : decode cX7_takeBite 86 = .ok (.isub, 1) := by decide +kernel
theorem dX7_takeBite_87 : decode cX7_takeBite 87 = .ok (.invokestatic 85, 3) := by decide +kernel
theorem dX7_takeBite_90 : decode cX7_takeBite 90 = .ok (.putfield 25, 3) := by decide +kernel
theorem dX7_takeBite_93 : decode cX7_takeBite 93 = .ok (.aload_n 0, 1) := by decide +kernel
theorem dX7_takeBite_94 : decode cX7_takeBite 94 = .ok (.dup, 1) := by decide +kernel
theorem dX7_takeBite_95 : decode cX7_takeBite 95 = .ok (.getfield 46, 3) := by decide +kernel
theorem dX7_takeBite_98 : decode cX7_takeBite 98 = .ok (.iconst 1, 1) := by decide +kernel
theorem dX7_takeBite_99 : decode cX7_takeBite 99 = .ok (.iadd, 1) := by decide +kernel
theorem dX7_takeBite_100 : decode cX7_takeBite 100 = .ok (.putfield 46, 3) := by decide +kernel
theorem dX7_takeBite_103 : decode cX7_takeBite 103 = .ok (.return_, 1) := by decide +kernel
theorem dX7_bind_0 : decode cX7_bind 0 = .ok (.aload_n 0, 1) := by decide +kernel
theorem dX7_bind_1 : decode cX7_bind 1 = .ok (.dup, 1) := by decide +kernel
theorem dX7_bind_2 : decode cX7_bind 2 = .ok (.getfield 43, 3) := by decide +kernel
theorem dX7_bind_5 : decode cX7_bind 5 = .ok (.iconst 1, 1) := by decide +kernel
theorem dX7_bind_6 : decode cX7_bind 6 = .ok (.iload_n 1, 1) := by decide +kernel
theorem dX7_bind_7 : decode cX7_bind 7 = .ok (.ishl, 1) := by decide +kernel
theorem dX7_bind_8 : decode cX7_bind 8 = .ok (.ior, 1) := by decide +kernel
theorem dX7_bind_9 : decode cX7_bind 9 = .ok (.putfield 43, 3) := by decide +kernel
theorem dX7_bind_12 : decode cX7_bind 12 = .ok (.return_, 1) := by decide +kernel
theorem dX7_putSeed_0 : decode cX7_putSeed 0 = .ok (.aload_n 0, 1) := by decide +kernel
theorem dX7_putSeed_1 : decode cX7_putSeed 1 = .ok (.dup, 1) := by decide +kernel
theorem dX7_putSeed_2 : decode cX7_putSeed 2 = .ok (.getfield 31, 3) := by decide +kernel
theorem dX7_putSeed_5 : decode cX7_putSeed 5 = .ok (.iconst 1, 1) := by decide +kernel
theorem dX7_putSeed_6 : decode cX7_putSeed 6 = .ok (.isub, 1) := by decide +kernel
theorem dX7_putSeed_7 : decode cX7_putSeed 7 = .ok (.putfield 31, 3) := by decide +kernel
theorem dX7_putSeed_10 : decode cX7_putSeed 10 = .ok (.aload_n 0, 1) := by decide +kernel
theorem dX7_putSeed_11 : decode cX7_putSeed 11 = .ok (.bipush 9, 2) := by decide +kernel
theorem dX7_putSeed_13 : decode cX7_putSeed 13 = .ok (.aload_n 0, 1) := by decide +kernel
theorem dX7_putSeed_14 : decode cX7_putSeed 14 = .ok (.getfield 25, 3) := by decide +kernel
theorem dX7_putSeed_17 : decode cX7_putSeed 17 = .ok (.iconst 2, 1) := by decide +kernel
theorem dX7_putSeed_18 : decode cX7_putSeed 18 = .ok (.iadd, 1) := by decide +kernel
theorem dX7_putSeed_19 : decode cX7_putSeed 19 = .ok (.invokestatic 90, 3) := by decide +kernel
theorem dX7_putSeed_22 : decode cX7_putSeed 22 = .ok (.putfield 25, 3) := by decide +kernel
theorem dX7_putSeed_25 : decode cX7_putSeed 25 = .ok (.return_, 1) := by decide +kernel
theorem dX7_takeBread_0 : decode cX7_takeBread 0 = .ok (.aload_n 0, 1) := by decide +kernel
theorem dX7_takeBread_1 : decode cX7_takeBread 1 = .ok (.getfield 9, 3) := by decide +kernel
theorem dX7_takeBread_4 : decode cX7_takeBread 4 = .ok (.iload_n 1, 1) := by decide +kernel
theorem dX7_takeBread_5 : decode cX7_takeBread 5 = .ok (.iconst 0, 1) := by decide +kernel
theorem dX7_takeBread_6 : decode cX7_takeBread 6 = .ok (.aload_n 0, 1) := by decide +kernel
theorem dX7_takeBread_7 : decode cX7_takeBread 7 = .ok (.getfield 9, 3) := by decide +kernel
theorem dX7_takeBread_10 : decode cX7_takeBread 10 = .ok (.iload_n 1, 1) := by decide +kernel
theorem dX7_takeBread_11 : decode cX7_takeBread 11 = .ok (.iaload, 1) := by decide +kernel
theorem dX7_takeBread_12 : decode cX7_takeBread 12 = .ok (.iconst 3, 1) := by decide +kernel
theorem dX7_takeBread_13 : decode cX7_takeBread 13 = .ok (.isub, 1) := by decide +kernel
theorem dX7_takeBread_14 : decode cX7_takeBread 14 = .ok (.invokestatic 85, 3) := by decide +kernel
theorem dX7_takeBread_17 : decode cX7_takeBread 17 = .ok (.iastore, 1) := by decide +kernel
theorem dX7_takeBread_18 : decode cX7_takeBread 18 = .ok (.aload_n 0, 1) := by decide +kernel
theorem dX7_takeBread_19 : decode cX7_takeBread 19 = .ok (.dup, 1) := by decide +kernel
theorem dX7_takeBread_20 : decode cX7_takeBread 20 = .ok (.getfield 40, 3) := by decide +kernel
theorem dX7_takeBread_23 : decode cX7_takeBread 23 = .ok (.iconst 1, 1) := by decide +kernel
theorem dX7_takeBread_24 : decode cX7_takeBread 24 = .ok (.iload_n 1, 1) := by decide +kernel
theorem dX7_takeBread_25 : decode cX7_takeBread 25 = .ok (.ishl, 1) := by decide +kernel
theorem dX7_takeBread_26 : decode cX7_takeBread 26 = .ok (.ior, 1) := by decide +kernel
theorem dX7_takeBread_27 : decode cX7_takeBread 27 = .ok (.putfield 40, 3) := by decide +kernel
theorem dX7_takeBread_30 : decode cX7_takeBread 30 = .ok (.return_, 1) := by decide +kernel
theorem dX7_takeTurn_0 : decode cX7_takeTurn 0 = .ok (.iload_n 1, 1) := by decide +kernel
theorem dX7_takeTurn_1 : decode cX7_takeTurn 1 = .ok (.lookupswitch 72 #[(0, 35), (6, 51), (7, 67)], 35) := by decide +kernel
theorem dX7_takeTurn_36 : decode cX7_takeTurn 36 = .ok (.aload_n 0, 1) := by decide +kernel
theorem dX7_takeTurn_37 : decode cX7_takeTurn 37 = .ok (.getfield 37, 3) := by decide +kernel
theorem dX7_takeTurn_40 : decode cX7_takeTurn 40 = .ok (.ifCond .eq 7, 3) := by decide +kernel
theorem dX7_takeTurn_43 : decode cX7_takeTurn 43 = .ok (.iconst 1, 1) := by decide +kernel
theorem dX7_takeTurn_44 : decode cX7_takeTurn 44 = .ok (.goto 4, 3) := by decide +kernel
theorem dX7_takeTurn_47 : decode cX7_takeTurn 47 = .ok (.iconst 0, 1) := by decide +kernel
theorem dX7_takeTurn_48 : decode cX7_takeTurn 48 = .ok (.istore_n 2, 1) := by decide +kernel
theorem dX7_takeTurn_49 : decode cX7_takeTurn 49 = .ok (.goto 32, 3) := by decide +kernel
theorem dX7_takeTurn_52 : decode cX7_takeTurn 52 = .ok (.aload_n 0, 1) := by decide +kernel
theorem dX7_takeTurn_53 : decode cX7_takeTurn 53 = .ok (.getfield 31, 3) := by decide +kernel
theorem dX7_takeTurn_56 : decode cX7_takeTurn 56 = .ok (.ifCond .le 7, 3) := by decide +kernel
theorem dX7_takeTurn_59 : decode cX7_takeTurn 59 = .ok (.iconst 1, 1) := by decide +kernel
theorem dX7_takeTurn_60 : decode cX7_takeTurn 60 = .ok (.goto 4, 3) := by decide +kernel
theorem dX7_takeTurn_63 : decode cX7_takeTurn 63 = .ok (.iconst 0, 1) := by decide +kernel
theorem dX7_takeTurn_64 : decode cX7_takeTurn 64 = .ok (.istore_n 2, 1) := by decide +kernel
theorem dX7_takeTurn_65 : decode cX7_takeTurn 65 = .ok (.goto 16, 3) := by decide +kernel
theorem dX7_takeTurn_68 : decode cX7_takeTurn 68 = .ok (.iconst 1, 1) := by decide +kernel
theorem dX7_takeTurn_69 : decode cX7_takeTurn 69 = .ok (.istore_n 2, 1) := by decide +kernel
theorem dX7_takeTurn_70 : decode cX7_takeTurn 70 = .ok (.goto 11, 3) := by decide +kernel
theorem dX7_takeTurn_73 : decode cX7_takeTurn 73 = .ok (.aload_n 0, 1) := by decide +kernel
theorem dX7_takeTurn_74 : decode cX7_takeTurn 74 = .ok (.iload_n 1, 1) := by decide +kernel
theorem dX7_takeTurn_75 : decode cX7_takeTurn 75 = .ok (.iconst 1, 1) := by decide +kernel
theorem dX7_takeTurn_76 : decode cX7_takeTurn 76 = .ok (.isub, 1) := by decide +kernel
theorem dX7_takeTurn_77 : decode cX7_takeTurn 77 = .ok (.invokevirtual 75, 3) := by decide +kernel
theorem dX7_takeTurn_80 : decode cX7_takeTurn 80 = .ok (.istore_n 2, 1) := by decide +kernel
theorem dX7_takeTurn_81 : decode cX7_takeTurn 81 = .ok (.iload_n 2, 1) := by decide +kernel
theorem dX7_takeTurn_82 : decode cX7_takeTurn 82 = .ok (.ifCond .eq 8, 3) := by decide +kernel
theorem dX7_takeTurn_85 : decode cX7_takeTurn 85 = .ok (.aload_n 0, 1) := by decide +kernel
theorem dX7_takeTurn_86 : decode cX7_takeTurn 86 = .ok (.iload_n 1, 1) := by decide +kernel
theorem dX7_takeTurn_87 : decode cX7_takeTurn 87 = .ok (.invokevirtual 93, 3) := by decide +kernel
theorem dX7_takeTurn_90 : decode cX7_takeTurn 90 = .ok (.iload_n 2, 1) := by decide +kernel
theorem dX7_takeTurn_91 : decode cX7_takeTurn 91 = .ok (.ireturn, 1) := by decide +kernel
theorem dX7_changeBy_0 : decode cX7_changeBy 0 = .ok (.iload_n 1, 1) := by decide +kernel
theorem dX7_changeBy_1 : decode cX7_changeBy 1 = .ok (.lookupswitch 52 #[(0, 35), (6, 42), (7, 49)], 35) := by decide +kernel
theorem dX7_changeBy_36 : decode cX7_changeBy 36 = .ok (.aload_n 0, 1) := by decide +kernel
theorem dX7_changeBy_37 : decode cX7_changeBy 37 = .ok (.invokevirtual 97, 3) := by decide +kernel
theorem dX7_changeBy_40 : decode cX7_changeBy 40 = .ok (.goto 20, 3) := by decide +kernel
theorem dX7_changeBy_43 : decode cX7_changeBy 43 = .ok (.aload_n 0, 1) := by decide +kernel
theorem dX7_changeBy_44 : decode cX7_changeBy 44 = .ok (.invokevirtual 100, 3) := by decide +kernel
theorem dX7_changeBy_47 : decode cX7_changeBy 47 = .ok (.goto 13, 3) := by decide +kernel
theorem dX7_changeBy_50 : decode cX7_changeBy 50 = .ok (.goto 10, 3) := by decide +kernel
theorem dX7_changeBy_53 : decode cX7_changeBy 53 = .ok (.aload_n 0, 1) := by decide +kernel
theorem dX7_changeBy_54 : decode cX7_changeBy 54 = .ok (.iload_n 1, 1) := by decide +kernel
theorem dX7_changeBy_55 : decode cX7_changeBy 55 = .ok (.iconst 1, 1) := by decide +kernel
theorem dX7_changeBy_56 : decode cX7_changeBy 56 = .ok (.isub, 1) := by decide +kernel
theorem dX7_changeBy_57 : decode cX7_changeBy 57 = .ok (.invokevirtual 103, 3) := by decide +kernel
theorem dX7_changeBy_60 : decode cX7_changeBy 60 = .ok (.return_, 1) := by decide +kernel
theorem dX8_init_0 : decode cX8_init 0 = .ok (.aload_n 0, 1) := by decide +kernel
theorem dX8_init_1 : decode cX8_init 1 = .ok (.invokespecial 1, 3) := by decide +kernel
theorem dX8_init_4 : decode cX8_init 4 = .ok (.aload_n 0, 1) := by decide +kernel
theorem dX8_init_5 : decode cX8_init 5 = .ok (.new 7, 3) := by decide +kernel
theorem dX8_init_8 : decode cX8_init 8 = .ok (.dup, 1) := by decide +kernel
theorem dX8_init_9 : decode cX8_init 9 = .ok (.invokespecial 9, 3) := by decide +kernel
theorem dX8_init_12 : decode cX8_init 12 = .ok (.putfield 10, 3) := by decide +kernel
theorem dX8_init_15 : decode cX8_init 15 = .ok (.aload_n 0, 1) := by decide +kernel
theorem dX8_init_16 : decode cX8_init 16 = .ok (.new 16, 3) := by decide +kernel
theorem dX8_init_19 : decode cX8_init 19 = .ok (.dup, 1) := by decide +kernel
theorem dX8_init_20 : decode cX8_init 20 = .ok (.invokespecial 18, 3) := by decide +kernel
theorem dX8_init_23 : decode cX8_init 23 = .ok (.putfield 19, 3) := by decide +kernel
theorem dX8_init_26 : decode cX8_init 26 = .ok (.aload_n 0, 1) := by decide +kernel
theorem dX8_init_27 : decode cX8_init 27 = .ok (.new 23, 3) := by decide +kernel
theorem dX8_init_30 : decode cX8_init 30 = .ok (.dup, 1) := by decide +kernel
theorem dX8_init_31 : decode cX8_init 31 = .ok (.aload_n 0, 1) := by decide +kernel
theorem dX8_init_32 : decode cX8_init 32 = .ok (.getfield 19, 3) := by decide +kernel
theorem dX8_init_35 : decode cX8_init 35 = .ok (.invokespecial 25, 3) := by decide +kernel
theorem dX8_init_38 : decode cX8_init 38 = .ok (.putfield 28, 3) := by decide +kernel
theorem dX8_init_41 : decode cX8_init 41 = .ok (.aload_n 0, 1) := by decide +kernel
theorem dX8_init_42 : decode cX8_init 42 = .ok (.new 23, 3) := by decide +kernel
theorem dX8_init_45 : decode cX8_init 45 = .ok (.dup, 1) := by decide +kernel
theorem dX8_init_46 : decode cX8_init 46 = .ok (.aload_n 0, 1) := by decide +kernel
theorem dX8_init_47 : decode cX8_init 47 = .ok (.getfield 19, 3) := by decide +kernel
theorem dX8_init_50 : decode cX8_init 50 = .ok (.invokespecial 25, 3) := by decide +kernel
theorem dX8_init_53 : decode cX8_init 53 = .ok (.putfield 32, 3) := by decide +kernel
theorem dX8_init_56 : decode cX8_init 56 = .ok (.aload_n 0, 1) := by decide +kernel
theorem dX8_init_57 : decode cX8_init 57 = .ok (.new 35, 3) := by decide +kernel
theorem dX8_init_60 : decode cX8_init 60 = .ok (.dup, 1) := by decide +kernel
theorem dX8_init_61 : decode cX8_init 61 = .ok (.aload_n 0, 1) := by decide +kernel
theorem dX8_init_62 : decode cX8_init 62 = .ok (.getfield 19, 3) := by decide +kernel
theorem dX8_init_65 : decode cX8_init 65 = .ok (.invokespecial 37, 3) := by decide +kernel
theorem dX8_init_68 : decode cX8_init 68 = .ok (.putfield 38, 3) := by decide +kernel
theorem dX8_init_71 : decode cX8_init 71 = .ok (.aload_n 0, 1) := by decide +kernel
theorem dX8_init_72 : decode cX8_init 72 = .ok (.new 42, 3) := by decide +kernel
theorem dX8_init_75 : decode cX8_init 75 = .ok (.dup, 1) := by decide +kernel
theorem dX8_init_76 : decode cX8_init 76 = .ok (.aload_n 0, 1) := by decide +kernel
theorem dX8_init_77 : decode cX8_init 77 = .ok (.getfield 19, 3) := by decide +kernel
theorem dX8_init_80 : decode cX8_init 80 = .ok (.invokespecial 44, 3) := by decide +kernel
theorem dX8_init_83 : decode cX8_init 83 = .ok (.putfield 45, 3) := by decide +kernel
theorem dX8_init_86 : decode cX8_init 86 = .ok (.aload_n 0, 1) := by decide +kernel
theorem dX8_init_87 : decode cX8_init 87 = .ok (.new 49, 3) := by decide +kernel
theorem dX8_init_90 : decode cX8_init 90 = .ok (.dup, 1) := by decide +kernel
theorem dX8_init_91 : decode cX8_init 91 = .ok (.invokespecial 51, 3) := by decide +kernel
theorem dX8_init_94 : decode cX8_init 94 = .ok (.putfield 52, 3) := by decide +kernel
theorem dX8_init_97 : decode cX8_init 97 = .ok (.aload_n 0, 1) := by decide +kernel
theorem dX8_init_98 : decode cX8_init 98 = .ok (.new 56, 3) := by decide +kernel
theorem dX8_init_101 : decode cX8_init 101 = .ok (.dup, 1) := by decide +kernel
theorem dX8_init_102 : decode cX8_init 102 = .ok (.aload_n 0, 1) := by decide +kernel
theorem dX8_init_103 : decode cX8_init 103 = .ok (.getfield 19, 3) := by decide +kernel
theorem dX8_init_106 : decode cX8_init 106 = .ok (.invokespecial 58, 3) := by decide +kernel
theorem dX8_init_109 : decode cX8_init 109 = .ok (.putfield 59, 3) := by decide +kernel
theorem dX8_init_112 : decode cX8_init 112 = .ok (.aload_n 0, 1) := by decide +kernel
theorem dX8_init_113 : decode cX8_init 113 = .ok (.new 63, 3) := by decide +kernel
theorem dX8_init_116 : decode cX8_init 116 = .ok (.dup, 1) := by decide +kernel
theorem dX8_init_117 : decode cX8_init 117 = .ok (.aload_n 0, 1) := by decide +kernel
theorem dX8_init_118 : decode cX8_init 118 = .ok (.getfield 19, 3) := by decide +kernel
theorem dX8_init_121 : decode cX8_init 121 = .ok (.invokespecial 65, 3) := by decide +kernel
theorem dX8_init_124 : decode cX8_init 124 = .ok (.putfield 66, 3) := by decide +kernel
theorem dX8_init_127 : decode cX8_init 127 = .ok (.return_, 1) := by decide +kernel
theorem dX8_write_0 : decode cX8_write 0 = .ok (.iload_n 1, 1) := by decide +kernel
theorem dX8_write_1 : decode cX8_write 1 = .ok (.ifCond .lt 10, 3) := by decide +kernel
