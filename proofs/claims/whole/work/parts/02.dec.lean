theorem dX0_init_0 : decode cX0_init 0 = .ok (.aload_n 0, 1) := by decide +kernel
theorem dX0_init_1 : decode cX0_init 1 = .ok (.invokespecial 3, 3) := by decide +kernel
theorem dX0_init_4 : decode cX0_init 4 = .ok (.aload_n 0, 1) := by decide +kernel
theorem dX0_init_5 : decode cX0_init 5 = .ok (.bipush 12, 2) := by decide +kernel
theorem dX0_init_7 : decode cX0_init 7 = .ok (.anewarray 9, 3) := by decide +kernel
theorem dX0_init_10 : decode cX0_init 10 = .ok (.putfield 11, 3) := by decide +kernel
theorem dX0_init_13 : decode cX0_init 13 = .ok (.iconst 0, 1) := by decide +kernel
theorem dX0_init_14 : decode cX0_init 14 = .ok (.istore_n 1, 1) := by decide +kernel
theorem dX0_init_15 : decode cX0_init 15 = .ok (.iload_n 1, 1) := by decide +kernel
theorem dX0_init_16 : decode cX0_init 16 = .ok (.aload_n 0, 1) := by decide +kernel
theorem dX0_init_17 : decode cX0_init 17 = .ok (.getfield 11, 3) := by decide +kernel
theorem dX0_init_20 : decode cX0_init 20 = .ok (.arraylength, 1) := by decide +kernel
theorem dX0_init_21 : decode cX0_init 21 = .ok (.if_icmp .ge 22, 3) := by decide +kernel
theorem dX0_init_24 : decode cX0_init 24 = .ok (.aload_n 0, 1) := by decide +kernel
theorem dX0_init_25 : decode cX0_init 25 = .ok (.getfield 11, 3) := by decide +kernel
theorem dX0_init_28 : decode cX0_init 28 = .ok (.iload_n 1, 1) := by decide +kernel
theorem dX0_init_29 : decode cX0_init 29 = .ok (.new 9, 3) := by decide +kernel
theorem dX0_init_32 : decode cX0_init 32 = .ok (.dup, 1) := by decide +kernel
theorem dX0_init_33 : decode cX0_init 33 = .ok (.invokespecial 17, 3) := by decide +kernel
theorem dX0_init_36 : decode cX0_init 36 = .ok (.aastore, 1) := by decide +kernel
theorem dX0_init_37 : decode cX0_init 37 = .ok (.iinc 1 1, 3) := by decide +kernel
theorem dX0_init_40 : decode cX0_init 40 = .ok (.goto (-25), 3) := by decide +kernel
theorem dX0_init_43 : decode cX0_init 43 = .ok (.return_, 1) := by decide +kernel
theorem dX0_remember_0 : decode cX0_remember 0 = .ok (.aload_n 0, 1) := by decide +kernel
theorem dX0_remember_1 : decode cX0_remember 1 = .ok (.getfield 18, 3) := by decide +kernel
theorem dX0_remember_4 : decode cX0_remember 4 = .ok (.aload_n 0, 1) := by decide +kernel
theorem dX0_remember_5 : decode cX0_remember 5 = .ok (.getfield 11, 3) := by decide +kernel
theorem dX0_remember_8 : decode cX0_remember 8 = .ok (.arraylength, 1) := by decide +kernel
theorem dX0_remember_9 : decode cX0_remember 9 = .ok (.if_icmp .lt 7, 3) := by decide +kernel
theorem dX0_remember_12 : decode cX0_remember 12 = .ok (.aload_n 0, 1) := by decide +kernel
theorem dX0_remember_13 : decode cX0_remember 13 = .ok (.invokevirtual 22, 3) := by decide +kernel
theorem dX0_remember_16 : decode cX0_remember 16 = .ok (.aload_n 0, 1) := by decide +kernel
theorem dX0_remember_17 : decode cX0_remember 17 = .ok (.getfield 18, 3) := by decide +kernel
theorem dX0_remember_20 : decode cX0_remember 20 = .ok (.ifCond .lt 44, 3) := by decide +kernel
theorem dX0_remember_23 : decode cX0_remember 23 = .ok (.aload_n 0, 1) := by decide +kernel
theorem dX0_remember_24 : decode cX0_remember 24 = .ok (.getfield 18, 3) := by decide +kernel
theorem dX0_remember_27 : decode cX0_remember 27 = .ok (.aload_n 0, 1) := by decide +kernel
theorem dX0_remember_28 : decode cX0_remember 28 = .ok (.getfield 11, 3) := by decide +kernel
theorem dX0_remember_31 : decode cX0_remember 31 = .ok (.arraylength, 1) := by decide +kernel
theorem dX0_remember_32 : decode cX0_remember 32 = .ok (.if_icmp .ge 32, 3) := by decide +kernel
theorem dX0_remember_35 : decode cX0_remember 35 = .ok (.aload_n 0, 1) := by decide +kernel
theorem dX0_remember_36 : decode cX0_remember 36 = .ok (.getfield 11, 3) := by decide +kernel
theorem dX0_remember_39 : decode cX0_remember 39 = .ok (.aload_n 0, 1) := by decide +kernel
theorem dX0_remember_40 : decode cX0_remember 40 = .ok (.getfield 18, 3) := by decide +kernel
theorem dX0_remember_43 : decode cX0_remember 43 = .ok (.aaload, 1) := by decide +kernel
theorem dX0_remember_44 : decode cX0_remember 44 = .ok (.astore_n 2, 1) := by decide +kernel
theorem dX0_remember_45 : decode cX0_remember 45 = .ok (.aload_n 2, 1) := by decide +kernel
theorem dX0_remember_46 : decode cX0_remember 46 = .ok (.ifnull 18, 3) := by decide +kernel
theorem dX0_remember_49 : decode cX0_remember 49 = .ok (.aload_n 2, 1) := by decide +kernel
theorem dX0_remember_50 : decode cX0_remember 50 = .ok (.aload_n 1, 1) := by decide +kernel
theorem dX0_remember_51 : decode cX0_remember 51 = .ok (.invokevirtual 25, 3) := by decide +kernel
theorem dX0_remember_54 : decode cX0_remember 54 = .ok (.aload_n 0, 1) := by decide +kernel
theorem dX0_remember_55 : decode cX0_remember 55 = .ok (.dup, 1) := by decide +kernel
theorem dX0_remember_56 : decode cX0_remember 56 = .ok (.getfield 18, 3) := by decide +kernel
theorem dX0_remember_59 : decode cX0_remember 59 = .ok (.iconst 1, 1) := by decide +kernel
theorem dX0_remember_60 : decode cX0_remember 60 = .ok (.iadd, 1) := by decide +kernel
theorem dX0_remember_61 : decode cX0_remember 61 = .ok (.putfield 18, 3) := by decide +kernel
theorem dX0_remember_64 : decode cX0_remember 64 = .ok (.return_, 1) := by decide +kernel
theorem dX0_forgetFirst_0 : decode cX0_forgetFirst 0 = .ok (.aload_n 0, 1) := by decide +kernel
theorem dX0_forgetFirst_1 : decode cX0_forgetFirst 1 = .ok (.getfield 11, 3) := by decide +kernel
theorem dX0_forgetFirst_4 : decode cX0_forgetFirst 4 = .ok (.arraylength, 1) := by decide +kernel
theorem dX0_forgetFirst_5 : decode cX0_forgetFirst 5 = .ok (.ifCond .ne 4, 3) := by decide +kernel
theorem dX0_forgetFirst_8 : decode cX0_forgetFirst 8 = .ok (.return_, 1) := by decide +kernel
theorem dX0_forgetFirst_9 : decode cX0_forgetFirst 9 = .ok (.aload_n 0, 1) := by decide +kernel
theorem dX0_forgetFirst_10 : decode cX0_forgetFirst 10 = .ok (.getfield 11, 3) := by decide +kernel
theorem dX0_forgetFirst_13 : decode cX0_forgetFirst 13 = .ok (.iconst 0, 1) := by decide +kernel
theorem dX0_forgetFirst_14 : decode cX0_forgetFirst 14 = .ok (.aaload, 1) := by decide +kernel
theorem dX0_forgetFirst_15 : decode cX0_forgetFirst 15 = .ok (.astore_n 1, 1) := by decide +kernel
theorem dX0_forgetFirst_16 : decode cX0_forgetFirst 16 = .ok (.iconst 1, 1) := by decide +kernel
theorem dX0_forgetFirst_17 : decode cX0_forgetFirst 17 = .ok (.istore_n 2, 1) := by decide +kernel
theorem dX0_forgetFirst_18 : decode cX0_forgetFirst 18 = .ok (.iload_n 2, 1) := by decide +kernel
theorem dX0_forgetFirst_19 : decode cX0_forgetFirst 19 = .ok (.aload_n 0, 1) := by decide +kernel
theorem dX0_forgetFirst_20 : decode cX0_forgetFirst 20 = .ok (.getfield 11, 3) := by decide +kernel
theorem dX0_forgetFirst_23 : decode cX0_forgetFirst 23 = .ok (.arraylength, 1) := by decide +kernel
theorem dX0_forgetFirst_24 : decode cX0_forgetFirst 24 = .ok (.if_icmp .ge 23, 3) := by decide +kernel
theorem dX0_forgetFirst_27 : decode cX0_forgetFirst 27 = .ok (.aload_n 0, 1) := by decide +kernel
theorem dX0_forgetFirst_28 : decode cX0_forgetFirst 28 = .ok (.getfield 11, 3) := by decide +kernel
theorem dX0_forgetFirst_31 : decode cX0_forgetFirst 31 = .ok (.iload_n 2, 1) := by decide +kernel
theorem dX0_forgetFirst_32 : decode cX0_forgetFirst 32 = .ok (.iconst 1, 1) := by decide +kernel
theorem dX0_forgetFirst_33 : decode cX0_forgetFirst 33 = .ok (.isub, 1) := by decide +kernel
theorem dX0_forgetFirst_34 : decode cX0_forgetFirst 34 = .ok (.aload_n 0, 1) := by decide +kernel
theorem dX0_forgetFirst_35 : decode cX0_forgetFirst 35 = .ok (.getfield 11, 3) := by decide +kernel
theorem dX0_forgetFirst_38 : decode cX0_forgetFirst 38 = .ok (.iload_n 2, 1) := by decide +kernel
theorem dX0_forgetFirst_39 : decode cX0_forgetFirst 39 = .ok (.aaload, 1) := by decide +kernel
theorem dX0_forgetFirst_40 : decode cX0_forgetFirst 40 = .ok (.aastore, 1) := by decide +kernel
theorem dX0_forgetFirst_41 : decode cX0_forgetFirst 41 = .ok (.iinc 2 1, 3) := by decide +kernel
theorem dX0_forgetFirst_44 : decode cX0_forgetFirst 44 = .ok (.goto (-26), 3) := by decide +kernel
theorem dX0_forgetFirst_47 : decode cX0_forgetFirst 47 = .ok (.aload_n 0, 1) := by decide +kernel
theorem dX0_forgetFirst_48 : decode cX0_forgetFirst 48 = .ok (.getfield 11, 3) := by decide +kernel
theorem dX0_forgetFirst_51 : decode cX0_forgetFirst 51 = .ok (.aload_n 0, 1) := by decide +kernel
theorem dX0_forgetFirst_52 : decode cX0_forgetFirst 52 = .ok (.getfield 11, 3) := by decide +kernel
theorem dX0_forgetFirst_55 : decode cX0_forgetFirst 55 = .ok (.arraylength, 1) := by decide +kernel
theorem dX0_forgetFirst_56 : decode cX0_forgetFirst 56 = .ok (.iconst 1, 1) := by decide +kernel
theorem dX0_forgetFirst_57 : decode cX0_forgetFirst 57 = .ok (.isub, 1) := by decide +kernel
theorem dX0_forgetFirst_58 : decode cX0_forgetFirst 58 = .ok (.aload_n 1, 1) := by decide +kernel
theorem dX0_forgetFirst_59 : decode cX0_forgetFirst 59 = .ok (.aastore, 1) := by decide +kernel
theorem dX0_forgetFirst_60 : decode cX0_forgetFirst 60 = .ok (.aload_n 0, 1) := by decide +kernel
theorem dX0_forgetFirst_61 : decode cX0_forgetFirst 61 = .ok (.aload_n 0, 1) := by decide +kernel
theorem dX0_forgetFirst_62 : decode cX0_forgetFirst 62 = .ok (.getfield 11, 3) := by decide +kernel
theorem dX0_forgetFirst_65 : decode cX0_forgetFirst 65 = .ok (.arraylength, 1) := by decide +kernel
theorem dX0_forgetFirst_66 : decode cX0_forgetFirst 66 = .ok (.iconst 1, 1) := by decide +kernel
theorem dX0_forgetFirst_67 : decode cX0_forgetFirst 67 = .ok (.isub, 1) := by decide +kernel
theorem dX0_forgetFirst_68 : decode cX0_forgetFirst 68 = .ok (.putfield 18, 3) := by decide +kernel
theorem dX0_forgetFirst_71 : decode cX0_forgetFirst 71 = .ok (.return_, 1) := by decide +kernel
theorem dX0_takeBack_0 : decode cX0_takeBack 0 = .ok (.aload_n 0, 1) := by decide +kernel
theorem dX0_takeBack_1 : decode cX0_takeBack 1 = .ok (.getfield 18, 3) := by decide +kernel
theorem dX0_takeBack_4 : decode cX0_takeBack 4 = .ok (.iconst 1, 1) := by decide +kernel
theorem dX0_takeBack_5 : decode cX0_takeBack 5 = .ok (.isub, 1) := by decide +kernel
theorem dX0_takeBack_6 : decode cX0_takeBack 6 = .ok (.istore_n 2, 1) := by decide +kernel
theorem dX0_takeBack_7 : decode cX0_takeBack 7 = .ok (.iload_n 2, 1) := by decide +kernel
theorem dX0_takeBack_8 : decode cX0_takeBack 8 = .ok (.ifCond .lt 12, 3) := by decide +kernel
theorem dX0_takeBack_11 : decode cX0_takeBack 11 = .ok (.iload_n 2, 1) := by decide +kernel
theorem dX0_takeBack_12 : decode cX0_takeBack 12 = .ok (.aload_n 0, 1) := by decide +kernel
theorem dX0_takeBack_13 : decode cX0_takeBack 13 = .ok (.getfield 11, 3) := by decide +kernel
theorem dX0_takeBack_16 : decode cX0_takeBack 16 = .ok (.arraylength, 1) := by decide +kernel
theorem dX0_takeBack_17 : decode cX0_takeBack 17 = .ok (.if_icmp .lt 5, 3) := by decide +kernel
theorem dX0_takeBack_20 : decode cX0_takeBack 20 = .ok (.iconst 0, 1) := by decide +kernel
theorem dX0_takeBack_21 : decode cX0_takeBack 21 = .ok (.ireturn, 1) := by decide +kernel
theorem dX0_takeBack_22 : decode cX0_takeBack 22 = .ok (.aload_n 0, 1) := by decide +kernel
theorem dX0_takeBack_23 : decode cX0_takeBack 23 = .ok (.getfield 11, 3) := by decide +kernel
theorem dX0_takeBack_26 : decode cX0_takeBack 26 = .ok (.iload_n 2, 1) := by decide +kernel
theorem dX0_takeBack_27 : decode cX0_takeBack 27 = .ok (.aaload, 1) := by decide +kernel
theorem dX0_takeBack_28 : decode cX0_takeBack 28 = .ok (.astore_n 3, 1) := by decide +kernel
theorem dX0_takeBack_29 : decode cX0_takeBack 29 = .ok (.aload_n 3, 1) := by decide +kernel
theorem dX0_takeBack_30 : decode cX0_takeBack 30 = .ok (.ifnonnull 5, 3) := by decide +kernel
theorem dX0_takeBack_33 : decode cX0_takeBack 33 = .ok (.iconst 0, 1) := by decide +kernel
theorem dX0_takeBack_34 : decode cX0_takeBack 34 = .ok (.ireturn, 1) := by decide +kernel
theorem dX0_takeBack_35 : decode cX0_takeBack 35 = .ok (.aload_n 1, 1) := by decide +kernel
theorem dX0_takeBack_36 : decode cX0_takeBack 36 = .ok (.aload_n 3, 1) := by decide +kernel
theorem dX0_takeBack_37 : decode cX0_takeBack 37 = .ok (.invokevirtual 25, 3) := by decide +kernel
theorem dX0_takeBack_40 : decode cX0_takeBack 40 = .ok (.aload_n 0, 1) := by decide +kernel
theorem dX0_takeBack_41 : decode cX0_takeBack 41 = .ok (.iload_n 2, 1) := by decide +kernel
theorem dX0_takeBack_42 : decode cX0_takeBack 42 = .ok (.putfield 18, 3) := by decide +kernel
theorem dX0_takeBack_45 : decode cX0_takeBack 45 = .ok (.iconst 1, 1) := by decide +kernel
theorem dX0_takeBack_46 : decode cX0_takeBack 46 = .ok (.ireturn, 1) := by decide +kernel
theorem dX1_init_0 : decode cX1_init 0 = .ok (.aload_n 0, 1) := by decide +kernel
theorem dX1_init_1 : decode cX1_init 1 = .ok (.invokespecial 3, 3) := by decide +kernel
theorem dX1_init_4 : decode cX1_init 4 = .ok (.aload_n 0, 1) := by decide +kernel
theorem dX1_init_5 : decode cX1_init 5 = .ok (.bipush 48, 2) := by decide +kernel
theorem dX1_init_7 : decode cX1_init 7 = .ok (.newarray .int, 2) := by decide +kernel
theorem dX1_init_9 : decode cX1_init 9 = .ok (.putfield 9, 3) := by decide +kernel
theorem dX1_init_12 : decode cX1_init 12 = .ok (.return_, 1) := by decide +kernel
theorem dX1_clear_0 : decode cX1_clear 0 = .ok (.aload_n 0, 1) := by decide +kernel
theorem dX1_clear_1 : decode cX1_clear 1 = .ok (.iconst 0, 1) := by decide +kernel
theorem dX1_clear_2 : decode cX1_clear 2 = .ok (.putfield 15, 3) := by decide +kernel
theorem dX1_clear_5 : decode cX1_clear 5 = .ok (.aload_n 0, 1) := by decide +kernel
theorem dX1_clear_6 : decode cX1_clear 6 = .ok (.iconst 0, 1) := by decide +kernel
theorem dX1_clear_7 : decode cX1_clear 7 = .ok (.putfield 19, 3) := by decide +kernel
theorem dX1_clear_10 : decode cX1_clear 10 = .ok (.aload_n 0, 1) := by decide +kernel
theorem dX1_clear_11 : decode cX1_clear 11 = .ok (.iconst 0, 1) := by decide +kernel
theorem dX1_clear_12 : decode cX1_clear 12 = .ok (.putfield 22, 3) := by decide +kernel
theorem dX1_clear_15 : decode cX1_clear 15 = .ok (.aload_n 0, 1) := by decide +kernel
theorem dX1_clear_16 : decode cX1_clear 16 = .ok (.iconst 0, 1) := by decide +kernel
theorem dX1_clear_17 : decode cX1_clear 17 = .ok (.putfield 25, 3) := by decide +kernel
theorem dX1_clear_20 : decode cX1_clear 20 = .ok (.return_, 1) := by decide +kernel
theorem dX1_take_0 : decode cX1_take 0 = .ok (.aload_n 1, 1) := by decide +kernel
theorem dX1_take_1 : decode cX1_take 1 = .ok (.getfield 15, 3) := by decide +kernel
theorem dX1_take_4 : decode cX1_take 4 = .ok (.bipush 6, 2) := by decide +kernel
theorem dX1_take_6 : decode cX1_take 6 = .ok (.imul, 1) := by decide +kernel
theorem dX1_take_7 : decode cX1_take 7 = .ok (.aload_n 0, 1) := by decide +kernel
theorem dX1_take_8 : decode cX1_take 8 = .ok (.getfield 9, 3) := by decide +kernel
theorem dX1_take_11 : decode cX1_take 11 = .ok (.arraylength, 1) := by decide +kernel
theorem dX1_take_12 : decode cX1_take 12 = .ok (.aload_n 1, 1) := by decide +kernel
theorem dX1_take_13 : decode cX1_take 13 = .ok (.getfield 9, 3) := by decide +kernel
theorem dX1_take_16 : decode cX1_take 16 = .ok (.arraylength, 1) := by decide +kernel
theorem dX1_take_17 : decode cX1_take 17 = .ok (.invokestatic 28, 3) := by decide +kernel
theorem dX1_take_20 : decode cX1_take 20 = .ok (.invokestatic 28, 3) := by decide +kernel
theorem dX1_take_23 : decode cX1_take 23 = .ok (.istore_n 2, 1) := by decide +kernel
theorem dX1_take_24 : decode cX1_take 24 = .ok (.iconst 0, 1) := by decide +kernel
theorem dX1_take_25 : decode cX1_take 25 = .ok (.istore_n 3, 1) := by decide +kernel
theorem dX1_take_26 : decode cX1_take 26 = .ok (.iload_n 3, 1) := by decide +kernel
theorem dX1_take_27 : decode cX1_take 27 = .ok (.iload_n 2, 1) := by decide +kernel
theorem dX1_take_28 : decode cX1_take 28 = .ok (.if_icmp .ge 21, 3) := by decide +kernel
theorem dX1_take_31 : decode cX1_take 31 = .ok (.aload_n 0, 1) := by decide +kernel
theorem dX1_take_32 : decode cX1_take 32 = .ok (.getfield 9, 3) := by decide +kernel
theorem dX1_take_35 : decode cX1_take 35 = .ok (.iload_n 3, 1) := by decide +kernel
theorem dX1_take_36 : decode cX1_take 36 = .ok (.aload_n 1, 1) := by decide +kernel
theorem dX1_take_37 : decode cX1_take 37 = .ok (.getfield 9, 3) := by decide +kernel
theorem dX1_take_40 : decode cX1_take 40 = .ok (.iload_n 3, 1) := by decide +kernel
theorem dX1_take_41 : decode cX1_take 41 = .ok (.iaload, 1) := by decide +kernel
theorem dX1_take_42 : decode cX1_take 42 = .ok (.iastore, 1) := by decide +kernel
theorem dX1_take_43 : decode cX1_take 43 = .ok (.iinc 3 1, 3) := by decide +kernel
theorem dX1_take_46 : decode cX1_take 46 = .ok (.goto (-20), 3) := by decide +kernel
theorem dX1_take_49 : decode cX1_take 49 = .ok (.aload_n 0, 1) := by decide +kernel
theorem dX1_take_50 : decode cX1_take 50 = .ok (.aload_n 1, 1) := by decide +kernel
theorem dX1_take_51 : decode cX1_take 51 = .ok (.getfield 15, 3) := by decide +kernel
theorem dX1_take_54 : decode cX1_take 54 = .ok (.putfield 15, 3) := by decide +kernel
theorem dX1_take_57 : decode cX1_take 57 = .ok (.aload_n 0, 1) := by decide +kernel
theorem dX1_take_58 : decode cX1_take 58 = .ok (.aload_n 1, 1) := by decide +kernel
theorem dX1_take_59 : decode cX1_take 59 = .ok (.getfield 19, 3) := by decide +kernel
theorem dX1_take_62 : decode cX1_take 62 = .ok (.putfield 19, 3) := by decide +kernel
theorem dX1_take_65 : decode cX1_take 65 = .ok (.aload_n 0, 1) := by decide +kernel
theorem dX1_take_66 : decode cX1_take 66 = .ok (.aload_n 1, 1) := by decide +kernel
theorem dX1_take_67 : decode cX1_take 67 = .ok (.getfield 22, 3) := by decide +kernel
theorem dX1_take_70 : decode cX1_take 70 = .ok (.putfield 22, 3) := by decide +kernel
theorem dX1_take_73 : decode cX1_take 73 = .ok (.aload_n 0, 1) := by decide +kernel
theorem dX1_take_74 : decode cX1_take 74 = .ok (.aload_n 1, 1) := by decide +kernel
theorem dX1_take_75 : decode cX1_take 75 = .ok (.getfield 25, 3) := by decide +kernel
theorem dX1_take_78 : decode cX1_take 78 = .ok (.putfield 25, 3) := by decide +kernel
theorem dX1_take_81 : decode cX1_take 81 = .ok (.return_, 1) := by decide +kernel
theorem dX1_has_0 : decode cX1_has 0 = .ok (.iload_n 1, 1) := by decide +kernel
theorem dX1_has_1 : decode cX1_has 1 = .ok (.ifCond .lt 15, 3) := by decide +kernel
theorem dX1_has_4 : decode cX1_has 4 = .ok (.iload_n 1, 1) := by decide +kernel
theorem dX1_has_5 : decode cX1_has 5 = .ok (.aload_n 0, 1) := by decide +kernel
theorem dX1_has_6 : decode cX1_has 6 = .ok (.getfield 15, 3) := by decide +kernel
theorem dX1_has_9 : decode cX1_has 9 = .ok (.if_icmp .ge 7, 3) := by decide +kernel
theorem dX1_has_12 : decode cX1_has 12 = .ok (.iconst 1, 1) := by decide +kernel
theorem dX1_has_13 : decode cX1_has 13 = .ok (.goto 4, 3) := by decide +kernel
theorem dX1_has_16 : decode cX1_has 16 = .ok (.iconst 0, 1) := by decide +kernel
theorem dX1_has_17 : decode cX1_has 17 = .ok (.ireturn, 1) := by decide +kernel
theorem dX1_get_0 : decode cX1_get 0 = .ok (.iload_n 1, 1) := by decide +kernel
theorem dX1_get_1 : decode cX1_get 1 = .ok (.bipush 6, 2) := by decide +kernel
theorem dX1_get_3 : decode cX1_get 3 = .ok (.imul, 1) := by decide +kernel
theorem dX1_get_4 : decode cX1_get 4 = .ok (.iload_n 2, 1) := by decide +kernel
theorem dX1_get_5 : decode cX1_get 5 = .ok (.iadd, 1) := by decide +kernel
theorem dX1_get_6 : decode cX1_get 6 = .ok (.istore_n 3, 1) := by decide +kernel
theorem dX1_get_7 : decode cX1_get 7 = .ok (.iload_n 3, 1) := by decide +kernel
theorem dX1_get_8 : decode cX1_get 8 = .ok (.ifCond .lt 21, 3) := by decide +kernel
theorem dX1_get_11 : decode cX1_get 11 = .ok (.iload_n 3, 1) := by decide +kernel
theorem dX1_get_12 : decode cX1_get 12 = .ok (.aload_n 0, 1) := by decide +kernel
theorem dX1_get_13 : decode cX1_get 13 = .ok (.getfield 9, 3) := by decide +kernel
theorem dX1_get_16 : decode cX1_get 16 = .ok (.arraylength, 1) := by decide +kernel
theorem dX1_get_17 : decode cX1_get 17 = .ok (.if_icmp .ge 12, 3) := by decide +kernel
theorem dX1_get_20 : decode cX1_get 20 = .ok (.aload_n 0, 1) := by decide +kernel
theorem dX1_get_21 : decode cX1_get 21 = .ok (.getfield 9, 3) := by decide +kernel
theorem dX1_get_24 : decode cX1_get 24 = .ok (.iload_n 3, 1) := by decide +kernel
theorem dX1_get_25 : decode cX1_get 25 = .ok (.iaload, 1) := by decide +kernel
theorem dX1_get_26 : decode cX1_get 26 = .ok (.goto 4, 3) := by decide +kernel
theorem dX1_get_29 : decode cX1_get 29 = .ok (.iconst 0, 1) := by decide +kernel
theorem dX1_get_30 : decode cX1_get 30 = .ok (.ireturn, 1) := by decide +kernel
theorem dX1_set_0 : decode cX1_set 0 = .ok (.iload_n 1, 1) := by decide +kernel
theorem dX1_set_1 : decode cX1_set 1 = .ok (.bipush 6, 2) := by decide +kernel
theorem dX1_set_3 : decode cX1_set 3 = .ok (.imul, 1) := by decide +kernel
theorem dX1_set_4 : decode cX1_set 4 = .ok (.iload_n 2, 1) := by decide +kernel
theorem dX1_set_5 : decode cX1_set 5 = .ok (.iadd, 1) := by decide +kernel
theorem dX1_set_6 : decode cX1_set 6 = .ok (.istore 4, 2) := by decide +kernel
theorem dX1_set_8 : decode cX1_set 8 = .ok (.iload 4, 2) := by decide +kernel
theorem dX1_set_10 : decode cX1_set 10 = .ok (.ifCond .lt 21, 3) := by decide +kernel
theorem dX1_set_13 : decode cX1_set 13 = .ok (.iload 4, 2) := by decide +kernel
theorem dX1_set_15 : decode cX1_set 15 = .ok (.aload_n 0, 1) := by decide +kernel
theorem dX1_set_16 : decode cX1_set 16 = .ok (.getfield 9, 3) := by decide +kernel
theorem dX1_set_19 : decode cX1_set 19 = .ok (.arraylength, 1) := by decide +kernel
theorem dX1_set_20 : decode cX1_set 20 = .ok (.if_icmp .ge 11, 3) := by decide +kernel
theorem dX1_set_23 : decode cX1_set 23 = .ok (.aload_n 0, 1) := by decide +kernel
theorem dX1_set_24 : decode cX1_set 24 = .ok (.getfield 9, 3) := by decide +kernel
theorem dX1_set_27 : decode cX1_set 27 = .ok (.iload 4, 2) := by decide +kernel
theorem dX1_set_29 : decode cX1_set 29 = .ok (.iload_n 3, 1) := by decide +kernel
theorem dX1_set_30 : decode cX1_set 30 = .ok (.iastore, 1) := by decide +kernel
theorem dX1_set_31 : decode cX1_set 31 = .ok (.return_, 1) := by decide +kernel
theorem dX1_add_0 : decode cX1_add 0 = .ok (.aload_n 0, 1) := by decide +kernel
theorem dX1_add_1 : decode cX1_add 1 = .ok (.getfield 15, 3) := by decide +kernel
theorem dX1_add_4 : decode cX1_add 4 = .ok (.istore 6, 2) := by decide +kernel
theorem dX1_add_6 : decode cX1_add 6 = .ok (.iload 6, 2) := by decide +kernel
theorem dX1_add_8 : decode cX1_add 8 = .ok (.bipush 8, 2) := by decide +kernel
theorem dX1_add_10 : decode cX1_add 10 = .ok (.if_icmp .lt 6, 3) := by decide +kernel
theorem dX1_add_13 : decode cX1_add 13 = .ok (.bipush (-4), 2) := by decide +kernel
theorem dX1_add_15 : decode cX1_add 15 = .ok (.ireturn, 1) := by decide +kernel
theorem dX1_add_16 : decode cX1_add 16 = .ok (.aload_n 0, 1) := by decide +kernel
theorem dX1_add_17 : decode cX1_add 17 = .ok (.iload 6, 2) := by decide +kernel
theorem dX1_add_19 : decode cX1_add 19 = .ok (.iconst 0, 1) := by decide +kernel
theorem dX1_add_20 : decode cX1_add 20 = .ok (.iload_n 1, 1) := by decide +kernel
theorem dX1_add_21 : decode cX1_add 21 = .ok (.invokevirtual 34, 3) := by decide +kernel
theorem dX1_add_24 : decode cX1_add 24 = .ok (.aload_n 0, 1) := by decide +kernel
theorem dX1_add_25 : decode cX1_add 25 = .ok (.iload 6, 2) := by decide +kernel
theorem dX1_add_27 : decode cX1_add 27 = .ok (.iconst 1, 1) := by decide +kernel
theorem dX1_add_28 : decode cX1_add 28 = .ok (.iload_n 2, 1) := by decide +kernel
theorem dX1_add_29 : decode cX1_add 29 = .ok (.invokevirtual 34, 3) := by decide +kernel
theorem dX1_add_32 : decode cX1_add 32 = .ok (.aload_n 0, 1) := by decide +kernel
theorem dX1_add_33 : decode cX1_add 33 = .ok (.iload 6, 2) := by decide +kernel
theorem dX1_add_35 : decode cX1_add 35 = .ok (.iconst 2, 1) := by decide +kernel
theorem dX1_add_36 : decode cX1_add 36 = .ok (.iload_n 3, 1) := by decide +kernel
theorem dX1_add_37 : decode cX1_add 37 = .ok (.invokevirtual 34, 3) := by decide +kernel
theorem dX1_add_40 : decode cX1_add 40 = .ok (.aload_n 0, 1) := by decide +kernel
theorem dX1_add_41 : decode cX1_add 41 = .ok (.iload 6, 2) := by decide +kernel
theorem dX1_add_43 : decode cX1_add 43 = .ok (.iconst 3, 1) := by decide +kernel
theorem dX1_add_44 : decode cX1_add 44 = .ok (.iload 4, 2) := by decide +kernel
theorem dX1_add_46 : decode cX1_add 46 = .ok (.invokevirtual 34, 3) := by decide +kernel
theorem dX1_add_49 : decode cX1_add 49 = .ok (.aload_n 0, 1) := by decide +kernel
theorem dX1_add_50 : decode cX1_add 50 = .ok (.iload 6, 2) := by decide +kernel
theorem dX1_add_52 : decode cX1_add 52 = .ok (.iconst 4, 1) := by decide +kernel
theorem dX1_add_53 : decode cX1_add 53 = .ok (.iconst 0, 1) := by decide +kernel
theorem dX1_add_54 : decode cX1_add 54 = .ok (.invokevirtual 34, 3) := by decide +kernel
theorem dX1_add_57 : decode cX1_add 57 = .ok (.aload_n 0, 1) := by decide +kernel
theorem dX1_add_58 : decode cX1_add 58 = .ok (.iload 6, 2) := by decide +kernel
theorem dX1_add_60 : decode cX1_add 60 = .ok (.iconst 5, 1) := by decide +kernel
theorem dX1_add_61 : decode cX1_add 61 = .ok (.iload 5, 2) := by decide +kernel
theorem dX1_add_63 : decode cX1_add 63 = .ok (.invokevirtual 34, 3) := by decide +kernel
theorem dX1_add_66 : decode cX1_add 66 = .ok (.aload_n 0, 1) := by decide +kernel
theorem dX1_add_67 : decode cX1_add 67 = .ok (.dup, 1) := by decide +kernel
theorem dX1_add_68 : decode cX1_add 68 = .ok (.getfield 15, 3) := by decide +kernel
theorem dX1_add_71 : decode cX1_add 71 = .ok (.iconst 1, 1) := by decide +kernel
theorem dX1_add_72 : decode cX1_add 72 = .ok (.iadd, 1) := by decide +kernel
theorem dX1_add_73 : decode cX1_add 73 = .ok (.putfield 15, 3) := by decide +kernel
theorem dX1_add_76 : decode cX1_add 76 = .ok (.iload 6, 2) := by decide +kernel
theorem dX1_add_78 : decode cX1_add 78 = .ok (.ireturn, 1) := by decide +kernel
theorem dX1_hasLid_0 : decode cX1_hasLid 0 = .ok (.aload_n 0, 1) := by decide +kernel
theorem dX1_hasLid_1 : decode cX1_hasLid 1 = .ok (.getfield 19, 3) := by decide +kernel
theorem dX1_hasLid_4 : decode cX1_hasLid 4 = .ok (.iload_n 1, 1) := by decide +kernel
theorem dX1_hasLid_5 : decode cX1_hasLid 5 = .ok (.ishr, 1) := by decide +kernel
theorem dX1_hasLid_6 : decode cX1_hasLid 6 = .ok (.iconst 1, 1) := by decide +kernel
theorem dX1_hasLid_7 : decode cX1_hasLid 7 = .ok (.iand, 1) := by decide +kernel
theorem dX1_hasLid_8 : decode cX1_hasLid 8 = .ok (.iconst 1, 1) := by decide +kernel
theorem dX1_hasLid_9 : decode cX1_hasLid 9 = .ok (.if_icmp .ne 7, 3) := by decide +kernel
theorem dX1_hasLid_12 : decode cX1_hasLid 12 = .ok (.iconst 1, 1) := by decide +kernel
theorem dX1_hasLid_13 : decode cX1_hasLid 13 = .ok (.goto 4, 3) := by decide +kernel
theorem dX1_hasLid_16 : decode cX1_hasLid 16 = .ok (.iconst 0, 1) := by decide +kernel
theorem dX1_hasLid_17 : decode cX1_hasLid 17 = .ok (.ireturn, 1) := by decide +kernel
theorem dX1_songsIn_0 : decode cX1_songsIn 0 = .ok (.iconst 0, 1) := by decide +kernel
theorem dX1_songsIn_1 : decode cX1_songsIn 1 = .ok (.istore_n 2, 1) := by decide +kernel
theorem dX1_songsIn_2 : decode cX1_songsIn 2 = .ok (.iconst 0, 1) := by decide +kernel
theorem dX1_songsIn_3 : decode cX1_songsIn 3 = .ok (.istore_n 3, 1) := by decide +kernel
theorem dX1_songsIn_4 : decode cX1_songsIn 4 = .ok (.iload_n 3, 1) := by decide +kernel
theorem dX1_songsIn_5 : decode cX1_songsIn 5 = .ok (.aload_n 0, 1) := by decide +kernel
theorem dX1_songsIn_6 : decode cX1_songsIn 6 = .ok (.getfield 15, 3) := by decide +kernel
theorem dX1_songsIn_9 : decode cX1_songsIn 9 = .ok (.if_icmp .ge 29, 3) := by decide +kernel
theorem dX1_songsIn_12 : decode cX1_songsIn 12 = .ok (.iload_n 2, 1) := by decide +kernel
theorem dX1_songsIn_13 : decode cX1_songsIn 13 = .ok (.aload_n 0, 1) := by decide +kernel
theorem dX1_songsIn_14 : decode cX1_songsIn 14 = .ok (.iload_n 3, 1) := by decide +kernel
theorem dX1_songsIn_15 : decode cX1_songsIn 15 = .ok (.iconst 1, 1) := by decide +kernel
theorem dX1_songsIn_16 : decode cX1_songsIn 16 = .ok (.invokevirtual 38, 3) := by decide +kernel
theorem dX1_songsIn_19 : decode cX1_songsIn 19 = .ok (.iload_n 1, 1) := by decide +kernel
theorem dX1_songsIn_20 : decode cX1_songsIn 20 = .ok (.if_icmp .ne 9, 3) := by decide +kernel
theorem dX1_songsIn_23 : decode cX1_songsIn 23 = .ok (.iconst 1, 1) := by decide +kernel
theorem dX1_songsIn_24 : decode cX1_songsIn 24 = .ok (.iload_n 3, 1) := by decide +kernel
theorem dX1_songsIn_25 : decode cX1_songsIn 25 = .ok (.ishl, 1) := by decide +kernel
theorem dX1_songsIn_26 : decode cX1_songsIn 26 = .ok (.goto 4, 3) := by decide +kernel
theorem dX1_songsIn_29 : decode cX1_songsIn 29 = .ok (.iconst 0, 1) := by decide +kernel
theorem dX1_songsIn_30 : decode cX1_songsIn 30 = .ok (.ior, 1) := by decide +kernel
theorem dX1_songsIn_31 : decode cX1_songsIn 31 = .ok (.istore_n 2, 1) := by decide +kernel
theorem dX1_songsIn_32 : decode cX1_songsIn 32 = .ok (.iinc 3 1, 3) := by decide +kernel
theorem dX1_songsIn_35 : decode cX1_songsIn 35 = .ok (.goto (-31), 3) := by decide +kernel
theorem dX1_songsIn_38 : decode cX1_songsIn 38 = .ok (.iload_n 2, 1) := by decide +kernel
theorem dX1_songsIn_39 : decode cX1_songsIn 39 = .ok (.ireturn, 1) := by decide +kernel
theorem dX1_lawsHad_0 : decode cX1_lawsHad 0 = .ok (.aload_n 0, 1) := by decide +kernel
theorem dX1_lawsHad_1 : decode cX1_lawsHad 1 = .ok (.iconst 1, 1) := by decide +kernel
theorem dX1_lawsHad_2 : decode cX1_lawsHad 2 = .ok (.aload_n 0, 1) := by decide +kernel
theorem dX1_lawsHad_3 : decode cX1_lawsHad 3 = .ok (.getfield 15, 3) := by decide +kernel
theorem dX1_lawsHad_6 : decode cX1_lawsHad 6 = .ok (.ishl, 1) := by decide +kernel
theorem dX1_lawsHad_7 : decode cX1_lawsHad 7 = .ok (.iconst 1, 1) := by decide +kernel
theorem dX1_lawsHad_8 : decode cX1_lawsHad 8 = .ok (.isub, 1) := by decide +kernel
theorem dX1_lawsHad_9 : decode cX1_lawsHad 9 = .ok (.invokevirtual 41, 3) := by decide +kernel
theorem dX1_lawsHad_12 : decode cX1_lawsHad 12 = .ok (.ireturn, 1) := by decide +kernel
theorem dX1_lawsOf_0 : decode cX1_lawsOf 0 = .ok (.iconst 0, 1) := by decide +kernel
theorem dX1_lawsOf_1 : decode cX1_lawsOf 1 = .ok (.istore_n 2, 1) := by decide +kernel
theorem dX1_lawsOf_2 : decode cX1_lawsOf 2 = .ok (.iconst 0, 1) := by decide +kernel
theorem dX1_lawsOf_3 : decode cX1_lawsOf 3 = .ok (.istore_n 3, 1) := by decide +kernel
theorem dX1_lawsOf_4 : decode cX1_lawsOf 4 = .ok (.iload_n 3, 1) := by decide +kernel
theorem dX1_lawsOf_5 : decode cX1_lawsOf 5 = .ok (.aload_n 0, 1) := by decide +kernel
theorem dX1_lawsOf_6 : decode cX1_lawsOf 6 = .ok (.getfield 15, 3) := by decide +kernel
theorem dX1_lawsOf_9 : decode cX1_lawsOf 9 = .ok (.if_icmp .ge 33, 3) := by decide +kernel
theorem dX1_lawsOf_12 : decode cX1_lawsOf 12 = .ok (.iload_n 2, 1) := by decide +kernel
theorem dX1_lawsOf_13 : decode cX1_lawsOf 13 = .ok (.iload_n 1, 1) := by decide +kernel
theorem dX1_lawsOf_14 : decode cX1_lawsOf 14 = .ok (.iload_n 3, 1) := by decide +kernel
theorem dX1_lawsOf_15 : decode cX1_lawsOf 15 = .ok (.ishr, 1) := by decide +kernel
theorem dX1_lawsOf_16 : decode cX1_lawsOf 16 = .ok (.iconst 1, 1) := by decide +kernel
theorem dX1_lawsOf_17 : decode cX1_lawsOf 17 = .ok (.iand, 1) := by decide +kernel
theorem dX1_lawsOf_18 : decode cX1_lawsOf 18 = .ok (.iconst 1, 1) := by decide +kernel
theorem dX1_lawsOf_19 : decode cX1_lawsOf 19 = .ok (.if_icmp .ne 14, 3) := by decide +kernel
theorem dX1_lawsOf_22 : decode cX1_lawsOf 22 = .ok (.iconst 1, 1) := by decide +kernel
theorem dX1_lawsOf_23 : decode cX1_lawsOf 23 = .ok (.aload_n 0, 1) := by decide +kernel
theorem dX1_lawsOf_24 : decode cX1_lawsOf 24 = .ok (.iload_n 3, 1) := by decide +kernel
theorem dX1_lawsOf_25 : decode cX1_lawsOf 25 = .ok (.iconst 0, 1) := by decide +kernel
theorem dX1_lawsOf_26 : decode cX1_lawsOf 26 = .ok (.invokevirtual 38, 3) := by decide +kernel
theorem dX1_lawsOf_29 : decode cX1_lawsOf 29 = .ok (.ishl, 1) := by decide +kernel
theorem dX1_lawsOf_30 : decode cX1_lawsOf 30 = .ok (.goto 4, 3) := by decide +kernel
theorem dX1_lawsOf_33 : decode cX1_lawsOf 33 = .ok (.iconst 0, 1) := by decide +kernel
theorem dX1_lawsOf_34 : decode cX1_lawsOf 34 = .ok (.ior, 1) := by decide +kernel
theorem dX1_lawsOf_35 : decode cX1_lawsOf 35 = .ok (.istore_n 2, 1) := by decide +kernel
theorem dX1_lawsOf_36 : decode cX1_lawsOf 36 = .ok (.iinc 3 1, 3) := by decide +kernel
theorem dX1_lawsOf_39 : decode cX1_lawsOf 39 = .ok (.goto (-35), 3) := by decide +kernel
theorem dX1_lawsOf_42 : decode cX1_lawsOf 42 = .ok (.iload_n 2, 1) := by decide +kernel
theorem dX1_lawsOf_43 : decode cX1_lawsOf 43 = .ok (.ireturn, 1) := by decide +kernel
theorem dX1_copiesOf_0 : decode cX1_copiesOf 0 = .ok (.iconst 0, 1) := by decide +kernel
theorem dX1_copiesOf_1 : decode cX1_copiesOf 1 = .ok (.istore_n 3, 1) := by decide +kernel
theorem dX1_copiesOf_2 : decode cX1_copiesOf 2 = .ok (.iconst 0, 1) := by decide +kernel
theorem dX1_copiesOf_3 : decode cX1_copiesOf 3 = .ok (.istore 4, 2) := by decide +kernel
theorem dX1_copiesOf_5 : decode cX1_copiesOf 5 = .ok (.iload 4, 2) := by decide +kernel
theorem dX1_copiesOf_7 : decode cX1_copiesOf 7 = .ok (.aload_n 0, 1) := by decide +kernel
theorem dX1_copiesOf_8 : decode cX1_copiesOf 8 = .ok (.getfield 15, 3) := by decide +kernel
theorem dX1_copiesOf_11 : decode cX1_copiesOf 11 = .ok (.if_icmp .ge 39, 3) := by decide +kernel
theorem dX1_copiesOf_14 : decode cX1_copiesOf 14 = .ok (.iload_n 3, 1) := by decide +kernel
theorem dX1_copiesOf_15 : decode cX1_copiesOf 15 = .ok (.aload_n 0, 1) := by decide +kernel
theorem dX1_copiesOf_16 : decode cX1_copiesOf 16 = .ok (.iload 4, 2) := by decide +kernel
theorem dX1_copiesOf_18 : decode cX1_copiesOf 18 = .ok (.iconst 0, 1) := by decide +kernel
theorem dX1_copiesOf_19 : decode cX1_copiesOf 19 = .ok (.invokevirtual 38, 3) := by decide +kernel
theorem dX1_copiesOf_22 : decode cX1_copiesOf 22 = .ok (.iload_n 1, 1) := by decide +kernel
theorem dX1_copiesOf_23 : decode cX1_copiesOf 23 = .ok (.if_icmp .ne 18, 3) := by decide +kernel
theorem dX1_copiesOf_26 : decode cX1_copiesOf 26 = .ok (.aload_n 0, 1) := by decide +kernel
theorem dX1_copiesOf_27 : decode cX1_copiesOf 27 = .ok (.iload 4, 2) := by decide +kernel
theorem dX1_copiesOf_29 : decode cX1_copiesOf 29 = .ok (.iconst 3, 1) := by decide +kernel
theorem dX1_copiesOf_30 : decode cX1_copiesOf 30 = .ok (.invokevirtual 38, 3) := by decide +kernel
theorem dX1_copiesOf_33 : decode cX1_copiesOf 33 = .ok (.iload_n 2, 1) := by decide +kernel
theorem dX1_copiesOf_34 : decode cX1_copiesOf 34 = .ok (.if_icmp .ne 7, 3) := by decide +kernel
theorem dX1_copiesOf_37 : decode cX1_copiesOf 37 = .ok (.iconst 1, 1) := by decide +kernel
theorem dX1_copiesOf_38 : decode cX1_copiesOf 38 = .ok (.goto 4, 3) := by decide +kernel
theorem dX1_copiesOf_41 : decode cX1_copiesOf 41 = .ok (.iconst 0, 1) := by decide +kernel
theorem dX1_copiesOf_42 : decode cX1_copiesOf 42 = .ok (.iadd, 1) := by decide +kernel
theorem dX1_copiesOf_43 : decode cX1_copiesOf 43 = .ok (.istore_n 3, 1) := by decide +kernel
theorem dX1_copiesOf_44 : decode cX1_copiesOf 44 = .ok (.iinc 4 1, 3) := by decide +kernel
theorem dX1_copiesOf_47 : decode cX1_copiesOf 47 = .ok (.goto (-42), 3) := by decide +kernel
theorem dX1_copiesOf_50 : decode cX1_copiesOf 50 = .ok (.iload_n 3, 1) := by decide +kernel
theorem dX1_copiesOf_51 : decode cX1_copiesOf 51 = .ok (.ireturn, 1) := by decide +kernel
theorem dX1_hasLawIn_0 : decode cX1_hasLawIn 0 = .ok (.aload_n 0, 1) := by decide +kernel
theorem dX1_hasLawIn_1 : decode cX1_hasLawIn 1 = .ok (.aload_n 0, 1) := by decide +kernel
theorem dX1_hasLawIn_2 : decode cX1_hasLawIn 2 = .ok (.iload_n 2, 1) := by decide +kernel
theorem dX1_hasLawIn_3 : decode cX1_hasLawIn 3 = .ok (.invokevirtual 45, 3) := by decide +kernel
theorem dX1_hasLawIn_6 : decode cX1_hasLawIn 6 = .ok (.invokevirtual 41, 3) := by decide +kernel
theorem dX1_hasLawIn_9 : decode cX1_hasLawIn 9 = .ok (.iload_n 1, 1) := by decide +kernel
theorem dX1_hasLawIn_10 : decode cX1_hasLawIn 10 = .ok (.ishr, 1) := by decide +kernel
theorem dX1_hasLawIn_11 : decode cX1_hasLawIn 11 = .ok (.iconst 1, 1) := by decide +kernel
theorem dX1_hasLawIn_12 : decode cX1_hasLawIn 12 = .ok (.iand, 1) := by decide +kernel
theorem dX1_hasLawIn_13 : decode cX1_hasLawIn 13 = .ok (.iconst 1, 1) := by decide +kernel
theorem dX1_hasLawIn_14 : decode cX1_hasLawIn 14 = .ok (.if_icmp .ne 7, 3) := by decide +kernel
theorem dX1_hasLawIn_17 : decode cX1_hasLawIn 17 = .ok (.iconst 1, 1) := by decide +kernel
theorem dX1_hasLawIn_18 : decode cX1_hasLawIn 18 = .ok (.goto 4, 3) := by decide +kernel
theorem dX1_hasLawIn_21 : decode cX1_hasLawIn 21 = .ok (.iconst 0, 1) := by decide +kernel
theorem dX1_hasLawIn_22 : decode cX1_hasLawIn 22 = .ok (.ireturn, 1) := by decide +kernel
theorem dX1_isSafe_0 : decode cX1_isSafe 0 = .ok (.iconst 0, 1) := by decide +kernel
theorem dX1_isSafe_1 : decode cX1_isSafe 1 = .ok (.istore_n 2, 1) := by decide +kernel
theorem dX1_isSafe_2 : decode cX1_isSafe 2 = .ok (.iload_n 2, 1) := by decide +kernel
theorem dX1_isSafe_3 : decode cX1_isSafe 3 = .ok (.aload_n 0, 1) := by decide +kernel
theorem dX1_isSafe_4 : decode cX1_isSafe 4 = .ok (.getfield 15, 3) := by decide +kernel
theorem dX1_isSafe_7 : decode cX1_isSafe 7 = .ok (.if_icmp .ge 54, 3) := by decide +kernel
theorem dX1_isSafe_10 : decode cX1_isSafe 10 = .ok (.aload_n 0, 1) := by decide +kernel
theorem dX1_isSafe_11 : decode cX1_isSafe 11 = .ok (.aload_n 0, 1) := by decide +kernel
theorem dX1_isSafe_12 : decode cX1_isSafe 12 = .ok (.iload_n 2, 1) := by decide +kernel
theorem dX1_isSafe_13 : decode cX1_isSafe 13 = .ok (.iconst 1, 1) := by decide +kernel
theorem dX1_isSafe_14 : decode cX1_isSafe 14 = .ok (.invokevirtual 38, 3) := by decide +kernel
theorem dX1_isSafe_17 : decode cX1_isSafe 17 = .ok (.invokevirtual 48, 3) := by decide +kernel
theorem dX1_isSafe_20 : decode cX1_isSafe 20 = .ok (.ifCond .ne 13, 3) := by decide +kernel
theorem dX1_isSafe_23 : decode cX1_isSafe 23 = .ok (.aload_n 0, 1) := by decide +kernel
theorem dX1_isSafe_24 : decode cX1_isSafe 24 = .ok (.iload_n 2, 1) := by decide +kernel
theorem dX1_isSafe_25 : decode cX1_isSafe 25 = .ok (.iconst 2, 1) := by decide +kernel
theorem dX1_isSafe_26 : decode cX1_isSafe 26 = .ok (.invokevirtual 38, 3) := by decide +kernel
theorem dX1_isSafe_29 : decode cX1_isSafe 29 = .ok (.iconst 3, 1) := by decide +kernel
theorem dX1_isSafe_30 : decode cX1_isSafe 30 = .ok (.if_icmp .le 7, 3) := by decide +kernel
theorem dX1_isSafe_33 : decode cX1_isSafe 33 = .ok (.iconst 1, 1) := by decide +kernel
theorem dX1_isSafe_34 : decode cX1_isSafe 34 = .ok (.goto 4, 3) := by decide +kernel
theorem dX1_isSafe_37 : decode cX1_isSafe 37 = .ok (.iconst 0, 1) := by decide +kernel
theorem dX1_isSafe_38 : decode cX1_isSafe 38 = .ok (.istore_n 3, 1) := by decide +kernel
theorem dX1_isSafe_39 : decode cX1_isSafe 39 = .ok (.aload_n 0, 1) := by decide +kernel
theorem dX1_isSafe_40 : decode cX1_isSafe 40 = .ok (.iload_n 2, 1) := by decide +kernel
theorem dX1_isSafe_41 : decode cX1_isSafe 41 = .ok (.iconst 0, 1) := by decide +kernel
theorem dX1_isSafe_42 : decode cX1_isSafe 42 = .ok (.invokevirtual 38, 3) := by decide +kernel
theorem dX1_isSafe_45 : decode cX1_isSafe 45 = .ok (.iload_n 1, 1) := by decide +kernel
theorem dX1_isSafe_46 : decode cX1_isSafe 46 = .ok (.if_icmp .ne 9, 3) := by decide +kernel
theorem dX1_isSafe_49 : decode cX1_isSafe 49 = .ok (.iload_n 3, 1) := by decide +kernel
theorem dX1_isSafe_50 : decode cX1_isSafe 50 = .ok (.ifCond .eq 5, 3) := by decide +kernel
theorem dX1_isSafe_53 : decode cX1_isSafe 53 = .ok (.iconst 1, 1) := by decide +kernel
theorem dX1_isSafe_54 : decode cX1_isSafe 54 = .ok (.ireturn, 1) := by decide +kernel
theorem dX1_isSafe_55 : decode cX1_isSafe 55 = .ok (.iinc 2 1, 3) := by decide +kernel
theorem dX1_isSafe_58 : decode cX1_isSafe 58 = .ok (.goto (-56), 3) := by decide +kernel
theorem dX1_isSafe_61 : decode cX1_isSafe 61 = .ok (.iconst 0, 1) := by decide +kernel
theorem dX1_isSafe_62 : decode cX1_isSafe 62 = .ok (.ireturn, 1) := by decide +kernel
theorem dX1_isWayOpen_0 : decode cX1_isWayOpen 0 = .ok (.aload_n 0, 1) := by decide +kernel
theorem dX1_isWayOpen_1 : decode cX1_isWayOpen 1 = .ok (.iload_n 1, 1) := by decide +kernel
theorem dX1_isWayOpen_2 : decode cX1_isWayOpen 2 = .ok (.iconst 1, 1) := by decide +kernel
theorem dX1_isWayOpen_3 : decode cX1_isWayOpen 3 = .ok (.invokevirtual 38, 3) := by decide +kernel
theorem dX1_isWayOpen_6 : decode cX1_isWayOpen 6 = .ok (.istore 4, 2) := by decide +kernel
theorem dX1_isWayOpen_8 : decode cX1_isWayOpen 8 = .ok (.iload 4, 2) := by decide +kernel
theorem dX1_isWayOpen_10 : decode cX1_isWayOpen 10 = .ok (.iload_n 2, 1) := by decide +kernel
theorem dX1_isWayOpen_11 : decode cX1_isWayOpen 11 = .ok (.invokestatic 52, 3) := by decide +kernel
theorem dX1_isWayOpen_14 : decode cX1_isWayOpen 14 = .ok (.istore 5, 2) := by decide +kernel
theorem dX1_isWayOpen_16 : decode cX1_isWayOpen 16 = .ok (.aload_n 3, 1) := by decide +kernel
theorem dX1_isWayOpen_17 : decode cX1_isWayOpen 17 = .ok (.iload 5, 2) := by decide +kernel
theorem dX1_isWayOpen_19 : decode cX1_isWayOpen 19 = .ok (.invokevirtual 55, 3) := by decide +kernel
theorem dX1_isWayOpen_22 : decode cX1_isWayOpen 22 = .ok (.ifCond .eq 25, 3) := by decide +kernel
theorem dX1_isWayOpen_25 : decode cX1_isWayOpen 25 = .ok (.aload_n 0, 1) := by decide +kernel
theorem dX1_isWayOpen_26 : decode cX1_isWayOpen 26 = .ok (.iload 4, 2) := by decide +kernel
theorem dX1_isWayOpen_28 : decode cX1_isWayOpen 28 = .ok (.invokevirtual 48, 3) := by decide +kernel
theorem dX1_isWayOpen_31 : decode cX1_isWayOpen 31 = .ok (.ifCond .ne 16, 3) := by decide +kernel
theorem dX1_isWayOpen_34 : decode cX1_isWayOpen 34 = .ok (.aload_n 0, 1) := by decide +kernel
theorem dX1_isWayOpen_35 : decode cX1_isWayOpen 35 = .ok (.iload 5, 2) := by decide +kernel
theorem dX1_isWayOpen_37 : decode cX1_isWayOpen 37 = .ok (.invokevirtual 48, 3) := by decide +kernel
theorem dX1_isWayOpen_40 : decode cX1_isWayOpen 40 = .ok (.ifCond .ne 7, 3) := by decide +kernel
theorem dX1_isWayOpen_43 : decode cX1_isWayOpen 43 = .ok (.iconst 1, 1) := by decide +kernel
theorem dX1_isWayOpen_44 : decode cX1_isWayOpen 44 = .ok (.goto 4, 3) := by decide +kernel
theorem dX1_isWayOpen_47 : decode cX1_isWayOpen 47 = .ok (.iconst 0, 1) := by decide +kernel
theorem dX1_isWayOpen_48 : decode cX1_isWayOpen 48 = .ok (.ireturn, 1) := by decide +kernel
theorem dX1_wellBeside_0 : decode cX1_wellBeside 0 = .ok (.iload_n 1, 1) := by decide +kernel
theorem dX1_wellBeside_1 : decode cX1_wellBeside 1 = .ok (.ifCond .ne 9, 3) := by decide +kernel
theorem dX1_wellBeside_4 : decode cX1_wellBeside 4 = .ok (.iload_n 0, 1) := by decide +kernel
theorem dX1_wellBeside_5 : decode cX1_wellBeside 5 = .ok (.iconst 1, 1) := by decide +kernel
theorem dX1_wellBeside_6 : decode cX1_wellBeside 6 = .ok (.isub, 1) := by decide +kernel
theorem dX1_wellBeside_7 : decode cX1_wellBeside 7 = .ok (.goto 6, 3) := by decide +kernel
theorem dX1_wellBeside_10 : decode cX1_wellBeside 10 = .ok (.iload_n 0, 1) := by decide +kernel
theorem dX1_wellBeside_11 : decode cX1_wellBeside 11 = .ok (.iconst 1, 1) := by decide +kernel
theorem dX1_wellBeside_12 : decode cX1_wellBeside 12 = .ok (.iadd, 1) := by decide +kernel
theorem dX1_wellBeside_13 : decode cX1_wellBeside 13 = .ok (.ireturn, 1) := by decide +kernel
theorem dX1_singOn_0 : decode cX1_singOn 0 = .ok (.aload_n 0, 1) := by decide +kernel
theorem dX1_singOn_1 : decode cX1_singOn 1 = .ok (.iload_n 1, 1) := by decide +kernel
theorem dX1_singOn_2 : decode cX1_singOn 2 = .ok (.iconst 1, 1) := by decide +kernel
theorem dX1_singOn_3 : decode cX1_singOn 3 = .ok (.invokevirtual 38, 3) := by decide +kernel
theorem dX1_singOn_6 : decode cX1_singOn 6 = .ok (.istore 6, 2) := by decide +kernel
theorem dX1_singOn_8 : decode cX1_singOn 8 = .ok (.aload 5, 2) := by decide +kernel
theorem dX1_singOn_10 : decode cX1_singOn 10 = .ok (.iload 6, 2) := by decide +kernel
theorem dX1_singOn_12 : decode cX1_singOn 12 = .ok (.invokevirtual 60, 3) := by decide +kernel
theorem dX1_singOn_15 : decode cX1_singOn 15 = .ok (.iconst 2, 1) := by decide +kernel
theorem dX1_singOn_16 : decode cX1_singOn 16 = .ok (.if_icmp .ne 7, 3) := by decide +kernel
theorem dX1_singOn_19 : decode cX1_singOn 19 = .ok (.iconst 1, 1) := by decide +kernel
theorem dX1_singOn_20 : decode cX1_singOn 20 = .ok (.goto 4, 3) := by decide +kernel
theorem dX1_singOn_23 : decode cX1_singOn 23 = .ok (.iconst 0, 1) := by decide +kernel
theorem dX1_singOn_24 : decode cX1_singOn 24 = .ok (.istore 7, 2) := by decide +kernel
theorem dX1_singOn_26 : decode cX1_singOn 26 = .ok (.aload_n 0, 1) := by decide +kernel
theorem dX1_singOn_27 : decode cX1_singOn 27 = .ok (.iload_n 1, 1) := by decide +kernel
theorem dX1_singOn_28 : decode cX1_singOn 28 = .ok (.iconst 5, 1) := by decide +kernel
theorem dX1_singOn_29 : decode cX1_singOn 29 = .ok (.invokevirtual 38, 3) := by decide +kernel
theorem dX1_singOn_32 : decode cX1_singOn 32 = .ok (.iload 7, 2) := by decide +kernel
theorem dX1_singOn_34 : decode cX1_singOn 34 = .ok (.iadd, 1) := by decide +kernel
theorem dX1_singOn_35 : decode cX1_singOn 35 = .ok (.bipush 9, 2) := by decide +kernel
theorem dX1_singOn_37 : decode cX1_singOn 37 = .ok (.invokestatic 28, 3) := by decide +kernel
theorem dX1_singOn_40 : decode cX1_singOn 40 = .ok (.istore 8, 2) := by decide +kernel
theorem dX1_singOn_42 : decode cX1_singOn 42 = .ok (.aload_n 0, 1) := by decide +kernel
theorem dX1_singOn_43 : decode cX1_singOn 43 = .ok (.dup, 1) := by decide +kernel
theorem dX1_singOn_44 : decode cX1_singOn 44 = .ok (.getfield 25, 3) := by decide +kernel
theorem dX1_singOn_47 : decode cX1_singOn 47 = .ok (.iload_n 3, 1) := by decide +kernel
theorem dX1_singOn_48 : decode cX1_singOn 48 = .ok (.iadd, 1) := by decide +kernel
theorem dX1_singOn_49 : decode cX1_singOn 49 = .ok (.putfield 25, 3) := by decide +kernel
theorem dX1_singOn_52 : decode cX1_singOn 52 = .ok (.aload_n 0, 1) := by decide +kernel
theorem dX1_singOn_53 : decode cX1_singOn 53 = .ok (.aload_n 0, 1) := by decide +kernel
theorem dX1_singOn_54 : decode cX1_singOn 54 = .ok (.iload_n 1, 1) := by decide +kernel
theorem dX1_singOn_55 : decode cX1_singOn 55 = .ok (.iconst 0, 1) := by decide +kernel
theorem dX1_singOn_56 : decode cX1_singOn 56 = .ok (.invokevirtual 38, 3) := by decide +kernel
theorem dX1_singOn_59 : decode cX1_singOn 59 = .ok (.iload 6, 2) := by decide +kernel
theorem dX1_singOn_61 : decode cX1_singOn 61 = .ok (.iload_n 2, 1) := by decide +kernel
theorem dX1_singOn_62 : decode cX1_singOn 62 = .ok (.invokestatic 52, 3) := by decide +kernel
theorem dX1_singOn_65 : decode cX1_singOn 65 = .ok (.iload_n 3, 1) := by decide +kernel
theorem dX1_singOn_66 : decode cX1_singOn 66 = .ok (.iload 4, 2) := by decide +kernel
theorem dX1_singOn_68 : decode cX1_singOn 68 = .ok (.iload 8, 2) := by decide +kernel
theorem dX1_singOn_70 : decode cX1_singOn 70 = .ok (.invokevirtual 63, 3) := by decide +kernel
theorem dX1_singOn_73 : decode cX1_singOn 73 = .ok (.ireturn, 1) := by decide +kernel
theorem dX1_goYear_0 : decode cX1_goYear 0 = .ok (.aload_n 0, 1) := by decide +kernel
theorem dX1_goYear_1 : decode cX1_goYear 1 = .ok (.aload_n 1, 1) := by decide +kernel
theorem dX1_goYear_2 : decode cX1_goYear 2 = .ok (.invokevirtual 67, 3) := by decide +kernel
theorem dX1_goYear_5 : decode cX1_goYear 5 = .ok (.aload_n 0, 1) := by decide +kernel
theorem dX1_goYear_6 : decode cX1_goYear 6 = .ok (.invokevirtual 71, 3) := by decide +kernel
theorem dX1_goYear_9 : decode cX1_goYear 9 = .ok (.istore_n 2, 1) := by decide +kernel
theorem dX1_goYear_10 : decode cX1_goYear 10 = .ok (.iconst 0, 1) := by decide +kernel
theorem dX1_goYear_11 : decode cX1_goYear 11 = .ok (.istore_n 3, 1) := by decide +kernel
theorem dX1_goYear_12 : decode cX1_goYear 12 = .ok (.iload_n 3, 1) := by decide +kernel
theorem dX1_goYear_13 : decode cX1_goYear 13 = .ok (.aload_n 0, 1) := by decide +kernel
theorem dX1_goYear_14 : decode cX1_goYear 14 = .ok (.getfield 15, 3) := by decide +kernel
theorem dX1_goYear_17 : decode cX1_goYear 17 = .ok (.if_icmp .ge 23, 3) := by decide +kernel
theorem dX1_goYear_20 : decode cX1_goYear 20 = .ok (.aload_n 0, 1) := by decide +kernel
theorem dX1_goYear_21 : decode cX1_goYear 21 = .ok (.iload_n 3, 1) := by decide +kernel
theorem dX1_goYear_22 : decode cX1_goYear 22 = .ok (.iconst 4, 1) := by decide +kernel
theorem dX1_goYear_23 : decode cX1_goYear 23 = .ok (.aload_n 0, 1) := by decide +kernel
theorem dX1_goYear_24 : decode cX1_goYear 24 = .ok (.iload_n 3, 1) := by decide +kernel
theorem dX1_goYear_25 : decode cX1_goYear 25 = .ok (.iconst 4, 1) := by decide +kernel
theorem dX1_goYear_26 : decode cX1_goYear 26 = .ok (.invokevirtual 38, 3) := by decide +kernel
theorem dX1_goYear_29 : decode cX1_goYear 29 = .ok (.iconst 1, 1) := by decide +kernel
theorem dX1_goYear_30 : decode cX1_goYear 30 = .ok (.iadd, 1) := by decide +kernel
theorem dX1_goYear_31 : decode cX1_goYear 31 = .ok (.invokevirtual 34, 3) := by decide +kernel
theorem dX1_goYear_34 : decode cX1_goYear 34 = .ok (.iinc 3 1, 3) := by decide +kernel
theorem dX1_goYear_37 : decode cX1_goYear 37 = .ok (.goto (-25), 3) := by decide +kernel
theorem dX1_goYear_40 : decode cX1_goYear 40 = .ok (.aload_n 0, 1) := by decide +kernel
theorem dX1_goYear_41 : decode cX1_goYear 41 = .ok (.dup, 1) := by decide +kernel
theorem dX1_goYear_42 : decode cX1_goYear 42 = .ok (.getfield 22, 3) := by decide +kernel
theorem dX1_goYear_45 : decode cX1_goYear 45 = .ok (.iconst 1, 1) := by decide +kernel
theorem dX1_goYear_46 : decode cX1_goYear 46 = .ok (.iadd, 1) := by decide +kernel
theorem dX1_goYear_47 : decode cX1_goYear 47 = .ok (.putfield 22, 3) := by decide +kernel
theorem dX1_goYear_50 : decode cX1_goYear 50 = .ok (.iload_n 2, 1) := by decide +kernel
theorem dX1_goYear_51 : decode cX1_goYear 51 = .ok (.ireturn, 1) := by decide +kernel
theorem dX1_goYears_0 : decode cX1_goYears 0 = .ok (.iconst 0, 1) := by decide +kernel
theorem dX1_goYears_1 : decode cX1_goYears 1 = .ok (.istore_n 3, 1) := by decide +kernel
theorem dX1_goYears_2 : decode cX1_goYears 2 = .ok (.iload_n 3, 1) := by decide +kernel
theorem dX1_goYears_3 : decode cX1_goYears 3 = .ok (.iload_n 1, 1) := by decide +kernel
theorem dX1_goYears_4 : decode cX1_goYears 4 = .ok (.if_icmp .ge 15, 3) := by decide +kernel
theorem dX1_goYears_7 : decode cX1_goYears 7 = .ok (.aload_n 0, 1) := by decide +kernel
theorem dX1_goYears_8 : decode cX1_goYears 8 = .ok (.aload_n 2, 1) := by decide +kernel
theorem dX1_goYears_9 : decode cX1_goYears 9 = .ok (.invokevirtual 75, 3) := by decide +kernel
theorem dX1_goYears_12 : decode cX1_goYears 12 = .ok (.pop, 1) := by decide +kernel
theorem dX1_goYears_13 : decode cX1_goYears 13 = .ok (.iinc 3 1, 3) := by decide +kernel
theorem dX1_goYears_16 : decode cX1_goYears 16 = .ok (.goto (-14), 3) := by decide +kernel
theorem dX1_goYears_19 : decode cX1_goYears 19 = .ok (.return_, 1) := by decide +kernel
theorem dX1_wear_0 : decode cX1_wear 0 = .ok (.lconst 0, 1) := by decide +kernel
theorem dX1_wear_1 : decode cX1_wear 1 = .ok (.lstore_n 2, 1) := by decide +kernel
theorem dX1_wear_2 : decode cX1_wear 2 = .ok (.iconst 0, 1) := by decide +kernel
theorem dX1_wear_3 : decode cX1_wear 3 = .ok (.istore 4, 2) := by decide +kernel
theorem dX1_wear_5 : decode cX1_wear 5 = .ok (.iload 4, 2) := by decide +kernel
theorem dX1_wear_7 : decode cX1_wear 7 = .ok (.aload_n 0, 1) := by decide +kernel
theorem dX1_wear_8 : decode cX1_wear 8 = .ok (.getfield 15, 3) := by decide +kernel
theorem dX1_wear_11 : decode cX1_wear 11 = .ok (.if_icmp .ge 31, 3) := by decide +kernel
theorem dX1_wear_14 : decode cX1_wear 14 = .ok (.lload_n 2, 1) := by decide +kernel
theorem dX1_wear_15 : decode cX1_wear 15 = .ok (.lconst 1, 1) := by decide +kernel
theorem dX1_wear_16 : decode cX1_wear 16 = .ok (.aload_n 0, 1) := by decide +kernel
theorem dX1_wear_17 : decode cX1_wear 17 = .ok (.iload 4, 2) := by decide +kernel
theorem dX1_wear_19 : decode cX1_wear 19 = .ok (.iconst 1, 1) := by decide +kernel
theorem dX1_wear_20 : decode cX1_wear 20 = .ok (.invokevirtual 38, 3) := by decide +kernel
theorem dX1_wear_23 : decode cX1_wear 23 = .ok (.aload_n 0, 1) := by decide +kernel
theorem dX1_wear_24 : decode cX1_wear 24 = .ok (.iload 4, 2) := by decide +kernel
theorem dX1_wear_26 : decode cX1_wear 26 = .ok (.iconst 3, 1) := by decide +kernel
theorem dX1_wear_27 : decode cX1_wear 27 = .ok (.invokevirtual 38, 3) := by decide +kernel
theorem dX1_wear_30 : decode cX1_wear 30 = .ok (.invokestatic 79, 3) := by decide +kernel
theorem dX1_wear_33 : decode cX1_wear 33 = .ok (.lshl, 1) := by decide +kernel
theorem dX1_wear_34 : decode cX1_wear 34 = .ok (.ladd, 1) := by decide +kernel
theorem dX1_wear_35 : decode cX1_wear 35 = .ok (.lstore_n 2, 1) := by decide +kernel
theorem dX1_wear_36 : decode cX1_wear 36 = .ok (.iinc 4 1, 3) := by decide +kernel
theorem dX1_wear_39 : decode cX1_wear 39 = .ok (.goto (-34), 3) := by decide +kernel
theorem dX1_wear_42 : decode cX1_wear 42 = .ok (.iconst 0, 1) := by decide +kernel
theorem dX1_wear_43 : decode cX1_wear 43 = .ok (.istore 4, 2) := by decide +kernel
theorem dX1_wear_45 : decode cX1_wear 45 = .ok (.iload 4, 2) := by decide +kernel
theorem dX1_wear_47 : decode cX1_wear 47 = .ok (.aload_n 0, 1) := by decide +kernel
theorem dX1_wear_48 : decode cX1_wear 48 = .ok (.getfield 15, 3) := by decide +kernel
theorem dX1_wear_51 : decode cX1_wear 51 = .ok (.if_icmp .ge 75, 3) := by decide +kernel
theorem dX1_wear_54 : decode cX1_wear 54 = .ok (.aload_n 0, 1) := by decide +kernel
theorem dX1_wear_55 : decode cX1_wear 55 = .ok (.iload 4, 2) := by decide +kernel
theorem dX1_wear_57 : decode cX1_wear 57 = .ok (.iconst 1, 1) := by decide +kernel
theorem dX1_wear_58 : decode cX1_wear 58 = .ok (.invokevirtual 38, 3) := by decide +kernel
theorem dX1_wear_61 : decode cX1_wear 61 = .ok (.istore 5, 2) := by decide +kernel
theorem dX1_wear_63 : decode cX1_wear 63 = .ok (.lload_n 2, 1) := by decide +kernel
theorem dX1_wear_64 : decode cX1_wear 64 = .ok (.iload 5, 2) := by decide +kernel
theorem dX1_wear_66 : decode cX1_wear 66 = .ok (.aload_n 0, 1) := by decide +kernel
theorem dX1_wear_67 : decode cX1_wear 67 = .ok (.iload 4, 2) := by decide +kernel
theorem dX1_wear_69 : decode cX1_wear 69 = .ok (.iconst 3, 1) := by decide +kernel
theorem dX1_wear_70 : decode cX1_wear 70 = .ok (.invokevirtual 38, 3) := by decide +kernel
theorem dX1_wear_73 : decode cX1_wear 73 = .ok (.invokestatic 79, 3) := by decide +kernel
theorem dX1_wear_76 : decode cX1_wear 76 = .ok (.lushr, 1) := by decide +kernel
theorem dX1_wear_77 : decode cX1_wear 77 = .ok (.ldc2_w 82, 3) := by decide +kernel
theorem dX1_wear_80 : decode cX1_wear 80 = .ok (.land, 1) := by decide +kernel
theorem dX1_wear_81 : decode cX1_wear 81 = .ok (.l2i, 1) := by decide +kernel
theorem dX1_wear_82 : decode cX1_wear 82 = .ok (.istore 6, 2) := by decide +kernel
theorem dX1_wear_84 : decode cX1_wear 84 = .ok (.aload_n 1, 1) := by decide +kernel
theorem dX1_wear_85 : decode cX1_wear 85 = .ok (.iload 5, 2) := by decide +kernel
theorem dX1_wear_87 : decode cX1_wear 87 = .ok (.aload_n 0, 1) := by decide +kernel
theorem dX1_wear_88 : decode cX1_wear 88 = .ok (.iload 5, 2) := by decide +kernel
theorem dX1_wear_90 : decode cX1_wear 90 = .ok (.invokevirtual 48, 3) := by decide +kernel
theorem dX1_wear_93 : decode cX1_wear 93 = .ok (.invokevirtual 84, 3) := by decide +kernel
theorem dX1_wear_96 : decode cX1_wear 96 = .ok (.iload 6, 2) := by decide +kernel
theorem dX1_wear_98 : decode cX1_wear 98 = .ok (.iadd, 1) := by decide +kernel
theorem dX1_wear_99 : decode cX1_wear 99 = .ok (.iconst 1, 1) := by decide +kernel
theorem dX1_wear_100 : decode cX1_wear 100 = .ok (.isub, 1) := by decide +kernel
theorem dX1_wear_101 : decode cX1_wear 101 = .ok (.istore 7, 2) := by decide +kernel
theorem dX1_wear_103 : decode cX1_wear 103 = .ok (.aload_n 0, 1) := by decide +kernel
theorem dX1_wear_104 : decode cX1_wear 104 = .ok (.iload 4, 2) := by decide +kernel
theorem dX1_wear_106 : decode cX1_wear 106 = .ok (.iconst 2, 1) := by decide +kernel
theorem dX1_wear_107 : decode cX1_wear 107 = .ok (.aload_n 0, 1) := by decide +kernel
theorem dX1_wear_108 : decode cX1_wear 108 = .ok (.iload 4, 2) := by decide +kernel
theorem dX1_wear_110 : decode cX1_wear 110 = .ok (.iconst 2, 1) := by decide +kernel
theorem dX1_wear_111 : decode cX1_wear 111 = .ok (.invokevirtual 38, 3) := by decide +kernel
theorem dX1_wear_114 : decode cX1_wear 114 = .ok (.iload 7, 2) := by decide +kernel
theorem dX1_wear_116 : decode cX1_wear 116 = .ok (.isub, 1) := by decide +kernel
theorem dX1_wear_117 : decode cX1_wear 117 = .ok (.invokevirtual 34, 3) := by decide +kernel
theorem dX1_wear_120 : decode cX1_wear 120 = .ok (.iinc 4 1, 3) := by decide +kernel
theorem dX1_wear_123 : decode cX1_wear 123 = .ok (.goto (-78), 3) := by decide +kernel
theorem dX1_wear_126 : decode cX1_wear 126 = .ok (.return_, 1) := by decide +kernel
theorem dX1_shiftOfCrowd_0 : decode cX1_shiftOfCrowd 0 = .ok (.iconst 4, 1) := by decide +kernel
theorem dX1_shiftOfCrowd_1 : decode cX1_shiftOfCrowd 1 = .ok (.iload_n 0, 1) := by decide +kernel
theorem dX1_shiftOfCrowd_2 : decode cX1_shiftOfCrowd 2 = .ok (.iconst 4, 1) := by decide +kernel
theorem dX1_shiftOfCrowd_3 : decode cX1_shiftOfCrowd 3 = .ok (.imul, 1) := by decide +kernel
theorem dX1_shiftOfCrowd_4 : decode cX1_shiftOfCrowd 4 = .ok (.iload_n 1, 1) := by decide +kernel
theorem dX1_shiftOfCrowd_5 : decode cX1_shiftOfCrowd 5 = .ok (.iadd, 1) := by decide +kernel
theorem dX1_shiftOfCrowd_6 : decode cX1_shiftOfCrowd 6 = .ok (.imul, 1) := by decide +kernel
theorem dX1_shiftOfCrowd_7 : decode cX1_shiftOfCrowd 7 = .ok (.ireturn, 1) := by decide +kernel
theorem dX1_faintAhead_0 : decode cX1_faintAhead 0 = .ok (.iconst 0, 1) := by decide +kernel
theorem dX1_faintAhead_1 : decode cX1_faintAhead 1 = .ok (.istore_n 2, 1) := by decide +kernel
theorem dX1_faintAhead_2 : decode cX1_faintAhead 2 = .ok (.iconst 0, 1) := by decide +kernel
theorem dX1_faintAhead_3 : decode cX1_faintAhead 3 = .ok (.istore_n 3, 1) := by decide +kernel
theorem dX1_faintAhead_4 : decode cX1_faintAhead 4 = .ok (.iload_n 3, 1) := by decide +kernel
theorem dX1_faintAhead_5 : decode cX1_faintAhead 5 = .ok (.iload_n 1, 1) := by decide +kernel
theorem dX1_faintAhead_6 : decode cX1_faintAhead 6 = .ok (.if_icmp .ge 26, 3) := by decide +kernel
theorem dX1_faintAhead_9 : decode cX1_faintAhead 9 = .ok (.iload_n 2, 1) := by decide +kernel
theorem dX1_faintAhead_10 : decode cX1_faintAhead 10 = .ok (.aload_n 0, 1) := by decide +kernel
theorem dX1_faintAhead_11 : decode cX1_faintAhead 11 = .ok (.iload_n 3, 1) := by decide +kernel
theorem dX1_faintAhead_12 : decode cX1_faintAhead 12 = .ok (.iconst 2, 1) := by decide +kernel
theorem dX1_faintAhead_13 : decode cX1_faintAhead 13 = .ok (.invokevirtual 38, 3) := by decide +kernel
theorem dX1_faintAhead_16 : decode cX1_faintAhead 16 = .ok (.ifCond .gt 7, 3) := by decide +kernel
theorem dX1_faintAhead_19 : decode cX1_faintAhead 19 = .ok (.iconst 1, 1) := by decide +kernel
theorem dX1_faintAhead_20 : decode cX1_faintAhead 20 = .ok (.goto 4, 3) := by decide +kernel
theorem dX1_faintAhead_23 : decode cX1_faintAhead 23 = .ok (.iconst 0, 1) := by decide +kernel
theorem dX1_faintAhead_24 : decode cX1_faintAhead 24 = .ok (.iadd, 1) := by decide +kernel
theorem dX1_faintAhead_25 : decode cX1_faintAhead 25 = .ok (.istore_n 2, 1) := by decide +kernel
theorem dX1_faintAhead_26 : decode cX1_faintAhead 26 = .ok (.iinc 3 1, 3) := by decide +kernel
theorem dX1_faintAhead_29 : decode cX1_faintAhead 29 = .ok (.goto (-25), 3) := by decide +kernel
theorem dX1_faintAhead_32 : decode cX1_faintAhead 32 = .ok (.iload_n 2, 1) := by decide +kernel
theorem dX1_faintAhead_33 : decode cX1_faintAhead 33 = .ok (.ireturn, 1) := by decide +kernel
theorem dX1_dropFaint_0 : decode cX1_dropFaint 0 = .ok (.iconst 0, 1) := by decide +kernel
theorem dX1_dropFaint_1 : decode cX1_dropFaint 1 = .ok (.istore_n 1, 1) := by decide +kernel
theorem dX1_dropFaint_2 : decode cX1_dropFaint 2 = .ok (.iconst 0, 1) := by decide +kernel
theorem dX1_dropFaint_3 : decode cX1_dropFaint 3 = .ok (.istore_n 2, 1) := by decide +kernel
theorem dX1_dropFaint_4 : decode cX1_dropFaint 4 = .ok (.iload_n 2, 1) := by decide +kernel
theorem dX1_dropFaint_5 : decode cX1_dropFaint 5 = .ok (.aload_n 0, 1) := by decide +kernel
theorem dX1_dropFaint_6 : decode cX1_dropFaint 6 = .ok (.getfield 15, 3) := by decide +kernel
theorem dX1_dropFaint_9 : decode cX1_dropFaint 9 = .ok (.if_icmp .ge 52, 3) := by decide +kernel
theorem dX1_dropFaint_12 : decode cX1_dropFaint 12 = .ok (.aload_n 0, 1) := by decide +kernel
theorem dX1_dropFaint_13 : decode cX1_dropFaint 13 = .ok (.iload_n 2, 1) := by decide +kernel
theorem dX1_dropFaint_14 : decode cX1_dropFaint 14 = .ok (.iconst 2, 1) := by decide +kernel
theorem dX1_dropFaint_15 : decode cX1_dropFaint 15 = .ok (.invokevirtual 38, 3) := by decide +kernel
theorem dX1_dropFaint_18 : decode cX1_dropFaint 18 = .ok (.ifCond .le 37, 3) := by decide +kernel
theorem dX1_dropFaint_21 : decode cX1_dropFaint 21 = .ok (.iconst 0, 1) := by decide +kernel
theorem dX1_dropFaint_22 : decode cX1_dropFaint 22 = .ok (.istore_n 3, 1) := by decide +kernel
theorem dX1_dropFaint_23 : decode cX1_dropFaint 23 = .ok (.iload_n 1, 1) := by decide +kernel
theorem dX1_dropFaint_24 : decode cX1_dropFaint 24 = .ok (.iload_n 2, 1) := by decide +kernel
theorem dX1_dropFaint_25 : decode cX1_dropFaint 25 = .ok (.if_icmp .eq 27, 3) := by decide +kernel
theorem dX1_dropFaint_28 : decode cX1_dropFaint 28 = .ok (.iload_n 3, 1) := by decide +kernel
theorem dX1_dropFaint_29 : decode cX1_dropFaint 29 = .ok (.bipush 6, 2) := by decide +kernel
theorem dX1_dropFaint_31 : decode cX1_dropFaint 31 = .ok (.if_icmp .ge 21, 3) := by decide +kernel
theorem dX1_dropFaint_34 : decode cX1_dropFaint 34 = .ok (.aload_n 0, 1) := by decide +kernel
theorem dX1_dropFaint_35 : decode cX1_dropFaint 35 = .ok (.iload_n 1, 1) := by decide +kernel
theorem dX1_dropFaint_36 : decode cX1_dropFaint 36 = .ok (.iload_n 3, 1) := by decide +kernel
theorem dX1_dropFaint_37 : decode cX1_dropFaint 37 = .ok (.aload_n 0, 1) := by decide +kernel
theorem dX1_dropFaint_38 : decode cX1_dropFaint 38 = .ok (.iload_n 2, 1) := by decide +kernel
theorem dX1_dropFaint_39 : decode cX1_dropFaint 39 = .ok (.iload_n 3, 1) := by decide +kernel
theorem dX1_dropFaint_40 : decode cX1_dropFaint 40 = .ok (.invokevirtual 38, 3) := by decide +kernel
theorem dX1_dropFaint_43 : decode cX1_dropFaint 43 = .ok (.invokevirtual 34, 3) := by decide +kernel
theorem dX1_dropFaint_46 : decode cX1_dropFaint 46 = .ok (.iinc 3 1, 3) := by decide +kernel
theorem dX1_dropFaint_49 : decode cX1_dropFaint 49 = .ok (.goto (-26), 3) := by decide +kernel
theorem dX1_dropFaint_52 : decode cX1_dropFaint 52 = .ok (.iinc 1 1, 3) := by decide +kernel
theorem dX1_dropFaint_55 : decode cX1_dropFaint 55 = .ok (.iinc 2 1, 3) := by decide +kernel
theorem dX1_dropFaint_58 : decode cX1_dropFaint 58 = .ok (.goto (-54), 3) := by decide +kernel
theorem dX1_dropFaint_61 : decode cX1_dropFaint 61 = .ok (.aload_n 0, 1) := by decide +kernel
theorem dX1_dropFaint_62 : decode cX1_dropFaint 62 = .ok (.getfield 15, 3) := by decide +kernel
theorem dX1_dropFaint_65 : decode cX1_dropFaint 65 = .ok (.iload_n 1, 1) := by decide +kernel
theorem dX1_dropFaint_66 : decode cX1_dropFaint 66 = .ok (.isub, 1) := by decide +kernel
theorem dX1_dropFaint_67 : decode cX1_dropFaint 67 = .ok (.istore_n 2, 1) := by decide +kernel
theorem dX1_dropFaint_68 : decode cX1_dropFaint 68 = .ok (.aload_n 0, 1) := by decide +kernel
theorem dX1_dropFaint_69 : decode cX1_dropFaint 69 = .ok (.iload_n 1, 1) := by decide +kernel
theorem dX1_dropFaint_70 : decode cX1_dropFaint 70 = .ok (.putfield 15, 3) := by decide +kernel
theorem dX1_dropFaint_73 : decode cX1_dropFaint 73 = .ok (.iload_n 2, 1) := by decide +kernel
theorem dX1_dropFaint_74 : decode cX1_dropFaint 74 = .ok (.ireturn, 1) := by decide +kernel
theorem dX1_flood_0 : decode cX1_flood 0 = .ok (.iconst 0, 1) := by decide +kernel
theorem dX1_flood_1 : decode cX1_flood 1 = .ok (.istore_n 2, 1) := by decide +kernel
theorem dX1_flood_2 : decode cX1_flood 2 = .ok (.iload_n 2, 1) := by decide +kernel
theorem dX1_flood_3 : decode cX1_flood 3 = .ok (.aload_n 0, 1) := by decide +kernel
theorem dX1_flood_4 : decode cX1_flood 4 = .ok (.getfield 15, 3) := by decide +kernel
theorem dX1_flood_7 : decode cX1_flood 7 = .ok (.if_icmp .ge 33, 3) := by decide +kernel
theorem dX1_flood_10 : decode cX1_flood 10 = .ok (.aload_n 0, 1) := by decide +kernel
theorem dX1_flood_11 : decode cX1_flood 11 = .ok (.iload_n 2, 1) := by decide +kernel
theorem dX1_flood_12 : decode cX1_flood 12 = .ok (.iconst 1, 1) := by decide +kernel
theorem dX1_flood_13 : decode cX1_flood 13 = .ok (.invokevirtual 38, 3) := by decide +kernel
theorem dX1_flood_16 : decode cX1_flood 16 = .ok (.iload_n 1, 1) := by decide +kernel
theorem dX1_flood_17 : decode cX1_flood 17 = .ok (.if_icmp .ne 17, 3) := by decide +kernel
theorem dX1_flood_20 : decode cX1_flood 20 = .ok (.aload_n 0, 1) := by decide +kernel
theorem dX1_flood_21 : decode cX1_flood 21 = .ok (.iload_n 2, 1) := by decide +kernel
theorem dX1_flood_22 : decode cX1_flood 22 = .ok (.iconst 2, 1) := by decide +kernel
theorem dX1_flood_23 : decode cX1_flood 23 = .ok (.aload_n 0, 1) := by decide +kernel
theorem dX1_flood_24 : decode cX1_flood 24 = .ok (.iload_n 2, 1) := by decide +kernel
theorem dX1_flood_25 : decode cX1_flood 25 = .ok (.iconst 2, 1) := by decide +kernel
theorem dX1_flood_26 : decode cX1_flood 26 = .ok (.invokevirtual 38, 3) := by decide +kernel
theorem dX1_flood_29 : decode cX1_flood 29 = .ok (.iconst 3, 1) := by decide +kernel
theorem dX1_flood_30 : decode cX1_flood 30 = .ok (.isub, 1) := by decide +kernel
theorem dX1_flood_31 : decode cX1_flood 31 = .ok (.invokevirtual 34, 3) := by decide +kernel
theorem dX1_flood_34 : decode cX1_flood 34 = .ok (.iinc 2 1, 3) := by decide +kernel
theorem dX1_flood_37 : decode cX1_flood 37 = .ok (.goto (-35), 3) := by decide +kernel
theorem dX1_flood_40 : decode cX1_flood 40 = .ok (.aload_n 0, 1) := by decide +kernel
theorem dX1_flood_41 : decode cX1_flood 41 = .ok (.invokevirtual 71, 3) := by decide +kernel
theorem dX1_flood_44 : decode cX1_flood 44 = .ok (.pop, 1) := by decide +kernel
theorem dX1_flood_45 : decode cX1_flood 45 = .ok (.return_, 1) := by decide +kernel
theorem dX2_init_0 : decode cX2_init 0 = .ok (.aload_n 0, 1) := by decide +kernel
theorem dX2_init_1 : decode cX2_init 1 = .ok (.invokespecial 3, 3) := by decide +kernel
theorem dX2_init_4 : decode cX2_init 4 = .ok (.aload_n 0, 1) := by decide +kernel
theorem dX2_init_5 : decode cX2_init 5 = .ok (.bipush 56, 2) := by decide +kernel
theorem dX2_init_7 : decode cX2_init 7 = .ok (.newarray .int, 2) := by decide +kernel
theorem dX2_init_9 : decode cX2_init 9 = .ok (.putfield 9, 3) := by decide +kernel
theorem dX2_init_12 : decode cX2_init 12 = .ok (.return_, 1) := by decide +kernel
theorem dX2_append_0 : decode cX2_append 0 = .ok (.aload_n 0, 1) := by decide +kernel
theorem dX2_append_1 : decode cX2_append 1 = .ok (.getfield 15, 3) := by decide +kernel
theorem dX2_append_4 : decode cX2_append 4 = .ok (.ifCond .lt 15, 3) := by decide +kernel
theorem dX2_append_7 : decode cX2_append 7 = .ok (.aload_n 0, 1) := by decide +kernel
theorem dX2_append_8 : decode cX2_append 8 = .ok (.getfield 15, 3) := by decide +kernel
theorem dX2_append_11 : decode cX2_append 11 = .ok (.aload_n 0, 1) := by decide +kernel
theorem dX2_append_12 : decode cX2_append 12 = .ok (.getfield 9, 3) := by decide +kernel
theorem dX2_append_15 : decode cX2_append 15 = .ok (.arraylength, 1) := by decide +kernel
theorem dX2_append_16 : decode cX2_append 16 = .ok (.if_icmp .lt 5, 3) := by decide +kernel
theorem dX2_append_19 : decode cX2_append 19 = .ok (.iconst 0, 1) := by decide +kernel
theorem dX2_append_20 : decode cX2_append 20 = .ok (.ireturn, 1) := by decide +kernel
theorem dX2_append_21 : decode cX2_append 21 = .ok (.aload_n 0, 1) := by decide +kernel
theorem dX2_append_22 : decode cX2_append 22 = .ok (.getfield 9, 3) := by decide +kernel
theorem dX2_append_25 : decode cX2_append 25 = .ok (.aload_n 0, 1) := by decide +kernel
theorem dX2_append_26 : decode cX2_append 26 = .ok (.getfield 15, 3) := by decide +kernel
theorem dX2_append_29 : decode cX2_append 29 = .ok (.iload_n 1, 1) := by decide +kernel
theorem dX2_append_30 : decode cX2_append 30 = .ok (.iastore, 1) := by decide +kernel
theorem dX2_append_31 : decode cX2_append 31 = .ok (.aload_n 0, 1) := by decide +kernel
theorem dX2_append_32 : decode cX2_append 32 = .ok (.dup, 1) := by decide +kernel
theorem dX2_append_33 : decode cX2_append 33 = .ok (.getfield 15, 3) := by decide +kernel
theorem dX2_append_36 : decode cX2_append 36 = .ok (.iconst 1, 1) := by decide +kernel
theorem dX2_append_37 : decode cX2_append 37 = .ok (.iadd, 1) := by decide +kernel
theorem dX2_append_38 : decode cX2_append 38 = .ok (.putfield 15, 3) := by decide +kernel
theorem dX2_append_41 : decode cX2_append 41 = .ok (.iconst 1, 1) := by decide +kernel
theorem dX2_append_42 : decode cX2_append 42 = .ok (.ireturn, 1) := by decide +kernel
theorem dX2_letterAt_0 : decode cX2_letterAt 0 = .ok (.iload_n 1, 1) := by decide +kernel
theorem dX2_letterAt_1 : decode cX2_letterAt 1 = .ok (.ifCond .lt 29, 3) := by decide +kernel
theorem dX2_letterAt_4 : decode cX2_letterAt 4 = .ok (.iload_n 1, 1) := by decide +kernel
theorem dX2_letterAt_5 : decode cX2_letterAt 5 = .ok (.aload_n 0, 1) := by decide +kernel
theorem dX2_letterAt_6 : decode cX2_letterAt 6 = .ok (.getfield 15, 3) := by decide +kernel
theorem dX2_letterAt_9 : decode cX2_letterAt 9 = .ok (.if_icmp .ge 21, 3) := by decide +kernel
theorem dX2_letterAt_12 : decode cX2_letterAt 12 = .ok (.iload_n 1, 1) := by decide +kernel
theorem dX2_letterAt_13 : decode cX2_letterAt 13 = .ok (.aload_n 0, 1) := by decide +kernel
theorem dX2_letterAt_14 : decode cX2_letterAt 14 = .ok (.getfield 9, 3) := by decide +kernel
theorem dX2_letterAt_17 : decode cX2_letterAt 17 = .ok (.arraylength, 1) := by decide +kernel
theorem dX2_letterAt_18 : decode cX2_letterAt 18 = .ok (.if_icmp .ge 12, 3) := by decide +kernel
theorem dX2_letterAt_21 : decode cX2_letterAt 21 = .ok (.aload_n 0, 1) := by decide +kernel
theorem dX2_letterAt_22 : decode cX2_letterAt 22 = .ok (.getfield 9, 3) := by decide +kernel
theorem dX2_letterAt_25 : decode cX2_letterAt 25 = .ok (.iload_n 1, 1) := by decide +kernel
theorem dX2_letterAt_26 : decode cX2_letterAt 26 = .ok (.iaload, 1) := by decide +kernel
theorem dX2_letterAt_27 : decode cX2_letterAt 27 = .ok (.goto 5, 3) := by decide +kernel
theorem dX2_letterAt_30 : decode cX2_letterAt 30 = .ok (.bipush (-9), 2) := by decide +kernel
theorem dX2_letterAt_32 : decode cX2_letterAt 32 = .ok (.ireturn, 1) := by decide +kernel
theorem dX2_digitAt_0 : decode cX2_digitAt 0 = .ok (.aload_n 0, 1) := by decide +kernel
theorem dX2_digitAt_1 : decode cX2_digitAt 1 = .ok (.iload_n 1, 1) := by decide +kernel
theorem dX2_digitAt_2 : decode cX2_digitAt 2 = .ok (.invokevirtual 19, 3) := by decide +kernel
theorem dX2_digitAt_5 : decode cX2_digitAt 5 = .ok (.bipush 48, 2) := by decide +kernel
theorem dX2_digitAt_7 : decode cX2_digitAt 7 = .ok (.isub, 1) := by decide +kernel
theorem dX2_digitAt_8 : decode cX2_digitAt 8 = .ok (.ireturn, 1) := by decide +kernel
theorem dX2_faultPlace_0 : decode cX2_faultPlace 0 = .ok (.iconst 0, 1) := by decide +kernel
theorem dX2_faultPlace_1 : decode cX2_faultPlace 1 = .ok (.istore_n 1, 1) := by decide +kernel
theorem dX2_faultPlace_2 : decode cX2_faultPlace 2 = .ok (.iconst 0, 1) := by decide +kernel
theorem dX2_faultPlace_3 : decode cX2_faultPlace 3 = .ok (.istore_n 2, 1) := by decide +kernel
theorem dX2_faultPlace_4 : decode cX2_faultPlace 4 = .ok (.iconst 0, 1) := by decide +kernel
theorem dX2_faultPlace_5 : decode cX2_faultPlace 5 = .ok (.istore_n 3, 1) := by decide +kernel
theorem dX2_faultPlace_6 : decode cX2_faultPlace 6 = .ok (.iconst 0, 1) := by decide +kernel
theorem dX2_faultPlace_7 : decode cX2_faultPlace 7 = .ok (.istore 4, 2) := by decide +kernel
theorem dX2_faultPlace_9 : decode cX2_faultPlace 9 = .ok (.iconst 0, 1) := by decide +kernel
theorem dX2_faultPlace_10 : decode cX2_faultPlace 10 = .ok (.istore 5, 2) := by decide +kernel
theorem dX2_faultPlace_12 : decode cX2_faultPlace 12 = .ok (.iload 5, 2) := by decide +kernel
theorem dX2_faultPlace_14 : decode cX2_faultPlace 14 = .ok (.aload_n 0, 1) := by decide +kernel
theorem dX2_faultPlace_15 : decode cX2_faultPlace 15 = .ok (.getfield 15, 3) := by decide +kernel
theorem dX2_faultPlace_18 : decode cX2_faultPlace 18 = .ok (.if_icmp .ge 118, 3) := by decide +kernel
theorem dX2_faultPlace_21 : decode cX2_faultPlace 21 = .ok (.aload_n 0, 1) := by decide +kernel
theorem dX2_faultPlace_22 : decode cX2_faultPlace 22 = .ok (.iload 5, 2) := by decide +kernel
theorem dX2_faultPlace_24 : decode cX2_faultPlace 24 = .ok (.invokevirtual 19, 3) := by decide +kernel
theorem dX2_faultPlace_27 : decode cX2_faultPlace 27 = .ok (.istore 6, 2) := by decide +kernel
theorem dX2_faultPlace_29 : decode cX2_faultPlace 29 = .ok (.iload 5, 2) := by decide +kernel
theorem dX2_faultPlace_31 : decode cX2_faultPlace 31 = .ok (.ifCond .ne 13, 3) := by decide +kernel
theorem dX2_faultPlace_34 : decode cX2_faultPlace 34 = .ok (.iload 6, 2) := by decide +kernel
theorem dX2_faultPlace_36 : decode cX2_faultPlace 36 = .ok (.bipush 76, 2) := by decide +kernel
theorem dX2_faultPlace_38 : decode cX2_faultPlace 38 = .ok (.if_icmp .eq 92, 3) := by decide +kernel
theorem dX2_faultPlace_41 : decode cX2_faultPlace 41 = .ok (.iload 5, 2) := by decide +kernel
theorem dX2_faultPlace_43 : decode cX2_faultPlace 43 = .ok (.ireturn, 1) := by decide +kernel
theorem dX2_faultPlace_44 : decode cX2_faultPlace 44 = .ok (.iload_n 3, 1) := by decide +kernel
theorem dX2_faultPlace_45 : decode cX2_faultPlace 45 = .ok (.ifCond .ne 25, 3) := by decide +kernel
theorem dX2_faultPlace_48 : decode cX2_faultPlace 48 = .ok (.iload 6, 2) := by decide +kernel
theorem dX2_faultPlace_50 : decode cX2_faultPlace 50 = .ok (.iload_n 1, 1) := by decide +kernel
theorem dX2_faultPlace_51 : decode cX2_faultPlace 51 = .ok (.iload_n 2, 1) := by decide +kernel
theorem dX2_faultPlace_52 : decode cX2_faultPlace 52 = .ok (.invokestatic 23, 3) := by decide +kernel
theorem dX2_faultPlace_55 : decode cX2_faultPlace 55 = .ok (.ifCond .ne 6, 3) := by decide +kernel
theorem dX2_faultPlace_58 : decode cX2_faultPlace 58 = .ok (.iload 5, 2) := by decide +kernel
theorem dX2_faultPlace_60 : decode cX2_faultPlace 60 = .ok (.ireturn, 1) := by decide +kernel
theorem dX2_faultPlace_61 : decode cX2_faultPlace 61 = .ok (.iload 6, 2) := by decide +kernel
theorem dX2_faultPlace_63 : decode cX2_faultPlace 63 = .ok (.istore_n 3, 1) := by decide +kernel
theorem dX2_faultPlace_64 : decode cX2_faultPlace 64 = .ok (.iconst 0, 1) := by decide +kernel
theorem dX2_faultPlace_65 : decode cX2_faultPlace 65 = .ok (.istore 4, 2) := by decide +kernel
theorem dX2_faultPlace_67 : decode cX2_faultPlace 67 = .ok (.goto 63, 3) := by decide +kernel
theorem dX2_faultPlace_70 : decode cX2_faultPlace 70 = .ok (.iload 6, 2) := by decide +kernel
theorem dX2_faultPlace_72 : decode cX2_faultPlace 72 = .ok (.bipush 48, 2) := by decide +kernel
theorem dX2_faultPlace_74 : decode cX2_faultPlace 74 = .ok (.isub, 1) := by decide +kernel
theorem dX2_faultPlace_75 : decode cX2_faultPlace 75 = .ok (.iload_n 3, 1) := by decide +kernel
theorem dX2_faultPlace_76 : decode cX2_faultPlace 76 = .ok (.iload 4, 2) := by decide +kernel
theorem dX2_faultPlace_78 : decode cX2_faultPlace 78 = .ok (.iload_n 1, 1) := by decide +kernel
theorem dX2_faultPlace_79 : decode cX2_faultPlace 79 = .ok (.invokestatic 27, 3) := by decide +kernel
theorem dX2_faultPlace_82 : decode cX2_faultPlace 82 = .ok (.ifCond .ne 6, 3) := by decide +kernel
theorem dX2_faultPlace_85 : decode cX2_faultPlace 85 = .ok (.iload 5, 2) := by decide +kernel
theorem dX2_faultPlace_87 : decode cX2_faultPlace 87 = .ok (.ireturn, 1) := by decide +kernel
theorem dX2_faultPlace_88 : decode cX2_faultPlace 88 = .ok (.iinc 4 1, 3) := by decide +kernel
theorem dX2_faultPlace_91 : decode cX2_faultPlace 91 = .ok (.iload 4, 2) := by decide +kernel
theorem dX2_faultPlace_93 : decode cX2_faultPlace 93 = .ok (.iload_n 3, 1) := by decide +kernel
theorem dX2_faultPlace_94 : decode cX2_faultPlace 94 = .ok (.invokestatic 31, 3) := by decide +kernel
theorem dX2_faultPlace_97 : decode cX2_faultPlace 97 = .ok (.if_icmp .ne 33, 3) := by decide +kernel
theorem dX2_faultPlace_100 : decode cX2_faultPlace 100 = .ok (.iload_n 1, 1) := by decide +kernel
theorem dX2_faultPlace_101 : decode cX2_faultPlace 101 = .ok (.iload_n 3, 1) := by decide +kernel
theorem dX2_faultPlace_102 : decode cX2_faultPlace 102 = .ok (.bipush 87, 2) := by decide +kernel
theorem dX2_faultPlace_104 : decode cX2_faultPlace 104 = .ok (.if_icmp .ne 7, 3) := by decide +kernel
theorem dX2_faultPlace_107 : decode cX2_faultPlace 107 = .ok (.iconst 1, 1) := by decide +kernel
theorem dX2_faultPlace_108 : decode cX2_faultPlace 108 = .ok (.goto 4, 3) := by decide +kernel
theorem dX2_faultPlace_111 : decode cX2_faultPlace 111 = .ok (.iconst 0, 1) := by decide +kernel
theorem dX2_faultPlace_112 : decode cX2_faultPlace 112 = .ok (.iadd, 1) := by decide +kernel
theorem dX2_faultPlace_113 : decode cX2_faultPlace 113 = .ok (.istore_n 1, 1) := by decide +kernel
theorem dX2_faultPlace_114 : decode cX2_faultPlace 114 = .ok (.iload_n 2, 1) := by decide +kernel
theorem dX2_faultPlace_115 : decode cX2_faultPlace 115 = .ok (.iload_n 3, 1) := by decide +kernel
theorem dX2_faultPlace_116 : decode cX2_faultPlace 116 = .ok (.bipush 83, 2) := by decide +kernel
theorem dX2_faultPlace_118 : decode cX2_faultPlace 118 = .ok (.if_icmp .ne 7, 3) := by decide +kernel
theorem dX2_faultPlace_121 : decode cX2_faultPlace 121 = .ok (.iconst 1, 1) := by decide +kernel
theorem dX2_faultPlace_122 : decode cX2_faultPlace 122 = .ok (.goto 4, 3) := by decide +kernel
theorem dX2_faultPlace_125 : decode cX2_faultPlace 125 = .ok (.iconst 0, 1) := by decide +kernel
theorem dX2_faultPlace_126 : decode cX2_faultPlace 126 = .ok (.iadd, 1) := by decide +kernel
theorem dX2_faultPlace_127 : decode cX2_faultPlace 127 = .ok (.istore_n 2, 1) := by decide +kernel
theorem dX2_faultPlace_128 : decode cX2_faultPlace 128 = .ok (.iconst 0, 1) := by decide +kernel
theorem dX2_faultPlace_129 : decode cX2_faultPlace 129 = .ok (.istore_n 3, 1) := by decide +kernel
theorem dX2_faultPlace_130 : decode cX2_faultPlace 130 = .ok (.iinc 5 1, 3) := by decide +kernel
theorem dX2_faultPlace_133 : decode cX2_faultPlace 133 = .ok (.goto (-121), 3) := by decide +kernel
theorem dX2_faultPlace_136 : decode cX2_faultPlace 136 = .ok (.aload_n 0, 1) := by decide +kernel
theorem dX2_faultPlace_137 : decode cX2_faultPlace 137 = .ok (.getfield 15, 3) := by decide +kernel
theorem dX2_faultPlace_140 : decode cX2_faultPlace 140 = .ok (.ifCond .eq 7, 3) := by decide +kernel
theorem dX2_faultPlace_143 : decode cX2_faultPlace 143 = .ok (.iload_n 3, 1) := by decide +kernel
theorem dX2_faultPlace_144 : decode cX2_faultPlace 144 = .ok (.ifCond .eq 10, 3) := by decide +kernel
theorem dX2_faultPlace_147 : decode cX2_faultPlace 147 = .ok (.aload_n 0, 1) := by decide +kernel
theorem dX2_faultPlace_148 : decode cX2_faultPlace 148 = .ok (.getfield 15, 3) := by decide +kernel
theorem dX2_faultPlace_151 : decode cX2_faultPlace 151 = .ok (.goto 5, 3) := by decide +kernel
theorem dX2_faultPlace_154 : decode cX2_faultPlace 154 = .ok (.bipush (-9), 2) := by decide +kernel
theorem dX2_faultPlace_156 : decode cX2_faultPlace 156 = .ok (.ireturn, 1) := by decide +kernel
theorem dX2_digitsOf_0 : decode cX2_digitsOf 0 = .ok (.iload_n 0, 1) := by decide +kernel
theorem dX2_digitsOf_1 : decode cX2_digitsOf 1 = .ok (.bipush 87, 2) := by decide +kernel
theorem dX2_digitsOf_3 : decode cX2_digitsOf 3 = .ok (.if_icmp .ne 7, 3) := by decide +kernel
theorem dX2_digitsOf_6 : decode cX2_digitsOf 6 = .ok (.iconst 2, 1) := by decide +kernel
theorem dX2_digitsOf_7 : decode cX2_digitsOf 7 = .ok (.goto 4, 3) := by decide +kernel
theorem dX2_digitsOf_10 : decode cX2_digitsOf 10 = .ok (.iconst 4, 1) := by decide +kernel
theorem dX2_digitsOf_11 : decode cX2_digitsOf 11 = .ok (.ireturn, 1) := by decide +kernel
theorem dX2_canOpen_0 : decode cX2_canOpen 0 = .ok (.iload_n 0, 1) := by decide +kernel
theorem dX2_canOpen_1 : decode cX2_canOpen 1 = .ok (.bipush 87, 2) := by decide +kernel
theorem dX2_canOpen_3 : decode cX2_canOpen 3 = .ok (.if_icmp .ne 14, 3) := by decide +kernel
theorem dX2_canOpen_6 : decode cX2_canOpen 6 = .ok (.iload_n 1, 1) := by decide +kernel
theorem dX2_canOpen_7 : decode cX2_canOpen 7 = .ok (.iconst 4, 1) := by decide +kernel
theorem dX2_canOpen_8 : decode cX2_canOpen 8 = .ok (.if_icmp .ge 7, 3) := by decide +kernel
theorem dX2_canOpen_11 : decode cX2_canOpen 11 = .ok (.iconst 1, 1) := by decide +kernel
theorem dX2_canOpen_12 : decode cX2_canOpen 12 = .ok (.goto 4, 3) := by decide +kernel
theorem dX2_canOpen_15 : decode cX2_canOpen 15 = .ok (.iconst 0, 1) := by decide +kernel
theorem dX2_canOpen_16 : decode cX2_canOpen 16 = .ok (.ireturn, 1) := by decide +kernel
theorem dX2_canOpen_17 : decode cX2_canOpen 17 = .ok (.iload_n 0, 1) := by decide +kernel
theorem dX2_canOpen_18 : decode cX2_canOpen 18 = .ok (.bipush 83, 2) := by decide +kernel
theorem dX2_canOpen_20 : decode cX2_canOpen 20 = .ok (.if_icmp .ne 17, 3) := by decide +kernel
theorem dX2_canOpen_23 : decode cX2_canOpen 23 = .ok (.iload_n 1, 1) := by decide +kernel
theorem dX2_canOpen_24 : decode cX2_canOpen 24 = .ok (.ifCond .le 13, 3) := by decide +kernel
theorem dX2_canOpen_27 : decode cX2_canOpen 27 = .ok (.iload_n 2, 1) := by decide +kernel
theorem dX2_canOpen_28 : decode cX2_canOpen 28 = .ok (.bipush 6, 2) := by decide +kernel
theorem dX2_canOpen_30 : decode cX2_canOpen 30 = .ok (.if_icmp .ge 7, 3) := by decide +kernel
theorem dX2_canOpen_33 : decode cX2_canOpen 33 = .ok (.iconst 1, 1) := by decide +kernel
theorem dX2_canOpen_34 : decode cX2_canOpen 34 = .ok (.goto 4, 3) := by decide +kernel
theorem dX2_canOpen_37 : decode cX2_canOpen 37 = .ok (.iconst 0, 1) := by decide +kernel
theorem dX2_canOpen_38 : decode cX2_canOpen 38 = .ok (.ireturn, 1) := by decide +kernel
theorem dX2_canStand_0 : decode cX2_canStand 0 = .ok (.iload_n 1, 1) := by decide +kernel
theorem dX2_canStand_1 : decode cX2_canStand 1 = .ok (.bipush 87, 2) := by decide +kernel
theorem dX2_canStand_3 : decode cX2_canStand 3 = .ok (.if_icmp .ne 24, 3) := by decide +kernel
theorem dX2_canStand_6 : decode cX2_canStand 6 = .ok (.iload_n 2, 1) := by decide +kernel
theorem dX2_canStand_7 : decode cX2_canStand 7 = .ok (.ifCond .ne 13, 3) := by decide +kernel
theorem dX2_canStand_10 : decode cX2_canStand 10 = .ok (.iload_n 0, 1) := by decide +kernel
theorem dX2_canStand_11 : decode cX2_canStand 11 = .ok (.iconst 1, 1) := by decide +kernel
theorem dX2_canStand_12 : decode cX2_canStand 12 = .ok (.bipush 9, 2) := by decide +kernel
theorem dX2_canStand_14 : decode cX2_canStand 14 = .ok (.invokestatic 34, 3) := by decide +kernel
theorem dX2_canStand_17 : decode cX2_canStand 17 = .ok (.goto 9, 3) := by decide +kernel
theorem dX2_canStand_20 : decode cX2_canStand 20 = .ok (.iload_n 0, 1) := by decide +kernel
theorem dX2_canStand_21 : decode cX2_canStand 21 = .ok (.iconst 0, 1) := by decide +kernel
theorem dX2_canStand_22 : decode cX2_canStand 22 = .ok (.iconst 2, 1) := by decide +kernel
theorem dX2_canStand_23 : decode cX2_canStand 23 = .ok (.invokestatic 34, 3) := by decide +kernel
theorem dX2_canStand_26 : decode cX2_canStand 26 = .ok (.ireturn, 1) := by decide +kernel
theorem dX2_canStand_27 : decode cX2_canStand 27 = .ok (.iload_n 2, 1) := by decide +kernel
theorem dX2_canStand_28 : decode cX2_canStand 28 = .ok (.tableswitch 52 0 2 #[28, 35, 44], 28) := by decide +kernel
theorem dX2_canStand_56 : decode cX2_canStand 56 = .ok (.iload_n 0, 1) := by decide +kernel
theorem dX2_canStand_57 : decode cX2_canStand 57 = .ok (.iconst 0, 1) := by decide +kernel
theorem dX2_canStand_58 : decode cX2_canStand 58 = .ok (.iconst 5, 1) := by decide +kernel
theorem dX2_canStand_59 : decode cX2_canStand 59 = .ok (.invokestatic 34, 3) := by decide +kernel
theorem dX2_canStand_62 : decode cX2_canStand 62 = .ok (.ireturn, 1) := by decide +kernel
theorem dX2_canStand_63 : decode cX2_canStand 63 = .ok (.iload_n 0, 1) := by decide +kernel
theorem dX2_canStand_64 : decode cX2_canStand 64 = .ok (.iconst 0, 1) := by decide +kernel
theorem dX2_canStand_65 : decode cX2_canStand 65 = .ok (.iload_n 3, 1) := by decide +kernel
theorem dX2_canStand_66 : decode cX2_canStand 66 = .ok (.iconst 1, 1) := by decide +kernel
theorem dX2_canStand_67 : decode cX2_canStand 67 = .ok (.isub, 1) := by decide +kernel
theorem dX2_canStand_68 : decode cX2_canStand 68 = .ok (.invokestatic 34, 3) := by decide +kernel
theorem dX2_canStand_71 : decode cX2_canStand 71 = .ok (.ireturn, 1) := by decide +kernel
theorem dX2_canStand_72 : decode cX2_canStand 72 = .ok (.iload_n 0, 1) := by decide +kernel
theorem dX2_canStand_73 : decode cX2_canStand 73 = .ok (.iconst 1, 1) := by decide +kernel
theorem dX2_canStand_74 : decode cX2_canStand 74 = .ok (.bipush 9, 2) := by decide +kernel
theorem dX2_canStand_76 : decode cX2_canStand 76 = .ok (.invokestatic 34, 3) := by decide +kernel
theorem dX2_canStand_79 : decode cX2_canStand 79 = .ok (.ireturn, 1) := by decide +kernel
theorem dX2_canStand_80 : decode cX2_canStand 80 = .ok (.iload_n 0, 1) := by decide +kernel
theorem dX2_canStand_81 : decode cX2_canStand 81 = .ok (.iconst 0, 1) := by decide +kernel
theorem dX2_canStand_82 : decode cX2_canStand 82 = .ok (.iconst 3, 1) := by decide +kernel
theorem dX2_canStand_83 : decode cX2_canStand 83 = .ok (.invokestatic 34, 3) := by decide +kernel
theorem dX2_canStand_86 : decode cX2_canStand 86 = .ok (.ireturn, 1) := by decide +kernel
theorem dX3_init_0 : decode cX3_init 0 = .ok (.aload_n 0, 1) := by decide +kernel
theorem dX3_init_1 : decode cX3_init 1 = .ok (.invokespecial 3, 3) := by decide +kernel
theorem dX3_init_4 : decode cX3_init 4 = .ok (.aload_n 0, 1) := by decide +kernel
theorem dX3_init_5 : decode cX3_init 5 = .ok (.iconst 4, 1) := by decide +kernel
theorem dX3_init_6 : decode cX3_init 6 = .ok (.newarray .int, 2) := by decide +kernel
theorem dX3_init_8 : decode cX3_init 8 = .ok (.putfield 9, 3) := by decide +kernel
theorem dX3_init_11 : decode cX3_init 11 = .ok (.aload_n 0, 1) := by decide +kernel
theorem dX3_init_12 : decode cX3_init 12 = .ok (.iconst 4, 1) := by decide +kernel
theorem dX3_init_13 : decode cX3_init 13 = .ok (.newarray .int, 2) := by decide +kernel
theorem dX3_init_15 : decode cX3_init 15 = .ok (.putfield 15, 3) := by decide +kernel
theorem dX3_init_18 : decode cX3_init 18 = .ok (.return_, 1) := by decide +kernel
theorem dX3_add_0 : decode cX3_add 0 = .ok (.aload_n 0, 1) := by decide +kernel
theorem dX3_add_1 : decode cX3_add 1 = .ok (.getfield 18, 3) := by decide +kernel
theorem dX3_add_4 : decode cX3_add 4 = .ok (.ifCond .lt 57, 3) := by decide +kernel
theorem dX3_add_7 : decode cX3_add 7 = .ok (.aload_n 0, 1) := by decide +kernel
theorem dX3_add_8 : decode cX3_add 8 = .ok (.getfield 18, 3) := by decide +kernel
theorem dX3_add_11 : decode cX3_add 11 = .ok (.aload_n 0, 1) := by decide +kernel
theorem dX3_add_12 : decode cX3_add 12 = .ok (.getfield 9, 3) := by decide +kernel
theorem dX3_add_15 : decode cX3_add 15 = .ok (.arraylength, 1) := by decide +kernel
theorem dX3_add_16 : decode cX3_add 16 = .ok (.if_icmp .ge 45, 3) := by decide +kernel
theorem dX3_add_19 : decode cX3_add 19 = .ok (.aload_n 0, 1) := by decide +kernel
theorem dX3_add_20 : decode cX3_add 20 = .ok (.getfield 18, 3) := by decide +kernel
theorem dX3_add_23 : decode cX3_add 23 = .ok (.aload_n 0, 1) := by decide +kernel
theorem dX3_add_24 : decode cX3_add 24 = .ok (.getfield 15, 3) := by decide +kernel
theorem dX3_add_27 : decode cX3_add 27 = .ok (.arraylength, 1) := by decide +kernel
theorem dX3_add_28 : decode cX3_add 28 = .ok (.if_icmp .ge 33, 3) := by decide +kernel
theorem dX3_add_31 : decode cX3_add 31 = .ok (.aload_n 0, 1) := by decide +kernel
theorem dX3_add_32 : decode cX3_add 32 = .ok (.getfield 9, 3) := by decide +kernel
theorem dX3_add_35 : decode cX3_add 35 = .ok (.aload_n 0, 1) := by decide +kernel
theorem dX3_add_36 : decode cX3_add 36 = .ok (.getfield 18, 3) := by decide +kernel
theorem dX3_add_39 : decode cX3_add 39 = .ok (.iload_n 1, 1) := by decide +kernel
theorem dX3_add_40 : decode cX3_add 40 = .ok (.iastore, 1) := by decide +kernel
theorem dX3_add_41 : decode cX3_add 41 = .ok (.aload_n 0, 1) := by decide +kernel
theorem dX3_add_42 : decode cX3_add 42 = .ok (.getfield 15, 3) := by decide +kernel
theorem dX3_add_45 : decode cX3_add 45 = .ok (.aload_n 0, 1) := by decide +kernel
theorem dX3_add_46 : decode cX3_add 46 = .ok (.getfield 18, 3) := by decide +kernel
theorem dX3_add_49 : decode cX3_add 49 = .ok (.iload_n 2, 1) := by decide +kernel
theorem dX3_add_50 : decode cX3_add 50 = .ok (.iastore, 1) := by decide +kernel
theorem dX3_add_51 : decode cX3_add 51 = .ok (.aload_n 0, 1) := by decide +kernel
theorem dX3_add_52 : decode cX3_add 52 = .ok (.dup, 1) := by decide +kernel
theorem dX3_add_53 : decode cX3_add 53 = .ok (.getfield 18, 3) := by decide +kernel
theorem dX3_add_56 : decode cX3_add 56 = .ok (.iconst 1, 1) := by decide +kernel
theorem dX3_add_57 : decode cX3_add 57 = .ok (.iadd, 1) := by decide +kernel
theorem dX3_add_58 : decode cX3_add 58 = .ok (.putfield 18, 3) := by decide +kernel
theorem dX3_add_61 : decode cX3_add 61 = .ok (.return_, 1) := by decide +kernel
theorem dX3_has_0 : decode cX3_has 0 = .ok (.iload_n 1, 1) := by decide +kernel
theorem dX3_has_1 : decode cX3_has 1 = .ok (.ifCond .lt 15, 3) := by decide +kernel
theorem dX3_has_4 : decode cX3_has 4 = .ok (.iload_n 1, 1) := by decide +kernel
theorem dX3_has_5 : decode cX3_has 5 = .ok (.aload_n 0, 1) := by decide +kernel
theorem dX3_has_6 : decode cX3_has 6 = .ok (.getfield 18, 3) := by decide +kernel
theorem dX3_has_9 : decode cX3_has 9 = .ok (.if_icmp .ge 7, 3) := by decide +kernel
theorem dX3_has_12 : decode cX3_has 12 = .ok (.iconst 1, 1) := by decide +kernel
theorem dX3_has_13 : decode cX3_has 13 = .ok (.goto 4, 3) := by decide +kernel
theorem dX3_has_16 : decode cX3_has 16 = .ok (.iconst 0, 1) := by decide +kernel
theorem dX3_has_17 : decode cX3_has 17 = .ok (.ireturn, 1) := by decide +kernel
theorem dX3_depthOf_0 : decode cX3_depthOf 0 = .ok (.iload_n 1, 1) := by decide +kernel
theorem dX3_depthOf_1 : decode cX3_depthOf 1 = .ok (.ifCond .lt 21, 3) := by decide +kernel
theorem dX3_depthOf_4 : decode cX3_depthOf 4 = .ok (.iload_n 1, 1) := by decide +kernel
theorem dX3_depthOf_5 : decode cX3_depthOf 5 = .ok (.aload_n 0, 1) := by decide +kernel
theorem dX3_depthOf_6 : decode cX3_depthOf 6 = .ok (.getfield 9, 3) := by decide +kernel
theorem dX3_depthOf_9 : decode cX3_depthOf 9 = .ok (.arraylength, 1) := by decide +kernel
theorem dX3_depthOf_10 : decode cX3_depthOf 10 = .ok (.if_icmp .ge 12, 3) := by decide +kernel
theorem dX3_depthOf_13 : decode cX3_depthOf 13 = .ok (.aload_n 0, 1) := by decide +kernel
theorem dX3_depthOf_14 : decode cX3_depthOf 14 = .ok (.getfield 9, 3) := by decide +kernel
theorem dX3_depthOf_17 : decode cX3_depthOf 17 = .ok (.iload_n 1, 1) := by decide +kernel
theorem dX3_depthOf_18 : decode cX3_depthOf 18 = .ok (.iaload, 1) := by decide +kernel
theorem dX3_depthOf_19 : decode cX3_depthOf 19 = .ok (.goto 4, 3) := by decide +kernel
theorem dX3_depthOf_22 : decode cX3_depthOf 22 = .ok (.iconst 0, 1) := by decide +kernel
theorem dX3_depthOf_23 : decode cX3_depthOf 23 = .ok (.ireturn, 1) := by decide +kernel
theorem dX3_stoneOf_0 : decode cX3_stoneOf 0 = .ok (.iload_n 1, 1) := by decide +kernel
theorem dX3_stoneOf_1 : decode cX3_stoneOf 1 = .ok (.ifCond .lt 21, 3) := by decide +kernel
theorem dX3_stoneOf_4 : decode cX3_stoneOf 4 = .ok (.iload_n 1, 1) := by decide +kernel
theorem dX3_stoneOf_5 : decode cX3_stoneOf 5 = .ok (.aload_n 0, 1) := by decide +kernel
theorem dX3_stoneOf_6 : decode cX3_stoneOf 6 = .ok (.getfield 15, 3) := by decide +kernel
theorem dX3_stoneOf_9 : decode cX3_stoneOf 9 = .ok (.arraylength, 1) := by decide +kernel
theorem dX3_stoneOf_10 : decode cX3_stoneOf 10 = .ok (.if_icmp .ge 12, 3) := by decide +kernel
theorem dX3_stoneOf_13 : decode cX3_stoneOf 13 = .ok (.aload_n 0, 1) := by decide +kernel
theorem dX3_stoneOf_14 : decode cX3_stoneOf 14 = .ok (.getfield 15, 3) := by decide +kernel
theorem dX3_stoneOf_17 : decode cX3_stoneOf 17 = .ok (.iload_n 1, 1) := by decide +kernel
theorem dX3_stoneOf_18 : decode cX3_stoneOf 18 = .ok (.iaload, 1) := by decide +kernel
theorem dX3_stoneOf_19 : decode cX3_stoneOf 19 = .ok (.goto 4, 3) := by decide +kernel
theorem dX3_stoneOf_22 : decode cX3_stoneOf 22 = .ok (.iconst 0, 1) := by decide +kernel
theorem dX3_stoneOf_23 : decode cX3_stoneOf 23 = .ok (.ireturn, 1) := by decide +kernel
theorem dX3_wearIn_0 : decode cX3_wearIn 0 = .ok (.aload_n 0, 1) := by decide +kernel
theorem dX3_wearIn_1 : decode cX3_wearIn 1 = .ok (.iload_n 1, 1) := by decide +kernel
theorem dX3_wearIn_2 : decode cX3_wearIn 2 = .ok (.invokevirtual 22, 3) := by decide +kernel
theorem dX3_wearIn_5 : decode cX3_wearIn 5 = .ok (.iload_n 2, 1) := by decide +kernel
theorem dX3_wearIn_6 : decode cX3_wearIn 6 = .ok (.ifCond .eq 7, 3) := by decide +kernel
theorem dX3_wearIn_9 : decode cX3_wearIn 9 = .ok (.iconst 0, 1) := by decide +kernel
theorem dX3_wearIn_10 : decode cX3_wearIn 10 = .ok (.goto 4, 3) := by decide +kernel
theorem dX3_wearIn_13 : decode cX3_wearIn 13 = .ok (.iconst 1, 1) := by decide +kernel
theorem dX3_wearIn_14 : decode cX3_wearIn 14 = .ok (.iadd, 1) := by decide +kernel
theorem dX3_wearIn_15 : decode cX3_wearIn 15 = .ok (.ireturn, 1) := by decide +kernel
theorem dX4_init_0 : decode cX4_init 0 = .ok (.aload_n 0, 1) := by decide +kernel
theorem dX4_init_1 : decode cX4_init 1 = .ok (.invokespecial 1, 3) := by decide +kernel
theorem dX4_init_4 : decode cX4_init 4 = .ok (.aload_n 0, 1) := by decide +kernel
theorem dX4_init_5 : decode cX4_init 5 = .ok (.new 7, 3) := by decide +kernel
theorem dX4_init_8 : decode cX4_init 8 = .ok (.dup, 1) := by decide +kernel
theorem dX4_init_9 : decode cX4_init 9 = .ok (.invokespecial 9, 3) := by decide +kernel
theorem dX4_init_12 : decode cX4_init 12 = .ok (.putfield 10, 3) := by decide +kernel
theorem dX4_init_15 : decode cX4_init 15 = .ok (.aload_n 0, 1) := by decide +kernel
theorem dX4_init_16 : decode cX4_init 16 = .ok (.new 16, 3) := by decide +kernel
theorem dX4_init_19 : decode cX4_init 19 = .ok (.dup, 1) := by decide +kernel
theorem dX4_init_20 : decode cX4_init 20 = .ok (.invokespecial 18, 3) := by decide +kernel
theorem dX4_init_23 : decode cX4_init 23 = .ok (.putfield 19, 3) := by decide +kernel
theorem dX4_init_26 : decode cX4_init 26 = .ok (.aload_n 0, 1) := by decide +kernel
theorem dX4_init_27 : decode cX4_init 27 = .ok (.new 23, 3) := by decide +kernel
theorem dX4_init_30 : decode cX4_init 30 = .ok (.dup, 1) := by decide +kernel
theorem dX4_init_31 : decode cX4_init 31 = .ok (.invokespecial 25, 3) := by decide +kernel
theorem dX4_init_34 : decode cX4_init 34 = .ok (.putfield 26, 3) := by decide +kernel
theorem dX4_init_37 : decode cX4_init 37 = .ok (.aload_n 0, 1) := by decide +kernel
theorem dX4_init_38 : decode cX4_init 38 = .ok (.new 30, 3) := by decide +kernel
theorem dX4_init_41 : decode cX4_init 41 = .ok (.dup, 1) := by decide +kernel
theorem dX4_init_42 : decode cX4_init 42 = .ok (.invokespecial 32, 3) := by decide +kernel
theorem dX4_init_45 : decode cX4_init 45 = .ok (.putfield 33, 3) := by decide +kernel
theorem dX4_init_48 : decode cX4_init 48 = .ok (.aload_n 0, 1) := by decide +kernel
theorem dX4_init_49 : decode cX4_init 49 = .ok (.new 23, 3) := by decide +kernel
theorem dX4_init_52 : decode cX4_init 52 = .ok (.dup, 1) := by decide +kernel
theorem dX4_init_53 : decode cX4_init 53 = .ok (.invokespecial 25, 3) := by decide +kernel
theorem dX4_init_56 : decode cX4_init 56 = .ok (.putfield 37, 3) := by decide +kernel
theorem dX4_init_59 : decode cX4_init 59 = .ok (.aload_n 0, 1) := by decide +kernel
theorem dX4_init_60 : decode cX4_init 60 = .ok (.new 23, 3) := by decide +kernel
theorem dX4_init_63 : decode cX4_init 63 = .ok (.dup, 1) := by decide +kernel
theorem dX4_init_64 : decode cX4_init 64 = .ok (.invokespecial 25, 3) := by decide +kernel
theorem dX4_init_67 : decode cX4_init 67 = .ok (.putfield 40, 3) := by decide +kernel
theorem dX4_init_70 : decode cX4_init 70 = .ok (.aload_n 0, 1) := by decide +kernel
theorem dX4_init_71 : decode cX4_init 71 = .ok (.new 23, 3) := by decide +kernel
theorem dX4_init_74 : decode cX4_init 74 = .ok (.dup, 1) := by decide +kernel
theorem dX4_init_75 : decode cX4_init 75 = .ok (.invokespecial 25, 3) := by decide +kernel
theorem dX4_init_78 : decode cX4_init 78 = .ok (.putfield 43, 3) := by decide +kernel
theorem dX4_init_81 : decode cX4_init 81 = .ok (.aload_n 0, 1) := by decide +kernel
theorem dX4_init_82 : decode cX4_init 82 = .ok (.new 23, 3) := by decide +kernel
theorem dX4_init_85 : decode cX4_init 85 = .ok (.dup, 1) := by decide +kernel
theorem dX4_init_86 : decode cX4_init 86 = .ok (.invokespecial 25, 3) := by decide +kernel
theorem dX4_init_89 : decode cX4_init 89 = .ok (.putfield 46, 3) := by decide +kernel
theorem dX4_init_92 : decode cX4_init 92 = .ok (.aload_n 0, 1) := by decide +kernel
theorem dX4_init_93 : decode cX4_init 93 = .ok (.bipush 16, 2) := by decide +kernel
theorem dX4_init_95 : decode cX4_init 95 = .ok (.newarray .int, 2) := by decide +kernel
theorem dX4_init_97 : decode cX4_init 97 = .ok (.putfield 49, 3) := by decide +kernel
theorem dX4_init_100 : decode cX4_init 100 = .ok (.aload_n 0, 1) := by decide +kernel
theorem dX4_init_101 : decode cX4_init 101 = .ok (.bipush 16, 2) := by decide +kernel
theorem dX4_init_103 : decode cX4_init 103 = .ok (.newarray .int, 2) := by decide +kernel
theorem dX4_init_105 : decode cX4_init 105 = .ok (.putfield 53, 3) := by decide +kernel
theorem dX4_init_108 : decode cX4_init 108 = .ok (.return_, 1) := by decide +kernel
theorem dX4_write_0 : decode cX4_write 0 = .ok (.iload_n 1, 1) := by decide +kernel
theorem dX4_write_1 : decode cX4_write 1 = .ok (.ifCond .lt 10, 3) := by decide +kernel
theorem dX4_write_4 : decode cX4_write 4 = .ok (.iload_n 1, 1) := by decide +kernel
theorem dX4_write_5 : decode cX4_write 5 = .ok (.sipush 255, 3) := by decide +kernel
theorem dX4_write_8 : decode cX4_write 8 = .ok (.if_icmp .le 6, 3) := by decide +kernel
theorem dX4_write_11 : decode cX4_write 11 = .ok (.bipush (-2), 2) := by decide +kernel
theorem dX4_write_13 : decode cX4_write 13 = .ok (.ireturn, 1) := by decide +kernel
theorem dX4_write_14 : decode cX4_write 14 = .ok (.aload_n 0, 1) := by decide +kernel
theorem dX4_write_15 : decode cX4_write 15 = .ok (.getfield 10, 3) := by decide +kernel
theorem dX4_write_18 : decode cX4_write 18 = .ok (.iload_n 1, 1) := by decide +kernel
theorem dX4_write_19 : decode cX4_write 19 = .ok (.invokevirtual 56, 3) := by decide +kernel
theorem dX4_write_22 : decode cX4_write 22 = .ok (.ifCond .eq 13, 3) := by decide +kernel
theorem dX4_write_25 : decode cX4_write 25 = .ok (.aload_n 0, 1) := by decide +kernel
theorem dX4_write_26 : decode cX4_write 26 = .ok (.getfield 10, 3) := by decide +kernel
theorem dX4_write_29 : decode cX4_write 29 = .ok (.getfield 60, 3) := by decide +kernel
theorem dX4_write_32 : decode cX4_write 32 = .ok (.goto 5, 3) := by decide +kernel
theorem dX4_write_35 : decode cX4_write 35 = .ok (.bipush (-4), 2) := by decide +kernel
theorem dX4_write_37 : decode cX4_write 37 = .ok (.ireturn, 1) := by decide +kernel
theorem dX4_wipe_0 : decode cX4_wipe 0 = .ok (.aload_n 0, 1) := by decide +kernel
theorem dX4_wipe_1 : decode cX4_wipe 1 = .ok (.getfield 10, 3) := by decide +kernel
theorem dX4_wipe_4 : decode cX4_wipe 4 = .ok (.getfield 60, 3) := by decide +kernel
theorem dX4_wipe_7 : decode cX4_wipe 7 = .ok (.istore_n 1, 1) := by decide +kernel
theorem dX4_wipe_8 : decode cX4_wipe 8 = .ok (.aload_n 0, 1) := by decide +kernel
theorem dX4_wipe_9 : decode cX4_wipe 9 = .ok (.getfield 10, 3) := by decide +kernel
theorem dX4_wipe_12 : decode cX4_wipe 12 = .ok (.iconst 0, 1) := by decide +kernel
theorem dX4_wipe_13 : decode cX4_wipe 13 = .ok (.putfield 60, 3) := by decide +kernel
theorem dX4_wipe_16 : decode cX4_wipe 16 = .ok (.iload_n 1, 1) := by decide +kernel
theorem dX4_wipe_17 : decode cX4_wipe 17 = .ok (.ireturn, 1) := by decide +kernel
theorem dX4_fault_0 : decode cX4_fault 0 = .ok (.aload_n 0, 1) := by decide +kernel
theorem dX4_fault_1 : decode cX4_fault 1 = .ok (.getfield 10, 3) := by decide +kernel
theorem dX4_fault_4 : decode cX4_fault 4 = .ok (.invokevirtual 64, 3) := by decide +kernel
theorem dX4_fault_7 : decode cX4_fault 7 = .ok (.ireturn, 1) := by decide +kernel
theorem dX4_land_0 : decode cX4_land 0 = .ok (.aload_n 0, 1) := by decide +kernel
theorem dX4_land_1 : decode cX4_land 1 = .ok (.getfield 10, 3) := by decide +kernel
theorem dX4_land_4 : decode cX4_land 4 = .ok (.invokevirtual 64, 3) := by decide +kernel
theorem dX4_land_7 : decode cX4_land 7 = .ok (.bipush (-9), 2) := by decide +kernel
theorem dX4_land_9 : decode cX4_land 9 = .ok (.if_icmp .eq 6, 3) := by decide +kernel
theorem dX4_land_12 : decode cX4_land 12 = .ok (.bipush (-3), 2) := by decide +kernel
theorem dX4_land_14 : decode cX4_land 14 = .ok (.ireturn, 1) := by decide +kernel
theorem dX4_land_15 : decode cX4_land 15 = .ok (.aload_n 0, 1) := by decide +kernel
theorem dX4_land_16 : decode cX4_land 16 = .ok (.getfield 19, 3) := by decide +kernel
theorem dX4_land_19 : decode cX4_land 19 = .ok (.iconst 0, 1) := by decide +kernel
theorem dX4_land_20 : decode cX4_land 20 = .ok (.putfield 68, 3) := by decide +kernel
theorem dX4_land_23 : decode cX4_land 23 = .ok (.aload_n 0, 1) := by decide +kernel
theorem dX4_land_24 : decode cX4_land 24 = .ok (.getfield 26, 3) := by decide +kernel
theorem dX4_land_27 : decode cX4_land 27 = .ok (.invokevirtual 71, 3) := by decide +kernel
theorem dX4_land_30 : decode cX4_land 30 = .ok (.aload_n 0, 1) := by decide +kernel
theorem dX4_land_31 : decode cX4_land 31 = .ok (.getfield 33, 3) := by decide +kernel
theorem dX4_land_34 : decode cX4_land 34 = .ok (.iconst 0, 1) := by decide +kernel
theorem dX4_land_35 : decode cX4_land 35 = .ok (.putfield 74, 3) := by decide +kernel
theorem dX4_land_38 : decode cX4_land 38 = .ok (.aload_n 0, 1) := by decide +kernel
theorem dX4_land_39 : decode cX4_land 39 = .ok (.iconst 0, 1) := by decide +kernel
theorem dX4_land_40 : decode cX4_land 40 = .ok (.putfield 75, 3) := by decide +kernel
theorem dX4_land_43 : decode cX4_land 43 = .ok (.iconst 1, 1) := by decide +kernel
theorem dX4_land_44 : decode cX4_land 44 = .ok (.istore_n 1, 1) := by decide +kernel
theorem dX4_land_45 : decode cX4_land 45 = .ok (.iload_n 1, 1) := by decide +kernel
theorem dX4_land_46 : decode cX4_land 46 = .ok (.aload_n 0, 1) := by decide +kernel
theorem dX4_land_47 : decode cX4_land 47 = .ok (.getfield 10, 3) := by decide +kernel
theorem dX4_land_50 : decode cX4_land 50 = .ok (.getfield 60, 3) := by decide +kernel
theorem dX4_land_53 : decode cX4_land 53 = .ok (.if_icmp .ge 14, 3) := by decide +kernel
theorem dX4_land_56 : decode cX4_land 56 = .ok (.aload_n 0, 1) := by decide +kernel
theorem dX4_land_57 : decode cX4_land 57 = .ok (.iload_n 1, 1) := by decide +kernel
theorem dX4_land_58 : decode cX4_land 58 = .ok (.invokevirtual 78, 3) := by decide +kernel
theorem dX4_land_61 : decode cX4_land 61 = .ok (.iinc 1 1, 3) := by decide +kernel
theorem dX4_land_64 : decode cX4_land 64 = .ok (.goto (-19), 3) := by decide +kernel
theorem dX4_land_67 : decode cX4_land 67 = .ok (.aload_n 0, 1) := by decide +kernel
theorem dX4_land_68 : decode cX4_land 68 = .ok (.aload_n 0, 1) := by decide +kernel
theorem dX4_land_69 : decode cX4_land 69 = .ok (.getfield 26, 3) := by decide +kernel
theorem dX4_land_72 : decode cX4_land 72 = .ok (.invokevirtual 82, 3) := by decide +kernel
theorem dX4_land_75 : decode cX4_land 75 = .ok (.putfield 85, 3) := by decide +kernel
theorem dX4_land_78 : decode cX4_land 78 = .ok (.bipush 10, 2) := by decide +kernel
theorem dX4_land_80 : decode cX4_land 80 = .ok (.aload_n 0, 1) := by decide +kernel
theorem dX4_land_81 : decode cX4_land 81 = .ok (.getfield 19, 3) := by decide +kernel
theorem dX4_land_84 : decode cX4_land 84 = .ok (.getfield 68, 3) := by decide +kernel
theorem dX4_land_87 : decode cX4_land 87 = .ok (.imul, 1) := by decide +kernel
theorem dX4_land_88 : decode cX4_land 88 = .ok (.aload_n 0, 1) := by decide +kernel
theorem dX4_land_89 : decode cX4_land 89 = .ok (.getfield 26, 3) := by decide +kernel
theorem dX4_land_92 : decode cX4_land 92 = .ok (.getfield 88, 3) := by decide +kernel
theorem dX4_land_95 : decode cX4_land 95 = .ok (.iadd, 1) := by decide +kernel
theorem dX4_land_96 : decode cX4_land 96 = .ok (.ireturn, 1) := by decide +kernel
theorem dX4_tellPart_0 : decode cX4_tellPart 0 = .ok (.aload_n 0, 1) := by decide +kernel
theorem dX4_tellPart_1 : decode cX4_tellPart 1 = .ok (.getfield 10, 3) := by decide +kernel
theorem dX4_tellPart_4 : decode cX4_tellPart 4 = .ok (.iload_n 1, 1) := by decide +kernel
theorem dX4_tellPart_5 : decode cX4_tellPart 5 = .ok (.invokevirtual 89, 3) := by decide +kernel
theorem dX4_tellPart_8 : decode cX4_tellPart 8 = .ok (.istore_n 2, 1) := by decide +kernel
theorem dX4_tellPart_9 : decode cX4_tellPart 9 = .ok (.iload_n 2, 1) := by decide +kernel
theorem dX4_tellPart_10 : decode cX4_tellPart 10 = .ok (.bipush 87, 2) := by decide +kernel
theorem dX4_tellPart_12 : decode cX4_tellPart 12 = .ok (.if_icmp .ne 33, 3) := by decide +kernel
theorem dX4_tellPart_15 : decode cX4_tellPart 15 = .ok (.aload_n 0, 1) := by decide +kernel
theorem dX4_tellPart_16 : decode cX4_tellPart 16 = .ok (.getfield 19, 3) := by decide +kernel
theorem dX4_tellPart_19 : decode cX4_tellPart 19 = .ok (.aload_n 0, 1) := by decide +kernel
theorem dX4_tellPart_20 : decode cX4_tellPart 20 = .ok (.getfield 10, 3) := by decide +kernel
theorem dX4_tellPart_23 : decode cX4_tellPart 23 = .ok (.iload_n 1, 1) := by decide +kernel
theorem dX4_tellPart_24 : decode cX4_tellPart 24 = .ok (.iconst 1, 1) := by decide +kernel
theorem dX4_tellPart_25 : decode cX4_tellPart 25 = .ok (.iadd, 1) := by decide +kernel
theorem dX4_tellPart_26 : decode cX4_tellPart 26 = .ok (.invokevirtual 93, 3) := by decide +kernel
theorem dX4_tellPart_29 : decode cX4_tellPart 29 = .ok (.aload_n 0, 1) := by decide +kernel
theorem dX4_tellPart_30 : decode cX4_tellPart 30 = .ok (.getfield 10, 3) := by decide +kernel
theorem dX4_tellPart_33 : decode cX4_tellPart 33 = .ok (.iload_n 1, 1) := by decide +kernel
theorem dX4_tellPart_34 : decode cX4_tellPart 34 = .ok (.iconst 2, 1) := by decide +kernel
theorem dX4_tellPart_35 : decode cX4_tellPart 35 = .ok (.iadd, 1) := by decide +kernel
theorem dX4_tellPart_36 : decode cX4_tellPart 36 = .ok (.invokevirtual 93, 3) := by decide +kernel
theorem dX4_tellPart_39 : decode cX4_tellPart 39 = .ok (.invokevirtual 96, 3) := by decide +kernel
theorem dX4_tellPart_42 : decode cX4_tellPart 42 = .ok (.goto 58, 3) := by decide +kernel
theorem dX4_tellPart_45 : decode cX4_tellPart 45 = .ok (.iload_n 2, 1) := by decide +kernel
theorem dX4_tellPart_46 : decode cX4_tellPart 46 = .ok (.bipush 83, 2) := by decide +kernel
theorem dX4_tellPart_48 : decode cX4_tellPart 48 = .ok (.if_icmp .ne 52, 3) := by decide +kernel
theorem dX4_tellPart_51 : decode cX4_tellPart 51 = .ok (.aload_n 0, 1) := by decide +kernel
theorem dX4_tellPart_52 : decode cX4_tellPart 52 = .ok (.getfield 26, 3) := by decide +kernel
theorem dX4_tellPart_55 : decode cX4_tellPart 55 = .ok (.aload_n 0, 1) := by decide +kernel
theorem dX4_tellPart_56 : decode cX4_tellPart 56 = .ok (.getfield 10, 3) := by decide +kernel
theorem dX4_tellPart_59 : decode cX4_tellPart 59 = .ok (.iload_n 1, 1) := by decide +kernel
theorem dX4_tellPart_60 : decode cX4_tellPart 60 = .ok (.iconst 1, 1) := by decide +kernel
theorem dX4_tellPart_61 : decode cX4_tellPart 61 = .ok (.iadd, 1) := by decide +kernel
theorem dX4_tellPart_62 : decode cX4_tellPart 62 = .ok (.invokevirtual 93, 3) := by decide +kernel
theorem dX4_tellPart_65 : decode cX4_tellPart 65 = .ok (.aload_n 0, 1) := by decide +kernel
theorem dX4_tellPart_66 : decode cX4_tellPart 66 = .ok (.getfield 10, 3) := by decide +kernel
theorem dX4_tellPart_69 : decode cX4_tellPart 69 = .ok (.iload_n 1, 1) := by decide +kernel
theorem dX4_tellPart_70 : decode cX4_tellPart 70 = .ok (.iconst 2, 1) := by decide +kernel
theorem dX4_tellPart_71 : decode cX4_tellPart 71 = .ok (.iadd, 1) := by decide +kernel
theorem dX4_tellPart_72 : decode cX4_tellPart 72 = .ok (.invokevirtual 93, 3) := by decide +kernel
theorem dX4_tellPart_75 : decode cX4_tellPart 75 = .ok (.aload_n 0, 1) := by decide +kernel
theorem dX4_tellPart_76 : decode cX4_tellPart 76 = .ok (.getfield 10, 3) := by decide +kernel
theorem dX4_tellPart_79 : decode cX4_tellPart 79 = .ok (.iload_n 1, 1) := by decide +kernel
theorem dX4_tellPart_80 : decode cX4_tellPart 80 = .ok (.iconst 3, 1) := by decide +kernel
theorem dX4_tellPart_81 : decode cX4_tellPart 81 = .ok (.iadd, 1) := by decide +kernel
theorem dX4_tellPart_82 : decode cX4_tellPart 82 = .ok (.invokevirtual 93, 3) := by decide +kernel
theorem dX4_tellPart_85 : decode cX4_tellPart 85 = .ok (.aload_n 0, 1) := by decide +kernel
theorem dX4_tellPart_86 : decode cX4_tellPart 86 = .ok (.getfield 10, 3) := by decide +kernel
theorem dX4_tellPart_89 : decode cX4_tellPart 89 = .ok (.iload_n 1, 1) := by decide +kernel
theorem dX4_tellPart_90 : decode cX4_tellPart 90 = .ok (.iconst 4, 1) := by decide +kernel
theorem dX4_tellPart_91 : decode cX4_tellPart 91 = .ok (.iadd, 1) := by decide +kernel
theorem dX4_tellPart_92 : decode cX4_tellPart 92 = .ok (.invokevirtual 93, 3) := by decide +kernel
theorem dX4_tellPart_95 : decode cX4_tellPart 95 = .ok (.iconst 0, 1) := by decide +kernel
theorem dX4_tellPart_96 : decode cX4_tellPart 96 = .ok (.invokevirtual 100, 3) := by decide +kernel
theorem dX4_tellPart_99 : decode cX4_tellPart 99 = .ok (.pop, 1) := by decide +kernel
theorem dX4_tellPart_100 : decode cX4_tellPart 100 = .ok (.return_, 1) := by decide +kernel
theorem dX4_about_0 : decode cX4_about 0 = .ok (.iload_n 1, 1) := by decide +kernel
theorem dX4_about_1 : decode cX4_about 1 = .ok (.tableswitch 120 0 8 #[51, 59, 67, 75, 83, 91, 96, 104, 112], 51) := by decide +kernel
theorem dX4_about_52 : decode cX4_about 52 = .ok (.aload_n 0, 1) := by decide +kernel
theorem dX4_about_53 : decode cX4_about 53 = .ok (.getfield 19, 3) := by decide +kernel
theorem dX4_about_56 : decode cX4_about 56 = .ok (.getfield 68, 3) := by decide +kernel
theorem dX4_about_59 : decode cX4_about 59 = .ok (.ireturn, 1) := by decide +kernel
theorem dX4_about_60 : decode cX4_about 60 = .ok (.aload_n 0, 1) := by decide +kernel
theorem dX4_about_61 : decode cX4_about 61 = .ok (.getfield 26, 3) := by decide +kernel
theorem dX4_about_64 : decode cX4_about 64 = .ok (.getfield 88, 3) := by decide +kernel
theorem dX4_about_67 : decode cX4_about 67 = .ok (.ireturn, 1) := by decide +kernel
theorem dX4_about_68 : decode cX4_about 68 = .ok (.aload_n 0, 1) := by decide +kernel
theorem dX4_about_69 : decode cX4_about 69 = .ok (.getfield 26, 3) := by decide +kernel
theorem dX4_about_72 : decode cX4_about 72 = .ok (.getfield 103, 3) := by decide +kernel
theorem dX4_about_75 : decode cX4_about 75 = .ok (.ireturn, 1) := by decide +kernel
theorem dX4_about_76 : decode cX4_about 76 = .ok (.aload_n 0, 1) := by decide +kernel
theorem dX4_about_77 : decode cX4_about 77 = .ok (.getfield 26, 3) := by decide +kernel
theorem dX4_about_80 : decode cX4_about 80 = .ok (.getfield 106, 3) := by decide +kernel
theorem dX4_about_83 : decode cX4_about 83 = .ok (.ireturn, 1) := by decide +kernel
theorem dX4_about_84 : decode cX4_about 84 = .ok (.aload_n 0, 1) := by decide +kernel
theorem dX4_about_85 : decode cX4_about 85 = .ok (.getfield 26, 3) := by decide +kernel
theorem dX4_about_88 : decode cX4_about 88 = .ok (.getfield 109, 3) := by decide +kernel
theorem dX4_about_91 : decode cX4_about 91 = .ok (.ireturn, 1) := by decide +kernel
theorem dX4_about_92 : decode cX4_about 92 = .ok (.aload_n 0, 1) := by decide +kernel
theorem dX4_about_93 : decode cX4_about 93 = .ok (.getfield 85, 3) := by decide +kernel
theorem dX4_about_96 : decode cX4_about 96 = .ok (.ireturn, 1) := by decide +kernel
theorem dX4_about_97 : decode cX4_about 97 = .ok (.aload_n 0, 1) := by decide +kernel
theorem dX4_about_98 : decode cX4_about 98 = .ok (.getfield 26, 3) := by decide +kernel
theorem dX4_about_101 : decode cX4_about 101 = .ok (.invokevirtual 82, 3) := by decide +kernel
theorem dX4_about_104 : decode cX4_about 104 = .ok (.ireturn, 1) := by decide +kernel
theorem dX4_about_105 : decode cX4_about 105 = .ok (.aload_n 0, 1) := by decide +kernel
theorem dX4_about_106 : decode cX4_about 106 = .ok (.getfield 33, 3) := by decide +kernel
theorem dX4_about_109 : decode cX4_about 109 = .ok (.getfield 74, 3) := by decide +kernel
theorem dX4_about_112 : decode cX4_about 112 = .ok (.ireturn, 1) := by decide +kernel
theorem dX4_about_113 : decode cX4_about 113 = .ok (.aload_n 0, 1) := by decide +kernel
theorem dX4_about_114 : decode cX4_about 114 = .ok (.getfield 10, 3) := by decide +kernel
theorem dX4_about_117 : decode cX4_about 117 = .ok (.getfield 60, 3) := by decide +kernel
theorem dX4_about_120 : decode cX4_about 120 = .ok (.ireturn, 1) := by decide +kernel
theorem dX4_about_121 : decode cX4_about 121 = .ok (.bipush (-2), 2) := by decide +kernel
theorem dX4_about_123 : decode cX4_about 123 = .ok (.ireturn, 1) := by decide +kernel
theorem dX4_well_0 : decode cX4_well 0 = .ok (.aload_n 0, 1) := by decide +kernel
theorem dX4_well_1 : decode cX4_well 1 = .ok (.getfield 19, 3) := by decide +kernel
theorem dX4_well_4 : decode cX4_well 4 = .ok (.iload_n 1, 1) := by decide +kernel
theorem dX4_well_5 : decode cX4_well 5 = .ok (.invokevirtual 112, 3) := by decide +kernel
theorem dX4_well_8 : decode cX4_well 8 = .ok (.ifCond .ne 5, 3) := by decide +kernel
theorem dX4_well_11 : decode cX4_well 11 = .ok (.iconst (-1), 1) := by decide +kernel
theorem dX4_well_12 : decode cX4_well 12 = .ok (.ireturn, 1) := by decide +kernel
theorem dX4_well_13 : decode cX4_well 13 = .ok (.iload_n 2, 1) := by decide +kernel
theorem dX4_well_14 : decode cX4_well 14 = .ok (.tableswitch 74 0 3 #[30, 39, 48, 65], 30) := by decide +kernel
theorem dX4_well_44 : decode cX4_well 44 = .ok (.aload_n 0, 1) := by decide +kernel
theorem dX4_well_45 : decode cX4_well 45 = .ok (.getfield 19, 3) := by decide +kernel
theorem dX4_well_48 : decode cX4_well 48 = .ok (.iload_n 1, 1) := by decide +kernel
theorem dX4_well_49 : decode cX4_well 49 = .ok (.invokevirtual 115, 3) := by decide +kernel
theorem dX4_well_52 : decode cX4_well 52 = .ok (.ireturn, 1) := by decide +kernel
theorem dX4_well_53 : decode cX4_well 53 = .ok (.aload_n 0, 1) := by decide +kernel
theorem dX4_well_54 : decode cX4_well 54 = .ok (.getfield 19, 3) := by decide +kernel
theorem dX4_well_57 : decode cX4_well 57 = .ok (.iload_n 1, 1) := by decide +kernel
theorem dX4_well_58 : decode cX4_well 58 = .ok (.invokevirtual 118, 3) := by decide +kernel
theorem dX4_well_61 : decode cX4_well 61 = .ok (.ireturn, 1) := by decide +kernel
theorem dX4_well_62 : decode cX4_well 62 = .ok (.aload_n 0, 1) := by decide +kernel
theorem dX4_well_63 : decode cX4_well 63 = .ok (.getfield 26, 3) := by decide +kernel
theorem dX4_well_66 : decode cX4_well 66 = .ok (.iload_n 1, 1) := by decide +kernel
theorem dX4_well_67 : decode cX4_well 67 = .ok (.invokevirtual 121, 3) := by decide +kernel
theorem dX4_well_70 : decode cX4_well 70 = .ok (.ifCond .eq 7, 3) := by decide +kernel
theorem dX4_well_73 : decode cX4_well 73 = .ok (.iconst 1, 1) := by decide +kernel
theorem dX4_well_74 : decode cX4_well 74 = .ok (.goto 4, 3) := by decide +kernel
theorem dX4_well_77 : decode cX4_well 77 = .ok (.iconst 0, 1) := by decide +kernel
theorem dX4_well_78 : decode cX4_well 78 = .ok (.ireturn, 1) := by decide +kernel
theorem dX4_well_79 : decode cX4_well 79 = .ok (.aload_n 0, 1) := by decide +kernel
theorem dX4_well_80 : decode cX4_well 80 = .ok (.getfield 26, 3) := by decide +kernel
theorem dX4_well_83 : decode cX4_well 83 = .ok (.iload_n 1, 1) := by decide +kernel
theorem dX4_well_84 : decode cX4_well 84 = .ok (.invokevirtual 124, 3) := by decide +kernel
theorem dX4_well_87 : decode cX4_well 87 = .ok (.ireturn, 1) := by decide +kernel
theorem dX4_well_88 : decode cX4_well 88 = .ok (.bipush (-2), 2) := by decide +kernel
theorem dX4_well_90 : decode cX4_well 90 = .ok (.ireturn, 1) := by decide +kernel
theorem dX4_song_0 : decode cX4_song 0 = .ok (.aload_n 0, 1) := by decide +kernel
theorem dX4_song_1 : decode cX4_song 1 = .ok (.getfield 26, 3) := by decide +kernel
theorem dX4_song_4 : decode cX4_song 4 = .ok (.iload_n 1, 1) := by decide +kernel
theorem dX4_song_5 : decode cX4_song 5 = .ok (.invokevirtual 127, 3) := by decide +kernel
theorem dX4_song_8 : decode cX4_song 8 = .ok (.ifCond .ne 5, 3) := by decide +kernel
theorem dX4_song_11 : decode cX4_song 11 = .ok (.iconst (-1), 1) := by decide +kernel
theorem dX4_song_12 : decode cX4_song 12 = .ok (.ireturn, 1) := by decide +kernel
theorem dX4_song_13 : decode cX4_song 13 = .ok (.iload_n 2, 1) := by decide +kernel
theorem dX4_song_14 : decode cX4_song 14 = .ok (.iconst 0, 1) := by decide +kernel
theorem dX4_song_15 : decode cX4_song 15 = .ok (.iconst 5, 1) := by decide +kernel
theorem dX4_song_16 : decode cX4_song 16 = .ok (.invokestatic 128, 3) := by decide +kernel
theorem dX4_song_19 : decode cX4_song 19 = .ok (.ifCond .eq 15, 3) := by decide +kernel
theorem dX4_song_22 : decode cX4_song 22 = .ok (.aload_n 0, 1) := by decide +kernel
theorem dX4_song_23 : decode cX4_song 23 = .ok (.getfield 26, 3) := by decide +kernel
theorem dX4_song_26 : decode cX4_song 26 = .ok (.iload_n 1, 1) := by decide +kernel
theorem dX4_song_27 : decode cX4_song 27 = .ok (.iload_n 2, 1) := by decide +kernel
theorem dX4_song_28 : decode cX4_song 28 = .ok (.invokevirtual 132, 3) := by decide +kernel
theorem dX4_song_31 : decode cX4_song 31 = .ok (.goto 5, 3) := by decide +kernel
theorem dX4_song_34 : decode cX4_song 34 = .ok (.bipush (-2), 2) := by decide +kernel
theorem dX4_song_36 : decode cX4_song 36 = .ok (.ireturn, 1) := by decide +kernel
theorem dX4_year_0 : decode cX4_year 0 = .ok (.aload_n 0, 1) := by decide +kernel
theorem dX4_year_1 : decode cX4_year 1 = .ok (.getfield 33, 3) := by decide +kernel
theorem dX4_year_4 : decode cX4_year 4 = .ok (.aload_n 0, 1) := by decide +kernel
theorem dX4_year_5 : decode cX4_year 5 = .ok (.getfield 26, 3) := by decide +kernel
theorem dX4_year_8 : decode cX4_year 8 = .ok (.invokevirtual 136, 3) := by decide +kernel
theorem dX4_year_11 : decode cX4_year 11 = .ok (.aload_n 0, 1) := by decide +kernel
theorem dX4_year_12 : decode cX4_year 12 = .ok (.getfield 26, 3) := by decide +kernel
theorem dX4_year_15 : decode cX4_year 15 = .ok (.aload_n 0, 1) := by decide +kernel
theorem dX4_year_16 : decode cX4_year 16 = .ok (.getfield 19, 3) := by decide +kernel
theorem dX4_year_19 : decode cX4_year 19 = .ok (.invokevirtual 140, 3) := by decide +kernel
theorem dX4_year_22 : decode cX4_year 22 = .ok (.ireturn, 1) := by decide +kernel
theorem dX4_sing_0 : decode cX4_sing 0 = .ok (.aload_n 0, 1) := by decide +kernel
theorem dX4_sing_1 : decode cX4_sing 1 = .ok (.getfield 26, 3) := by decide +kernel
theorem dX4_sing_4 : decode cX4_sing 4 = .ok (.iload_n 1, 1) := by decide +kernel
theorem dX4_sing_5 : decode cX4_sing 5 = .ok (.invokevirtual 127, 3) := by decide +kernel
theorem dX4_sing_8 : decode cX4_sing 8 = .ok (.ifCond .ne 5, 3) := by decide +kernel
theorem dX4_sing_11 : decode cX4_sing 11 = .ok (.iconst (-1), 1) := by decide +kernel
theorem dX4_sing_12 : decode cX4_sing 12 = .ok (.ireturn, 1) := by decide +kernel
theorem dX4_sing_13 : decode cX4_sing 13 = .ok (.iload_n 2, 1) := by decide +kernel
theorem dX4_sing_14 : decode cX4_sing 14 = .ok (.iconst 0, 1) := by decide +kernel
theorem dX4_sing_15 : decode cX4_sing 15 = .ok (.iconst 1, 1) := by decide +kernel
theorem dX4_sing_16 : decode cX4_sing 16 = .ok (.invokestatic 128, 3) := by decide +kernel
theorem dX4_sing_19 : decode cX4_sing 19 = .ok (.ifCond .eq 23, 3) := by decide +kernel
theorem dX4_sing_22 : decode cX4_sing 22 = .ok (.iload_n 3, 1) := by decide +kernel
theorem dX4_sing_23 : decode cX4_sing 23 = .ok (.iconst 1, 1) := by decide +kernel
theorem dX4_sing_24 : decode cX4_sing 24 = .ok (.bipush 9, 2) := by decide +kernel
theorem dX4_sing_26 : decode cX4_sing 26 = .ok (.invokestatic 128, 3) := by decide +kernel
theorem dX4_sing_29 : decode cX4_sing 29 = .ok (.ifCond .eq 13, 3) := by decide +kernel
theorem dX4_sing_32 : decode cX4_sing 32 = .ok (.iload 4, 2) := by decide +kernel
theorem dX4_sing_34 : decode cX4_sing 34 = .ok (.iconst 0, 1) := by decide +kernel
theorem dX4_sing_35 : decode cX4_sing 35 = .ok (.iconst 3, 1) := by decide +kernel
theorem dX4_sing_36 : decode cX4_sing 36 = .ok (.invokestatic 128, 3) := by decide +kernel
theorem dX4_sing_39 : decode cX4_sing 39 = .ok (.ifCond .ne 6, 3) := by decide +kernel
theorem dX4_sing_42 : decode cX4_sing 42 = .ok (.bipush (-2), 2) := by decide +kernel
theorem dX4_sing_44 : decode cX4_sing 44 = .ok (.ireturn, 1) := by decide +kernel
theorem dX4_sing_45 : decode cX4_sing 45 = .ok (.aload_n 0, 1) := by decide +kernel
theorem dX4_sing_46 : decode cX4_sing 46 = .ok (.getfield 26, 3) := by decide +kernel
theorem dX4_sing_49 : decode cX4_sing 49 = .ok (.iload_n 1, 1) := by decide +kernel
theorem dX4_sing_50 : decode cX4_sing 50 = .ok (.iload_n 2, 1) := by decide +kernel
theorem dX4_sing_51 : decode cX4_sing 51 = .ok (.aload_n 0, 1) := by decide +kernel
theorem dX4_sing_52 : decode cX4_sing 52 = .ok (.getfield 19, 3) := by decide +kernel
theorem dX4_sing_55 : decode cX4_sing 55 = .ok (.invokevirtual 144, 3) := by decide +kernel
theorem dX4_sing_58 : decode cX4_sing 58 = .ok (.ifCond .ne 6, 3) := by decide +kernel
theorem dX4_sing_61 : decode cX4_sing 61 = .ok (.bipush (-3), 2) := by decide +kernel
theorem dX4_sing_63 : decode cX4_sing 63 = .ok (.ireturn, 1) := by decide +kernel
theorem dX4_sing_64 : decode cX4_sing 64 = .ok (.aload_n 0, 1) := by decide +kernel
theorem dX4_sing_65 : decode cX4_sing 65 = .ok (.getfield 26, 3) := by decide +kernel
theorem dX4_sing_68 : decode cX4_sing 68 = .ok (.getfield 88, 3) := by decide +kernel
theorem dX4_sing_71 : decode cX4_sing 71 = .ok (.bipush 8, 2) := by decide +kernel
theorem dX4_sing_73 : decode cX4_sing 73 = .ok (.if_icmp .lt 6, 3) := by decide +kernel
theorem dX4_sing_76 : decode cX4_sing 76 = .ok (.bipush (-4), 2) := by decide +kernel
theorem dX4_sing_78 : decode cX4_sing 78 = .ok (.ireturn, 1) := by decide +kernel
theorem dX4_sing_79 : decode cX4_sing 79 = .ok (.aload_n 0, 1) := by decide +kernel
theorem dX4_sing_80 : decode cX4_sing 80 = .ok (.getfield 33, 3) := by decide +kernel
theorem dX4_sing_83 : decode cX4_sing 83 = .ok (.aload_n 0, 1) := by decide +kernel
theorem dX4_sing_84 : decode cX4_sing 84 = .ok (.getfield 26, 3) := by decide +kernel
theorem dX4_sing_87 : decode cX4_sing 87 = .ok (.invokevirtual 136, 3) := by decide +kernel
theorem dX4_sing_90 : decode cX4_sing 90 = .ok (.aload_n 0, 1) := by decide +kernel
theorem dX4_sing_91 : decode cX4_sing 91 = .ok (.getfield 26, 3) := by decide +kernel
theorem dX4_sing_94 : decode cX4_sing 94 = .ok (.iload_n 1, 1) := by decide +kernel
theorem dX4_sing_95 : decode cX4_sing 95 = .ok (.iload_n 2, 1) := by decide +kernel
theorem dX4_sing_96 : decode cX4_sing 96 = .ok (.iload_n 3, 1) := by decide +kernel
theorem dX4_sing_97 : decode cX4_sing 97 = .ok (.iload 4, 2) := by decide +kernel
theorem dX4_sing_99 : decode cX4_sing 99 = .ok (.aload_n 0, 1) := by decide +kernel
theorem dX4_sing_100 : decode cX4_sing 100 = .ok (.getfield 19, 3) := by decide +kernel
theorem dX4_sing_103 : decode cX4_sing 103 = .ok (.invokevirtual 148, 3) := by decide +kernel
theorem dX4_sing_106 : decode cX4_sing 106 = .ok (.ireturn, 1) := by decide +kernel
theorem dX4_lid_0 : decode cX4_lid 0 = .ok (.aload_n 0, 1) := by decide +kernel
theorem dX4_lid_1 : decode cX4_lid 1 = .ok (.getfield 19, 3) := by decide +kernel
theorem dX4_lid_4 : decode cX4_lid 4 = .ok (.iload_n 1, 1) := by decide +kernel
theorem dX4_lid_5 : decode cX4_lid 5 = .ok (.invokevirtual 112, 3) := by decide +kernel
theorem dX4_lid_8 : decode cX4_lid 8 = .ok (.ifCond .ne 5, 3) := by decide +kernel
theorem dX4_lid_11 : decode cX4_lid 11 = .ok (.iconst (-1), 1) := by decide +kernel
theorem dX4_lid_12 : decode cX4_lid 12 = .ok (.ireturn, 1) := by decide +kernel
theorem dX4_lid_13 : decode cX4_lid 13 = .ok (.aload_n 0, 1) := by decide +kernel
theorem dX4_lid_14 : decode cX4_lid 14 = .ok (.getfield 33, 3) := by decide +kernel
theorem dX4_lid_17 : decode cX4_lid 17 = .ok (.aload_n 0, 1) := by decide +kernel
theorem dX4_lid_18 : decode cX4_lid 18 = .ok (.getfield 26, 3) := by decide +kernel
theorem dX4_lid_21 : decode cX4_lid 21 = .ok (.invokevirtual 136, 3) := by decide +kernel
theorem dX4_lid_24 : decode cX4_lid 24 = .ok (.aload_n 0, 1) := by decide +kernel
theorem dX4_lid_25 : decode cX4_lid 25 = .ok (.getfield 26, 3) := by decide +kernel
theorem dX4_lid_28 : decode cX4_lid 28 = .ok (.dup, 1) := by decide +kernel
theorem dX4_lid_29 : decode cX4_lid 29 = .ok (.getfield 109, 3) := by decide +kernel
theorem dX4_lid_32 : decode cX4_lid 32 = .ok (.iconst 1, 1) := by decide +kernel
theorem dX4_lid_33 : decode cX4_lid 33 = .ok (.iload_n 1, 1) := by decide +kernel
theorem dX4_lid_34 : decode cX4_lid 34 = .ok (.ishl, 1) := by decide +kernel
theorem dX4_lid_35 : decode cX4_lid 35 = .ok (.ixor, 1) := by decide +kernel
theorem dX4_lid_36 : decode cX4_lid 36 = .ok (.putfield 109, 3) := by decide +kernel
theorem dX4_lid_39 : decode cX4_lid 39 = .ok (.aload_n 0, 1) := by decide +kernel
theorem dX4_lid_40 : decode cX4_lid 40 = .ok (.getfield 26, 3) := by decide +kernel
theorem dX4_lid_43 : decode cX4_lid 43 = .ok (.iload_n 1, 1) := by decide +kernel
theorem dX4_lid_44 : decode cX4_lid 44 = .ok (.invokevirtual 121, 3) := by decide +kernel
theorem dX4_lid_47 : decode cX4_lid 47 = .ok (.ifCond .eq 7, 3) := by decide +kernel
theorem dX4_lid_50 : decode cX4_lid 50 = .ok (.iconst 1, 1) := by decide +kernel
theorem dX4_lid_51 : decode cX4_lid 51 = .ok (.goto 4, 3) := by decide +kernel
theorem dX4_lid_54 : decode cX4_lid 54 = .ok (.iconst 0, 1) := by decide +kernel
theorem dX4_lid_55 : decode cX4_lid 55 = .ok (.ireturn, 1) := by decide +kernel
theorem dX4_undo_0 : decode cX4_undo 0 = .ok (.aload_n 0, 1) := by decide +kernel
theorem dX4_undo_1 : decode cX4_undo 1 = .ok (.getfield 33, 3) := by decide +kernel
theorem dX4_undo_4 : decode cX4_undo 4 = .ok (.aload_n 0, 1) := by decide +kernel
theorem dX4_undo_5 : decode cX4_undo 5 = .ok (.getfield 26, 3) := by decide +kernel
theorem dX4_undo_8 : decode cX4_undo 8 = .ok (.invokevirtual 152, 3) := by decide +kernel
theorem dX4_undo_11 : decode cX4_undo 11 = .ok (.ifCond .eq 13, 3) := by decide +kernel
theorem dX4_undo_14 : decode cX4_undo 14 = .ok (.aload_n 0, 1) := by decide +kernel
theorem dX4_undo_15 : decode cX4_undo 15 = .ok (.getfield 33, 3) := by decide +kernel
theorem dX4_undo_18 : decode cX4_undo 18 = .ok (.getfield 74, 3) := by decide +kernel
theorem dX4_undo_21 : decode cX4_undo 21 = .ok (.goto 5, 3) := by decide +kernel
theorem dX4_undo_24 : decode cX4_undo 24 = .ok (.bipush (-3), 2) := by decide +kernel
theorem dX4_undo_26 : decode cX4_undo 26 = .ok (.ireturn, 1) := by decide +kernel
theorem dX4_heard_0 : decode cX4_heard 0 = .ok (.aload_n 0, 1) := by decide +kernel
theorem dX4_heard_1 : decode cX4_heard 1 = .ok (.getfield 19, 3) := by decide +kernel
theorem dX4_heard_4 : decode cX4_heard 4 = .ok (.iload_n 1, 1) := by decide +kernel
theorem dX4_heard_5 : decode cX4_heard 5 = .ok (.invokevirtual 112, 3) := by decide +kernel
theorem dX4_heard_8 : decode cX4_heard 8 = .ok (.ifCond .ne 5, 3) := by decide +kernel
theorem dX4_heard_11 : decode cX4_heard 11 = .ok (.iconst (-1), 1) := by decide +kernel
theorem dX4_heard_12 : decode cX4_heard 12 = .ok (.ireturn, 1) := by decide +kernel
theorem dX4_heard_13 : decode cX4_heard 13 = .ok (.iload_n 2, 1) := by decide +kernel
theorem dX4_heard_14 : decode cX4_heard 14 = .ok (.iconst 0, 1) := by decide +kernel
theorem dX4_heard_15 : decode cX4_heard 15 = .ok (.bipush 9, 2) := by decide +kernel
theorem dX4_heard_17 : decode cX4_heard 17 = .ok (.invokestatic 128, 3) := by decide +kernel
theorem dX4_heard_20 : decode cX4_heard 20 = .ok (.ifCond .eq 13, 3) := by decide +kernel
theorem dX4_heard_23 : decode cX4_heard 23 = .ok (.aload_n 0, 1) := by decide +kernel
theorem dX4_heard_24 : decode cX4_heard 24 = .ok (.iload_n 1, 1) := by decide +kernel
theorem dX4_heard_25 : decode cX4_heard 25 = .ok (.iload_n 2, 1) := by decide +kernel
theorem dX4_heard_26 : decode cX4_heard 26 = .ok (.iload_n 3, 1) := by decide +kernel
theorem dX4_heard_27 : decode cX4_heard 27 = .ok (.invokevirtual 156, 3) := by decide +kernel
theorem dX4_heard_30 : decode cX4_heard 30 = .ok (.goto 5, 3) := by decide +kernel
theorem dX4_heard_33 : decode cX4_heard 33 = .ok (.bipush (-2), 2) := by decide +kernel
theorem dX4_heard_35 : decode cX4_heard 35 = .ok (.ireturn, 1) := by decide +kernel
theorem dX4_heardBy_0 : decode cX4_heardBy 0 = .ok (.aload_n 0, 1) := by decide +kernel
theorem dX4_heardBy_1 : decode cX4_heardBy 1 = .ok (.getfield 26, 3) := by decide +kernel
theorem dX4_heardBy_4 : decode cX4_heardBy 4 = .ok (.iload_n 1, 1) := by decide +kernel
theorem dX4_heardBy_5 : decode cX4_heardBy 5 = .ok (.invokevirtual 121, 3) := by decide +kernel
theorem dX4_heardBy_8 : decode cX4_heardBy 8 = .ok (.ifCond .eq 5, 3) := by decide +kernel
theorem dX4_heardBy_11 : decode cX4_heardBy 11 = .ok (.iconst 0, 1) := by decide +kernel
theorem dX4_heardBy_12 : decode cX4_heardBy 12 = .ok (.ireturn, 1) := by decide +kernel
theorem dX4_heardBy_13 : decode cX4_heardBy 13 = .ok (.aload_n 0, 1) := by decide +kernel
theorem dX4_heardBy_14 : decode cX4_heardBy 14 = .ok (.getfield 19, 3) := by decide +kernel
theorem dX4_heardBy_17 : decode cX4_heardBy 17 = .ok (.iload_n 1, 1) := by decide +kernel
theorem dX4_heardBy_18 : decode cX4_heardBy 18 = .ok (.invokevirtual 115, 3) := by decide +kernel
theorem dX4_heardBy_21 : decode cX4_heardBy 21 = .ok (.istore 4, 2) := by decide +kernel
theorem dX4_heardBy_23 : decode cX4_heardBy 23 = .ok (.iload_n 2, 1) := by decide +kernel
theorem dX4_heardBy_24 : decode cX4_heardBy 24 = .ok (.iload 4, 2) := by decide +kernel
theorem dX4_heardBy_26 : decode cX4_heardBy 26 = .ok (.invokestatic 160, 3) := by decide +kernel
theorem dX4_heardBy_29 : decode cX4_heardBy 29 = .ok (.istore 5, 2) := by decide +kernel
theorem dX4_heardBy_31 : decode cX4_heardBy 31 = .ok (.iconst 0, 1) := by decide +kernel
theorem dX4_heardBy_32 : decode cX4_heardBy 32 = .ok (.istore 6, 2) := by decide +kernel
theorem dX4_heardBy_34 : decode cX4_heardBy 34 = .ok (.iconst 0, 1) := by decide +kernel
theorem dX4_heardBy_35 : decode cX4_heardBy 35 = .ok (.istore 7, 2) := by decide +kernel
theorem dX4_heardBy_37 : decode cX4_heardBy 37 = .ok (.iload 7, 2) := by decide +kernel
theorem dX4_heardBy_39 : decode cX4_heardBy 39 = .ok (.aload_n 0, 1) := by decide +kernel
theorem dX4_heardBy_40 : decode cX4_heardBy 40 = .ok (.getfield 26, 3) := by decide +kernel
theorem dX4_heardBy_43 : decode cX4_heardBy 43 = .ok (.getfield 88, 3) := by decide +kernel
theorem dX4_heardBy_46 : decode cX4_heardBy 46 = .ok (.if_icmp .ge 100, 3) := by decide +kernel
theorem dX4_heardBy_49 : decode cX4_heardBy 49 = .ok (.aload_n 0, 1) := by decide +kernel
theorem dX4_heardBy_50 : decode cX4_heardBy 50 = .ok (.getfield 26, 3) := by decide +kernel
theorem dX4_heardBy_53 : decode cX4_heardBy 53 = .ok (.iload 7, 2) := by decide +kernel
theorem dX4_heardBy_55 : decode cX4_heardBy 55 = .ok (.iconst 4, 1) := by decide +kernel
theorem dX4_heardBy_56 : decode cX4_heardBy 56 = .ok (.invokevirtual 132, 3) := by decide +kernel
theorem dX4_heardBy_59 : decode cX4_heardBy 59 = .ok (.iload 4, 2) := by decide +kernel
theorem dX4_heardBy_61 : decode cX4_heardBy 61 = .ok (.invokestatic 160, 3) := by decide +kernel
theorem dX4_heardBy_64 : decode cX4_heardBy 64 = .ok (.iload 5, 2) := by decide +kernel
theorem dX4_heardBy_66 : decode cX4_heardBy 66 = .ok (.isub, 1) := by decide +kernel
theorem dX4_heardBy_67 : decode cX4_heardBy 67 = .ok (.invokestatic 165, 3) := by decide +kernel
theorem dX4_heardBy_70 : decode cX4_heardBy 70 = .ok (.istore 8, 2) := by decide +kernel
theorem dX4_heardBy_72 : decode cX4_heardBy 72 = .ok (.iload_n 3, 1) := by decide +kernel
theorem dX4_heardBy_73 : decode cX4_heardBy 73 = .ok (.ifCond .eq 17, 3) := by decide +kernel
theorem dX4_heardBy_76 : decode cX4_heardBy 76 = .ok (.aload_n 0, 1) := by decide +kernel
theorem dX4_heardBy_77 : decode cX4_heardBy 77 = .ok (.getfield 26, 3) := by decide +kernel
theorem dX4_heardBy_80 : decode cX4_heardBy 80 = .ok (.iload 7, 2) := by decide +kernel
theorem dX4_heardBy_82 : decode cX4_heardBy 82 = .ok (.iconst 3, 1) := by decide +kernel
theorem dX4_heardBy_83 : decode cX4_heardBy 83 = .ok (.invokevirtual 132, 3) := by decide +kernel
theorem dX4_heardBy_86 : decode cX4_heardBy 86 = .ok (.iconst 2, 1) := by decide +kernel
theorem dX4_heardBy_87 : decode cX4_heardBy 87 = .ok (.if_icmp .ge 7, 3) := by decide +kernel
theorem dX4_heardBy_90 : decode cX4_heardBy 90 = .ok (.iconst 1, 1) := by decide +kernel
theorem dX4_heardBy_91 : decode cX4_heardBy 91 = .ok (.goto 4, 3) := by decide +kernel
theorem dX4_heardBy_94 : decode cX4_heardBy 94 = .ok (.iconst 0, 1) := by decide +kernel
theorem dX4_heardBy_95 : decode cX4_heardBy 95 = .ok (.istore 9, 2) := by decide +kernel
theorem dX4_heardBy_97 : decode cX4_heardBy 97 = .ok (.aload_n 0, 1) := by decide +kernel
theorem dX4_heardBy_98 : decode cX4_heardBy 98 = .ok (.getfield 26, 3) := by decide +kernel
theorem dX4_heardBy_101 : decode cX4_heardBy 101 = .ok (.iload 7, 2) := by decide +kernel
theorem dX4_heardBy_103 : decode cX4_heardBy 103 = .ok (.iconst 1, 1) := by decide +kernel
theorem dX4_heardBy_104 : decode cX4_heardBy 104 = .ok (.invokevirtual 132, 3) := by decide +kernel
theorem dX4_heardBy_107 : decode cX4_heardBy 107 = .ok (.iload_n 1, 1) := by decide +kernel
theorem dX4_heardBy_108 : decode cX4_heardBy 108 = .ok (.if_icmp .ne 32, 3) := by decide +kernel
theorem dX4_heardBy_111 : decode cX4_heardBy 111 = .ok (.iload 9, 2) := by decide +kernel
theorem dX4_heardBy_113 : decode cX4_heardBy 113 = .ok (.ifCond .eq 27, 3) := by decide +kernel
theorem dX4_heardBy_116 : decode cX4_heardBy 116 = .ok (.aload_n 0, 1) := by decide +kernel
theorem dX4_heardBy_117 : decode cX4_heardBy 117 = .ok (.getfield 26, 3) := by decide +kernel
theorem dX4_heardBy_120 : decode cX4_heardBy 120 = .ok (.iload 7, 2) := by decide +kernel
theorem dX4_heardBy_122 : decode cX4_heardBy 122 = .ok (.iconst 2, 1) := by decide +kernel
theorem dX4_heardBy_123 : decode cX4_heardBy 123 = .ok (.invokevirtual 132, 3) := by decide +kernel
theorem dX4_heardBy_126 : decode cX4_heardBy 126 = .ok (.iload 8, 2) := by decide +kernel
theorem dX4_heardBy_128 : decode cX4_heardBy 128 = .ok (.if_icmp .le 12, 3) := by decide +kernel
theorem dX4_heardBy_131 : decode cX4_heardBy 131 = .ok (.iload 6, 2) := by decide +kernel
theorem dX4_heardBy_133 : decode cX4_heardBy 133 = .ok (.iconst 1, 1) := by decide +kernel
theorem dX4_heardBy_134 : decode cX4_heardBy 134 = .ok (.iload 7, 2) := by decide +kernel
theorem dX4_heardBy_136 : decode cX4_heardBy 136 = .ok (.ishl, 1) := by decide +kernel
theorem dX4_heardBy_137 : decode cX4_heardBy 137 = .ok (.ior, 1) := by decide +kernel
theorem dX4_heardBy_138 : decode cX4_heardBy 138 = .ok (.istore 6, 2) := by decide +kernel
theorem dX4_heardBy_140 : decode cX4_heardBy 140 = .ok (.iinc 7 1, 3) := by decide +kernel
theorem dX4_heardBy_143 : decode cX4_heardBy 143 = .ok (.goto (-106), 3) := by decide +kernel
theorem dX4_heardBy_146 : decode cX4_heardBy 146 = .ok (.iload 6, 2) := by decide +kernel
theorem dX4_heardBy_148 : decode cX4_heardBy 148 = .ok (.ireturn, 1) := by decide +kernel
theorem dX4_songLasts_0 : decode cX4_songLasts 0 = .ok (.aload_n 0, 1) := by decide +kernel
theorem dX4_songLasts_1 : decode cX4_songLasts 1 = .ok (.getfield 26, 3) := by decide +kernel
theorem dX4_songLasts_4 : decode cX4_songLasts 4 = .ok (.iload_n 1, 1) := by decide +kernel
theorem dX4_songLasts_5 : decode cX4_songLasts 5 = .ok (.invokevirtual 127, 3) := by decide +kernel
theorem dX4_songLasts_8 : decode cX4_songLasts 8 = .ok (.ifCond .ne 5, 3) := by decide +kernel
theorem dX4_songLasts_11 : decode cX4_songLasts 11 = .ok (.iconst (-1), 1) := by decide +kernel
theorem dX4_songLasts_12 : decode cX4_songLasts 12 = .ok (.ireturn, 1) := by decide +kernel
theorem dX4_songLasts_13 : decode cX4_songLasts 13 = .ok (.aload_n 0, 1) := by decide +kernel
theorem dX4_songLasts_14 : decode cX4_songLasts 14 = .ok (.getfield 43, 3) := by decide +kernel
theorem dX4_songLasts_17 : decode cX4_songLasts 17 = .ok (.aload_n 0, 1) := by decide +kernel
theorem dX4_songLasts_18 : decode cX4_songLasts 18 = .ok (.getfield 26, 3) := by decide +kernel
theorem dX4_songLasts_21 : decode cX4_songLasts 21 = .ok (.invokevirtual 168, 3) := by decide +kernel
theorem dX4_songLasts_24 : decode cX4_songLasts 24 = .ok (.iload_n 1, 1) := by decide +kernel
theorem dX4_songLasts_25 : decode cX4_songLasts 25 = .ok (.istore_n 2, 1) := by decide +kernel
theorem dX4_songLasts_26 : decode cX4_songLasts 26 = .ok (.iconst 1, 1) := by decide +kernel
theorem dX4_songLasts_27 : decode cX4_songLasts 27 = .ok (.istore_n 3, 1) := by decide +kernel
theorem dX4_songLasts_28 : decode cX4_songLasts 28 = .ok (.iload_n 3, 1) := by decide +kernel
theorem dX4_songLasts_29 : decode cX4_songLasts 29 = .ok (.bipush 99, 2) := by decide +kernel
theorem dX4_songLasts_31 : decode cX4_songLasts 31 = .ok (.if_icmp .ge 53, 3) := by decide +kernel
theorem dX4_songLasts_34 : decode cX4_songLasts 34 = .ok (.aload_n 0, 1) := by decide +kernel
theorem dX4_songLasts_35 : decode cX4_songLasts 35 = .ok (.getfield 43, 3) := by decide +kernel
theorem dX4_songLasts_38 : decode cX4_songLasts 38 = .ok (.aload_n 0, 1) := by decide +kernel
theorem dX4_songLasts_39 : decode cX4_songLasts 39 = .ok (.getfield 19, 3) := by decide +kernel
theorem dX4_songLasts_42 : decode cX4_songLasts 42 = .ok (.invokevirtual 171, 3) := by decide +kernel
theorem dX4_songLasts_45 : decode cX4_songLasts 45 = .ok (.aload_n 0, 1) := by decide +kernel
theorem dX4_songLasts_46 : decode cX4_songLasts 46 = .ok (.getfield 43, 3) := by decide +kernel
theorem dX4_songLasts_49 : decode cX4_songLasts 49 = .ok (.iload_n 2, 1) := by decide +kernel
theorem dX4_songLasts_50 : decode cX4_songLasts 50 = .ok (.iconst 2, 1) := by decide +kernel
theorem dX4_songLasts_51 : decode cX4_songLasts 51 = .ok (.invokevirtual 132, 3) := by decide +kernel
theorem dX4_songLasts_54 : decode cX4_songLasts 54 = .ok (.ifCond .gt 5, 3) := by decide +kernel
theorem dX4_songLasts_57 : decode cX4_songLasts 57 = .ok (.iload_n 3, 1) := by decide +kernel
theorem dX4_songLasts_58 : decode cX4_songLasts 58 = .ok (.ireturn, 1) := by decide +kernel
theorem dX4_songLasts_59 : decode cX4_songLasts 59 = .ok (.iload_n 2, 1) := by decide +kernel
theorem dX4_songLasts_60 : decode cX4_songLasts 60 = .ok (.aload_n 0, 1) := by decide +kernel
theorem dX4_songLasts_61 : decode cX4_songLasts 61 = .ok (.getfield 43, 3) := by decide +kernel
theorem dX4_songLasts_64 : decode cX4_songLasts 64 = .ok (.iload_n 2, 1) := by decide +kernel
theorem dX4_songLasts_65 : decode cX4_songLasts 65 = .ok (.invokevirtual 175, 3) := by decide +kernel
theorem dX4_songLasts_68 : decode cX4_songLasts 68 = .ok (.isub, 1) := by decide +kernel
theorem dX4_songLasts_69 : decode cX4_songLasts 69 = .ok (.istore_n 2, 1) := by decide +kernel
theorem dX4_songLasts_70 : decode cX4_songLasts 70 = .ok (.aload_n 0, 1) := by decide +kernel
theorem dX4_songLasts_71 : decode cX4_songLasts 71 = .ok (.getfield 43, 3) := by decide +kernel
theorem dX4_songLasts_74 : decode cX4_songLasts 74 = .ok (.invokevirtual 178, 3) := by decide +kernel
theorem dX4_songLasts_77 : decode cX4_songLasts 77 = .ok (.pop, 1) := by decide +kernel
theorem dX4_songLasts_78 : decode cX4_songLasts 78 = .ok (.iinc 3 1, 3) := by decide +kernel
theorem dX4_songLasts_81 : decode cX4_songLasts 81 = .ok (.goto (-53), 3) := by decide +kernel
theorem dX4_songLasts_84 : decode cX4_songLasts 84 = .ok (.bipush 99, 2) := by decide +kernel
theorem dX4_songLasts_86 : decode cX4_songLasts 86 = .ok (.ireturn, 1) := by decide +kernel
theorem dX4_lawLasts_0 : decode cX4_lawLasts 0 = .ok (.iload_n 1, 1) := by decide +kernel
theorem dX4_lawLasts_1 : decode cX4_lawLasts 1 = .ok (.iconst 0, 1) := by decide +kernel
theorem dX4_lawLasts_2 : decode cX4_lawLasts 2 = .ok (.iconst 5, 1) := by decide +kernel
theorem dX4_lawLasts_3 : decode cX4_lawLasts 3 = .ok (.invokestatic 128, 3) := by decide +kernel
theorem dX4_lawLasts_6 : decode cX4_lawLasts 6 = .ok (.ifCond .ne 6, 3) := by decide +kernel
theorem dX4_lawLasts_9 : decode cX4_lawLasts 9 = .ok (.bipush (-2), 2) := by decide +kernel
theorem dX4_lawLasts_11 : decode cX4_lawLasts 11 = .ok (.ireturn, 1) := by decide +kernel
theorem dX4_lawLasts_12 : decode cX4_lawLasts 12 = .ok (.aload_n 0, 1) := by decide +kernel
theorem dX4_lawLasts_13 : decode cX4_lawLasts 13 = .ok (.getfield 43, 3) := by decide +kernel
theorem dX4_lawLasts_16 : decode cX4_lawLasts 16 = .ok (.aload_n 0, 1) := by decide +kernel
theorem dX4_lawLasts_17 : decode cX4_lawLasts 17 = .ok (.getfield 26, 3) := by decide +kernel
theorem dX4_lawLasts_20 : decode cX4_lawLasts 20 = .ok (.invokevirtual 168, 3) := by decide +kernel
theorem dX4_lawLasts_23 : decode cX4_lawLasts 23 = .ok (.iconst 0, 1) := by decide +kernel
theorem dX4_lawLasts_24 : decode cX4_lawLasts 24 = .ok (.istore_n 2, 1) := by decide +kernel
theorem dX4_lawLasts_25 : decode cX4_lawLasts 25 = .ok (.iload_n 2, 1) := by decide +kernel
theorem dX4_lawLasts_26 : decode cX4_lawLasts 26 = .ok (.bipush 99, 2) := by decide +kernel
theorem dX4_lawLasts_28 : decode cX4_lawLasts 28 = .ok (.if_icmp .ge 37, 3) := by decide +kernel
theorem dX4_lawLasts_31 : decode cX4_lawLasts 31 = .ok (.aload_n 0, 1) := by decide +kernel
theorem dX4_lawLasts_32 : decode cX4_lawLasts 32 = .ok (.getfield 43, 3) := by decide +kernel
theorem dX4_lawLasts_35 : decode cX4_lawLasts 35 = .ok (.invokevirtual 82, 3) := by decide +kernel
theorem dX4_lawLasts_38 : decode cX4_lawLasts 38 = .ok (.iload_n 1, 1) := by decide +kernel
theorem dX4_lawLasts_39 : decode cX4_lawLasts 39 = .ok (.ishr, 1) := by decide +kernel
theorem dX4_lawLasts_40 : decode cX4_lawLasts 40 = .ok (.iconst 1, 1) := by decide +kernel
theorem dX4_lawLasts_41 : decode cX4_lawLasts 41 = .ok (.iand, 1) := by decide +kernel
theorem dX4_lawLasts_42 : decode cX4_lawLasts 42 = .ok (.ifCond .ne 5, 3) := by decide +kernel
theorem dX4_lawLasts_45 : decode cX4_lawLasts 45 = .ok (.iload_n 2, 1) := by decide +kernel
theorem dX4_lawLasts_46 : decode cX4_lawLasts 46 = .ok (.ireturn, 1) := by decide +kernel
theorem dX4_lawLasts_47 : decode cX4_lawLasts 47 = .ok (.aload_n 0, 1) := by decide +kernel
theorem dX4_lawLasts_48 : decode cX4_lawLasts 48 = .ok (.getfield 43, 3) := by decide +kernel
theorem dX4_lawLasts_51 : decode cX4_lawLasts 51 = .ok (.aload_n 0, 1) := by decide +kernel
theorem dX4_lawLasts_52 : decode cX4_lawLasts 52 = .ok (.getfield 19, 3) := by decide +kernel
theorem dX4_lawLasts_55 : decode cX4_lawLasts 55 = .ok (.invokevirtual 140, 3) := by decide +kernel
theorem dX4_lawLasts_58 : decode cX4_lawLasts 58 = .ok (.pop, 1) := by decide +kernel
theorem dX4_lawLasts_59 : decode cX4_lawLasts 59 = .ok (.iinc 2 1, 3) := by decide +kernel
theorem dX4_lawLasts_62 : decode cX4_lawLasts 62 = .ok (.goto (-37), 3) := by decide +kernel
theorem dX4_lawLasts_65 : decode cX4_lawLasts 65 = .ok (.bipush 99, 2) := by decide +kernel
theorem dX4_lawLasts_67 : decode cX4_lawLasts 67 = .ok (.ireturn, 1) := by decide +kernel
theorem dX4_lost_0 : decode cX4_lost 0 = .ok (.iload_n 1, 1) := by decide +kernel
theorem dX4_lost_1 : decode cX4_lost 1 = .ok (.iconst 0, 1) := by decide +kernel
theorem dX4_lost_2 : decode cX4_lost 2 = .ok (.bipush 30, 2) := by decide +kernel
theorem dX4_lost_4 : decode cX4_lost 4 = .ok (.invokestatic 128, 3) := by decide +kernel
theorem dX4_lost_7 : decode cX4_lost 7 = .ok (.ifCond .ne 6, 3) := by decide +kernel
theorem dX4_lost_10 : decode cX4_lost 10 = .ok (.bipush (-2), 2) := by decide +kernel
theorem dX4_lost_12 : decode cX4_lost 12 = .ok (.ireturn, 1) := by decide +kernel
theorem dX4_lost_13 : decode cX4_lost 13 = .ok (.aload_n 0, 1) := by decide +kernel
theorem dX4_lost_14 : decode cX4_lost 14 = .ok (.getfield 43, 3) := by decide +kernel
theorem dX4_lost_17 : decode cX4_lost 17 = .ok (.aload_n 0, 1) := by decide +kernel
theorem dX4_lost_18 : decode cX4_lost 18 = .ok (.getfield 26, 3) := by decide +kernel
theorem dX4_lost_21 : decode cX4_lost 21 = .ok (.invokevirtual 168, 3) := by decide +kernel
theorem dX4_lost_24 : decode cX4_lost 24 = .ok (.aload_n 0, 1) := by decide +kernel
theorem dX4_lost_25 : decode cX4_lost 25 = .ok (.getfield 43, 3) := by decide +kernel
theorem dX4_lost_28 : decode cX4_lost 28 = .ok (.iload_n 1, 1) := by decide +kernel
theorem dX4_lost_29 : decode cX4_lost 29 = .ok (.aload_n 0, 1) := by decide +kernel
theorem dX4_lost_30 : decode cX4_lost 30 = .ok (.getfield 19, 3) := by decide +kernel
theorem dX4_lost_33 : decode cX4_lost 33 = .ok (.invokevirtual 181, 3) := by decide +kernel
theorem dX4_lost_36 : decode cX4_lost 36 = .ok (.aload_n 0, 1) := by decide +kernel
theorem dX4_lost_37 : decode cX4_lost 37 = .ok (.getfield 85, 3) := by decide +kernel
theorem dX4_lost_40 : decode cX4_lost 40 = .ok (.aload_n 0, 1) := by decide +kernel
theorem dX4_lost_41 : decode cX4_lost 41 = .ok (.getfield 43, 3) := by decide +kernel
theorem dX4_lost_44 : decode cX4_lost 44 = .ok (.invokevirtual 82, 3) := by decide +kernel
theorem dX4_lost_47 : decode cX4_lost 47 = .ok (.iconst (-1), 1) := by decide +kernel
theorem dX4_lost_48 : decode cX4_lost 48 = .ok (.ixor, 1) := by decide +kernel
theorem dX4_lost_49 : decode cX4_lost 49 = .ok (.iand, 1) := by decide +kernel
theorem dX4_lost_50 : decode cX4_lost 50 = .ok (.ireturn, 1) := by decide +kernel
theorem dX4_plan_0 : decode cX4_plan 0 = .ok (.iload_n 1, 1) := by decide +kernel
theorem dX4_plan_1 : decode cX4_plan 1 = .ok (.iconst 1, 1) := by decide +kernel
theorem dX4_plan_2 : decode cX4_plan 2 = .ok (.iconst 2, 1) := by decide +kernel
theorem dX4_plan_3 : decode cX4_plan 3 = .ok (.invokestatic 128, 3) := by decide +kernel
theorem dX4_plan_6 : decode cX4_plan 6 = .ok (.ifCond .eq 12, 3) := by decide +kernel
theorem dX4_plan_9 : decode cX4_plan 9 = .ok (.iload_n 2, 1) := by decide +kernel
theorem dX4_plan_10 : decode cX4_plan 10 = .ok (.iconst 0, 1) := by decide +kernel
theorem dX4_plan_11 : decode cX4_plan 11 = .ok (.iconst 1, 1) := by decide +kernel
theorem dX4_plan_12 : decode cX4_plan 12 = .ok (.invokestatic 128, 3) := by decide +kernel
theorem dX4_plan_15 : decode cX4_plan 15 = .ok (.ifCond .ne 6, 3) := by decide +kernel
theorem dX4_plan_18 : decode cX4_plan 18 = .ok (.bipush (-2), 2) := by decide +kernel
theorem dX4_plan_20 : decode cX4_plan 20 = .ok (.ireturn, 1) := by decide +kernel
theorem dX4_plan_21 : decode cX4_plan 21 = .ok (.bipush (-100), 2) := by decide +kernel
theorem dX4_plan_23 : decode cX4_plan 23 = .ok (.istore_n 3, 1) := by decide +kernel
theorem dX4_plan_24 : decode cX4_plan 24 = .ok (.iconst 0, 1) := by decide +kernel
theorem dX4_plan_25 : decode cX4_plan 25 = .ok (.istore 4, 2) := by decide +kernel
theorem dX4_plan_27 : decode cX4_plan 27 = .ok (.aload_n 0, 1) := by decide +kernel
theorem dX4_plan_28 : decode cX4_plan 28 = .ok (.getfield 26, 3) := by decide +kernel
theorem dX4_plan_31 : decode cX4_plan 31 = .ok (.invokestatic 185, 3) := by decide +kernel
theorem dX4_plan_34 : decode cX4_plan 34 = .ok (.istore 5, 2) := by decide +kernel
theorem dX4_plan_36 : decode cX4_plan 36 = .ok (.iconst 0, 1) := by decide +kernel
theorem dX4_plan_37 : decode cX4_plan 37 = .ok (.istore 6, 2) := by decide +kernel
theorem dX4_plan_39 : decode cX4_plan 39 = .ok (.iload 6, 2) := by decide +kernel
theorem dX4_plan_41 : decode cX4_plan 41 = .ok (.iload 5, 2) := by decide +kernel
theorem dX4_plan_43 : decode cX4_plan 43 = .ok (.if_icmp .ge 86, 3) := by decide +kernel
theorem dX4_plan_46 : decode cX4_plan 46 = .ok (.aload_n 0, 1) := by decide +kernel
theorem dX4_plan_47 : decode cX4_plan 47 = .ok (.getfield 43, 3) := by decide +kernel
theorem dX4_plan_50 : decode cX4_plan 50 = .ok (.aload_n 0, 1) := by decide +kernel
theorem dX4_plan_51 : decode cX4_plan 51 = .ok (.getfield 26, 3) := by decide +kernel
theorem dX4_plan_54 : decode cX4_plan 54 = .ok (.invokevirtual 168, 3) := by decide +kernel
theorem dX4_plan_57 : decode cX4_plan 57 = .ok (.aload_n 0, 1) := by decide +kernel
theorem dX4_plan_58 : decode cX4_plan 58 = .ok (.aload_n 0, 1) := by decide +kernel
theorem dX4_plan_59 : decode cX4_plan 59 = .ok (.getfield 43, 3) := by decide +kernel
theorem dX4_plan_62 : decode cX4_plan 62 = .ok (.iload 6, 2) := by decide +kernel
theorem dX4_plan_64 : decode cX4_plan 64 = .ok (.invokevirtual 189, 3) := by decide +kernel
theorem dX4_plan_67 : decode cX4_plan 67 = .ok (.ifCond .eq 56, 3) := by decide +kernel
theorem dX4_plan_70 : decode cX4_plan 70 = .ok (.aload_n 0, 1) := by decide +kernel
theorem dX4_plan_71 : decode cX4_plan 71 = .ok (.getfield 43, 3) := by decide +kernel
theorem dX4_plan_74 : decode cX4_plan 74 = .ok (.aload_n 0, 1) := by decide +kernel
theorem dX4_plan_75 : decode cX4_plan 75 = .ok (.getfield 19, 3) := by decide +kernel
theorem dX4_plan_78 : decode cX4_plan 78 = .ok (.invokevirtual 140, 3) := by decide +kernel
theorem dX4_plan_81 : decode cX4_plan 81 = .ok (.pop, 1) := by decide +kernel
theorem dX4_plan_82 : decode cX4_plan 82 = .ok (.iload 6, 2) := by decide +kernel
theorem dX4_plan_84 : decode cX4_plan 84 = .ok (.invokestatic 193, 3) := by decide +kernel
theorem dX4_plan_87 : decode cX4_plan 87 = .ok (.iload_n 1, 1) := by decide +kernel
theorem dX4_plan_88 : decode cX4_plan 88 = .ok (.iconst 1, 1) := by decide +kernel
theorem dX4_plan_89 : decode cX4_plan 89 = .ok (.if_icmp .ne 14, 3) := by decide +kernel
theorem dX4_plan_92 : decode cX4_plan 92 = .ok (.aload_n 0, 1) := by decide +kernel
theorem dX4_plan_93 : decode cX4_plan 93 = .ok (.aload_n 0, 1) := by decide +kernel
theorem dX4_plan_94 : decode cX4_plan 94 = .ok (.getfield 43, 3) := by decide +kernel
theorem dX4_plan_97 : decode cX4_plan 97 = .ok (.invokevirtual 196, 3) := by decide +kernel
theorem dX4_plan_100 : decode cX4_plan 100 = .ok (.goto 7, 3) := by decide +kernel
theorem dX4_plan_103 : decode cX4_plan 103 = .ok (.aload_n 0, 1) := by decide +kernel
theorem dX4_plan_104 : decode cX4_plan 104 = .ok (.invokevirtual 199, 3) := by decide +kernel
theorem dX4_plan_107 : decode cX4_plan 107 = .ok (.iadd, 1) := by decide +kernel
theorem dX4_plan_108 : decode cX4_plan 108 = .ok (.istore 7, 2) := by decide +kernel
theorem dX4_plan_110 : decode cX4_plan 110 = .ok (.iload 7, 2) := by decide +kernel
theorem dX4_plan_112 : decode cX4_plan 112 = .ok (.iload_n 3, 1) := by decide +kernel
theorem dX4_plan_113 : decode cX4_plan 113 = .ok (.if_icmp .le 10, 3) := by decide +kernel
theorem dX4_plan_116 : decode cX4_plan 116 = .ok (.iload 7, 2) := by decide +kernel
theorem dX4_plan_118 : decode cX4_plan 118 = .ok (.istore_n 3, 1) := by decide +kernel
theorem dX4_plan_119 : decode cX4_plan 119 = .ok (.iload 6, 2) := by decide +kernel
theorem dX4_plan_121 : decode cX4_plan 121 = .ok (.istore 4, 2) := by decide +kernel
theorem dX4_plan_123 : decode cX4_plan 123 = .ok (.iinc 6 1, 3) := by decide +kernel
theorem dX4_plan_126 : decode cX4_plan 126 = .ok (.goto (-87), 3) := by decide +kernel
theorem dX4_plan_129 : decode cX4_plan 129 = .ok (.iload_n 2, 1) := by decide +kernel
theorem dX4_plan_130 : decode cX4_plan 130 = .ok (.ifCond .ne 10, 3) := by decide +kernel
theorem dX4_plan_133 : decode cX4_plan 133 = .ok (.iload_n 3, 1) := by decide +kernel
theorem dX4_plan_134 : decode cX4_plan 134 = .ok (.invokestatic 202, 3) := by decide +kernel
theorem dX4_plan_137 : decode cX4_plan 137 = .ok (.goto 5, 3) := by decide +kernel
theorem dX4_plan_140 : decode cX4_plan 140 = .ok (.iload 4, 2) := by decide +kernel
theorem dX4_plan_142 : decode cX4_plan 142 = .ok (.ireturn, 1) := by decide +kernel
theorem dX4_bestSecondWorth_0 : decode cX4_bestSecondWorth 0 = .ok (.bipush (-100), 2) := by decide +kernel
theorem dX4_bestSecondWorth_2 : decode cX4_bestSecondWorth 2 = .ok (.istore_n 1, 1) := by decide +kernel
theorem dX4_bestSecondWorth_3 : decode cX4_bestSecondWorth 3 = .ok (.aload_n 0, 1) := by decide +kernel
theorem dX4_bestSecondWorth_4 : decode cX4_bestSecondWorth 4 = .ok (.getfield 43, 3) := by decide +kernel
theorem dX4_bestSecondWorth_7 : decode cX4_bestSecondWorth 7 = .ok (.invokestatic 185, 3) := by decide +kernel
theorem dX4_bestSecondWorth_10 : decode cX4_bestSecondWorth 10 = .ok (.istore_n 2, 1) := by decide +kernel
theorem dX4_bestSecondWorth_11 : decode cX4_bestSecondWorth 11 = .ok (.iconst 0, 1) := by decide +kernel
theorem dX4_bestSecondWorth_12 : decode cX4_bestSecondWorth 12 = .ok (.istore_n 3, 1) := by decide +kernel
theorem dX4_bestSecondWorth_13 : decode cX4_bestSecondWorth 13 = .ok (.iload_n 3, 1) := by decide +kernel
theorem dX4_bestSecondWorth_14 : decode cX4_bestSecondWorth 14 = .ok (.iload_n 2, 1) := by decide +kernel
theorem dX4_bestSecondWorth_15 : decode cX4_bestSecondWorth 15 = .ok (.if_icmp .ge 62, 3) := by decide +kernel
theorem dX4_bestSecondWorth_18 : decode cX4_bestSecondWorth 18 = .ok (.aload_n 0, 1) := by decide +kernel
theorem dX4_bestSecondWorth_19 : decode cX4_bestSecondWorth 19 = .ok (.getfield 46, 3) := by decide +kernel
theorem dX4_bestSecondWorth_22 : decode cX4_bestSecondWorth 22 = .ok (.aload_n 0, 1) := by decide +kernel
theorem dX4_bestSecondWorth_23 : decode cX4_bestSecondWorth 23 = .ok (.getfield 43, 3) := by decide +kernel
theorem dX4_bestSecondWorth_26 : decode cX4_bestSecondWorth 26 = .ok (.invokevirtual 168, 3) := by decide +kernel
theorem dX4_bestSecondWorth_29 : decode cX4_bestSecondWorth 29 = .ok (.aload_n 0, 1) := by decide +kernel
theorem dX4_bestSecondWorth_30 : decode cX4_bestSecondWorth 30 = .ok (.aload_n 0, 1) := by decide +kernel
theorem dX4_bestSecondWorth_31 : decode cX4_bestSecondWorth 31 = .ok (.getfield 46, 3) := by decide +kernel
theorem dX4_bestSecondWorth_34 : decode cX4_bestSecondWorth 34 = .ok (.iload_n 3, 1) := by decide +kernel
theorem dX4_bestSecondWorth_35 : decode cX4_bestSecondWorth 35 = .ok (.invokevirtual 189, 3) := by decide +kernel
theorem dX4_bestSecondWorth_38 : decode cX4_bestSecondWorth 38 = .ok (.ifCond .eq 33, 3) := by decide +kernel
theorem dX4_bestSecondWorth_41 : decode cX4_bestSecondWorth 41 = .ok (.aload_n 0, 1) := by decide +kernel
theorem dX4_bestSecondWorth_42 : decode cX4_bestSecondWorth 42 = .ok (.getfield 46, 3) := by decide +kernel
theorem dX4_bestSecondWorth_45 : decode cX4_bestSecondWorth 45 = .ok (.aload_n 0, 1) := by decide +kernel
theorem dX4_bestSecondWorth_46 : decode cX4_bestSecondWorth 46 = .ok (.getfield 19, 3) := by decide +kernel
theorem dX4_bestSecondWorth_49 : decode cX4_bestSecondWorth 49 = .ok (.invokevirtual 140, 3) := by decide +kernel
theorem dX4_bestSecondWorth_52 : decode cX4_bestSecondWorth 52 = .ok (.pop, 1) := by decide +kernel
theorem dX4_bestSecondWorth_53 : decode cX4_bestSecondWorth 53 = .ok (.iload_n 1, 1) := by decide +kernel
theorem dX4_bestSecondWorth_54 : decode cX4_bestSecondWorth 54 = .ok (.iload_n 3, 1) := by decide +kernel
theorem dX4_bestSecondWorth_55 : decode cX4_bestSecondWorth 55 = .ok (.invokestatic 193, 3) := by decide +kernel
theorem dX4_bestSecondWorth_58 : decode cX4_bestSecondWorth 58 = .ok (.aload_n 0, 1) := by decide +kernel
theorem dX4_bestSecondWorth_59 : decode cX4_bestSecondWorth 59 = .ok (.aload_n 0, 1) := by decide +kernel
theorem dX4_bestSecondWorth_60 : decode cX4_bestSecondWorth 60 = .ok (.getfield 46, 3) := by decide +kernel
theorem dX4_bestSecondWorth_63 : decode cX4_bestSecondWorth 63 = .ok (.invokevirtual 196, 3) := by decide +kernel
theorem dX4_bestSecondWorth_66 : decode cX4_bestSecondWorth 66 = .ok (.iadd, 1) := by decide +kernel
theorem dX4_bestSecondWorth_67 : decode cX4_bestSecondWorth 67 = .ok (.invokestatic 205, 3) := by decide +kernel
theorem dX4_bestSecondWorth_70 : decode cX4_bestSecondWorth 70 = .ok (.istore_n 1, 1) := by decide +kernel
theorem dX4_bestSecondWorth_71 : decode cX4_bestSecondWorth 71 = .ok (.iinc 3 1, 3) := by decide +kernel
theorem dX4_bestSecondWorth_74 : decode cX4_bestSecondWorth 74 = .ok (.goto (-61), 3) := by decide +kernel
theorem dX4_bestSecondWorth_77 : decode cX4_bestSecondWorth 77 = .ok (.iload_n 1, 1) := by decide +kernel
theorem dX4_bestSecondWorth_78 : decode cX4_bestSecondWorth 78 = .ok (.ireturn, 1) := by decide +kernel
theorem dX4_deedsOf_0 : decode cX4_deedsOf 0 = .ok (.iconst 1, 1) := by decide +kernel
theorem dX4_deedsOf_1 : decode cX4_deedsOf 1 = .ok (.iconst 2, 1) := by decide +kernel
theorem dX4_deedsOf_2 : decode cX4_deedsOf 2 = .ok (.aload_n 0, 1) := by decide +kernel
theorem dX4_deedsOf_3 : decode cX4_deedsOf 3 = .ok (.getfield 88, 3) := by decide +kernel
theorem dX4_deedsOf_6 : decode cX4_deedsOf 6 = .ok (.imul, 1) := by decide +kernel
theorem dX4_deedsOf_7 : decode cX4_deedsOf 7 = .ok (.iadd, 1) := by decide +kernel
theorem dX4_deedsOf_8 : decode cX4_deedsOf 8 = .ok (.ireturn, 1) := by decide +kernel
theorem dX4_isDone_0 : decode cX4_isDone 0 = .ok (.iload_n 2, 1) := by decide +kernel
theorem dX4_isDone_1 : decode cX4_isDone 1 = .ok (.ifCond .ne 5, 3) := by decide +kernel
theorem dX4_isDone_4 : decode cX4_isDone 4 = .ok (.iconst 1, 1) := by decide +kernel
theorem dX4_isDone_5 : decode cX4_isDone 5 = .ok (.ireturn, 1) := by decide +kernel
theorem dX4_isDone_6 : decode cX4_isDone 6 = .ok (.iload_n 2, 1) := by decide +kernel
theorem dX4_isDone_7 : decode cX4_isDone 7 = .ok (.iconst 1, 1) := by decide +kernel
theorem dX4_isDone_8 : decode cX4_isDone 8 = .ok (.isub, 1) := by decide +kernel
theorem dX4_isDone_9 : decode cX4_isDone 9 = .ok (.iconst 2, 1) := by decide +kernel
theorem dX4_isDone_10 : decode cX4_isDone 10 = .ok (.idiv, 1) := by decide +kernel
theorem dX4_isDone_11 : decode cX4_isDone 11 = .ok (.istore_n 3, 1) := by decide +kernel
theorem dX4_isDone_12 : decode cX4_isDone 12 = .ok (.iload_n 2, 1) := by decide +kernel
theorem dX4_isDone_13 : decode cX4_isDone 13 = .ok (.iconst 1, 1) := by decide +kernel
theorem dX4_isDone_14 : decode cX4_isDone 14 = .ok (.isub, 1) := by decide +kernel
theorem dX4_isDone_15 : decode cX4_isDone 15 = .ok (.iconst 2, 1) := by decide +kernel
theorem dX4_isDone_16 : decode cX4_isDone 16 = .ok (.irem, 1) := by decide +kernel
theorem dX4_isDone_17 : decode cX4_isDone 17 = .ok (.istore 4, 2) := by decide +kernel
theorem dX4_isDone_19 : decode cX4_isDone 19 = .ok (.aload_n 1, 1) := by decide +kernel
theorem dX4_isDone_20 : decode cX4_isDone 20 = .ok (.iload_n 3, 1) := by decide +kernel
theorem dX4_isDone_21 : decode cX4_isDone 21 = .ok (.invokevirtual 127, 3) := by decide +kernel
theorem dX4_isDone_24 : decode cX4_isDone 24 = .ok (.ifCond .eq 26, 3) := by decide +kernel
theorem dX4_isDone_27 : decode cX4_isDone 27 = .ok (.aload_n 1, 1) := by decide +kernel
theorem dX4_isDone_28 : decode cX4_isDone 28 = .ok (.iload_n 3, 1) := by decide +kernel
theorem dX4_isDone_29 : decode cX4_isDone 29 = .ok (.iload 4, 2) := by decide +kernel
theorem dX4_isDone_31 : decode cX4_isDone 31 = .ok (.aload_n 0, 1) := by decide +kernel
theorem dX4_isDone_32 : decode cX4_isDone 32 = .ok (.getfield 19, 3) := by decide +kernel
theorem dX4_isDone_35 : decode cX4_isDone 35 = .ok (.invokevirtual 144, 3) := by decide +kernel
theorem dX4_isDone_38 : decode cX4_isDone 38 = .ok (.ifCond .eq 12, 3) := by decide +kernel
theorem dX4_isDone_41 : decode cX4_isDone 41 = .ok (.aload_n 1, 1) := by decide +kernel
theorem dX4_isDone_42 : decode cX4_isDone 42 = .ok (.getfield 88, 3) := by decide +kernel
theorem dX4_isDone_45 : decode cX4_isDone 45 = .ok (.bipush 8, 2) := by decide +kernel
theorem dX4_isDone_47 : decode cX4_isDone 47 = .ok (.if_icmp .lt 5, 3) := by decide +kernel
theorem dX4_isDone_50 : decode cX4_isDone 50 = .ok (.iconst 0, 1) := by decide +kernel
theorem dX4_isDone_51 : decode cX4_isDone 51 = .ok (.ireturn, 1) := by decide +kernel
theorem dX4_isDone_52 : decode cX4_isDone 52 = .ok (.aload_n 1, 1) := by decide +kernel
theorem dX4_isDone_53 : decode cX4_isDone 53 = .ok (.iload_n 3, 1) := by decide +kernel
theorem dX4_isDone_54 : decode cX4_isDone 54 = .ok (.iload 4, 2) := by decide +kernel
theorem dX4_isDone_56 : decode cX4_isDone 56 = .ok (.bipush 6, 2) := by decide +kernel
theorem dX4_isDone_58 : decode cX4_isDone 58 = .ok (.aload_n 1, 1) := by decide +kernel
theorem dX4_isDone_59 : decode cX4_isDone 59 = .ok (.iload_n 3, 1) := by decide +kernel
theorem dX4_isDone_60 : decode cX4_isDone 60 = .ok (.iconst 3, 1) := by decide +kernel
theorem dX4_isDone_61 : decode cX4_isDone 61 = .ok (.invokevirtual 132, 3) := by decide +kernel
theorem dX4_isDone_64 : decode cX4_isDone 64 = .ok (.aload_n 0, 1) := by decide +kernel
theorem dX4_isDone_65 : decode cX4_isDone 65 = .ok (.getfield 19, 3) := by decide +kernel
theorem dX4_isDone_68 : decode cX4_isDone 68 = .ok (.invokevirtual 148, 3) := by decide +kernel
theorem dX4_isDone_71 : decode cX4_isDone 71 = .ok (.pop, 1) := by decide +kernel
theorem dX4_isDone_72 : decode cX4_isDone 72 = .ok (.iconst 1, 1) := by decide +kernel
theorem dX4_isDone_73 : decode cX4_isDone 73 = .ok (.ireturn, 1) := by decide +kernel
theorem dX4_worthOfDeed_0 : decode cX4_worthOfDeed 0 = .ok (.iload_n 0, 1) := by decide +kernel
theorem dX4_worthOfDeed_1 : decode cX4_worthOfDeed 1 = .ok (.ifCond .ne 7, 3) := by decide +kernel
theorem dX4_worthOfDeed_4 : decode cX4_worthOfDeed 4 = .ok (.iconst 0, 1) := by decide +kernel
theorem dX4_worthOfDeed_5 : decode cX4_worthOfDeed 5 = .ok (.goto 4, 3) := by decide +kernel
theorem dX4_worthOfDeed_8 : decode cX4_worthOfDeed 8 = .ok (.iconst (-1), 1) := by decide +kernel
theorem dX4_worthOfDeed_9 : decode cX4_worthOfDeed 9 = .ok (.ireturn, 1) := by decide +kernel
theorem dX4_worthBehindPlan_0 : decode cX4_worthBehindPlan 0 = .ok (.aload_n 1, 1) := by decide +kernel
theorem dX4_worthBehindPlan_1 : decode cX4_worthBehindPlan 1 = .ok (.iconst 3, 1) := by decide +kernel
theorem dX4_worthBehindPlan_2 : decode cX4_worthBehindPlan 2 = .ok (.aload_n 0, 1) := by decide +kernel
theorem dX4_worthBehindPlan_3 : decode cX4_worthBehindPlan 3 = .ok (.getfield 19, 3) := by decide +kernel
theorem dX4_worthBehindPlan_6 : decode cX4_worthBehindPlan 6 = .ok (.invokevirtual 181, 3) := by decide +kernel
theorem dX4_worthBehindPlan_9 : decode cX4_worthBehindPlan 9 = .ok (.iconst 3, 1) := by decide +kernel
theorem dX4_worthBehindPlan_10 : decode cX4_worthBehindPlan 10 = .ok (.aload_n 0, 1) := by decide +kernel
theorem dX4_worthBehindPlan_11 : decode cX4_worthBehindPlan 11 = .ok (.aload_n 1, 1) := by decide +kernel
theorem dX4_worthBehindPlan_12 : decode cX4_worthBehindPlan 12 = .ok (.invokevirtual 208, 3) := by decide +kernel
theorem dX4_worthBehindPlan_15 : decode cX4_worthBehindPlan 15 = .ok (.imul, 1) := by decide +kernel
theorem dX4_worthBehindPlan_16 : decode cX4_worthBehindPlan 16 = .ok (.ireturn, 1) := by decide +kernel
theorem dX4_lawsOfWorth_0 : decode cX4_lawsOfWorth 0 = .ok (.iload_n 0, 1) := by decide +kernel
theorem dX4_lawsOfWorth_1 : decode cX4_lawsOfWorth 1 = .ok (.iconst 2, 1) := by decide +kernel
theorem dX4_lawsOfWorth_2 : decode cX4_lawsOfWorth 2 = .ok (.iadd, 1) := by decide +kernel
theorem dX4_lawsOfWorth_3 : decode cX4_lawsOfWorth 3 = .ok (.iconst 3, 1) := by decide +kernel
theorem dX4_lawsOfWorth_4 : decode cX4_lawsOfWorth 4 = .ok (.idiv, 1) := by decide +kernel
theorem dX4_lawsOfWorth_5 : decode cX4_lawsOfWorth 5 = .ok (.ireturn, 1) := by decide +kernel
theorem dX4_landLawsIn_0 : decode cX4_landLawsIn 0 = .ok (.aload_n 0, 1) := by decide +kernel
theorem dX4_landLawsIn_1 : decode cX4_landLawsIn 1 = .ok (.getfield 85, 3) := by decide +kernel
theorem dX4_landLawsIn_4 : decode cX4_landLawsIn 4 = .ok (.aload_n 1, 1) := by decide +kernel
theorem dX4_landLawsIn_5 : decode cX4_landLawsIn 5 = .ok (.invokevirtual 82, 3) := by decide +kernel
theorem dX4_landLawsIn_8 : decode cX4_landLawsIn 8 = .ok (.iand, 1) := by decide +kernel
theorem dX4_landLawsIn_9 : decode cX4_landLawsIn 9 = .ok (.invokestatic 211, 3) := by decide +kernel
theorem dX4_landLawsIn_12 : decode cX4_landLawsIn 12 = .ok (.ireturn, 1) := by decide +kernel
theorem dX4_landLawsBehind_0 : decode cX4_landLawsBehind 0 = .ok (.aload_n 0, 1) := by decide +kernel
theorem dX4_landLawsBehind_1 : decode cX4_landLawsBehind 1 = .ok (.getfield 43, 3) := by decide +kernel
theorem dX4_landLawsBehind_4 : decode cX4_landLawsBehind 4 = .ok (.aload_n 0, 1) := by decide +kernel
theorem dX4_landLawsBehind_5 : decode cX4_landLawsBehind 5 = .ok (.getfield 26, 3) := by decide +kernel
theorem dX4_landLawsBehind_8 : decode cX4_landLawsBehind 8 = .ok (.invokevirtual 168, 3) := by decide +kernel
theorem dX4_landLawsBehind_11 : decode cX4_landLawsBehind 11 = .ok (.aload_n 0, 1) := by decide +kernel
theorem dX4_landLawsBehind_12 : decode cX4_landLawsBehind 12 = .ok (.getfield 43, 3) := by decide +kernel
theorem dX4_landLawsBehind_15 : decode cX4_landLawsBehind 15 = .ok (.iload_n 2, 1) := by decide +kernel
theorem dX4_landLawsBehind_16 : decode cX4_landLawsBehind 16 = .ok (.putfield 109, 3) := by decide +kernel
theorem dX4_landLawsBehind_19 : decode cX4_landLawsBehind 19 = .ok (.aload_n 0, 1) := by decide +kernel
theorem dX4_landLawsBehind_20 : decode cX4_landLawsBehind 20 = .ok (.getfield 43, 3) := by decide +kernel
theorem dX4_landLawsBehind_23 : decode cX4_landLawsBehind 23 = .ok (.iload_n 1, 1) := by decide +kernel
theorem dX4_landLawsBehind_24 : decode cX4_landLawsBehind 24 = .ok (.aload_n 0, 1) := by decide +kernel
theorem dX4_landLawsBehind_25 : decode cX4_landLawsBehind 25 = .ok (.getfield 19, 3) := by decide +kernel
theorem dX4_landLawsBehind_28 : decode cX4_landLawsBehind 28 = .ok (.invokevirtual 181, 3) := by decide +kernel
theorem dX4_landLawsBehind_31 : decode cX4_landLawsBehind 31 = .ok (.aload_n 0, 1) := by decide +kernel
theorem dX4_landLawsBehind_32 : decode cX4_landLawsBehind 32 = .ok (.aload_n 0, 1) := by decide +kernel
theorem dX4_landLawsBehind_33 : decode cX4_landLawsBehind 33 = .ok (.getfield 43, 3) := by decide +kernel
theorem dX4_landLawsBehind_36 : decode cX4_landLawsBehind 36 = .ok (.invokevirtual 208, 3) := by decide +kernel
theorem dX4_landLawsBehind_39 : decode cX4_landLawsBehind 39 = .ok (.ireturn, 1) := by decide +kernel
theorem dX4_bestLid_0 : decode cX4_bestLid 0 = .ok (.iload_n 1, 1) := by decide +kernel
theorem dX4_bestLid_1 : decode cX4_bestLid 1 = .ok (.iconst 1, 1) := by decide +kernel
theorem dX4_bestLid_2 : decode cX4_bestLid 2 = .ok (.bipush 9, 2) := by decide +kernel
theorem dX4_bestLid_4 : decode cX4_bestLid 4 = .ok (.invokestatic 128, 3) := by decide +kernel
theorem dX4_bestLid_7 : decode cX4_bestLid 7 = .ok (.ifCond .ne 6, 3) := by decide +kernel
theorem dX4_bestLid_10 : decode cX4_bestLid 10 = .ok (.bipush (-2), 2) := by decide +kernel
theorem dX4_bestLid_12 : decode cX4_bestLid 12 = .ok (.ireturn, 1) := by decide +kernel
theorem dX4_bestLid_13 : decode cX4_bestLid 13 = .ok (.bipush (-9), 2) := by decide +kernel
theorem dX4_bestLid_15 : decode cX4_bestLid 15 = .ok (.istore_n 2, 1) := by decide +kernel
theorem dX4_bestLid_16 : decode cX4_bestLid 16 = .ok (.aload_n 0, 1) := by decide +kernel
theorem dX4_bestLid_17 : decode cX4_bestLid 17 = .ok (.iload_n 1, 1) := by decide +kernel
theorem dX4_bestLid_18 : decode cX4_bestLid 18 = .ok (.aload_n 0, 1) := by decide +kernel
theorem dX4_bestLid_19 : decode cX4_bestLid 19 = .ok (.getfield 26, 3) := by decide +kernel
theorem dX4_bestLid_22 : decode cX4_bestLid 22 = .ok (.getfield 109, 3) := by decide +kernel
theorem dX4_bestLid_25 : decode cX4_bestLid 25 = .ok (.invokevirtual 216, 3) := by decide +kernel
theorem dX4_bestLid_28 : decode cX4_bestLid 28 = .ok (.istore_n 3, 1) := by decide +kernel
theorem dX4_bestLid_29 : decode cX4_bestLid 29 = .ok (.iconst 0, 1) := by decide +kernel
theorem dX4_bestLid_30 : decode cX4_bestLid 30 = .ok (.istore 4, 2) := by decide +kernel
theorem dX4_bestLid_32 : decode cX4_bestLid 32 = .ok (.iload 4, 2) := by decide +kernel
theorem dX4_bestLid_34 : decode cX4_bestLid 34 = .ok (.aload_n 0, 1) := by decide +kernel
theorem dX4_bestLid_35 : decode cX4_bestLid 35 = .ok (.getfield 19, 3) := by decide +kernel
theorem dX4_bestLid_38 : decode cX4_bestLid 38 = .ok (.getfield 68, 3) := by decide +kernel
theorem dX4_bestLid_41 : decode cX4_bestLid 41 = .ok (.if_icmp .ge 56, 3) := by decide +kernel
theorem dX4_bestLid_44 : decode cX4_bestLid 44 = .ok (.aload_n 0, 1) := by decide +kernel
theorem dX4_bestLid_45 : decode cX4_bestLid 45 = .ok (.getfield 26, 3) := by decide +kernel
theorem dX4_bestLid_48 : decode cX4_bestLid 48 = .ok (.iload 4, 2) := by decide +kernel
theorem dX4_bestLid_50 : decode cX4_bestLid 50 = .ok (.invokevirtual 121, 3) := by decide +kernel
theorem dX4_bestLid_53 : decode cX4_bestLid 53 = .ok (.ifCond .eq 7, 3) := by decide +kernel
theorem dX4_bestLid_56 : decode cX4_bestLid 56 = .ok (.iconst 0, 1) := by decide +kernel
theorem dX4_bestLid_57 : decode cX4_bestLid 57 = .ok (.goto 20, 3) := by decide +kernel
theorem dX4_bestLid_60 : decode cX4_bestLid 60 = .ok (.aload_n 0, 1) := by decide +kernel
theorem dX4_bestLid_61 : decode cX4_bestLid 61 = .ok (.iload_n 1, 1) := by decide +kernel
theorem dX4_bestLid_62 : decode cX4_bestLid 62 = .ok (.aload_n 0, 1) := by decide +kernel
theorem dX4_bestLid_63 : decode cX4_bestLid 63 = .ok (.getfield 26, 3) := by decide +kernel
theorem dX4_bestLid_66 : decode cX4_bestLid 66 = .ok (.getfield 109, 3) := by decide +kernel
theorem dX4_bestLid_69 : decode cX4_bestLid 69 = .ok (.iconst 1, 1) := by decide +kernel
theorem dX4_bestLid_70 : decode cX4_bestLid 70 = .ok (.iload 4, 2) := by decide +kernel
theorem dX4_bestLid_72 : decode cX4_bestLid 72 = .ok (.ishl, 1) := by decide +kernel
theorem dX4_bestLid_73 : decode cX4_bestLid 73 = .ok (.ior, 1) := by decide +kernel
theorem dX4_bestLid_74 : decode cX4_bestLid 74 = .ok (.invokevirtual 216, 3) := by decide +kernel
theorem dX4_bestLid_77 : decode cX4_bestLid 77 = .ok (.istore 5, 2) := by decide +kernel
theorem dX4_bestLid_79 : decode cX4_bestLid 79 = .ok (.iload 5, 2) := by decide +kernel
theorem dX4_bestLid_81 : decode cX4_bestLid 81 = .ok (.iload_n 3, 1) := by decide +kernel
theorem dX4_bestLid_82 : decode cX4_bestLid 82 = .ok (.if_icmp .le 9, 3) := by decide +kernel
theorem dX4_bestLid_85 : decode cX4_bestLid 85 = .ok (.iload 5, 2) := by decide +kernel
theorem dX4_bestLid_87 : decode cX4_bestLid 87 = .ok (.istore_n 3, 1) := by decide +kernel
theorem dX4_bestLid_88 : decode cX4_bestLid 88 = .ok (.iload 4, 2) := by decide +kernel
theorem dX4_bestLid_90 : decode cX4_bestLid 90 = .ok (.istore_n 2, 1) := by decide +kernel
theorem dX4_bestLid_91 : decode cX4_bestLid 91 = .ok (.iinc 4 1, 3) := by decide +kernel
theorem dX4_bestLid_94 : decode cX4_bestLid 94 = .ok (.goto (-62), 3) := by decide +kernel
theorem dX4_bestLid_97 : decode cX4_bestLid 97 = .ok (.iload_n 2, 1) := by decide +kernel
theorem dX4_bestLid_98 : decode cX4_bestLid 98 = .ok (.ireturn, 1) := by decide +kernel
theorem dX4_lamps_0 : decode cX4_lamps 0 = .ok (.aload_n 0, 1) := by decide +kernel
theorem dX4_lamps_1 : decode cX4_lamps 1 = .ok (.getfield 26, 3) := by decide +kernel
theorem dX4_lamps_4 : decode cX4_lamps 4 = .ok (.invokevirtual 82, 3) := by decide +kernel
theorem dX4_lamps_7 : decode cX4_lamps 7 = .ok (.istore_n 1, 1) := by decide +kernel
theorem dX4_lamps_8 : decode cX4_lamps 8 = .ok (.aload_n 0, 1) := by decide +kernel
theorem dX4_lamps_9 : decode cX4_lamps 9 = .ok (.invokevirtual 219, 3) := by decide +kernel
theorem dX4_lamps_12 : decode cX4_lamps 12 = .ok (.lstore_n 2, 1) := by decide +kernel
theorem dX4_lamps_13 : decode cX4_lamps 13 = .ok (.lconst 1, 1) := by decide +kernel
theorem dX4_lamps_14 : decode cX4_lamps 14 = .ok (.lstore 4, 2) := by decide +kernel
theorem dX4_lamps_16 : decode cX4_lamps 16 = .ok (.iconst 0, 1) := by decide +kernel
theorem dX4_lamps_17 : decode cX4_lamps 17 = .ok (.istore 6, 2) := by decide +kernel
theorem dX4_lamps_19 : decode cX4_lamps 19 = .ok (.iload 6, 2) := by decide +kernel
theorem dX4_lamps_21 : decode cX4_lamps 21 = .ok (.bipush 6, 2) := by decide +kernel
theorem dX4_lamps_23 : decode cX4_lamps 23 = .ok (.if_icmp .gt 31, 3) := by decide +kernel
theorem dX4_lamps_26 : decode cX4_lamps 26 = .ok (.lload 4, 2) := by decide +kernel
theorem dX4_lamps_28 : decode cX4_lamps 28 = .ok (.iload_n 1, 1) := by decide +kernel
theorem dX4_lamps_29 : decode cX4_lamps 29 = .ok (.lushr, 1) := by decide +kernel
theorem dX4_lamps_30 : decode cX4_lamps 30 = .ok (.lconst 1, 1) := by decide +kernel
theorem dX4_lamps_31 : decode cX4_lamps 31 = .ok (.land, 1) := by decide +kernel
theorem dX4_lamps_32 : decode cX4_lamps 32 = .ok (.lconst 1, 1) := by decide +kernel
theorem dX4_lamps_33 : decode cX4_lamps 33 = .ok (.lcmp, 1) := by decide +kernel
theorem dX4_lamps_34 : decode cX4_lamps 34 = .ok (.ifCond .ne 6, 3) := by decide +kernel
theorem dX4_lamps_37 : decode cX4_lamps 37 = .ok (.iload 6, 2) := by decide +kernel
theorem dX4_lamps_39 : decode cX4_lamps 39 = .ok (.ireturn, 1) := by decide +kernel
theorem dX4_lamps_40 : decode cX4_lamps 40 = .ok (.lload 4, 2) := by decide +kernel
theorem dX4_lamps_42 : decode cX4_lamps 42 = .ok (.lload_n 2, 1) := by decide +kernel
theorem dX4_lamps_43 : decode cX4_lamps 43 = .ok (.invokestatic 223, 3) := by decide +kernel
theorem dX4_lamps_46 : decode cX4_lamps 46 = .ok (.lstore 4, 2) := by decide +kernel
theorem dX4_lamps_48 : decode cX4_lamps 48 = .ok (.iinc 6 1, 3) := by decide +kernel
theorem dX4_lamps_51 : decode cX4_lamps 51 = .ok (.goto (-32), 3) := by decide +kernel
theorem dX4_lamps_54 : decode cX4_lamps 54 = .ok (.bipush (-9), 2) := by decide +kernel
theorem dX4_lamps_56 : decode cX4_lamps 56 = .ok (.ireturn, 1) := by decide +kernel
theorem dX4_lawsByOneLamp_0 : decode cX4_lawsByOneLamp 0 = .ok (.lconst 0, 1) := by decide +kernel
theorem dX4_lawsByOneLamp_1 : decode cX4_lawsByOneLamp 1 = .ok (.lstore_n 1, 1) := by decide +kernel
theorem dX4_lawsByOneLamp_2 : decode cX4_lawsByOneLamp 2 = .ok (.iconst 0, 1) := by decide +kernel
theorem dX4_lawsByOneLamp_3 : decode cX4_lawsByOneLamp 3 = .ok (.istore_n 3, 1) := by decide +kernel
theorem dX4_lawsByOneLamp_4 : decode cX4_lawsByOneLamp 4 = .ok (.iload_n 3, 1) := by decide +kernel
theorem dX4_lawsByOneLamp_5 : decode cX4_lawsByOneLamp 5 = .ok (.aload_n 0, 1) := by decide +kernel
theorem dX4_lawsByOneLamp_6 : decode cX4_lawsByOneLamp 6 = .ok (.getfield 19, 3) := by decide +kernel
theorem dX4_lawsByOneLamp_9 : decode cX4_lawsByOneLamp 9 = .ok (.getfield 68, 3) := by decide +kernel
theorem dX4_lawsByOneLamp_12 : decode cX4_lawsByOneLamp 12 = .ok (.if_icmp .ge 45, 3) := by decide +kernel
theorem dX4_lawsByOneLamp_15 : decode cX4_lawsByOneLamp 15 = .ok (.iconst 0, 1) := by decide +kernel
theorem dX4_lawsByOneLamp_16 : decode cX4_lawsByOneLamp 16 = .ok (.istore 4, 2) := by decide +kernel
theorem dX4_lawsByOneLamp_18 : decode cX4_lawsByOneLamp 18 = .ok (.iload 4, 2) := by decide +kernel
theorem dX4_lawsByOneLamp_20 : decode cX4_lawsByOneLamp 20 = .ok (.bipush 9, 2) := by decide +kernel
theorem dX4_lawsByOneLamp_22 : decode cX4_lawsByOneLamp 22 = .ok (.if_icmp .gt 29, 3) := by decide +kernel
theorem dX4_lawsByOneLamp_25 : decode cX4_lawsByOneLamp 25 = .ok (.lload_n 1, 1) := by decide +kernel
theorem dX4_lawsByOneLamp_26 : decode cX4_lawsByOneLamp 26 = .ok (.lconst 1, 1) := by decide +kernel
theorem dX4_lawsByOneLamp_27 : decode cX4_lawsByOneLamp 27 = .ok (.aload_n 0, 1) := by decide +kernel
theorem dX4_lawsByOneLamp_28 : decode cX4_lawsByOneLamp 28 = .ok (.getfield 26, 3) := by decide +kernel
theorem dX4_lawsByOneLamp_31 : decode cX4_lawsByOneLamp 31 = .ok (.aload_n 0, 1) := by decide +kernel
theorem dX4_lawsByOneLamp_32 : decode cX4_lawsByOneLamp 32 = .ok (.iload_n 3, 1) := by decide +kernel
theorem dX4_lawsByOneLamp_33 : decode cX4_lawsByOneLamp 33 = .ok (.iload 4, 2) := by decide +kernel
theorem dX4_lawsByOneLamp_35 : decode cX4_lawsByOneLamp 35 = .ok (.iconst 0, 1) := by decide +kernel
theorem dX4_lawsByOneLamp_36 : decode cX4_lawsByOneLamp 36 = .ok (.invokevirtual 156, 3) := by decide +kernel
theorem dX4_lawsByOneLamp_39 : decode cX4_lawsByOneLamp 39 = .ok (.invokevirtual 227, 3) := by decide +kernel
theorem dX4_lawsByOneLamp_42 : decode cX4_lawsByOneLamp 42 = .ok (.lshl, 1) := by decide +kernel
theorem dX4_lawsByOneLamp_43 : decode cX4_lawsByOneLamp 43 = .ok (.lor, 1) := by decide +kernel
theorem dX4_lawsByOneLamp_44 : decode cX4_lawsByOneLamp 44 = .ok (.lstore_n 1, 1) := by decide +kernel
theorem dX4_lawsByOneLamp_45 : decode cX4_lawsByOneLamp 45 = .ok (.iinc 4 1, 3) := by decide +kernel
theorem dX4_lawsByOneLamp_48 : decode cX4_lawsByOneLamp 48 = .ok (.goto (-30), 3) := by decide +kernel
theorem dX4_lawsByOneLamp_51 : decode cX4_lawsByOneLamp 51 = .ok (.iinc 3 1, 3) := by decide +kernel
theorem dX4_lawsByOneLamp_54 : decode cX4_lawsByOneLamp 54 = .ok (.goto (-50), 3) := by decide +kernel
theorem dX4_lawsByOneLamp_57 : decode cX4_lawsByOneLamp 57 = .ok (.lload_n 1, 1) := by decide +kernel
theorem dX4_lawsByOneLamp_58 : decode cX4_lawsByOneLamp 58 = .ok (.lreturn, 1) := by decide +kernel
theorem dX4_joined_0 : decode cX4_joined 0 = .ok (.lconst 0, 1) := by decide +kernel
theorem dX4_joined_1 : decode cX4_joined 1 = .ok (.lstore 4, 2) := by decide +kernel
theorem dX4_joined_3 : decode cX4_joined 3 = .ok (.iconst 0, 1) := by decide +kernel
theorem dX4_joined_4 : decode cX4_joined 4 = .ok (.istore 6, 2) := by decide +kernel
theorem dX4_joined_6 : decode cX4_joined 6 = .ok (.iload 6, 2) := by decide +kernel
theorem dX4_joined_8 : decode cX4_joined 8 = .ok (.bipush 64, 2) := by decide +kernel
theorem dX4_joined_10 : decode cX4_joined 10 = .ok (.if_icmp .ge 31, 3) := by decide +kernel
theorem dX4_joined_13 : decode cX4_joined 13 = .ok (.lload_n 0, 1) := by decide +kernel
theorem dX4_joined_14 : decode cX4_joined 14 = .ok (.iload 6, 2) := by decide +kernel
theorem dX4_joined_16 : decode cX4_joined 16 = .ok (.lushr, 1) := by decide +kernel
theorem dX4_joined_17 : decode cX4_joined 17 = .ok (.lconst 1, 1) := by decide +kernel
theorem dX4_joined_18 : decode cX4_joined 18 = .ok (.land, 1) := by decide +kernel
theorem dX4_joined_19 : decode cX4_joined 19 = .ok (.lconst 1, 1) := by decide +kernel
theorem dX4_joined_20 : decode cX4_joined 20 = .ok (.lcmp, 1) := by decide +kernel
theorem dX4_joined_21 : decode cX4_joined 21 = .ok (.ifCond .ne 14, 3) := by decide +kernel
theorem dX4_joined_24 : decode cX4_joined 24 = .ok (.lload 4, 2) := by decide +kernel
theorem dX4_joined_26 : decode cX4_joined 26 = .ok (.iload 6, 2) := by decide +kernel
theorem dX4_joined_28 : decode cX4_joined 28 = .ok (.lload_n 2, 1) := by decide +kernel
theorem dX4_joined_29 : decode cX4_joined 29 = .ok (.invokestatic 230, 3) := by decide +kernel
theorem dX4_joined_32 : decode cX4_joined 32 = .ok (.lor, 1) := by decide +kernel
theorem dX4_joined_33 : decode cX4_joined 33 = .ok (.lstore 4, 2) := by decide +kernel
theorem dX4_joined_35 : decode cX4_joined 35 = .ok (.iinc 6 1, 3) := by decide +kernel
theorem dX4_joined_38 : decode cX4_joined 38 = .ok (.goto (-32), 3) := by decide +kernel
theorem dX4_joined_41 : decode cX4_joined 41 = .ok (.lload 4, 2) := by decide +kernel
theorem dX4_joined_43 : decode cX4_joined 43 = .ok (.lreturn, 1) := by decide +kernel
theorem dX4_joinedWithEach_0 : decode cX4_joinedWithEach 0 = .ok (.lconst 0, 1) := by decide +kernel
theorem dX4_joinedWithEach_1 : decode cX4_joinedWithEach 1 = .ok (.lstore_n 3, 1) := by decide +kernel
theorem dX4_joinedWithEach_2 : decode cX4_joinedWithEach 2 = .ok (.iconst 0, 1) := by decide +kernel
theorem dX4_joinedWithEach_3 : decode cX4_joinedWithEach 3 = .ok (.istore 5, 2) := by decide +kernel
theorem dX4_joinedWithEach_5 : decode cX4_joinedWithEach 5 = .ok (.iload 5, 2) := by decide +kernel
theorem dX4_joinedWithEach_7 : decode cX4_joinedWithEach 7 = .ok (.bipush 64, 2) := by decide +kernel
theorem dX4_joinedWithEach_9 : decode cX4_joinedWithEach 9 = .ok (.if_icmp .ge 29, 3) := by decide +kernel
theorem dX4_joinedWithEach_12 : decode cX4_joinedWithEach 12 = .ok (.lload_n 1, 1) := by decide +kernel
theorem dX4_joinedWithEach_13 : decode cX4_joinedWithEach 13 = .ok (.iload 5, 2) := by decide +kernel
theorem dX4_joinedWithEach_15 : decode cX4_joinedWithEach 15 = .ok (.lushr, 1) := by decide +kernel
theorem dX4_joinedWithEach_16 : decode cX4_joinedWithEach 16 = .ok (.lconst 1, 1) := by decide +kernel
theorem dX4_joinedWithEach_17 : decode cX4_joinedWithEach 17 = .ok (.land, 1) := by decide +kernel
theorem dX4_joinedWithEach_18 : decode cX4_joinedWithEach 18 = .ok (.lconst 1, 1) := by decide +kernel
theorem dX4_joinedWithEach_19 : decode cX4_joinedWithEach 19 = .ok (.lcmp, 1) := by decide +kernel
theorem dX4_joinedWithEach_20 : decode cX4_joinedWithEach 20 = .ok (.ifCond .ne 12, 3) := by decide +kernel
theorem dX4_joinedWithEach_23 : decode cX4_joinedWithEach 23 = .ok (.lload_n 3, 1) := by decide +kernel
theorem dX4_joinedWithEach_24 : decode cX4_joinedWithEach 24 = .ok (.lconst 1, 1) := by decide +kernel
theorem dX4_joinedWithEach_25 : decode cX4_joinedWithEach 25 = .ok (.iload_n 0, 1) := by decide +kernel
theorem dX4_joinedWithEach_26 : decode cX4_joinedWithEach 26 = .ok (.iload 5, 2) := by decide +kernel
theorem dX4_joinedWithEach_28 : decode cX4_joinedWithEach 28 = .ok (.ior, 1) := by decide +kernel
theorem dX4_joinedWithEach_29 : decode cX4_joinedWithEach 29 = .ok (.lshl, 1) := by decide +kernel
theorem dX4_joinedWithEach_30 : decode cX4_joinedWithEach 30 = .ok (.lor, 1) := by decide +kernel
theorem dX4_joinedWithEach_31 : decode cX4_joinedWithEach 31 = .ok (.lstore_n 3, 1) := by decide +kernel
theorem dX4_joinedWithEach_32 : decode cX4_joinedWithEach 32 = .ok (.iinc 5 1, 3) := by decide +kernel
theorem dX4_joinedWithEach_35 : decode cX4_joinedWithEach 35 = .ok (.goto (-30), 3) := by decide +kernel
theorem dX4_joinedWithEach_38 : decode cX4_joinedWithEach 38 = .ok (.lload_n 3, 1) := by decide +kernel
theorem dX4_joinedWithEach_39 : decode cX4_joinedWithEach 39 = .ok (.lreturn, 1) := by decide +kernel
theorem dX4_mostPitch_0 : decode cX4_mostPitch 0 = .ok (.iload_n 1, 1) := by decide +kernel
theorem dX4_mostPitch_1 : decode cX4_mostPitch 1 = .ok (.iconst 0, 1) := by decide +kernel
theorem dX4_mostPitch_2 : decode cX4_mostPitch 2 = .ok (.iconst 5, 1) := by decide +kernel
theorem dX4_mostPitch_3 : decode cX4_mostPitch 3 = .ok (.invokestatic 128, 3) := by decide +kernel
theorem dX4_mostPitch_6 : decode cX4_mostPitch 6 = .ok (.ifCond .ne 6, 3) := by decide +kernel
theorem dX4_mostPitch_9 : decode cX4_mostPitch 9 = .ok (.bipush (-2), 2) := by decide +kernel
theorem dX4_mostPitch_11 : decode cX4_mostPitch 11 = .ok (.ireturn, 1) := by decide +kernel
theorem dX4_mostPitch_12 : decode cX4_mostPitch 12 = .ok (.bipush (-9), 2) := by decide +kernel
theorem dX4_mostPitch_14 : decode cX4_mostPitch 14 = .ok (.istore_n 2, 1) := by decide +kernel
theorem dX4_mostPitch_15 : decode cX4_mostPitch 15 = .ok (.iconst 0, 1) := by decide +kernel
theorem dX4_mostPitch_16 : decode cX4_mostPitch 16 = .ok (.istore_n 3, 1) := by decide +kernel
theorem dX4_mostPitch_17 : decode cX4_mostPitch 17 = .ok (.iconst 0, 1) := by decide +kernel
theorem dX4_mostPitch_18 : decode cX4_mostPitch 18 = .ok (.istore 4, 2) := by decide +kernel
theorem dX4_mostPitch_20 : decode cX4_mostPitch 20 = .ok (.iload 4, 2) := by decide +kernel
theorem dX4_mostPitch_22 : decode cX4_mostPitch 22 = .ok (.iconst 4, 1) := by decide +kernel
theorem dX4_mostPitch_23 : decode cX4_mostPitch 23 = .ok (.if_icmp .ge 45, 3) := by decide +kernel
theorem dX4_mostPitch_26 : decode cX4_mostPitch 26 = .ok (.aload_n 0, 1) := by decide +kernel
theorem dX4_mostPitch_27 : decode cX4_mostPitch 27 = .ok (.getfield 26, 3) := by decide +kernel
theorem dX4_mostPitch_30 : decode cX4_mostPitch 30 = .ok (.iload_n 1, 1) := by decide +kernel
theorem dX4_mostPitch_31 : decode cX4_mostPitch 31 = .ok (.iload 4, 2) := by decide +kernel
theorem dX4_mostPitch_33 : decode cX4_mostPitch 33 = .ok (.invokevirtual 234, 3) := by decide +kernel
theorem dX4_mostPitch_36 : decode cX4_mostPitch 36 = .ok (.istore 5, 2) := by decide +kernel
theorem dX4_mostPitch_38 : decode cX4_mostPitch 38 = .ok (.iload 5, 2) := by decide +kernel
theorem dX4_mostPitch_40 : decode cX4_mostPitch 40 = .ok (.iload_n 3, 1) := by decide +kernel
theorem dX4_mostPitch_41 : decode cX4_mostPitch 41 = .ok (.if_icmp .le 12, 3) := by decide +kernel
theorem dX4_mostPitch_44 : decode cX4_mostPitch 44 = .ok (.iload 5, 2) := by decide +kernel
theorem dX4_mostPitch_46 : decode cX4_mostPitch 46 = .ok (.istore_n 3, 1) := by decide +kernel
theorem dX4_mostPitch_47 : decode cX4_mostPitch 47 = .ok (.iload 4, 2) := by decide +kernel
theorem dX4_mostPitch_49 : decode cX4_mostPitch 49 = .ok (.istore_n 2, 1) := by decide +kernel
theorem dX4_mostPitch_50 : decode cX4_mostPitch 50 = .ok (.goto 12, 3) := by decide +kernel
theorem dX4_mostPitch_53 : decode cX4_mostPitch 53 = .ok (.iload 5, 2) := by decide +kernel
theorem dX4_mostPitch_55 : decode cX4_mostPitch 55 = .ok (.iload_n 3, 1) := by decide +kernel
theorem dX4_mostPitch_56 : decode cX4_mostPitch 56 = .ok (.if_icmp .ne 6, 3) := by decide +kernel
theorem dX4_mostPitch_59 : decode cX4_mostPitch 59 = .ok (.bipush (-9), 2) := by decide +kernel
theorem dX4_mostPitch_61 : decode cX4_mostPitch 61 = .ok (.istore_n 2, 1) := by decide +kernel
theorem dX4_mostPitch_62 : decode cX4_mostPitch 62 = .ok (.iinc 4 1, 3) := by decide +kernel
theorem dX4_mostPitch_65 : decode cX4_mostPitch 65 = .ok (.goto (-45), 3) := by decide +kernel
theorem dX4_mostPitch_68 : decode cX4_mostPitch 68 = .ok (.iload_n 2, 1) := by decide +kernel
theorem dX4_mostPitch_69 : decode cX4_mostPitch 69 = .ok (.ireturn, 1) := by decide +kernel
theorem dX4_truest_0 : decode cX4_truest 0 = .ok (.iload_n 1, 1) := by decide +kernel
theorem dX4_truest_1 : decode cX4_truest 1 = .ok (.iconst 0, 1) := by decide +kernel
theorem dX4_truest_2 : decode cX4_truest 2 = .ok (.iconst 5, 1) := by decide +kernel
theorem dX4_truest_3 : decode cX4_truest 3 = .ok (.invokestatic 128, 3) := by decide +kernel
theorem dX4_truest_6 : decode cX4_truest 6 = .ok (.ifCond .ne 6, 3) := by decide +kernel
theorem dX4_truest_9 : decode cX4_truest 9 = .ok (.bipush (-2), 2) := by decide +kernel
theorem dX4_truest_11 : decode cX4_truest 11 = .ok (.ireturn, 1) := by decide +kernel
theorem dX4_truest_12 : decode cX4_truest 12 = .ok (.bipush (-9), 2) := by decide +kernel
theorem dX4_truest_14 : decode cX4_truest 14 = .ok (.istore_n 2, 1) := by decide +kernel
theorem dX4_truest_15 : decode cX4_truest 15 = .ok (.iconst 0, 1) := by decide +kernel
theorem dX4_truest_16 : decode cX4_truest 16 = .ok (.istore_n 3, 1) := by decide +kernel
theorem dX4_truest_17 : decode cX4_truest 17 = .ok (.iload_n 3, 1) := by decide +kernel
theorem dX4_truest_18 : decode cX4_truest 18 = .ok (.aload_n 0, 1) := by decide +kernel
theorem dX4_truest_19 : decode cX4_truest 19 = .ok (.getfield 26, 3) := by decide +kernel
theorem dX4_truest_22 : decode cX4_truest 22 = .ok (.getfield 88, 3) := by decide +kernel
theorem dX4_truest_25 : decode cX4_truest 25 = .ok (.if_icmp .ge 63, 3) := by decide +kernel
theorem dX4_truest_28 : decode cX4_truest 28 = .ok (.aload_n 0, 1) := by decide +kernel
theorem dX4_truest_29 : decode cX4_truest 29 = .ok (.getfield 26, 3) := by decide +kernel
theorem dX4_truest_32 : decode cX4_truest 32 = .ok (.iload_n 3, 1) := by decide +kernel
theorem dX4_truest_33 : decode cX4_truest 33 = .ok (.iconst 0, 1) := by decide +kernel
theorem dX4_truest_34 : decode cX4_truest 34 = .ok (.invokevirtual 132, 3) := by decide +kernel
theorem dX4_truest_37 : decode cX4_truest 37 = .ok (.iload_n 1, 1) := by decide +kernel
theorem dX4_truest_38 : decode cX4_truest 38 = .ok (.if_icmp .ne 7, 3) := by decide +kernel
theorem dX4_truest_41 : decode cX4_truest 41 = .ok (.iconst 1, 1) := by decide +kernel
theorem dX4_truest_42 : decode cX4_truest 42 = .ok (.goto 4, 3) := by decide +kernel
theorem dX4_truest_45 : decode cX4_truest 45 = .ok (.iconst 0, 1) := by decide +kernel
theorem dX4_truest_46 : decode cX4_truest 46 = .ok (.istore 4, 2) := by decide +kernel
theorem dX4_truest_48 : decode cX4_truest 48 = .ok (.iload 4, 2) := by decide +kernel
theorem dX4_truest_50 : decode cX4_truest 50 = .ok (.ifCond .eq 32, 3) := by decide +kernel
theorem dX4_truest_53 : decode cX4_truest 53 = .ok (.iload_n 2, 1) := by decide +kernel
theorem dX4_truest_54 : decode cX4_truest 54 = .ok (.bipush (-9), 2) := by decide +kernel
theorem dX4_truest_56 : decode cX4_truest 56 = .ok (.if_icmp .eq 24, 3) := by decide +kernel
theorem dX4_truest_59 : decode cX4_truest 59 = .ok (.aload_n 0, 1) := by decide +kernel
theorem dX4_truest_60 : decode cX4_truest 60 = .ok (.getfield 26, 3) := by decide +kernel
theorem dX4_truest_63 : decode cX4_truest 63 = .ok (.iload_n 3, 1) := by decide +kernel
theorem dX4_truest_64 : decode cX4_truest 64 = .ok (.iconst 5, 1) := by decide +kernel
theorem dX4_truest_65 : decode cX4_truest 65 = .ok (.invokevirtual 132, 3) := by decide +kernel
theorem dX4_truest_68 : decode cX4_truest 68 = .ok (.aload_n 0, 1) := by decide +kernel
theorem dX4_truest_69 : decode cX4_truest 69 = .ok (.getfield 26, 3) := by decide +kernel
theorem dX4_truest_72 : decode cX4_truest 72 = .ok (.iload_n 2, 1) := by decide +kernel
theorem dX4_truest_73 : decode cX4_truest 73 = .ok (.iconst 5, 1) := by decide +kernel
theorem dX4_truest_74 : decode cX4_truest 74 = .ok (.invokevirtual 132, 3) := by decide +kernel
theorem dX4_truest_77 : decode cX4_truest 77 = .ok (.if_icmp .ge 5, 3) := by decide +kernel
theorem dX4_truest_80 : decode cX4_truest 80 = .ok (.iload_n 3, 1) := by decide +kernel
theorem dX4_truest_81 : decode cX4_truest 81 = .ok (.istore_n 2, 1) := by decide +kernel
theorem dX4_truest_82 : decode cX4_truest 82 = .ok (.iinc 3 1, 3) := by decide +kernel
theorem dX4_truest_85 : decode cX4_truest 85 = .ok (.goto (-68), 3) := by decide +kernel
theorem dX4_truest_88 : decode cX4_truest 88 = .ok (.iload_n 2, 1) := by decide +kernel
theorem dX4_truest_89 : decode cX4_truest 89 = .ok (.ireturn, 1) := by decide +kernel
theorem dX4_back_0 : decode cX4_back 0 = .ok (.aload_n 0, 1) := by decide +kernel
theorem dX4_back_1 : decode cX4_back 1 = .ok (.getfield 19, 3) := by decide +kernel
theorem dX4_back_4 : decode cX4_back 4 = .ok (.iload_n 1, 1) := by decide +kernel
theorem dX4_back_5 : decode cX4_back 5 = .ok (.invokevirtual 112, 3) := by decide +kernel
theorem dX4_back_8 : decode cX4_back 8 = .ok (.ifCond .ne 5, 3) := by decide +kernel
theorem dX4_back_11 : decode cX4_back 11 = .ok (.iconst (-1), 1) := by decide +kernel
theorem dX4_back_12 : decode cX4_back 12 = .ok (.ireturn, 1) := by decide +kernel
theorem dX4_back_13 : decode cX4_back 13 = .ok (.iload_n 2, 1) := by decide +kernel
theorem dX4_back_14 : decode cX4_back 14 = .ok (.iconst 1, 1) := by decide +kernel
theorem dX4_back_15 : decode cX4_back 15 = .ok (.bipush 9, 2) := by decide +kernel
theorem dX4_back_17 : decode cX4_back 17 = .ok (.invokestatic 128, 3) := by decide +kernel
theorem dX4_back_20 : decode cX4_back 20 = .ok (.ifCond .eq 13, 3) := by decide +kernel
theorem dX4_back_23 : decode cX4_back 23 = .ok (.iload_n 3, 1) := by decide +kernel
theorem dX4_back_24 : decode cX4_back 24 = .ok (.iconst 0, 1) := by decide +kernel
theorem dX4_back_25 : decode cX4_back 25 = .ok (.bipush 9, 2) := by decide +kernel
theorem dX4_back_27 : decode cX4_back 27 = .ok (.invokestatic 128, 3) := by decide +kernel
theorem dX4_back_30 : decode cX4_back 30 = .ok (.ifCond .ne 6, 3) := by decide +kernel
theorem dX4_back_33 : decode cX4_back 33 = .ok (.bipush (-2), 2) := by decide +kernel
theorem dX4_back_35 : decode cX4_back 35 = .ok (.ireturn, 1) := by decide +kernel
theorem dX4_back_36 : decode cX4_back 36 = .ok (.iload_n 2, 1) := by decide +kernel
theorem dX4_back_37 : decode cX4_back 37 = .ok (.iload_n 3, 1) := by decide +kernel
theorem dX4_back_38 : decode cX4_back 38 = .ok (.aload_n 0, 1) := by decide +kernel
theorem dX4_back_39 : decode cX4_back 39 = .ok (.getfield 19, 3) := by decide +kernel
theorem dX4_back_42 : decode cX4_back 42 = .ok (.iload_n 1, 1) := by decide +kernel
theorem dX4_back_43 : decode cX4_back 43 = .ok (.aload_n 0, 1) := by decide +kernel
theorem dX4_back_44 : decode cX4_back 44 = .ok (.getfield 26, 3) := by decide +kernel
theorem dX4_back_47 : decode cX4_back 47 = .ok (.iload_n 1, 1) := by decide +kernel
theorem dX4_back_48 : decode cX4_back 48 = .ok (.invokevirtual 121, 3) := by decide +kernel
theorem dX4_back_51 : decode cX4_back 51 = .ok (.invokevirtual 237, 3) := by decide +kernel
theorem dX4_back_54 : decode cX4_back 54 = .ok (.imul, 1) := by decide +kernel
theorem dX4_back_55 : decode cX4_back 55 = .ok (.iadd, 1) := by decide +kernel
theorem dX4_back_56 : decode cX4_back 56 = .ok (.ireturn, 1) := by decide +kernel
theorem dX4_lords_0 : decode cX4_lords 0 = .ok (.iload_n 1, 1) := by decide +kernel
theorem dX4_lords_1 : decode cX4_lords 1 = .ok (.iconst 1, 1) := by decide +kernel
theorem dX4_lords_2 : decode cX4_lords 2 = .ok (.iconst 3, 1) := by decide +kernel
theorem dX4_lords_3 : decode cX4_lords 3 = .ok (.invokestatic 128, 3) := by decide +kernel
theorem dX4_lords_6 : decode cX4_lords 6 = .ok (.ifCond .eq 12, 3) := by decide +kernel
theorem dX4_lords_9 : decode cX4_lords 9 = .ok (.iload_n 2, 1) := by decide +kernel
theorem dX4_lords_10 : decode cX4_lords 10 = .ok (.iconst 0, 1) := by decide +kernel
theorem dX4_lords_11 : decode cX4_lords 11 = .ok (.iconst 1, 1) := by decide +kernel
theorem dX4_lords_12 : decode cX4_lords 12 = .ok (.invokestatic 128, 3) := by decide +kernel
theorem dX4_lords_15 : decode cX4_lords 15 = .ok (.ifCond .ne 6, 3) := by decide +kernel
theorem dX4_lords_18 : decode cX4_lords 18 = .ok (.bipush (-2), 2) := by decide +kernel
theorem dX4_lords_20 : decode cX4_lords 20 = .ok (.ireturn, 1) := by decide +kernel
theorem dX4_lords_21 : decode cX4_lords 21 = .ok (.aload_n 0, 1) := by decide +kernel
theorem dX4_lords_22 : decode cX4_lords 22 = .ok (.invokevirtual 241, 3) := by decide +kernel
theorem dX4_lords_25 : decode cX4_lords 25 = .ok (.iload_n 1, 1) := by decide +kernel
theorem dX4_lords_26 : decode cX4_lords 26 = .ok (.istore_n 3, 1) := by decide +kernel
theorem dX4_lords_27 : decode cX4_lords 27 = .ok (.iload_n 3, 1) := by decide +kernel
theorem dX4_lords_28 : decode cX4_lords 28 = .ok (.iconst 1, 1) := by decide +kernel
theorem dX4_lords_29 : decode cX4_lords 29 = .ok (.if_icmp .le 25, 3) := by decide +kernel
theorem dX4_lords_32 : decode cX4_lords 32 = .ok (.aload_n 0, 1) := by decide +kernel
theorem dX4_lords_33 : decode cX4_lords 33 = .ok (.iload_n 3, 1) := by decide +kernel
theorem dX4_lords_34 : decode cX4_lords 34 = .ok (.iconst 2, 1) := by decide +kernel
theorem dX4_lords_35 : decode cX4_lords 35 = .ok (.irem, 1) := by decide +kernel
theorem dX4_lords_36 : decode cX4_lords 36 = .ok (.iconst 1, 1) := by decide +kernel
theorem dX4_lords_37 : decode cX4_lords 37 = .ok (.if_icmp .ne 7, 3) := by decide +kernel
theorem dX4_lords_40 : decode cX4_lords 40 = .ok (.iconst 1, 1) := by decide +kernel
theorem dX4_lords_41 : decode cX4_lords 41 = .ok (.goto 4, 3) := by decide +kernel
theorem dX4_lords_44 : decode cX4_lords 44 = .ok (.iconst 0, 1) := by decide +kernel
theorem dX4_lords_45 : decode cX4_lords 45 = .ok (.invokevirtual 244, 3) := by decide +kernel
theorem dX4_lords_48 : decode cX4_lords 48 = .ok (.iinc 3 (-1), 3) := by decide +kernel
theorem dX4_lords_51 : decode cX4_lords 51 = .ok (.goto (-24), 3) := by decide +kernel
theorem dX4_lords_54 : decode cX4_lords 54 = .ok (.bipush (-100), 2) := by decide +kernel
theorem dX4_lords_56 : decode cX4_lords 56 = .ok (.istore_n 3, 1) := by decide +kernel
theorem dX4_lords_57 : decode cX4_lords 57 = .ok (.iconst 0, 1) := by decide +kernel
theorem dX4_lords_58 : decode cX4_lords 58 = .ok (.istore 4, 2) := by decide +kernel
theorem dX4_lords_60 : decode cX4_lords 60 = .ok (.iconst 0, 1) := by decide +kernel
theorem dX4_lords_61 : decode cX4_lords 61 = .ok (.istore 5, 2) := by decide +kernel
theorem dX4_lords_63 : decode cX4_lords 63 = .ok (.iload 5, 2) := by decide +kernel
theorem dX4_lords_65 : decode cX4_lords 65 = .ok (.aload_n 0, 1) := by decide +kernel
theorem dX4_lords_66 : decode cX4_lords 66 = .ok (.getfield 19, 3) := by decide +kernel
theorem dX4_lords_69 : decode cX4_lords 69 = .ok (.getfield 68, 3) := by decide +kernel
theorem dX4_lords_72 : decode cX4_lords 72 = .ok (.if_icmp .gt 40, 3) := by decide +kernel
theorem dX4_lords_75 : decode cX4_lords 75 = .ok (.aload_n 0, 1) := by decide +kernel
theorem dX4_lords_76 : decode cX4_lords 76 = .ok (.aload_n 0, 1) := by decide +kernel
theorem dX4_lords_77 : decode cX4_lords 77 = .ok (.getfield 26, 3) := by decide +kernel
theorem dX4_lords_80 : decode cX4_lords 80 = .ok (.getfield 109, 3) := by decide +kernel
theorem dX4_lords_83 : decode cX4_lords 83 = .ok (.iload 5, 2) := by decide +kernel
theorem dX4_lords_85 : decode cX4_lords 85 = .ok (.invokestatic 248, 3) := by decide +kernel
theorem dX4_lords_88 : decode cX4_lords 88 = .ok (.invokevirtual 251, 3) := by decide +kernel
theorem dX4_lords_91 : decode cX4_lords 91 = .ok (.istore 6, 2) := by decide +kernel
theorem dX4_lords_93 : decode cX4_lords 93 = .ok (.iload 6, 2) := by decide +kernel
theorem dX4_lords_95 : decode cX4_lords 95 = .ok (.iload_n 3, 1) := by decide +kernel
theorem dX4_lords_96 : decode cX4_lords 96 = .ok (.if_icmp .le 10, 3) := by decide +kernel
theorem dX4_lords_99 : decode cX4_lords 99 = .ok (.iload 6, 2) := by decide +kernel
theorem dX4_lords_101 : decode cX4_lords 101 = .ok (.istore_n 3, 1) := by decide +kernel
theorem dX4_lords_102 : decode cX4_lords 102 = .ok (.iload 5, 2) := by decide +kernel
theorem dX4_lords_104 : decode cX4_lords 104 = .ok (.istore 4, 2) := by decide +kernel
theorem dX4_lords_106 : decode cX4_lords 106 = .ok (.iinc 5 1, 3) := by decide +kernel
theorem dX4_lords_109 : decode cX4_lords 109 = .ok (.goto (-46), 3) := by decide +kernel
theorem dX4_lords_112 : decode cX4_lords 112 = .ok (.iload_n 2, 1) := by decide +kernel
theorem dX4_lords_113 : decode cX4_lords 113 = .ok (.ifCond .ne 7, 3) := by decide +kernel
theorem dX4_lords_116 : decode cX4_lords 116 = .ok (.iload_n 3, 1) := by decide +kernel
theorem dX4_lords_117 : decode cX4_lords 117 = .ok (.goto 5, 3) := by decide +kernel
theorem dX4_lords_120 : decode cX4_lords 120 = .ok (.iload 4, 2) := by decide +kernel
theorem dX4_lords_122 : decode cX4_lords 122 = .ok (.ireturn, 1) := by decide +kernel
theorem dX4_weighLids_0 : decode cX4_weighLids 0 = .ok (.iconst 0, 1) := by decide +kernel
theorem dX4_weighLids_1 : decode cX4_weighLids 1 = .ok (.istore_n 1, 1) := by decide +kernel
theorem dX4_weighLids_2 : decode cX4_weighLids 2 = .ok (.iload_n 1, 1) := by decide +kernel
theorem dX4_weighLids_3 : decode cX4_weighLids 3 = .ok (.aload_n 0, 1) := by decide +kernel
theorem dX4_weighLids_4 : decode cX4_weighLids 4 = .ok (.getfield 49, 3) := by decide +kernel
theorem dX4_weighLids_7 : decode cX4_weighLids 7 = .ok (.arraylength, 1) := by decide +kernel
theorem dX4_weighLids_8 : decode cX4_weighLids 8 = .ok (.if_icmp .ge 38, 3) := by decide +kernel
theorem dX4_weighLids_11 : decode cX4_weighLids 11 = .ok (.aload_n 0, 1) := by decide +kernel
theorem dX4_weighLids_12 : decode cX4_weighLids 12 = .ok (.getfield 49, 3) := by decide +kernel
theorem dX4_weighLids_15 : decode cX4_weighLids 15 = .ok (.iload_n 1, 1) := by decide +kernel
theorem dX4_weighLids_16 : decode cX4_weighLids 16 = .ok (.iload_n 1, 1) := by decide +kernel
theorem dX4_weighLids_17 : decode cX4_weighLids 17 = .ok (.iconst 1, 1) := by decide +kernel
theorem dX4_weighLids_18 : decode cX4_weighLids 18 = .ok (.aload_n 0, 1) := by decide +kernel
theorem dX4_weighLids_19 : decode cX4_weighLids 19 = .ok (.getfield 19, 3) := by decide +kernel
theorem dX4_weighLids_22 : decode cX4_weighLids 22 = .ok (.getfield 68, 3) := by decide +kernel
theorem dX4_weighLids_25 : decode cX4_weighLids 25 = .ok (.ishl, 1) := by decide +kernel
theorem dX4_weighLids_26 : decode cX4_weighLids 26 = .ok (.if_icmp .ge 12, 3) := by decide +kernel
theorem dX4_weighLids_29 : decode cX4_weighLids 29 = .ok (.aload_n 0, 1) := by decide +kernel
theorem dX4_weighLids_30 : decode cX4_weighLids 30 = .ok (.iconst 4, 1) := by decide +kernel
theorem dX4_weighLids_31 : decode cX4_weighLids 31 = .ok (.iload_n 1, 1) := by decide +kernel
theorem dX4_weighLids_32 : decode cX4_weighLids 32 = .ok (.invokevirtual 216, 3) := by decide +kernel
theorem dX4_weighLids_35 : decode cX4_weighLids 35 = .ok (.goto 4, 3) := by decide +kernel
theorem dX4_weighLids_38 : decode cX4_weighLids 38 = .ok (.iconst 0, 1) := by decide +kernel
theorem dX4_weighLids_39 : decode cX4_weighLids 39 = .ok (.iastore, 1) := by decide +kernel
theorem dX4_weighLids_40 : decode cX4_weighLids 40 = .ok (.iinc 1 1, 3) := by decide +kernel
theorem dX4_weighLids_43 : decode cX4_weighLids 43 = .ok (.goto (-41), 3) := by decide +kernel
theorem dX4_weighLids_46 : decode cX4_weighLids 46 = .ok (.return_, 1) := by decide +kernel
theorem dX4_weighTurn_0 : decode cX4_weighTurn 0 = .ok (.iconst 0, 1) := by decide +kernel
theorem dX4_weighTurn_1 : decode cX4_weighTurn 1 = .ok (.istore_n 2, 1) := by decide +kernel
theorem dX4_weighTurn_2 : decode cX4_weighTurn 2 = .ok (.iload_n 2, 1) := by decide +kernel
theorem dX4_weighTurn_3 : decode cX4_weighTurn 3 = .ok (.aload_n 0, 1) := by decide +kernel
theorem dX4_weighTurn_4 : decode cX4_weighTurn 4 = .ok (.getfield 53, 3) := by decide +kernel
theorem dX4_weighTurn_7 : decode cX4_weighTurn 7 = .ok (.arraylength, 1) := by decide +kernel
theorem dX4_weighTurn_8 : decode cX4_weighTurn 8 = .ok (.if_icmp .ge 75, 3) := by decide +kernel
theorem dX4_weighTurn_11 : decode cX4_weighTurn 11 = .ok (.aload_n 0, 1) := by decide +kernel
theorem dX4_weighTurn_12 : decode cX4_weighTurn 12 = .ok (.iload_n 2, 1) := by decide +kernel
theorem dX4_weighTurn_13 : decode cX4_weighTurn 13 = .ok (.invokevirtual 251, 3) := by decide +kernel
theorem dX4_weighTurn_16 : decode cX4_weighTurn 16 = .ok (.istore_n 3, 1) := by decide +kernel
theorem dX4_weighTurn_17 : decode cX4_weighTurn 17 = .ok (.iconst 1, 1) := by decide +kernel
theorem dX4_weighTurn_18 : decode cX4_weighTurn 18 = .ok (.istore 4, 2) := by decide +kernel
theorem dX4_weighTurn_20 : decode cX4_weighTurn 20 = .ok (.iload 4, 2) := by decide +kernel
theorem dX4_weighTurn_22 : decode cX4_weighTurn 22 = .ok (.aload_n 0, 1) := by decide +kernel
theorem dX4_weighTurn_23 : decode cX4_weighTurn 23 = .ok (.getfield 19, 3) := by decide +kernel
theorem dX4_weighTurn_26 : decode cX4_weighTurn 26 = .ok (.getfield 68, 3) := by decide +kernel
theorem dX4_weighTurn_29 : decode cX4_weighTurn 29 = .ok (.if_icmp .gt 41, 3) := by decide +kernel
theorem dX4_weighTurn_32 : decode cX4_weighTurn 32 = .ok (.aload_n 0, 1) := by decide +kernel
theorem dX4_weighTurn_33 : decode cX4_weighTurn 33 = .ok (.iload_n 2, 1) := by decide +kernel
theorem dX4_weighTurn_34 : decode cX4_weighTurn 34 = .ok (.iload 4, 2) := by decide +kernel
theorem dX4_weighTurn_36 : decode cX4_weighTurn 36 = .ok (.invokestatic 248, 3) := by decide +kernel
theorem dX4_weighTurn_39 : decode cX4_weighTurn 39 = .ok (.invokevirtual 251, 3) := by decide +kernel
theorem dX4_weighTurn_42 : decode cX4_weighTurn 42 = .ok (.istore 5, 2) := by decide +kernel
theorem dX4_weighTurn_44 : decode cX4_weighTurn 44 = .ok (.iload_n 1, 1) := by decide +kernel
theorem dX4_weighTurn_45 : decode cX4_weighTurn 45 = .ok (.ifCond .eq 12, 3) := by decide +kernel
theorem dX4_weighTurn_48 : decode cX4_weighTurn 48 = .ok (.iload_n 3, 1) := by decide +kernel
theorem dX4_weighTurn_49 : decode cX4_weighTurn 49 = .ok (.iload 5, 2) := by decide +kernel
theorem dX4_weighTurn_51 : decode cX4_weighTurn 51 = .ok (.invokestatic 205, 3) := by decide +kernel
theorem dX4_weighTurn_54 : decode cX4_weighTurn 54 = .ok (.goto 9, 3) := by decide +kernel
theorem dX4_weighTurn_57 : decode cX4_weighTurn 57 = .ok (.iload_n 3, 1) := by decide +kernel
theorem dX4_weighTurn_58 : decode cX4_weighTurn 58 = .ok (.iload 5, 2) := by decide +kernel
theorem dX4_weighTurn_60 : decode cX4_weighTurn 60 = .ok (.invokestatic 160, 3) := by decide +kernel
theorem dX4_weighTurn_63 : decode cX4_weighTurn 63 = .ok (.istore_n 3, 1) := by decide +kernel
theorem dX4_weighTurn_64 : decode cX4_weighTurn 64 = .ok (.iinc 4 1, 3) := by decide +kernel
theorem dX4_weighTurn_67 : decode cX4_weighTurn 67 = .ok (.goto (-47), 3) := by decide +kernel
theorem dX4_weighTurn_70 : decode cX4_weighTurn 70 = .ok (.aload_n 0, 1) := by decide +kernel
theorem dX4_weighTurn_71 : decode cX4_weighTurn 71 = .ok (.getfield 53, 3) := by decide +kernel
theorem dX4_weighTurn_74 : decode cX4_weighTurn 74 = .ok (.iload_n 2, 1) := by decide +kernel
theorem dX4_weighTurn_75 : decode cX4_weighTurn 75 = .ok (.iload_n 3, 1) := by decide +kernel
theorem dX4_weighTurn_76 : decode cX4_weighTurn 76 = .ok (.iastore, 1) := by decide +kernel
theorem dX4_weighTurn_77 : decode cX4_weighTurn 77 = .ok (.iinc 2 1, 3) := by decide +kernel
theorem dX4_weighTurn_80 : decode cX4_weighTurn 80 = .ok (.goto (-78), 3) := by decide +kernel
theorem dX4_weighTurn_83 : decode cX4_weighTurn 83 = .ok (.iconst 0, 1) := by decide +kernel
theorem dX4_weighTurn_84 : decode cX4_weighTurn 84 = .ok (.istore_n 2, 1) := by decide +kernel
theorem dX4_weighTurn_85 : decode cX4_weighTurn 85 = .ok (.iload_n 2, 1) := by decide +kernel
theorem dX4_weighTurn_86 : decode cX4_weighTurn 86 = .ok (.aload_n 0, 1) := by decide +kernel
theorem dX4_weighTurn_87 : decode cX4_weighTurn 87 = .ok (.getfield 49, 3) := by decide +kernel
theorem dX4_weighTurn_90 : decode cX4_weighTurn 90 = .ok (.arraylength, 1) := by decide +kernel
theorem dX4_weighTurn_91 : decode cX4_weighTurn 91 = .ok (.if_icmp .ge 30, 3) := by decide +kernel
theorem dX4_weighTurn_94 : decode cX4_weighTurn 94 = .ok (.iload_n 2, 1) := by decide +kernel
theorem dX4_weighTurn_95 : decode cX4_weighTurn 95 = .ok (.aload_n 0, 1) := by decide +kernel
theorem dX4_weighTurn_96 : decode cX4_weighTurn 96 = .ok (.getfield 53, 3) := by decide +kernel
theorem dX4_weighTurn_99 : decode cX4_weighTurn 99 = .ok (.arraylength, 1) := by decide +kernel
theorem dX4_weighTurn_100 : decode cX4_weighTurn 100 = .ok (.if_icmp .ge 21, 3) := by decide +kernel
theorem dX4_weighTurn_103 : decode cX4_weighTurn 103 = .ok (.aload_n 0, 1) := by decide +kernel
theorem dX4_weighTurn_104 : decode cX4_weighTurn 104 = .ok (.getfield 49, 3) := by decide +kernel
theorem dX4_weighTurn_107 : decode cX4_weighTurn 107 = .ok (.iload_n 2, 1) := by decide +kernel
theorem dX4_weighTurn_108 : decode cX4_weighTurn 108 = .ok (.aload_n 0, 1) := by decide +kernel
theorem dX4_weighTurn_109 : decode cX4_weighTurn 109 = .ok (.getfield 53, 3) := by decide +kernel
theorem dX4_weighTurn_112 : decode cX4_weighTurn 112 = .ok (.iload_n 2, 1) := by decide +kernel
theorem dX4_weighTurn_113 : decode cX4_weighTurn 113 = .ok (.iaload, 1) := by decide +kernel
theorem dX4_weighTurn_114 : decode cX4_weighTurn 114 = .ok (.iastore, 1) := by decide +kernel
theorem dX4_weighTurn_115 : decode cX4_weighTurn 115 = .ok (.iinc 2 1, 3) := by decide +kernel
theorem dX4_weighTurn_118 : decode cX4_weighTurn 118 = .ok (.goto (-33), 3) := by decide +kernel
theorem dX4_weighTurn_121 : decode cX4_weighTurn 121 = .ok (.return_, 1) := by decide +kernel
theorem dX4_worthOfLids_0 : decode cX4_worthOfLids 0 = .ok (.iload_n 1, 1) := by decide +kernel
theorem dX4_worthOfLids_1 : decode cX4_worthOfLids 1 = .ok (.ifCond .lt 21, 3) := by decide +kernel
theorem dX4_worthOfLids_4 : decode cX4_worthOfLids 4 = .ok (.iload_n 1, 1) := by decide +kernel
theorem dX4_worthOfLids_5 : decode cX4_worthOfLids 5 = .ok (.aload_n 0, 1) := by decide +kernel
theorem dX4_worthOfLids_6 : decode cX4_worthOfLids 6 = .ok (.getfield 49, 3) := by decide +kernel
theorem dX4_worthOfLids_9 : decode cX4_worthOfLids 9 = .ok (.arraylength, 1) := by decide +kernel
theorem dX4_worthOfLids_10 : decode cX4_worthOfLids 10 = .ok (.if_icmp .ge 12, 3) := by decide +kernel
theorem dX4_worthOfLids_13 : decode cX4_worthOfLids 13 = .ok (.aload_n 0, 1) := by decide +kernel
theorem dX4_worthOfLids_14 : decode cX4_worthOfLids 14 = .ok (.getfield 49, 3) := by decide +kernel
theorem dX4_worthOfLids_17 : decode cX4_worthOfLids 17 = .ok (.iload_n 1, 1) := by decide +kernel
theorem dX4_worthOfLids_18 : decode cX4_worthOfLids 18 = .ok (.iaload, 1) := by decide +kernel
theorem dX4_worthOfLids_19 : decode cX4_worthOfLids 19 = .ok (.goto 4, 3) := by decide +kernel
theorem dX4_worthOfLids_22 : decode cX4_worthOfLids 22 = .ok (.iconst 0, 1) := by decide +kernel
theorem dX4_worthOfLids_23 : decode cX4_worthOfLids 23 = .ok (.ireturn, 1) := by decide +kernel
theorem dX4_lidsBehind_0 : decode cX4_lidsBehind 0 = .ok (.iload_n 1, 1) := by decide +kernel
theorem dX4_lidsBehind_1 : decode cX4_lidsBehind 1 = .ok (.ifCond .ne 7, 3) := by decide +kernel
theorem dX4_lidsBehind_4 : decode cX4_lidsBehind 4 = .ok (.iload_n 0, 1) := by decide +kernel
theorem dX4_lidsBehind_5 : decode cX4_lidsBehind 5 = .ok (.goto 10, 3) := by decide +kernel
theorem dX4_lidsBehind_8 : decode cX4_lidsBehind 8 = .ok (.iload_n 0, 1) := by decide +kernel
theorem dX4_lidsBehind_9 : decode cX4_lidsBehind 9 = .ok (.iconst 1, 1) := by decide +kernel
theorem dX4_lidsBehind_10 : decode cX4_lidsBehind 10 = .ok (.iload_n 1, 1) := by decide +kernel
theorem dX4_lidsBehind_11 : decode cX4_lidsBehind 11 = .ok (.iconst 1, 1) := by decide +kernel
theorem dX4_lidsBehind_12 : decode cX4_lidsBehind 12 = .ok (.isub, 1) := by decide +kernel
theorem dX4_lidsBehind_13 : decode cX4_lidsBehind 13 = .ok (.ishl, 1) := by decide +kernel
theorem dX4_lidsBehind_14 : decode cX4_lidsBehind 14 = .ok (.ixor, 1) := by decide +kernel
theorem dX4_lidsBehind_15 : decode cX4_lidsBehind 15 = .ok (.ireturn, 1) := by decide +kernel
theorem dX4_rain_0 : decode cX4_rain 0 = .ok (.iload_n 1, 1) := by decide +kernel
theorem dX4_rain_1 : decode cX4_rain 1 = .ok (.iconst 0, 1) := by decide +kernel
theorem dX4_rain_2 : decode cX4_rain 2 = .ok (.iconst 5, 1) := by decide +kernel
theorem dX4_rain_3 : decode cX4_rain 3 = .ok (.invokestatic 128, 3) := by decide +kernel
theorem dX4_rain_6 : decode cX4_rain 6 = .ok (.ifCond .eq 13, 3) := by decide +kernel
theorem dX4_rain_9 : decode cX4_rain 9 = .ok (.iload_n 2, 1) := by decide +kernel
theorem dX4_rain_10 : decode cX4_rain 10 = .ok (.iconst 0, 1) := by decide +kernel
theorem dX4_rain_11 : decode cX4_rain 11 = .ok (.bipush 10, 2) := by decide +kernel
theorem dX4_rain_13 : decode cX4_rain 13 = .ok (.invokestatic 128, 3) := by decide +kernel
theorem dX4_rain_16 : decode cX4_rain 16 = .ok (.ifCond .ne 6, 3) := by decide +kernel
theorem dX4_rain_19 : decode cX4_rain 19 = .ok (.bipush (-2), 2) := by decide +kernel
theorem dX4_rain_21 : decode cX4_rain 21 = .ok (.ireturn, 1) := by decide +kernel
theorem dX4_rain_22 : decode cX4_rain 22 = .ok (.aload_n 0, 1) := by decide +kernel
theorem dX4_rain_23 : decode cX4_rain 23 = .ok (.getfield 26, 3) := by decide +kernel
theorem dX4_rain_26 : decode cX4_rain 26 = .ok (.iload_n 1, 1) := by decide +kernel
theorem dX4_rain_27 : decode cX4_rain 27 = .ok (.invokevirtual 254, 3) := by decide +kernel
theorem dX4_rain_30 : decode cX4_rain 30 = .ok (.ifCond .eq 5, 3) := by decide +kernel
theorem dX4_rain_33 : decode cX4_rain 33 = .ok (.iconst 1, 1) := by decide +kernel
theorem dX4_rain_34 : decode cX4_rain 34 = .ok (.ireturn, 1) := by decide +kernel
theorem dX4_rain_35 : decode cX4_rain 35 = .ok (.iconst 1, 1) := by decide +kernel
theorem dX4_rain_36 : decode cX4_rain 36 = .ok (.istore 4, 2) := by decide +kernel
theorem dX4_rain_38 : decode cX4_rain 38 = .ok (.iconst 1, 1) := by decide +kernel
theorem dX4_rain_39 : decode cX4_rain 39 = .ok (.istore 5, 2) := by decide +kernel
theorem dX4_rain_41 : decode cX4_rain 41 = .ok (.iconst 0, 1) := by decide +kernel
theorem dX4_rain_42 : decode cX4_rain 42 = .ok (.istore 6, 2) := by decide +kernel
theorem dX4_rain_44 : decode cX4_rain 44 = .ok (.iload 6, 2) := by decide +kernel
theorem dX4_rain_46 : decode cX4_rain 46 = .ok (.aload_n 0, 1) := by decide +kernel
theorem dX4_rain_47 : decode cX4_rain 47 = .ok (.getfield 19, 3) := by decide +kernel
theorem dX4_rain_50 : decode cX4_rain 50 = .ok (.getfield 68, 3) := by decide +kernel
theorem dX4_rain_53 : decode cX4_rain 53 = .ok (.if_icmp .ge 35, 3) := by decide +kernel
theorem dX4_rain_56 : decode cX4_rain 56 = .ok (.aload_n 0, 1) := by decide +kernel
theorem dX4_rain_57 : decode cX4_rain 57 = .ok (.getfield 26, 3) := by decide +kernel
theorem dX4_rain_60 : decode cX4_rain 60 = .ok (.iload_n 1, 1) := by decide +kernel
theorem dX4_rain_61 : decode cX4_rain 61 = .ok (.iload 6, 2) := by decide +kernel
theorem dX4_rain_63 : decode cX4_rain 63 = .ok (.invokevirtual 257, 3) := by decide +kernel
theorem dX4_rain_66 : decode cX4_rain 66 = .ok (.ifCond .eq 16, 3) := by decide +kernel
theorem dX4_rain_69 : decode cX4_rain 69 = .ok (.iload 4, 2) := by decide +kernel
theorem dX4_rain_71 : decode cX4_rain 71 = .ok (.bipush 10, 2) := by decide +kernel
theorem dX4_rain_73 : decode cX4_rain 73 = .ok (.imul, 1) := by decide +kernel
theorem dX4_rain_74 : decode cX4_rain 74 = .ok (.istore 4, 2) := by decide +kernel
theorem dX4_rain_76 : decode cX4_rain 76 = .ok (.iload 5, 2) := by decide +kernel
theorem dX4_rain_78 : decode cX4_rain 78 = .ok (.iload_n 2, 1) := by decide +kernel
theorem dX4_rain_79 : decode cX4_rain 79 = .ok (.imul, 1) := by decide +kernel
theorem dX4_rain_80 : decode cX4_rain 80 = .ok (.istore 5, 2) := by decide +kernel
theorem dX4_rain_82 : decode cX4_rain 82 = .ok (.iinc 6 1, 3) := by decide +kernel
theorem dX4_rain_85 : decode cX4_rain 85 = .ok (.goto (-41), 3) := by decide +kernel
theorem dX4_rain_88 : decode cX4_rain 88 = .ok (.iload 4, 2) := by decide +kernel
theorem dX4_rain_90 : decode cX4_rain 90 = .ok (.iload 4, 2) := by decide +kernel
theorem dX4_rain_92 : decode cX4_rain 92 = .ok (.iload 5, 2) := by decide +kernel
theorem dX4_rain_94 : decode cX4_rain 94 = .ok (.isub, 1) := by decide +kernel
theorem dX4_rain_95 : decode cX4_rain 95 = .ok (.invokestatic 261, 3) := by decide +kernel
theorem dX4_rain_98 : decode cX4_rain 98 = .ok (.istore 6, 2) := by decide +kernel
theorem dX4_rain_100 : decode cX4_rain 100 = .ok (.iload_n 3, 1) := by decide +kernel
theorem dX4_rain_101 : decode cX4_rain 101 = .ok (.ifCond .eq 11, 3) := by decide +kernel
theorem dX4_rain_104 : decode cX4_rain 104 = .ok (.iload 4, 2) := by decide +kernel
theorem dX4_rain_106 : decode cX4_rain 106 = .ok (.iload 5, 2) := by decide +kernel
theorem dX4_rain_108 : decode cX4_rain 108 = .ok (.isub, 1) := by decide +kernel
theorem dX4_rain_109 : decode cX4_rain 109 = .ok (.goto 5, 3) := by decide +kernel
theorem dX4_rain_112 : decode cX4_rain 112 = .ok (.iload 4, 2) := by decide +kernel
theorem dX4_rain_114 : decode cX4_rain 114 = .ok (.istore 7, 2) := by decide +kernel
theorem dX4_rain_116 : decode cX4_rain 116 = .ok (.iload 6, 2) := by decide +kernel
theorem dX4_rain_118 : decode cX4_rain 118 = .ok (.ifCond .le 11, 3) := by decide +kernel
theorem dX4_rain_121 : decode cX4_rain 121 = .ok (.iload 7, 2) := by decide +kernel
theorem dX4_rain_123 : decode cX4_rain 123 = .ok (.iload 6, 2) := by decide +kernel
theorem dX4_rain_125 : decode cX4_rain 125 = .ok (.idiv, 1) := by decide +kernel
theorem dX4_rain_126 : decode cX4_rain 126 = .ok (.goto 5, 3) := by decide +kernel
theorem dX4_rain_129 : decode cX4_rain 129 = .ok (.iload 7, 2) := by decide +kernel
theorem dX4_rain_131 : decode cX4_rain 131 = .ok (.ireturn, 1) := by decide +kernel
theorem dX4_greatestDivisor_0 : decode cX4_greatestDivisor 0 = .ok (.iload_n 0, 1) := by decide +kernel
theorem dX4_greatestDivisor_1 : decode cX4_greatestDivisor 1 = .ok (.istore_n 2, 1) := by decide +kernel
theorem dX4_greatestDivisor_2 : decode cX4_greatestDivisor 2 = .ok (.iload_n 1, 1) := by decide +kernel
theorem dX4_greatestDivisor_3 : decode cX4_greatestDivisor 3 = .ok (.istore_n 3, 1) := by decide +kernel
theorem dX4_greatestDivisor_4 : decode cX4_greatestDivisor 4 = .ok (.iconst 0, 1) := by decide +kernel
theorem dX4_greatestDivisor_5 : decode cX4_greatestDivisor 5 = .ok (.istore 4, 2) := by decide +kernel
theorem dX4_greatestDivisor_7 : decode cX4_greatestDivisor 7 = .ok (.iload 4, 2) := by decide +kernel
theorem dX4_greatestDivisor_9 : decode cX4_greatestDivisor 9 = .ok (.bipush 100, 2) := by decide +kernel
theorem dX4_greatestDivisor_11 : decode cX4_greatestDivisor 11 = .ok (.if_icmp .ge 23, 3) := by decide +kernel
theorem dX4_greatestDivisor_14 : decode cX4_greatestDivisor 14 = .ok (.iload_n 3, 1) := by decide +kernel
theorem dX4_greatestDivisor_15 : decode cX4_greatestDivisor 15 = .ok (.ifCond .eq 19, 3) := by decide +kernel
theorem dX4_greatestDivisor_18 : decode cX4_greatestDivisor 18 = .ok (.iload_n 2, 1) := by decide +kernel
theorem dX4_greatestDivisor_19 : decode cX4_greatestDivisor 19 = .ok (.iload_n 3, 1) := by decide +kernel
theorem dX4_greatestDivisor_20 : decode cX4_greatestDivisor 20 = .ok (.irem, 1) := by decide +kernel
theorem dX4_greatestDivisor_21 : decode cX4_greatestDivisor 21 = .ok (.istore 5, 2) := by decide +kernel
theorem dX4_greatestDivisor_23 : decode cX4_greatestDivisor 23 = .ok (.iload_n 3, 1) := by decide +kernel
theorem dX4_greatestDivisor_24 : decode cX4_greatestDivisor 24 = .ok (.istore_n 2, 1) := by decide +kernel
theorem dX4_greatestDivisor_25 : decode cX4_greatestDivisor 25 = .ok (.iload 5, 2) := by decide +kernel
theorem dX4_greatestDivisor_27 : decode cX4_greatestDivisor 27 = .ok (.istore_n 3, 1) := by decide +kernel
theorem dX4_greatestDivisor_28 : decode cX4_greatestDivisor 28 = .ok (.iinc 4 1, 3) := by decide +kernel
theorem dX4_greatestDivisor_31 : decode cX4_greatestDivisor 31 = .ok (.goto (-24), 3) := by decide +kernel
theorem dX4_greatestDivisor_34 : decode cX4_greatestDivisor 34 = .ok (.iload_n 2, 1) := by decide +kernel
theorem dX4_greatestDivisor_35 : decode cX4_greatestDivisor 35 = .ok (.ireturn, 1) := by decide +kernel
theorem dX4_seed_0 : decode cX4_seed 0 = .ok (.aload_n 0, 1) := by decide +kernel
theorem dX4_seed_1 : decode cX4_seed 1 = .ok (.getfield 264, 3) := by decide +kernel
theorem dX4_seed_4 : decode cX4_seed 4 = .ok (.lstore_n 3, 1) := by decide +kernel
theorem dX4_seed_5 : decode cX4_seed 5 = .ok (.aload_n 0, 1) := by decide +kernel
theorem dX4_seed_6 : decode cX4_seed 6 = .ok (.lload_n 1, 1) := by decide +kernel
theorem dX4_seed_7 : decode cX4_seed 7 = .ok (.putfield 264, 3) := by decide +kernel
theorem dX4_seed_10 : decode cX4_seed 10 = .ok (.lload_n 3, 1) := by decide +kernel
theorem dX4_seed_11 : decode cX4_seed 11 = .ok (.lreturn, 1) := by decide +kernel
theorem dX4_rains_0 : decode cX4_rains 0 = .ok (.iload_n 1, 1) := by decide +kernel
theorem dX4_rains_1 : decode cX4_rains 1 = .ok (.iconst 1, 1) := by decide +kernel
theorem dX4_rains_2 : decode cX4_rains 2 = .ok (.bipush 20, 2) := by decide +kernel
theorem dX4_rains_4 : decode cX4_rains 4 = .ok (.invokestatic 128, 3) := by decide +kernel
theorem dX4_rains_7 : decode cX4_rains 7 = .ok (.ifCond .eq 13, 3) := by decide +kernel
theorem dX4_rains_10 : decode cX4_rains 10 = .ok (.iload_n 2, 1) := by decide +kernel
theorem dX4_rains_11 : decode cX4_rains 11 = .ok (.iconst 0, 1) := by decide +kernel
theorem dX4_rains_12 : decode cX4_rains 12 = .ok (.bipush 10, 2) := by decide +kernel
theorem dX4_rains_14 : decode cX4_rains 14 = .ok (.invokestatic 128, 3) := by decide +kernel
theorem dX4_rains_17 : decode cX4_rains 17 = .ok (.ifCond .ne 6, 3) := by decide +kernel
theorem dX4_rains_20 : decode cX4_rains 20 = .ok (.bipush (-2), 2) := by decide +kernel
theorem dX4_rains_22 : decode cX4_rains 22 = .ok (.ireturn, 1) := by decide +kernel
theorem dX4_rains_23 : decode cX4_rains 23 = .ok (.aload_n 0, 1) := by decide +kernel
theorem dX4_rains_24 : decode cX4_rains 24 = .ok (.getfield 43, 3) := by decide +kernel
theorem dX4_rains_27 : decode cX4_rains 27 = .ok (.aload_n 0, 1) := by decide +kernel
theorem dX4_rains_28 : decode cX4_rains 28 = .ok (.getfield 26, 3) := by decide +kernel
theorem dX4_rains_31 : decode cX4_rains 31 = .ok (.invokevirtual 168, 3) := by decide +kernel
theorem dX4_rains_34 : decode cX4_rains 34 = .ok (.iconst 0, 1) := by decide +kernel
theorem dX4_rains_35 : decode cX4_rains 35 = .ok (.istore_n 3, 1) := by decide +kernel
theorem dX4_rains_36 : decode cX4_rains 36 = .ok (.iload_n 3, 1) := by decide +kernel
theorem dX4_rains_37 : decode cX4_rains 37 = .ok (.iload_n 1, 1) := by decide +kernel
theorem dX4_rains_38 : decode cX4_rains 38 = .ok (.if_icmp .ge 71, 3) := by decide +kernel
theorem dX4_rains_41 : decode cX4_rains 41 = .ok (.aload_n 0, 1) := by decide +kernel
theorem dX4_rains_42 : decode cX4_rains 42 = .ok (.getfield 43, 3) := by decide +kernel
theorem dX4_rains_45 : decode cX4_rains 45 = .ok (.aload_n 0, 1) := by decide +kernel
theorem dX4_rains_46 : decode cX4_rains 46 = .ok (.getfield 19, 3) := by decide +kernel
theorem dX4_rains_49 : decode cX4_rains 49 = .ok (.invokevirtual 140, 3) := by decide +kernel
theorem dX4_rains_52 : decode cX4_rains 52 = .ok (.pop, 1) := by decide +kernel
theorem dX4_rains_53 : decode cX4_rains 53 = .ok (.iconst 0, 1) := by decide +kernel
theorem dX4_rains_54 : decode cX4_rains 54 = .ok (.istore 4, 2) := by decide +kernel
theorem dX4_rains_56 : decode cX4_rains 56 = .ok (.iload 4, 2) := by decide +kernel
theorem dX4_rains_58 : decode cX4_rains 58 = .ok (.aload_n 0, 1) := by decide +kernel
theorem dX4_rains_59 : decode cX4_rains 59 = .ok (.getfield 19, 3) := by decide +kernel
theorem dX4_rains_62 : decode cX4_rains 62 = .ok (.getfield 68, 3) := by decide +kernel
theorem dX4_rains_65 : decode cX4_rains 65 = .ok (.if_icmp .ge 38, 3) := by decide +kernel
theorem dX4_rains_68 : decode cX4_rains 68 = .ok (.aload_n 0, 1) := by decide +kernel
theorem dX4_rains_69 : decode cX4_rains 69 = .ok (.getfield 43, 3) := by decide +kernel
theorem dX4_rains_72 : decode cX4_rains 72 = .ok (.iload 4, 2) := by decide +kernel
theorem dX4_rains_74 : decode cX4_rains 74 = .ok (.invokevirtual 121, 3) := by decide +kernel
theorem dX4_rains_77 : decode cX4_rains 77 = .ok (.ifCond .ne 20, 3) := by decide +kernel
theorem dX4_rains_80 : decode cX4_rains 80 = .ok (.aload_n 0, 1) := by decide +kernel
theorem dX4_rains_81 : decode cX4_rains 81 = .ok (.iload_n 2, 1) := by decide +kernel
theorem dX4_rains_82 : decode cX4_rains 82 = .ok (.invokevirtual 268, 3) := by decide +kernel
theorem dX4_rains_85 : decode cX4_rains 85 = .ok (.ifCond .eq 12, 3) := by decide +kernel
theorem dX4_rains_88 : decode cX4_rains 88 = .ok (.aload_n 0, 1) := by decide +kernel
theorem dX4_rains_89 : decode cX4_rains 89 = .ok (.getfield 43, 3) := by decide +kernel
theorem dX4_rains_92 : decode cX4_rains 92 = .ok (.iload 4, 2) := by decide +kernel
theorem dX4_rains_94 : decode cX4_rains 94 = .ok (.invokevirtual 271, 3) := by decide +kernel
theorem dX4_rains_97 : decode cX4_rains 97 = .ok (.iinc 4 1, 3) := by decide +kernel
theorem dX4_rains_100 : decode cX4_rains 100 = .ok (.goto (-44), 3) := by decide +kernel
theorem dX4_rains_103 : decode cX4_rains 103 = .ok (.iinc 3 1, 3) := by decide +kernel
theorem dX4_rains_106 : decode cX4_rains 106 = .ok (.goto (-70), 3) := by decide +kernel
theorem dX4_rains_109 : decode cX4_rains 109 = .ok (.aload_n 0, 1) := by decide +kernel
theorem dX4_rains_110 : decode cX4_rains 110 = .ok (.getfield 43, 3) := by decide +kernel
theorem dX4_rains_113 : decode cX4_rains 113 = .ok (.invokevirtual 82, 3) := by decide +kernel
theorem dX4_rains_116 : decode cX4_rains 116 = .ok (.ireturn, 1) := by decide +kernel
theorem dX4_isFloodedBySeed_0 : decode cX4_isFloodedBySeed 0 = .ok (.aload_n 0, 1) := by decide +kernel
theorem dX4_isFloodedBySeed_1 : decode cX4_isFloodedBySeed 1 = .ok (.aload_n 0, 1) := by decide +kernel
theorem dX4_isFloodedBySeed_2 : decode cX4_isFloodedBySeed 2 = .ok (.getfield 264, 3) := by decide +kernel
theorem dX4_isFloodedBySeed_5 : decode cX4_isFloodedBySeed 5 = .ok (.ldc2_w 274, 3) := by decide +kernel
theorem dX4_isFloodedBySeed_8 : decode cX4_isFloodedBySeed 8 = .ok (.lmul, 1) := by decide +kernel
theorem dX4_isFloodedBySeed_9 : decode cX4_isFloodedBySeed 9 = .ok (.ldc2_w 276, 3) := by decide +kernel
theorem dX4_isFloodedBySeed_12 : decode cX4_isFloodedBySeed 12 = .ok (.ladd, 1) := by decide +kernel
theorem dX4_isFloodedBySeed_13 : decode cX4_isFloodedBySeed 13 = .ok (.putfield 264, 3) := by decide +kernel
theorem dX4_isFloodedBySeed_16 : decode cX4_isFloodedBySeed 16 = .ok (.aload_n 0, 1) := by decide +kernel
theorem dX4_isFloodedBySeed_17 : decode cX4_isFloodedBySeed 17 = .ok (.getfield 264, 3) := by decide +kernel
theorem dX4_isFloodedBySeed_20 : decode cX4_isFloodedBySeed 20 = .ok (.bipush 33, 2) := by decide +kernel
theorem dX4_isFloodedBySeed_22 : decode cX4_isFloodedBySeed 22 = .ok (.lushr, 1) := by decide +kernel
theorem dX4_isFloodedBySeed_23 : decode cX4_isFloodedBySeed 23 = .ok (.ldc2_w 278, 3) := by decide +kernel
theorem dX4_isFloodedBySeed_26 : decode cX4_isFloodedBySeed 26 = .ok (.lrem, 1) := by decide +kernel
theorem dX4_isFloodedBySeed_27 : decode cX4_isFloodedBySeed 27 = .ok (.iload_n 1, 1) := by decide +kernel
theorem dX4_isFloodedBySeed_28 : decode cX4_isFloodedBySeed 28 = .ok (.i2l, 1) := by decide +kernel
theorem dX4_isFloodedBySeed_29 : decode cX4_isFloodedBySeed 29 = .ok (.lcmp, 1) := by decide +kernel
theorem dX4_isFloodedBySeed_30 : decode cX4_isFloodedBySeed 30 = .ok (.ifCond .ge 7, 3) := by decide +kernel
theorem dX4_isFloodedBySeed_33 : decode cX4_isFloodedBySeed 33 = .ok (.iconst 1, 1) := by decide +kernel
theorem dX4_isFloodedBySeed_34 : decode cX4_isFloodedBySeed 34 = .ok (.goto 4, 3) := by decide +kernel
theorem dX4_isFloodedBySeed_37 : decode cX4_isFloodedBySeed 37 = .ok (.iconst 0, 1) := by decide +kernel
theorem dX4_isFloodedBySeed_38 : decode cX4_isFloodedBySeed 38 = .ok (.ireturn, 1) := by decide +kernel
theorem dX4_keep_0 : decode cX4_keep 0 = .ok (.iload_n 1, 1) := by decide +kernel
theorem dX4_keep_1 : decode cX4_keep 1 = .ok (.iconst 0, 1) := by decide +kernel
theorem dX4_keep_2 : decode cX4_keep 2 = .ok (.iconst 1, 1) := by decide +kernel
theorem dX4_keep_3 : decode cX4_keep 3 = .ok (.invokestatic 128, 3) := by decide +kernel
theorem dX4_keep_6 : decode cX4_keep 6 = .ok (.ifCond .ne 5, 3) := by decide +kernel
theorem dX4_keep_9 : decode cX4_keep 9 = .ok (.iconst (-1), 1) := by decide +kernel
theorem dX4_keep_10 : decode cX4_keep 10 = .ok (.ireturn, 1) := by decide +kernel
theorem dX4_keep_11 : decode cX4_keep 11 = .ok (.aload_n 0, 1) := by decide +kernel
theorem dX4_keep_12 : decode cX4_keep 12 = .ok (.iload_n 1, 1) := by decide +kernel
theorem dX4_keep_13 : decode cX4_keep 13 = .ok (.invokevirtual 280, 3) := by decide +kernel
theorem dX4_keep_16 : decode cX4_keep 16 = .ok (.aload_n 0, 1) := by decide +kernel
theorem dX4_keep_17 : decode cX4_keep 17 = .ok (.getfield 26, 3) := by decide +kernel
theorem dX4_keep_20 : decode cX4_keep 20 = .ok (.invokevirtual 168, 3) := by decide +kernel
theorem dX4_keep_23 : decode cX4_keep 23 = .ok (.aload_n 0, 1) := by decide +kernel
theorem dX4_keep_24 : decode cX4_keep 24 = .ok (.dup, 1) := by decide +kernel
theorem dX4_keep_25 : decode cX4_keep 25 = .ok (.getfield 75, 3) := by decide +kernel
theorem dX4_keep_28 : decode cX4_keep 28 = .ok (.iconst 1, 1) := by decide +kernel
theorem dX4_keep_29 : decode cX4_keep 29 = .ok (.iload_n 1, 1) := by decide +kernel
theorem dX4_keep_30 : decode cX4_keep 30 = .ok (.ishl, 1) := by decide +kernel
theorem dX4_keep_31 : decode cX4_keep 31 = .ok (.ior, 1) := by decide +kernel
theorem dX4_keep_32 : decode cX4_keep 32 = .ok (.putfield 75, 3) := by decide +kernel
theorem dX4_keep_35 : decode cX4_keep 35 = .ok (.aload_n 0, 1) := by decide +kernel
theorem dX4_keep_36 : decode cX4_keep 36 = .ok (.getfield 26, 3) := by decide +kernel
theorem dX4_keep_39 : decode cX4_keep 39 = .ok (.getfield 88, 3) := by decide +kernel
theorem dX4_keep_42 : decode cX4_keep 42 = .ok (.ireturn, 1) := by decide +kernel
theorem dX4_again_0 : decode cX4_again 0 = .ok (.iload_n 1, 1) := by decide +kernel
theorem dX4_again_1 : decode cX4_again 1 = .ok (.iconst 0, 1) := by decide +kernel
theorem dX4_again_2 : decode cX4_again 2 = .ok (.iconst 1, 1) := by decide +kernel
theorem dX4_again_3 : decode cX4_again 3 = .ok (.invokestatic 128, 3) := by decide +kernel
theorem dX4_again_6 : decode cX4_again 6 = .ok (.ifCond .ne 5, 3) := by decide +kernel
theorem dX4_again_9 : decode cX4_again 9 = .ok (.iconst (-1), 1) := by decide +kernel
theorem dX4_again_10 : decode cX4_again 10 = .ok (.ireturn, 1) := by decide +kernel
theorem dX4_again_11 : decode cX4_again 11 = .ok (.aload_n 0, 1) := by decide +kernel
theorem dX4_again_12 : decode cX4_again 12 = .ok (.getfield 75, 3) := by decide +kernel
theorem dX4_again_15 : decode cX4_again 15 = .ok (.iload_n 1, 1) := by decide +kernel
theorem dX4_again_16 : decode cX4_again 16 = .ok (.ishr, 1) := by decide +kernel
theorem dX4_again_17 : decode cX4_again 17 = .ok (.iconst 1, 1) := by decide +kernel
theorem dX4_again_18 : decode cX4_again 18 = .ok (.iand, 1) := by decide +kernel
theorem dX4_again_19 : decode cX4_again 19 = .ok (.ifCond .ne 6, 3) := by decide +kernel
theorem dX4_again_22 : decode cX4_again 22 = .ok (.bipush (-3), 2) := by decide +kernel
theorem dX4_again_24 : decode cX4_again 24 = .ok (.ireturn, 1) := by decide +kernel
theorem dX4_again_25 : decode cX4_again 25 = .ok (.aload_n 0, 1) := by decide +kernel
theorem dX4_again_26 : decode cX4_again 26 = .ok (.getfield 26, 3) := by decide +kernel
theorem dX4_again_29 : decode cX4_again 29 = .ok (.aload_n 0, 1) := by decide +kernel
theorem dX4_again_30 : decode cX4_again 30 = .ok (.iload_n 1, 1) := by decide +kernel
theorem dX4_again_31 : decode cX4_again 31 = .ok (.invokevirtual 280, 3) := by decide +kernel
theorem dX4_again_34 : decode cX4_again 34 = .ok (.invokevirtual 168, 3) := by decide +kernel
theorem dX4_again_37 : decode cX4_again 37 = .ok (.aload_n 0, 1) := by decide +kernel
theorem dX4_again_38 : decode cX4_again 38 = .ok (.getfield 33, 3) := by decide +kernel
theorem dX4_again_41 : decode cX4_again 41 = .ok (.iconst 0, 1) := by decide +kernel
theorem dX4_again_42 : decode cX4_again 42 = .ok (.putfield 74, 3) := by decide +kernel
theorem dX4_again_45 : decode cX4_again 45 = .ok (.aload_n 0, 1) := by decide +kernel
theorem dX4_again_46 : decode cX4_again 46 = .ok (.getfield 26, 3) := by decide +kernel
theorem dX4_again_49 : decode cX4_again 49 = .ok (.getfield 88, 3) := by decide +kernel
theorem dX4_again_52 : decode cX4_again 52 = .ok (.ireturn, 1) := by decide +kernel
theorem dX4_slotOf_0 : decode cX4_slotOf 0 = .ok (.iload_n 1, 1) := by decide +kernel
theorem dX4_slotOf_1 : decode cX4_slotOf 1 = .ok (.ifCond .ne 10, 3) := by decide +kernel
theorem dX4_slotOf_4 : decode cX4_slotOf 4 = .ok (.aload_n 0, 1) := by decide +kernel
theorem dX4_slotOf_5 : decode cX4_slotOf 5 = .ok (.getfield 37, 3) := by decide +kernel
theorem dX4_slotOf_8 : decode cX4_slotOf 8 = .ok (.goto 7, 3) := by decide +kernel
theorem dX4_slotOf_11 : decode cX4_slotOf 11 = .ok (.aload_n 0, 1) := by decide +kernel
theorem dX4_slotOf_12 : decode cX4_slotOf 12 = .ok (.getfield 40, 3) := by decide +kernel
theorem dX4_slotOf_15 : decode cX4_slotOf 15 = .ok (.areturn, 1) := by decide +kernel
theorem dX4_isWithin_0 : decode cX4_isWithin 0 = .ok (.iload_n 0, 1) := by decide +kernel
theorem dX4_isWithin_1 : decode cX4_isWithin 1 = .ok (.iload_n 1, 1) := by decide +kernel
theorem dX4_isWithin_2 : decode cX4_isWithin 2 = .ok (.if_icmp .lt 12, 3) := by decide +kernel
theorem dX4_isWithin_5 : decode cX4_isWithin 5 = .ok (.iload_n 0, 1) := by decide +kernel
theorem dX4_isWithin_6 : decode cX4_isWithin 6 = .ok (.iload_n 2, 1) := by decide +kernel
theorem dX4_isWithin_7 : decode cX4_isWithin 7 = .ok (.if_icmp .gt 7, 3) := by decide +kernel
theorem dX4_isWithin_10 : decode cX4_isWithin 10 = .ok (.iconst 1, 1) := by decide +kernel
theorem dX4_isWithin_11 : decode cX4_isWithin 11 = .ok (.goto 4, 3) := by decide +kernel
theorem dX4_isWithin_14 : decode cX4_isWithin 14 = .ok (.iconst 0, 1) := by decide +kernel
theorem dX4_isWithin_15 : decode cX4_isWithin 15 = .ok (.ireturn, 1) := by decide +kernel
theorem dX5_init_0 : decode cX5_init 0 = .ok (.aload_n 0, 1) := by decide +kernel
theorem dX5_init_1 : decode cX5_init 1 = .ok (.invokespecial 1, 3) := by decide +kernel
theorem dX5_init_4 : decode cX5_init 4 = .ok (.aload_n 0, 1) := by decide +kernel
theorem dX5_init_5 : decode cX5_init 5 = .ok (.bipush 56, 2) := by decide +kernel
theorem dX5_init_7 : decode cX5_init 7 = .ok (.newarray .int, 2) := by decide +kernel
theorem dX5_init_9 : decode cX5_init 9 = .ok (.putfield 7, 3) := by decide +kernel
theorem dX5_init_12 : decode cX5_init 12 = .ok (.aload_n 0, 1) := by decide +kernel
theorem dX5_init_13 : decode cX5_init 13 = .ok (.iconst 4, 1) := by decide +kernel
theorem dX5_init_14 : decode cX5_init 14 = .ok (.newarray .int, 2) := by decide +kernel
theorem dX5_init_16 : decode cX5_init 16 = .ok (.putfield 13, 3) := by decide +kernel
theorem dX5_init_19 : decode cX5_init 19 = .ok (.aload_n 0, 1) := by decide +kernel
theorem dX5_init_20 : decode cX5_init 20 = .ok (.iconst 4, 1) := by decide +kernel
theorem dX5_init_21 : decode cX5_init 21 = .ok (.newarray .int, 2) := by decide +kernel
theorem dX5_init_23 : decode cX5_init 23 = .ok (.putfield 16, 3) := by decide +kernel
theorem dX5_init_26 : decode cX5_init 26 = .ok (.aload_n 0, 1) := by decide +kernel
theorem dX5_init_27 : decode cX5_init 27 = .ok (.iconst 4, 1) := by decide +kernel
theorem dX5_init_28 : decode cX5_init 28 = .ok (.newarray .int, 2) := by decide +kernel
theorem dX5_init_30 : decode cX5_init 30 = .ok (.putfield 19, 3) := by decide +kernel
theorem dX5_init_33 : decode cX5_init 33 = .ok (.aload_n 0, 1) := by decide +kernel
theorem dX5_init_34 : decode cX5_init 34 = .ok (.iconst 4, 1) := by decide +kernel
theorem dX5_init_35 : decode cX5_init 35 = .ok (.newarray .int, 2) := by decide +kernel
theorem dX5_init_37 : decode cX5_init 37 = .ok (.putfield 22, 3) := by decide +kernel
theorem dX5_init_40 : decode cX5_init 40 = .ok (.aload_n 0, 1) := by decide +kernel
theorem dX5_init_41 : decode cX5_init 41 = .ok (.bipush 52, 2) := by decide +kernel
theorem dX5_init_43 : decode cX5_init 43 = .ok (.newarray .int, 2) := by decide +kernel
theorem dX5_init_45 : decode cX5_init 45 = .ok (.putfield 25, 3) := by decide +kernel
theorem dX5_init_48 : decode cX5_init 48 = .ok (.aload_n 0, 1) := by decide +kernel
theorem dX5_init_49 : decode cX5_init 49 = .ok (.bipush 52, 2) := by decide +kernel
theorem dX5_init_51 : decode cX5_init 51 = .ok (.newarray .int, 2) := by decide +kernel
theorem dX5_init_53 : decode cX5_init 53 = .ok (.putfield 28, 3) := by decide +kernel
theorem dX5_init_56 : decode cX5_init 56 = .ok (.aload_n 0, 1) := by decide +kernel
theorem dX5_init_57 : decode cX5_init 57 = .ok (.sipush 624, 3) := by decide +kernel
theorem dX5_init_60 : decode cX5_init 60 = .ok (.newarray .int, 2) := by decide +kernel
theorem dX5_init_62 : decode cX5_init 62 = .ok (.putfield 31, 3) := by decide +kernel
theorem dX5_init_65 : decode cX5_init 65 = .ok (.aload_n 0, 1) := by decide +kernel
theorem dX5_init_66 : decode cX5_init 66 = .ok (.bipush 104, 2) := by decide +kernel
theorem dX5_init_68 : decode cX5_init 68 = .ok (.newarray .int, 2) := by decide +kernel
theorem dX5_init_70 : decode cX5_init 70 = .ok (.putfield 34, 3) := by decide +kernel
theorem dX5_init_73 : decode cX5_init 73 = .ok (.aload_n 0, 1) := by decide +kernel
theorem dX5_init_74 : decode cX5_init 74 = .ok (.iconst 2, 1) := by decide +kernel
theorem dX5_init_75 : decode cX5_init 75 = .ok (.newarray .boolean, 2) := by decide +kernel
theorem dX5_init_77 : decode cX5_init 77 = .ok (.putfield 37, 3) := by decide +kernel
theorem dX5_init_80 : decode cX5_init 80 = .ok (.aload_n 0, 1) := by decide +kernel
theorem dX5_init_81 : decode cX5_init 81 = .ok (.bipush 52, 2) := by decide +kernel
theorem dX5_init_83 : decode cX5_init 83 = .ok (.newarray .int, 2) := by decide +kernel
theorem dX5_init_85 : decode cX5_init 85 = .ok (.putfield 41, 3) := by decide +kernel
theorem dX5_init_88 : decode cX5_init 88 = .ok (.aload_n 0, 1) := by decide +kernel
theorem dX5_init_89 : decode cX5_init 89 = .ok (.bipush 52, 2) := by decide +kernel
theorem dX5_init_91 : decode cX5_init 91 = .ok (.newarray .int, 2) := by decide +kernel
theorem dX5_init_93 : decode cX5_init 93 = .ok (.putfield 44, 3) := by decide +kernel
theorem dX5_init_96 : decode cX5_init 96 = .ok (.aload_n 0, 1) := by decide +kernel
theorem dX5_init_97 : decode cX5_init 97 = .ok (.bipush 52, 2) := by decide +kernel
theorem dX5_init_99 : decode cX5_init 99 = .ok (.newarray .int, 2) := by decide +kernel
theorem dX5_init_101 : decode cX5_init 101 = .ok (.putfield 47, 3) := by decide +kernel
theorem dX5_init_104 : decode cX5_init 104 = .ok (.aload_n 0, 1) := by decide +kernel
theorem dX5_init_105 : decode cX5_init 105 = .ok (.bipush 8, 2) := by decide +kernel
theorem dX5_init_107 : decode cX5_init 107 = .ok (.newarray .int, 2) := by decide +kernel
theorem dX5_init_109 : decode cX5_init 109 = .ok (.putfield 50, 3) := by decide +kernel
theorem dX5_init_112 : decode cX5_init 112 = .ok (.aload_n 0, 1) := by decide +kernel
theorem dX5_init_113 : decode cX5_init 113 = .ok (.bipush 64, 2) := by decide +kernel
theorem dX5_init_115 : decode cX5_init 115 = .ok (.newarray .int, 2) := by decide +kernel
theorem dX5_init_117 : decode cX5_init 117 = .ok (.putfield 53, 3) := by decide +kernel
theorem dX5_init_120 : decode cX5_init 120 = .ok (.aload_n 0, 1) := by decide +kernel
theorem dX5_init_121 : decode cX5_init 121 = .ok (.bipush 16, 2) := by decide +kernel
theorem dX5_init_123 : decode cX5_init 123 = .ok (.newarray .int, 2) := by decide +kernel
theorem dX5_init_125 : decode cX5_init 125 = .ok (.putfield 56, 3) := by decide +kernel
theorem dX5_init_128 : decode cX5_init 128 = .ok (.aload_n 0, 1) := by decide +kernel
theorem dX5_init_129 : decode cX5_init 129 = .ok (.bipush 16, 2) := by decide +kernel
theorem dX5_init_131 : decode cX5_init 131 = .ok (.newarray .int, 2) := by decide +kernel
theorem dX5_init_133 : decode cX5_init 133 = .ok (.putfield 59, 3) := by decide +kernel
theorem dX5_init_136 : decode cX5_init 136 = .ok (.return_, 1) := by decide +kernel
theorem dX5_in_0 : decode cX5_in 0 = .ok (.lload_n 0, 1) := by decide +kernel
theorem dX5_in_1 : decode cX5_in 1 = .ok (.lload_n 2, 1) := by decide +kernel
theorem dX5_in_2 : decode cX5_in 2 = .ok (.lcmp, 1) := by decide +kernel
theorem dX5_in_3 : decode cX5_in 3 = .ok (.ifCond .lt 14, 3) := by decide +kernel
theorem dX5_in_6 : decode cX5_in 6 = .ok (.lload_n 0, 1) := by decide +kernel
theorem dX5_in_7 : decode cX5_in 7 = .ok (.lload 4, 2) := by decide +kernel
theorem dX5_in_9 : decode cX5_in 9 = .ok (.lcmp, 1) := by decide +kernel
theorem dX5_in_10 : decode cX5_in 10 = .ok (.ifCond .gt 7, 3) := by decide +kernel
theorem dX5_in_13 : decode cX5_in 13 = .ok (.iconst 1, 1) := by decide +kernel
theorem dX5_in_14 : decode cX5_in 14 = .ok (.goto 4, 3) := by decide +kernel
theorem dX5_in_17 : decode cX5_in 17 = .ok (.iconst 0, 1) := by decide +kernel
theorem dX5_in_18 : decode cX5_in 18 = .ok (.ireturn, 1) := by decide +kernel
theorem dX5_has_0 : decode cX5_has 0 = .ok (.iload_n 0, 1) := by decide +kernel
theorem dX5_has_1 : decode cX5_has 1 = .ok (.iload_n 1, 1) := by decide +kernel
theorem dX5_has_2 : decode cX5_has 2 = .ok (.ishr, 1) := by decide +kernel
theorem dX5_has_3 : decode cX5_has 3 = .ok (.iconst 1, 1) := by decide +kernel
theorem dX5_has_4 : decode cX5_has 4 = .ok (.iand, 1) := by decide +kernel
theorem dX5_has_5 : decode cX5_has 5 = .ok (.iconst 1, 1) := by decide +kernel
theorem dX5_has_6 : decode cX5_has 6 = .ok (.if_icmp .ne 7, 3) := by decide +kernel
theorem dX5_has_9 : decode cX5_has 9 = .ok (.iconst 1, 1) := by decide +kernel
theorem dX5_has_10 : decode cX5_has 10 = .ok (.goto 4, 3) := by decide +kernel
theorem dX5_has_13 : decode cX5_has 13 = .ok (.iconst 0, 1) := by decide +kernel
theorem dX5_has_14 : decode cX5_has 14 = .ok (.ireturn, 1) := by decide +kernel
theorem dX5_many_0 : decode cX5_many 0 = .ok (.iconst 0, 1) := by decide +kernel
theorem dX5_many_1 : decode cX5_many 1 = .ok (.istore_n 1, 1) := by decide +kernel
theorem dX5_many_2 : decode cX5_many 2 = .ok (.iconst 0, 1) := by decide +kernel
theorem dX5_many_3 : decode cX5_many 3 = .ok (.istore_n 2, 1) := by decide +kernel
theorem dX5_many_4 : decode cX5_many 4 = .ok (.iload_n 2, 1) := by decide +kernel
theorem dX5_many_5 : decode cX5_many 5 = .ok (.bipush 6, 2) := by decide +kernel
theorem dX5_many_7 : decode cX5_many 7 = .ok (.if_icmp .ge 17, 3) := by decide +kernel
theorem dX5_many_10 : decode cX5_many 10 = .ok (.iload_n 1, 1) := by decide +kernel
theorem dX5_many_11 : decode cX5_many 11 = .ok (.iload_n 0, 1) := by decide +kernel
theorem dX5_many_12 : decode cX5_many 12 = .ok (.iload_n 2, 1) := by decide +kernel
theorem dX5_many_13 : decode cX5_many 13 = .ok (.ishr, 1) := by decide +kernel
theorem dX5_many_14 : decode cX5_many 14 = .ok (.iconst 1, 1) := by decide +kernel
theorem dX5_many_15 : decode cX5_many 15 = .ok (.iand, 1) := by decide +kernel
theorem dX5_many_16 : decode cX5_many 16 = .ok (.iadd, 1) := by decide +kernel
theorem dX5_many_17 : decode cX5_many 17 = .ok (.istore_n 1, 1) := by decide +kernel
theorem dX5_many_18 : decode cX5_many 18 = .ok (.iinc 2 1, 3) := by decide +kernel
theorem dX5_many_21 : decode cX5_many 21 = .ok (.goto (-17), 3) := by decide +kernel
theorem dX5_many_24 : decode cX5_many 24 = .ok (.iload_n 1, 1) := by decide +kernel
theorem dX5_many_25 : decode cX5_many 25 = .ok (.ireturn, 1) := by decide +kernel
theorem dX5_noWell_0 : decode cX5_noWell 0 = .ok (.iload_n 1, 1) := by decide +kernel
theorem dX5_noWell_1 : decode cX5_noWell 1 = .ok (.i2l, 1) := by decide +kernel
theorem dX5_noWell_2 : decode cX5_noWell 2 = .ok (.lconst 0, 1) := by decide +kernel
theorem dX5_noWell_3 : decode cX5_noWell 3 = .ok (.aload_n 0, 1) := by decide +kernel
theorem dX5_noWell_4 : decode cX5_noWell 4 = .ok (.getfield 66, 3) := by decide +kernel
theorem dX5_noWell_7 : decode cX5_noWell 7 = .ok (.iconst 1, 1) := by decide +kernel
theorem dX5_noWell_8 : decode cX5_noWell 8 = .ok (.isub, 1) := by decide +kernel
theorem dX5_noWell_9 : decode cX5_noWell 9 = .ok (.i2l, 1) := by decide +kernel
theorem dX5_noWell_10 : decode cX5_noWell 10 = .ok (.invokestatic 69, 3) := by decide +kernel
theorem dX5_noWell_13 : decode cX5_noWell 13 = .ok (.ifCond .ne 7, 3) := by decide +kernel
theorem dX5_noWell_16 : decode cX5_noWell 16 = .ok (.iconst 1, 1) := by decide +kernel
theorem dX5_noWell_17 : decode cX5_noWell 17 = .ok (.goto 4, 3) := by decide +kernel
theorem dX5_noWell_20 : decode cX5_noWell 20 = .ok (.iconst 0, 1) := by decide +kernel
theorem dX5_noWell_21 : decode cX5_noWell 21 = .ok (.ireturn, 1) := by decide +kernel
theorem dX5_noSong_0 : decode cX5_noSong 0 = .ok (.iload_n 1, 1) := by decide +kernel
theorem dX5_noSong_1 : decode cX5_noSong 1 = .ok (.i2l, 1) := by decide +kernel
theorem dX5_noSong_2 : decode cX5_noSong 2 = .ok (.lconst 0, 1) := by decide +kernel
theorem dX5_noSong_3 : decode cX5_noSong 3 = .ok (.aload_n 0, 1) := by decide +kernel
theorem dX5_noSong_4 : decode cX5_noSong 4 = .ok (.getfield 28, 3) := by decide +kernel
theorem dX5_noSong_7 : decode cX5_noSong 7 = .ok (.bipush 48, 2) := by decide +kernel
theorem dX5_noSong_9 : decode cX5_noSong 9 = .ok (.iaload, 1) := by decide +kernel
theorem dX5_noSong_10 : decode cX5_noSong 10 = .ok (.iconst 1, 1) := by decide +kernel
theorem dX5_noSong_11 : decode cX5_noSong 11 = .ok (.isub, 1) := by decide +kernel
theorem dX5_noSong_12 : decode cX5_noSong 12 = .ok (.i2l, 1) := by decide +kernel
theorem dX5_noSong_13 : decode cX5_noSong 13 = .ok (.invokestatic 69, 3) := by decide +kernel
theorem dX5_noSong_16 : decode cX5_noSong 16 = .ok (.ifCond .ne 7, 3) := by decide +kernel
theorem dX5_noSong_19 : decode cX5_noSong 19 = .ok (.iconst 1, 1) := by decide +kernel
theorem dX5_noSong_20 : decode cX5_noSong 20 = .ok (.goto 4, 3) := by decide +kernel
theorem dX5_noSong_23 : decode cX5_noSong 23 = .ok (.iconst 0, 1) := by decide +kernel
theorem dX5_noSong_24 : decode cX5_noSong 24 = .ok (.ireturn, 1) := by decide +kernel
theorem dX5_write_0 : decode cX5_write 0 = .ok (.aload_n 0, 1) := by decide +kernel
theorem dX5_write_1 : decode cX5_write 1 = .ok (.iconst 0, 1) := by decide +kernel
theorem dX5_write_2 : decode cX5_write 2 = .ok (.putfield 62, 3) := by decide +kernel
theorem dX5_write_5 : decode cX5_write 5 = .ok (.iload_n 1, 1) := by decide +kernel
theorem dX5_write_6 : decode cX5_write 6 = .ok (.i2l, 1) := by decide +kernel
theorem dX5_write_7 : decode cX5_write 7 = .ok (.lconst 0, 1) := by decide +kernel
theorem dX5_write_8 : decode cX5_write 8 = .ok (.ldc2_w 73, 3) := by decide +kernel
theorem dX5_write_11 : decode cX5_write 11 = .ok (.invokestatic 69, 3) := by decide +kernel
theorem dX5_write_14 : decode cX5_write 14 = .ok (.ifCond .ne 6, 3) := by decide +kernel
theorem dX5_write_17 : decode cX5_write 17 = .ok (.bipush (-2), 2) := by decide +kernel
theorem dX5_write_19 : decode cX5_write 19 = .ok (.ireturn, 1) := by decide +kernel
theorem dX5_write_20 : decode cX5_write 20 = .ok (.aload_n 0, 1) := by decide +kernel
theorem dX5_write_21 : decode cX5_write 21 = .ok (.getfield 75, 3) := by decide +kernel
theorem dX5_write_24 : decode cX5_write 24 = .ok (.bipush 56, 2) := by decide +kernel
theorem dX5_write_26 : decode cX5_write 26 = .ok (.if_icmp .ne 6, 3) := by decide +kernel
theorem dX5_write_29 : decode cX5_write 29 = .ok (.bipush (-4), 2) := by decide +kernel
theorem dX5_write_31 : decode cX5_write 31 = .ok (.ireturn, 1) := by decide +kernel
theorem dX5_write_32 : decode cX5_write 32 = .ok (.aload_n 0, 1) := by decide +kernel
theorem dX5_write_33 : decode cX5_write 33 = .ok (.getfield 7, 3) := by decide +kernel
theorem dX5_write_36 : decode cX5_write 36 = .ok (.aload_n 0, 1) := by decide +kernel
theorem dX5_write_37 : decode cX5_write 37 = .ok (.getfield 75, 3) := by decide +kernel
theorem dX5_write_40 : decode cX5_write 40 = .ok (.iload_n 1, 1) := by decide +kernel
theorem dX5_write_41 : decode cX5_write 41 = .ok (.iastore, 1) := by decide +kernel
theorem dX5_write_42 : decode cX5_write 42 = .ok (.aload_n 0, 1) := by decide +kernel
theorem dX5_write_43 : decode cX5_write 43 = .ok (.dup, 1) := by decide +kernel
theorem dX5_write_44 : decode cX5_write 44 = .ok (.getfield 75, 3) := by decide +kernel
theorem dX5_write_47 : decode cX5_write 47 = .ok (.iconst 1, 1) := by decide +kernel
theorem dX5_write_48 : decode cX5_write 48 = .ok (.iadd, 1) := by decide +kernel
theorem dX5_write_49 : decode cX5_write 49 = .ok (.putfield 75, 3) := by decide +kernel
theorem dX5_write_52 : decode cX5_write 52 = .ok (.aload_n 0, 1) := by decide +kernel
theorem dX5_write_53 : decode cX5_write 53 = .ok (.getfield 75, 3) := by decide +kernel
theorem dX5_write_56 : decode cX5_write 56 = .ok (.ireturn, 1) := by decide +kernel
theorem dX5_wipe_0 : decode cX5_wipe 0 = .ok (.aload_n 0, 1) := by decide +kernel
theorem dX5_wipe_1 : decode cX5_wipe 1 = .ok (.iconst 0, 1) := by decide +kernel
theorem dX5_wipe_2 : decode cX5_wipe 2 = .ok (.putfield 62, 3) := by decide +kernel
theorem dX5_wipe_5 : decode cX5_wipe 5 = .ok (.aload_n 0, 1) := by decide +kernel
theorem dX5_wipe_6 : decode cX5_wipe 6 = .ok (.getfield 75, 3) := by decide +kernel
theorem dX5_wipe_9 : decode cX5_wipe 9 = .ok (.istore_n 1, 1) := by decide +kernel
theorem dX5_wipe_10 : decode cX5_wipe 10 = .ok (.aload_n 0, 1) := by decide +kernel
theorem dX5_wipe_11 : decode cX5_wipe 11 = .ok (.iconst 0, 1) := by decide +kernel
theorem dX5_wipe_12 : decode cX5_wipe 12 = .ok (.putfield 75, 3) := by decide +kernel
theorem dX5_wipe_15 : decode cX5_wipe 15 = .ok (.iload_n 1, 1) := by decide +kernel
theorem dX5_wipe_16 : decode cX5_wipe 16 = .ok (.ireturn, 1) := by decide +kernel
theorem dX5_figure_0 : decode cX5_figure 0 = .ok (.aload_n 0, 1) := by decide +kernel
theorem dX5_figure_1 : decode cX5_figure 1 = .ok (.getfield 78, 3) := by decide +kernel
theorem dX5_figure_4 : decode cX5_figure 4 = .ok (.aload_n 0, 1) := by decide +kernel
theorem dX5_figure_5 : decode cX5_figure 5 = .ok (.getfield 75, 3) := by decide +kernel
theorem dX5_figure_8 : decode cX5_figure 8 = .ok (.if_icmp .eq 26, 3) := by decide +kernel
theorem dX5_figure_11 : decode cX5_figure 11 = .ok (.aload_n 0, 1) := by decide +kernel
theorem dX5_figure_12 : decode cX5_figure 12 = .ok (.getfield 7, 3) := by decide +kernel
theorem dX5_figure_15 : decode cX5_figure 15 = .ok (.aload_n 0, 1) := by decide +kernel
theorem dX5_figure_16 : decode cX5_figure 16 = .ok (.getfield 78, 3) := by decide +kernel
theorem dX5_figure_19 : decode cX5_figure 19 = .ok (.iaload, 1) := by decide +kernel
theorem dX5_figure_20 : decode cX5_figure 20 = .ok (.bipush 48, 2) := by decide +kernel
theorem dX5_figure_22 : decode cX5_figure 22 = .ok (.isub, 1) := by decide +kernel
theorem dX5_figure_23 : decode cX5_figure 23 = .ok (.i2l, 1) := by decide +kernel
theorem dX5_figure_24 : decode cX5_figure 24 = .ok (.iload_n 1, 1) := by decide +kernel
theorem dX5_figure_25 : decode cX5_figure 25 = .ok (.i2l, 1) := by decide +kernel
theorem dX5_figure_26 : decode cX5_figure 26 = .ok (.iload_n 2, 1) := by decide +kernel
theorem dX5_figure_27 : decode cX5_figure 27 = .ok (.i2l, 1) := by decide +kernel
theorem dX5_figure_28 : decode cX5_figure 28 = .ok (.invokestatic 69, 3) := by decide +kernel
theorem dX5_figure_31 : decode cX5_figure 31 = .ok (.ifCond .ne 6, 3) := by decide +kernel
theorem dX5_figure_34 : decode cX5_figure 34 = .ok (.bipush (-9), 2) := by decide +kernel
theorem dX5_figure_36 : decode cX5_figure 36 = .ok (.ireturn, 1) := by decide +kernel
theorem dX5_figure_37 : decode cX5_figure 37 = .ok (.aload_n 0, 1) := by decide +kernel
theorem dX5_figure_38 : decode cX5_figure 38 = .ok (.dup, 1) := by decide +kernel
theorem dX5_figure_39 : decode cX5_figure 39 = .ok (.getfield 78, 3) := by decide +kernel
theorem dX5_figure_42 : decode cX5_figure 42 = .ok (.iconst 1, 1) := by decide +kernel
theorem dX5_figure_43 : decode cX5_figure 43 = .ok (.iadd, 1) := by decide +kernel
theorem dX5_figure_44 : decode cX5_figure 44 = .ok (.putfield 78, 3) := by decide +kernel
theorem dX5_figure_47 : decode cX5_figure 47 = .ok (.aload_n 0, 1) := by decide +kernel
theorem dX5_figure_48 : decode cX5_figure 48 = .ok (.getfield 7, 3) := by decide +kernel
theorem dX5_figure_51 : decode cX5_figure 51 = .ok (.aload_n 0, 1) := by decide +kernel
theorem dX5_figure_52 : decode cX5_figure 52 = .ok (.getfield 78, 3) := by decide +kernel
theorem dX5_figure_55 : decode cX5_figure 55 = .ok (.iconst 1, 1) := by decide +kernel
theorem dX5_figure_56 : decode cX5_figure 56 = .ok (.isub, 1) := by decide +kernel
theorem dX5_figure_57 : decode cX5_figure 57 = .ok (.iaload, 1) := by decide +kernel
theorem dX5_figure_58 : decode cX5_figure 58 = .ok (.bipush 48, 2) := by decide +kernel
theorem dX5_figure_60 : decode cX5_figure 60 = .ok (.isub, 1) := by decide +kernel
theorem dX5_figure_61 : decode cX5_figure 61 = .ok (.ireturn, 1) := by decide +kernel
theorem dX5_readWell_0 : decode cX5_readWell 0 = .ok (.aload_n 0, 1) := by decide +kernel
theorem dX5_readWell_1 : decode cX5_readWell 1 = .ok (.iconst 1, 1) := by decide +kernel
theorem dX5_readWell_2 : decode cX5_readWell 2 = .ok (.bipush 9, 2) := by decide +kernel
theorem dX5_readWell_4 : decode cX5_readWell 4 = .ok (.invokevirtual 81, 3) := by decide +kernel
theorem dX5_readWell_7 : decode cX5_readWell 7 = .ok (.istore_n 1, 1) := by decide +kernel
theorem dX5_readWell_8 : decode cX5_readWell 8 = .ok (.iload_n 1, 1) := by decide +kernel
theorem dX5_readWell_9 : decode cX5_readWell 9 = .ok (.bipush (-9), 2) := by decide +kernel
theorem dX5_readWell_11 : decode cX5_readWell 11 = .ok (.if_icmp .ne 8, 3) := by decide +kernel
theorem dX5_readWell_14 : decode cX5_readWell 14 = .ok (.bipush (-9), 2) := by decide +kernel
theorem dX5_readWell_16 : decode cX5_readWell 16 = .ok (.goto 9, 3) := by decide +kernel
theorem dX5_readWell_19 : decode cX5_readWell 19 = .ok (.aload_n 0, 1) := by decide +kernel
theorem dX5_readWell_20 : decode cX5_readWell 20 = .ok (.iconst 0, 1) := by decide +kernel
theorem dX5_readWell_21 : decode cX5_readWell 21 = .ok (.iconst 2, 1) := by decide +kernel
theorem dX5_readWell_22 : decode cX5_readWell 22 = .ok (.invokevirtual 81, 3) := by decide +kernel
theorem dX5_readWell_25 : decode cX5_readWell 25 = .ok (.istore_n 2, 1) := by decide +kernel
theorem dX5_readWell_26 : decode cX5_readWell 26 = .ok (.iload_n 2, 1) := by decide +kernel
theorem dX5_readWell_27 : decode cX5_readWell 27 = .ok (.bipush (-9), 2) := by decide +kernel
theorem dX5_readWell_29 : decode cX5_readWell 29 = .ok (.if_icmp .ne 5, 3) := by decide +kernel
theorem dX5_readWell_32 : decode cX5_readWell 32 = .ok (.iconst 0, 1) := by decide +kernel
theorem dX5_readWell_33 : decode cX5_readWell 33 = .ok (.ireturn, 1) := by decide +kernel
theorem dX5_readWell_34 : decode cX5_readWell 34 = .ok (.aload_n 0, 1) := by decide +kernel
theorem dX5_readWell_35 : decode cX5_readWell 35 = .ok (.getfield 19, 3) := by decide +kernel
theorem dX5_readWell_38 : decode cX5_readWell 38 = .ok (.aload_n 0, 1) := by decide +kernel
theorem dX5_readWell_39 : decode cX5_readWell 39 = .ok (.getfield 85, 3) := by decide +kernel
theorem dX5_readWell_42 : decode cX5_readWell 42 = .ok (.iload_n 1, 1) := by decide +kernel
theorem dX5_readWell_43 : decode cX5_readWell 43 = .ok (.iastore, 1) := by decide +kernel
theorem dX5_readWell_44 : decode cX5_readWell 44 = .ok (.aload_n 0, 1) := by decide +kernel
theorem dX5_readWell_45 : decode cX5_readWell 45 = .ok (.getfield 22, 3) := by decide +kernel
theorem dX5_readWell_48 : decode cX5_readWell 48 = .ok (.aload_n 0, 1) := by decide +kernel
theorem dX5_readWell_49 : decode cX5_readWell 49 = .ok (.getfield 85, 3) := by decide +kernel
theorem dX5_readWell_52 : decode cX5_readWell 52 = .ok (.iload_n 2, 1) := by decide +kernel
theorem dX5_readWell_53 : decode cX5_readWell 53 = .ok (.iastore, 1) := by decide +kernel
theorem dX5_readWell_54 : decode cX5_readWell 54 = .ok (.aload_n 0, 1) := by decide +kernel
theorem dX5_readWell_55 : decode cX5_readWell 55 = .ok (.dup, 1) := by decide +kernel
theorem dX5_readWell_56 : decode cX5_readWell 56 = .ok (.getfield 85, 3) := by decide +kernel
theorem dX5_readWell_59 : decode cX5_readWell 59 = .ok (.iconst 1, 1) := by decide +kernel
theorem dX5_readWell_60 : decode cX5_readWell 60 = .ok (.iadd, 1) := by decide +kernel
theorem dX5_readWell_61 : decode cX5_readWell 61 = .ok (.putfield 85, 3) := by decide +kernel
theorem dX5_readWell_64 : decode cX5_readWell 64 = .ok (.iconst 1, 1) := by decide +kernel
theorem dX5_readWell_65 : decode cX5_readWell 65 = .ok (.ireturn, 1) := by decide +kernel
theorem dX5_readSong_0 : decode cX5_readSong 0 = .ok (.aload_n 0, 1) := by decide +kernel
theorem dX5_readSong_1 : decode cX5_readSong 1 = .ok (.iconst 0, 1) := by decide +kernel
theorem dX5_readSong_2 : decode cX5_readSong 2 = .ok (.iconst 5, 1) := by decide +kernel
theorem dX5_readSong_3 : decode cX5_readSong 3 = .ok (.invokevirtual 81, 3) := by decide +kernel
theorem dX5_readSong_6 : decode cX5_readSong 6 = .ok (.istore_n 1, 1) := by decide +kernel
theorem dX5_readSong_7 : decode cX5_readSong 7 = .ok (.iload_n 1, 1) := by decide +kernel
theorem dX5_readSong_8 : decode cX5_readSong 8 = .ok (.bipush (-9), 2) := by decide +kernel
theorem dX5_readSong_10 : decode cX5_readSong 10 = .ok (.if_icmp .ne 8, 3) := by decide +kernel
theorem dX5_readSong_13 : decode cX5_readSong 13 = .ok (.bipush (-9), 2) := by decide +kernel
theorem dX5_readSong_15 : decode cX5_readSong 15 = .ok (.goto 14, 3) := by decide +kernel
theorem dX5_readSong_18 : decode cX5_readSong 18 = .ok (.aload_n 0, 1) := by decide +kernel
theorem dX5_readSong_19 : decode cX5_readSong 19 = .ok (.iconst 0, 1) := by decide +kernel
theorem dX5_readSong_20 : decode cX5_readSong 20 = .ok (.aload_n 0, 1) := by decide +kernel
theorem dX5_readSong_21 : decode cX5_readSong 21 = .ok (.getfield 85, 3) := by decide +kernel
theorem dX5_readSong_24 : decode cX5_readSong 24 = .ok (.iconst 1, 1) := by decide +kernel
theorem dX5_readSong_25 : decode cX5_readSong 25 = .ok (.isub, 1) := by decide +kernel
theorem dX5_readSong_26 : decode cX5_readSong 26 = .ok (.invokevirtual 81, 3) := by decide +kernel
theorem dX5_readSong_29 : decode cX5_readSong 29 = .ok (.istore_n 2, 1) := by decide +kernel
theorem dX5_readSong_30 : decode cX5_readSong 30 = .ok (.iload_n 2, 1) := by decide +kernel
theorem dX5_readSong_31 : decode cX5_readSong 31 = .ok (.bipush (-9), 2) := by decide +kernel
theorem dX5_readSong_33 : decode cX5_readSong 33 = .ok (.if_icmp .ne 8, 3) := by decide +kernel
theorem dX5_readSong_36 : decode cX5_readSong 36 = .ok (.bipush (-9), 2) := by decide +kernel
theorem dX5_readSong_38 : decode cX5_readSong 38 = .ok (.goto 10, 3) := by decide +kernel
theorem dX5_readSong_41 : decode cX5_readSong 41 = .ok (.aload_n 0, 1) := by decide +kernel
theorem dX5_readSong_42 : decode cX5_readSong 42 = .ok (.iconst 1, 1) := by decide +kernel
theorem dX5_readSong_43 : decode cX5_readSong 43 = .ok (.bipush 9, 2) := by decide +kernel
theorem dX5_readSong_45 : decode cX5_readSong 45 = .ok (.invokevirtual 81, 3) := by decide +kernel
theorem dX5_readSong_48 : decode cX5_readSong 48 = .ok (.istore_n 3, 1) := by decide +kernel
theorem dX5_readSong_49 : decode cX5_readSong 49 = .ok (.iload_n 3, 1) := by decide +kernel
theorem dX5_readSong_50 : decode cX5_readSong 50 = .ok (.bipush (-9), 2) := by decide +kernel
theorem dX5_readSong_52 : decode cX5_readSong 52 = .ok (.if_icmp .ne 8, 3) := by decide +kernel
theorem dX5_readSong_55 : decode cX5_readSong 55 = .ok (.bipush (-9), 2) := by decide +kernel
theorem dX5_readSong_57 : decode cX5_readSong 57 = .ok (.goto 9, 3) := by decide +kernel
theorem dX5_readSong_60 : decode cX5_readSong 60 = .ok (.aload_n 0, 1) := by decide +kernel
theorem dX5_readSong_61 : decode cX5_readSong 61 = .ok (.iconst 0, 1) := by decide +kernel
theorem dX5_readSong_62 : decode cX5_readSong 62 = .ok (.iconst 3, 1) := by decide +kernel
theorem dX5_readSong_63 : decode cX5_readSong 63 = .ok (.invokevirtual 81, 3) := by decide +kernel
theorem dX5_readSong_66 : decode cX5_readSong 66 = .ok (.istore 4, 2) := by decide +kernel
theorem dX5_readSong_68 : decode cX5_readSong 68 = .ok (.iload 4, 2) := by decide +kernel
theorem dX5_readSong_70 : decode cX5_readSong 70 = .ok (.bipush (-9), 2) := by decide +kernel
theorem dX5_readSong_72 : decode cX5_readSong 72 = .ok (.if_icmp .ne 5, 3) := by decide +kernel
theorem dX5_readSong_75 : decode cX5_readSong 75 = .ok (.iconst 0, 1) := by decide +kernel
theorem dX5_readSong_76 : decode cX5_readSong 76 = .ok (.ireturn, 1) := by decide +kernel
theorem dX5_readSong_77 : decode cX5_readSong 77 = .ok (.aload_n 0, 1) := by decide +kernel
theorem dX5_readSong_78 : decode cX5_readSong 78 = .ok (.getfield 25, 3) := by decide +kernel
theorem dX5_readSong_81 : decode cX5_readSong 81 = .ok (.iload_n 1, 1) := by decide +kernel
theorem dX5_readSong_82 : decode cX5_readSong 82 = .ok (.iload_n 2, 1) := by decide +kernel
theorem dX5_readSong_83 : decode cX5_readSong 83 = .ok (.iload_n 3, 1) := by decide +kernel
theorem dX5_readSong_84 : decode cX5_readSong 84 = .ok (.iload 4, 2) := by decide +kernel
