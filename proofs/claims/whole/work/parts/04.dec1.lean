theorem dX0_init_0 : decode cX0_init 0 = .ok (.aload_n 0, 1) := by decide +kernel
theorem dX0_init_1 : decode cX0_init 1 = .ok (.invokespecial 3, 3) := by decide +kernel
theorem dX0_init_4 : decode cX0_init 4 = .ok (.aload_n 0, 1) := by decide +kernel
theorem dX0_init_5 : decode cX0_init 5 = .ok (.bipush 64, 2) := by decide +kernel
theorem dX0_init_7 : decode cX0_init 7 = .ok (.newarray .boolean, 2) := by decide +kernel
theorem dX0_init_9 : decode cX0_init 9 = .ok (.putfield 9, 3) := by decide +kernel
theorem dX0_init_12 : decode cX0_init 12 = .ok (.aload_n 0, 1) := by decide +kernel
theorem dX0_init_13 : decode cX0_init 13 = .ok (.bipush 64, 2) := by decide +kernel
theorem dX0_init_15 : decode cX0_init 15 = .ok (.newarray .boolean, 2) := by decide +kernel
theorem dX0_init_17 : decode cX0_init 17 = .ok (.putfield 15, 3) := by decide +kernel
theorem dX0_init_20 : decode cX0_init 20 = .ok (.return_, 1) := by decide +kernel
theorem dX0_forget_0 : decode cX0_forget 0 = .ok (.iconst 0, 1) := by decide +kernel
theorem dX0_forget_1 : decode cX0_forget 1 = .ok (.istore_n 1, 1) := by decide +kernel
theorem dX0_forget_2 : decode cX0_forget 2 = .ok (.iload_n 1, 1) := by decide +kernel
theorem dX0_forget_3 : decode cX0_forget 3 = .ok (.bipush 64, 2) := by decide +kernel
theorem dX0_forget_5 : decode cX0_forget 5 = .ok (.if_icmp .ge 23, 3) := by decide +kernel
theorem dX0_forget_8 : decode cX0_forget 8 = .ok (.aload_n 0, 1) := by decide +kernel
theorem dX0_forget_9 : decode cX0_forget 9 = .ok (.getfield 9, 3) := by decide +kernel
theorem dX0_forget_12 : decode cX0_forget 12 = .ok (.iload_n 1, 1) := by decide +kernel
theorem dX0_forget_13 : decode cX0_forget 13 = .ok (.iconst 0, 1) := by decide +kernel
theorem dX0_forget_14 : decode cX0_forget 14 = .ok (.bastore, 1) := by decide +kernel
theorem dX0_forget_15 : decode cX0_forget 15 = .ok (.aload_n 0, 1) := by decide +kernel
theorem dX0_forget_16 : decode cX0_forget 16 = .ok (.getfield 15, 3) := by decide +kernel
theorem dX0_forget_19 : decode cX0_forget 19 = .ok (.iload_n 1, 1) := by decide +kernel
theorem dX0_forget_20 : decode cX0_forget 20 = .ok (.iconst 0, 1) := by decide +kernel
theorem dX0_forget_21 : decode cX0_forget 21 = .ok (.bastore, 1) := by decide +kernel
theorem dX0_forget_22 : decode cX0_forget 22 = .ok (.iinc 1 1, 3) := by decide +kernel
theorem dX0_forget_25 : decode cX0_forget 25 = .ok (.goto (-23), 3) := by decide +kernel
theorem dX0_forget_28 : decode cX0_forget 28 = .ok (.aload_n 0, 1) := by decide +kernel
theorem dX0_forget_29 : decode cX0_forget 29 = .ok (.iconst 0, 1) := by decide +kernel
theorem dX0_forget_30 : decode cX0_forget 30 = .ok (.putfield 18, 3) := by decide +kernel
theorem dX0_forget_33 : decode cX0_forget 33 = .ok (.aload_n 0, 1) := by decide +kernel
theorem dX0_forget_34 : decode cX0_forget 34 = .ok (.iconst 0, 1) := by decide +kernel
theorem dX0_forget_35 : decode cX0_forget 35 = .ok (.putfield 22, 3) := by decide +kernel
theorem dX0_forget_38 : decode cX0_forget 38 = .ok (.aload_n 0, 1) := by decide +kernel
theorem dX0_forget_39 : decode cX0_forget 39 = .ok (.iconst 0, 1) := by decide +kernel
theorem dX0_forget_40 : decode cX0_forget 40 = .ok (.putfield 25, 3) := by decide +kernel
theorem dX0_forget_43 : decode cX0_forget 43 = .ok (.aload_n 0, 1) := by decide +kernel
theorem dX0_forget_44 : decode cX0_forget 44 = .ok (.iconst 0, 1) := by decide +kernel
theorem dX0_forget_45 : decode cX0_forget 45 = .ok (.putfield 28, 3) := by decide +kernel
theorem dX0_forget_48 : decode cX0_forget 48 = .ok (.return_, 1) := by decide +kernel
theorem dX0_tell_0 : decode cX0_tell 0 = .ok (.iload_n 2, 1) := by decide +kernel
theorem dX0_tell_1 : decode cX0_tell 1 = .ok (.ifCond .eq 10, 3) := by decide +kernel
theorem dX0_tell_4 : decode cX0_tell 4 = .ok (.aload_n 0, 1) := by decide +kernel
theorem dX0_tell_5 : decode cX0_tell 5 = .ok (.getfield 15, 3) := by decide +kernel
theorem dX0_tell_8 : decode cX0_tell 8 = .ok (.goto 7, 3) := by decide +kernel
theorem dX0_tell_11 : decode cX0_tell 11 = .ok (.aload_n 0, 1) := by decide +kernel
theorem dX0_tell_12 : decode cX0_tell 12 = .ok (.getfield 9, 3) := by decide +kernel
theorem dX0_tell_15 : decode cX0_tell 15 = .ok (.astore_n 3, 1) := by decide +kernel
theorem dX0_tell_16 : decode cX0_tell 16 = .ok (.aload_n 0, 1) := by decide +kernel
theorem dX0_tell_17 : decode cX0_tell 17 = .ok (.getfield 18, 3) := by decide +kernel
theorem dX0_tell_20 : decode cX0_tell 20 = .ok (.iload_n 1, 1) := by decide +kernel
theorem dX0_tell_21 : decode cX0_tell 21 = .ok (.iadd, 1) := by decide +kernel
theorem dX0_tell_22 : decode cX0_tell 22 = .ok (.bipush 63, 2) := by decide +kernel
theorem dX0_tell_24 : decode cX0_tell 24 = .ok (.iand, 1) := by decide +kernel
theorem dX0_tell_25 : decode cX0_tell 25 = .ok (.istore 4, 2) := by decide +kernel
theorem dX0_tell_27 : decode cX0_tell 27 = .ok (.aload_n 3, 1) := by decide +kernel
theorem dX0_tell_28 : decode cX0_tell 28 = .ok (.iload 4, 2) := by decide +kernel
theorem dX0_tell_30 : decode cX0_tell 30 = .ok (.baload, 1) := by decide +kernel
theorem dX0_tell_31 : decode cX0_tell 31 = .ok (.ifCond .eq 5, 3) := by decide +kernel
theorem dX0_tell_34 : decode cX0_tell 34 = .ok (.iconst 0, 1) := by decide +kernel
theorem dX0_tell_35 : decode cX0_tell 35 = .ok (.ireturn, 1) := by decide +kernel
theorem dX0_tell_36 : decode cX0_tell 36 = .ok (.aload_n 3, 1) := by decide +kernel
theorem dX0_tell_37 : decode cX0_tell 37 = .ok (.iload 4, 2) := by decide +kernel
theorem dX0_tell_39 : decode cX0_tell 39 = .ok (.iconst 1, 1) := by decide +kernel
theorem dX0_tell_40 : decode cX0_tell 40 = .ok (.bastore, 1) := by decide +kernel
theorem dX0_tell_41 : decode cX0_tell 41 = .ok (.aload_n 0, 1) := by decide +kernel
theorem dX0_tell_42 : decode cX0_tell 42 = .ok (.dup, 1) := by decide +kernel
theorem dX0_tell_43 : decode cX0_tell 43 = .ok (.getfield 28, 3) := by decide +kernel
theorem dX0_tell_46 : decode cX0_tell 46 = .ok (.iconst 1, 1) := by decide +kernel
theorem dX0_tell_47 : decode cX0_tell 47 = .ok (.iadd, 1) := by decide +kernel
theorem dX0_tell_48 : decode cX0_tell 48 = .ok (.putfield 28, 3) := by decide +kernel
theorem dX0_tell_51 : decode cX0_tell 51 = .ok (.iconst 1, 1) := by decide +kernel
theorem dX0_tell_52 : decode cX0_tell 52 = .ok (.ireturn, 1) := by decide +kernel
theorem dX0_take_0 : decode cX0_take 0 = .ok (.aload_n 0, 1) := by decide +kernel
theorem dX0_take_1 : decode cX0_take 1 = .ok (.getfield 18, 3) := by decide +kernel
theorem dX0_take_4 : decode cX0_take 4 = .ok (.bipush 63, 2) := by decide +kernel
theorem dX0_take_6 : decode cX0_take 6 = .ok (.iand, 1) := by decide +kernel
theorem dX0_take_7 : decode cX0_take 7 = .ok (.istore_n 2, 1) := by decide +kernel
theorem dX0_take_8 : decode cX0_take 8 = .ok (.aload_n 1, 1) := by decide +kernel
theorem dX0_take_9 : decode cX0_take 9 = .ok (.iload_n 2, 1) := by decide +kernel
theorem dX0_take_10 : decode cX0_take 10 = .ok (.baload, 1) := by decide +kernel
theorem dX0_take_11 : decode cX0_take 11 = .ok (.ifCond .ne 5, 3) := by decide +kernel
theorem dX0_take_14 : decode cX0_take 14 = .ok (.iconst 0, 1) := by decide +kernel
theorem dX0_take_15 : decode cX0_take 15 = .ok (.ireturn, 1) := by decide +kernel
theorem dX0_take_16 : decode cX0_take 16 = .ok (.aload_n 1, 1) := by decide +kernel
theorem dX0_take_17 : decode cX0_take 17 = .ok (.iload_n 2, 1) := by decide +kernel
theorem dX0_take_18 : decode cX0_take 18 = .ok (.iconst 0, 1) := by decide +kernel
theorem dX0_take_19 : decode cX0_take 19 = .ok (.bastore, 1) := by decide +kernel
theorem dX0_take_20 : decode cX0_take 20 = .ok (.aload_n 0, 1) := by decide +kernel
theorem dX0_take_21 : decode cX0_take 21 = .ok (.dup, 1) := by decide +kernel
theorem dX0_take_22 : decode cX0_take 22 = .ok (.getfield 28, 3) := by decide +kernel
theorem dX0_take_25 : decode cX0_take 25 = .ok (.iconst 1, 1) := by decide +kernel
theorem dX0_take_26 : decode cX0_take 26 = .ok (.isub, 1) := by decide +kernel
theorem dX0_take_27 : decode cX0_take 27 = .ok (.putfield 28, 3) := by decide +kernel
theorem dX0_take_30 : decode cX0_take 30 = .ok (.iconst 1, 1) := by decide +kernel
theorem dX0_take_31 : decode cX0_take 31 = .ok (.ireturn, 1) := by decide +kernel
theorem dX1_init_0 : decode cX1_init 0 = .ok (.aload_n 0, 1) := by decide +kernel
theorem dX1_init_1 : decode cX1_init 1 = .ok (.invokespecial 3, 3) := by decide +kernel
theorem dX1_init_4 : decode cX1_init 4 = .ok (.aload_n 0, 1) := by decide +kernel
theorem dX1_init_5 : decode cX1_init 5 = .ok (.sipush 256, 3) := by decide +kernel
theorem dX1_init_8 : decode cX1_init 8 = .ok (.newarray .boolean, 2) := by decide +kernel
theorem dX1_init_10 : decode cX1_init 10 = .ok (.putfield 9, 3) := by decide +kernel
theorem dX1_init_13 : decode cX1_init 13 = .ok (.aload_n 0, 1) := by decide +kernel
theorem dX1_init_14 : decode cX1_init 14 = .ok (.bipush 100, 2) := by decide +kernel
theorem dX1_init_16 : decode cX1_init 16 = .ok (.newarray .int, 2) := by decide +kernel
theorem dX1_init_18 : decode cX1_init 18 = .ok (.putfield 15, 3) := by decide +kernel
theorem dX1_init_21 : decode cX1_init 21 = .ok (.aload_n 0, 1) := by decide +kernel
theorem dX1_init_22 : decode cX1_init 22 = .ok (.bipush 100, 2) := by decide +kernel
theorem dX1_init_24 : decode cX1_init 24 = .ok (.newarray .int, 2) := by decide +kernel
theorem dX1_init_26 : decode cX1_init 26 = .ok (.putfield 19, 3) := by decide +kernel
theorem dX1_init_29 : decode cX1_init 29 = .ok (.return_, 1) := by decide +kernel
theorem dX1_forget_0 : decode cX1_forget 0 = .ok (.iconst 0, 1) := by decide +kernel
theorem dX1_forget_1 : decode cX1_forget 1 = .ok (.istore_n 1, 1) := by decide +kernel
theorem dX1_forget_2 : decode cX1_forget 2 = .ok (.iload_n 1, 1) := by decide +kernel
theorem dX1_forget_3 : decode cX1_forget 3 = .ok (.sipush 255, 3) := by decide +kernel
theorem dX1_forget_6 : decode cX1_forget 6 = .ok (.if_icmp .gt 16, 3) := by decide +kernel
theorem dX1_forget_9 : decode cX1_forget 9 = .ok (.aload_n 0, 1) := by decide +kernel
theorem dX1_forget_10 : decode cX1_forget 10 = .ok (.getfield 9, 3) := by decide +kernel
theorem dX1_forget_13 : decode cX1_forget 13 = .ok (.iload_n 1, 1) := by decide +kernel
theorem dX1_forget_14 : decode cX1_forget 14 = .ok (.iconst 0, 1) := by decide +kernel
theorem dX1_forget_15 : decode cX1_forget 15 = .ok (.bastore, 1) := by decide +kernel
theorem dX1_forget_16 : decode cX1_forget 16 = .ok (.iinc 1 1, 3) := by decide +kernel
theorem dX1_forget_19 : decode cX1_forget 19 = .ok (.goto (-17), 3) := by decide +kernel
theorem dX1_forget_22 : decode cX1_forget 22 = .ok (.aload_n 0, 1) := by decide +kernel
theorem dX1_forget_23 : decode cX1_forget 23 = .ok (.iconst 0, 1) := by decide +kernel
theorem dX1_forget_24 : decode cX1_forget 24 = .ok (.putfield 22, 3) := by decide +kernel
theorem dX1_forget_27 : decode cX1_forget 27 = .ok (.aload_n 0, 1) := by decide +kernel
theorem dX1_forget_28 : decode cX1_forget 28 = .ok (.iconst 0, 1) := by decide +kernel
theorem dX1_forget_29 : decode cX1_forget 29 = .ok (.putfield 26, 3) := by decide +kernel
theorem dX1_forget_32 : decode cX1_forget 32 = .ok (.return_, 1) := by decide +kernel
theorem dX1_copyFrom_0 : decode cX1_copyFrom 0 = .ok (.aload_n 1, 1) := by decide +kernel
theorem dX1_copyFrom_1 : decode cX1_copyFrom 1 = .ok (.getfield 9, 3) := by decide +kernel
theorem dX1_copyFrom_4 : decode cX1_copyFrom 4 = .ok (.iconst 0, 1) := by decide +kernel
theorem dX1_copyFrom_5 : decode cX1_copyFrom 5 = .ok (.aload_n 0, 1) := by decide +kernel
theorem dX1_copyFrom_6 : decode cX1_copyFrom 6 = .ok (.getfield 9, 3) := by decide +kernel
theorem dX1_copyFrom_9 : decode cX1_copyFrom 9 = .ok (.iconst 0, 1) := by decide +kernel
theorem dX1_copyFrom_10 : decode cX1_copyFrom 10 = .ok (.sipush 256, 3) := by decide +kernel
theorem dX1_copyFrom_13 : decode cX1_copyFrom 13 = .ok (.invokestatic 29, 3) := by decide +kernel
theorem dX1_copyFrom_16 : decode cX1_copyFrom 16 = .ok (.aload_n 1, 1) := by decide +kernel
theorem dX1_copyFrom_17 : decode cX1_copyFrom 17 = .ok (.getfield 15, 3) := by decide +kernel
theorem dX1_copyFrom_20 : decode cX1_copyFrom 20 = .ok (.iconst 0, 1) := by decide +kernel
theorem dX1_copyFrom_21 : decode cX1_copyFrom 21 = .ok (.aload_n 0, 1) := by decide +kernel
theorem dX1_copyFrom_22 : decode cX1_copyFrom 22 = .ok (.getfield 15, 3) := by decide +kernel
theorem dX1_copyFrom_25 : decode cX1_copyFrom 25 = .ok (.iconst 0, 1) := by decide +kernel
theorem dX1_copyFrom_26 : decode cX1_copyFrom 26 = .ok (.bipush 100, 2) := by decide +kernel
theorem dX1_copyFrom_28 : decode cX1_copyFrom 28 = .ok (.invokestatic 29, 3) := by decide +kernel
theorem dX1_copyFrom_31 : decode cX1_copyFrom 31 = .ok (.aload_n 1, 1) := by decide +kernel
theorem dX1_copyFrom_32 : decode cX1_copyFrom 32 = .ok (.getfield 19, 3) := by decide +kernel
theorem dX1_copyFrom_35 : decode cX1_copyFrom 35 = .ok (.iconst 0, 1) := by decide +kernel
theorem dX1_copyFrom_36 : decode cX1_copyFrom 36 = .ok (.aload_n 0, 1) := by decide +kernel
theorem dX1_copyFrom_37 : decode cX1_copyFrom 37 = .ok (.getfield 19, 3) := by decide +kernel
theorem dX1_copyFrom_40 : decode cX1_copyFrom 40 = .ok (.iconst 0, 1) := by decide +kernel
theorem dX1_copyFrom_41 : decode cX1_copyFrom 41 = .ok (.bipush 100, 2) := by decide +kernel
theorem dX1_copyFrom_43 : decode cX1_copyFrom 43 = .ok (.invokestatic 29, 3) := by decide +kernel
theorem dX1_copyFrom_46 : decode cX1_copyFrom 46 = .ok (.aload_n 0, 1) := by decide +kernel
theorem dX1_copyFrom_47 : decode cX1_copyFrom 47 = .ok (.aload_n 1, 1) := by decide +kernel
theorem dX1_copyFrom_48 : decode cX1_copyFrom 48 = .ok (.getfield 22, 3) := by decide +kernel
theorem dX1_copyFrom_51 : decode cX1_copyFrom 51 = .ok (.putfield 22, 3) := by decide +kernel
theorem dX1_copyFrom_54 : decode cX1_copyFrom 54 = .ok (.aload_n 0, 1) := by decide +kernel
theorem dX1_copyFrom_55 : decode cX1_copyFrom 55 = .ok (.aload_n 1, 1) := by decide +kernel
theorem dX1_copyFrom_56 : decode cX1_copyFrom 56 = .ok (.getfield 26, 3) := by decide +kernel
theorem dX1_copyFrom_59 : decode cX1_copyFrom 59 = .ok (.putfield 26, 3) := by decide +kernel
theorem dX1_copyFrom_62 : decode cX1_copyFrom 62 = .ok (.return_, 1) := by decide +kernel
theorem dX1_wasGiven_0 : decode cX1_wasGiven 0 = .ok (.iload_n 1, 1) := by decide +kernel
theorem dX1_wasGiven_1 : decode cX1_wasGiven 1 = .ok (.invokestatic 35, 3) := by decide +kernel
theorem dX1_wasGiven_4 : decode cX1_wasGiven 4 = .ok (.ifCond .eq 16, 3) := by decide +kernel
theorem dX1_wasGiven_7 : decode cX1_wasGiven 7 = .ok (.aload_n 0, 1) := by decide +kernel
theorem dX1_wasGiven_8 : decode cX1_wasGiven 8 = .ok (.getfield 9, 3) := by decide +kernel
theorem dX1_wasGiven_11 : decode cX1_wasGiven 11 = .ok (.iload_n 1, 1) := by decide +kernel
theorem dX1_wasGiven_12 : decode cX1_wasGiven 12 = .ok (.baload, 1) := by decide +kernel
theorem dX1_wasGiven_13 : decode cX1_wasGiven 13 = .ok (.ifCond .eq 7, 3) := by decide +kernel
theorem dX1_wasGiven_16 : decode cX1_wasGiven 16 = .ok (.iconst 1, 1) := by decide +kernel
theorem dX1_wasGiven_17 : decode cX1_wasGiven 17 = .ok (.goto 4, 3) := by decide +kernel
theorem dX1_wasGiven_20 : decode cX1_wasGiven 20 = .ok (.iconst 0, 1) := by decide +kernel
theorem dX1_wasGiven_21 : decode cX1_wasGiven 21 = .ok (.ireturn, 1) := by decide +kernel
theorem dX1_addGiven_0 : decode cX1_addGiven 0 = .ok (.iload_n 1, 1) := by decide +kernel
theorem dX1_addGiven_1 : decode cX1_addGiven 1 = .ok (.invokestatic 35, 3) := by decide +kernel
theorem dX1_addGiven_4 : decode cX1_addGiven 4 = .ok (.ifCond .eq 29, 3) := by decide +kernel
theorem dX1_addGiven_7 : decode cX1_addGiven 7 = .ok (.aload_n 0, 1) := by decide +kernel
theorem dX1_addGiven_8 : decode cX1_addGiven 8 = .ok (.getfield 9, 3) := by decide +kernel
theorem dX1_addGiven_11 : decode cX1_addGiven 11 = .ok (.iload_n 1, 1) := by decide +kernel
theorem dX1_addGiven_12 : decode cX1_addGiven 12 = .ok (.baload, 1) := by decide +kernel
theorem dX1_addGiven_13 : decode cX1_addGiven 13 = .ok (.ifCond .ne 20, 3) := by decide +kernel
theorem dX1_addGiven_16 : decode cX1_addGiven 16 = .ok (.aload_n 0, 1) := by decide +kernel
theorem dX1_addGiven_17 : decode cX1_addGiven 17 = .ok (.getfield 9, 3) := by decide +kernel
theorem dX1_addGiven_20 : decode cX1_addGiven 20 = .ok (.iload_n 1, 1) := by decide +kernel
theorem dX1_addGiven_21 : decode cX1_addGiven 21 = .ok (.iconst 1, 1) := by decide +kernel
theorem dX1_addGiven_22 : decode cX1_addGiven 22 = .ok (.bastore, 1) := by decide +kernel
theorem dX1_addGiven_23 : decode cX1_addGiven 23 = .ok (.aload_n 0, 1) := by decide +kernel
theorem dX1_addGiven_24 : decode cX1_addGiven 24 = .ok (.dup, 1) := by decide +kernel
theorem dX1_addGiven_25 : decode cX1_addGiven 25 = .ok (.getfield 22, 3) := by decide +kernel
theorem dX1_addGiven_28 : decode cX1_addGiven 28 = .ok (.iconst 1, 1) := by decide +kernel
theorem dX1_addGiven_29 : decode cX1_addGiven 29 = .ok (.iadd, 1) := by decide +kernel
theorem dX1_addGiven_30 : decode cX1_addGiven 30 = .ok (.putfield 22, 3) := by decide +kernel
theorem dX1_addGiven_33 : decode cX1_addGiven 33 = .ok (.return_, 1) := by decide +kernel
theorem dX1_setAside_0 : decode cX1_setAside 0 = .ok (.aload_n 0, 1) := by decide +kernel
theorem dX1_setAside_1 : decode cX1_setAside 1 = .ok (.getfield 26, 3) := by decide +kernel
theorem dX1_setAside_4 : decode cX1_setAside 4 = .ok (.bipush 100, 2) := by decide +kernel
theorem dX1_setAside_6 : decode cX1_setAside 6 = .ok (.if_icmp .ge 33, 3) := by decide +kernel
theorem dX1_setAside_9 : decode cX1_setAside 9 = .ok (.aload_n 0, 1) := by decide +kernel
theorem dX1_setAside_10 : decode cX1_setAside 10 = .ok (.getfield 15, 3) := by decide +kernel
theorem dX1_setAside_13 : decode cX1_setAside 13 = .ok (.aload_n 0, 1) := by decide +kernel
theorem dX1_setAside_14 : decode cX1_setAside 14 = .ok (.getfield 26, 3) := by decide +kernel
theorem dX1_setAside_17 : decode cX1_setAside 17 = .ok (.iload_n 1, 1) := by decide +kernel
theorem dX1_setAside_18 : decode cX1_setAside 18 = .ok (.iastore, 1) := by decide +kernel
theorem dX1_setAside_19 : decode cX1_setAside 19 = .ok (.aload_n 0, 1) := by decide +kernel
theorem dX1_setAside_20 : decode cX1_setAside 20 = .ok (.getfield 19, 3) := by decide +kernel
theorem dX1_setAside_23 : decode cX1_setAside 23 = .ok (.aload_n 0, 1) := by decide +kernel
theorem dX1_setAside_24 : decode cX1_setAside 24 = .ok (.getfield 26, 3) := by decide +kernel
theorem dX1_setAside_27 : decode cX1_setAside 27 = .ok (.iload_n 2, 1) := by decide +kernel
theorem dX1_setAside_28 : decode cX1_setAside 28 = .ok (.iastore, 1) := by decide +kernel
theorem dX1_setAside_29 : decode cX1_setAside 29 = .ok (.aload_n 0, 1) := by decide +kernel
theorem dX1_setAside_30 : decode cX1_setAside 30 = .ok (.dup, 1) := by decide +kernel
theorem dX1_setAside_31 : decode cX1_setAside 31 = .ok (.getfield 26, 3) := by decide +kernel
theorem dX1_setAside_34 : decode cX1_setAside 34 = .ok (.iconst 1, 1) := by decide +kernel
theorem dX1_setAside_35 : decode cX1_setAside 35 = .ok (.iadd, 1) := by decide +kernel
theorem dX1_setAside_36 : decode cX1_setAside 36 = .ok (.putfield 26, 3) := by decide +kernel
theorem dX1_setAside_39 : decode cX1_setAside 39 = .ok (.return_, 1) := by decide +kernel
theorem dX2_init_0 : decode cX2_init 0 = .ok (.aload_n 0, 1) := by decide +kernel
theorem dX2_init_1 : decode cX2_init 1 = .ok (.invokespecial 3, 3) := by decide +kernel
theorem dX2_init_4 : decode cX2_init 4 = .ok (.aload_n 0, 1) := by decide +kernel
theorem dX2_init_5 : decode cX2_init 5 = .ok (.bipush 12, 2) := by decide +kernel
theorem dX2_init_7 : decode cX2_init 7 = .ok (.newarray .int, 2) := by decide +kernel
theorem dX2_init_9 : decode cX2_init 9 = .ok (.putfield 9, 3) := by decide +kernel
theorem dX2_init_12 : decode cX2_init 12 = .ok (.aload_n 0, 1) := by decide +kernel
theorem dX2_init_13 : decode cX2_init 13 = .ok (.bipush 12, 2) := by decide +kernel
theorem dX2_init_15 : decode cX2_init 15 = .ok (.newarray .int, 2) := by decide +kernel
theorem dX2_init_17 : decode cX2_init 17 = .ok (.putfield 15, 3) := by decide +kernel
theorem dX2_init_20 : decode cX2_init 20 = .ok (.aload_n 0, 1) := by decide +kernel
theorem dX2_init_21 : decode cX2_init 21 = .ok (.bipush 12, 2) := by decide +kernel
theorem dX2_init_23 : decode cX2_init 23 = .ok (.newarray .int, 2) := by decide +kernel
theorem dX2_init_25 : decode cX2_init 25 = .ok (.putfield 18, 3) := by decide +kernel
theorem dX2_init_28 : decode cX2_init 28 = .ok (.aload_n 0, 1) := by decide +kernel
theorem dX2_init_29 : decode cX2_init 29 = .ok (.bipush 12, 2) := by decide +kernel
theorem dX2_init_31 : decode cX2_init 31 = .ok (.newarray .int, 2) := by decide +kernel
theorem dX2_init_33 : decode cX2_init 33 = .ok (.putfield 21, 3) := by decide +kernel
theorem dX2_init_36 : decode cX2_init 36 = .ok (.aload_n 0, 1) := by decide +kernel
theorem dX2_init_37 : decode cX2_init 37 = .ok (.new 24, 3) := by decide +kernel
theorem dX2_init_40 : decode cX2_init 40 = .ok (.dup, 1) := by decide +kernel
theorem dX2_init_41 : decode cX2_init 41 = .ok (.invokespecial 26, 3) := by decide +kernel
theorem dX2_init_44 : decode cX2_init 44 = .ok (.putfield 27, 3) := by decide +kernel
theorem dX2_init_47 : decode cX2_init 47 = .ok (.return_, 1) := by decide +kernel
theorem dX2_keep_0 : decode cX2_keep 0 = .ok (.aload_n 0, 1) := by decide +kernel
theorem dX2_keep_1 : decode cX2_keep 1 = .ok (.iload_n 2, 1) := by decide +kernel
theorem dX2_keep_2 : decode cX2_keep 2 = .ok (.bipush 12, 2) := by decide +kernel
theorem dX2_keep_4 : decode cX2_keep 4 = .ok (.invokestatic 31, 3) := by decide +kernel
theorem dX2_keep_7 : decode cX2_keep 7 = .ok (.putfield 37, 3) := by decide +kernel
theorem dX2_keep_10 : decode cX2_keep 10 = .ok (.iconst 0, 1) := by decide +kernel
theorem dX2_keep_11 : decode cX2_keep 11 = .ok (.istore 4, 2) := by decide +kernel
theorem dX2_keep_13 : decode cX2_keep 13 = .ok (.iload 4, 2) := by decide +kernel
theorem dX2_keep_15 : decode cX2_keep 15 = .ok (.aload_n 0, 1) := by decide +kernel
theorem dX2_keep_16 : decode cX2_keep 16 = .ok (.getfield 37, 3) := by decide +kernel
theorem dX2_keep_19 : decode cX2_keep 19 = .ok (.if_icmp .ge 65, 3) := by decide +kernel
theorem dX2_keep_22 : decode cX2_keep 22 = .ok (.aload_n 0, 1) := by decide +kernel
theorem dX2_keep_23 : decode cX2_keep 23 = .ok (.getfield 9, 3) := by decide +kernel
theorem dX2_keep_26 : decode cX2_keep 26 = .ok (.iload 4, 2) := by decide +kernel
theorem dX2_keep_28 : decode cX2_keep 28 = .ok (.aload_n 1, 1) := by decide +kernel
theorem dX2_keep_29 : decode cX2_keep 29 = .ok (.iload 4, 2) := by decide +kernel
theorem dX2_keep_31 : decode cX2_keep 31 = .ok (.aaload, 1) := by decide +kernel
theorem dX2_keep_32 : decode cX2_keep 32 = .ok (.getfield 41, 3) := by decide +kernel
theorem dX2_keep_35 : decode cX2_keep 35 = .ok (.iastore, 1) := by decide +kernel
theorem dX2_keep_36 : decode cX2_keep 36 = .ok (.aload_n 0, 1) := by decide +kernel
theorem dX2_keep_37 : decode cX2_keep 37 = .ok (.getfield 15, 3) := by decide +kernel
theorem dX2_keep_40 : decode cX2_keep 40 = .ok (.iload 4, 2) := by decide +kernel
theorem dX2_keep_42 : decode cX2_keep 42 = .ok (.aload_n 1, 1) := by decide +kernel
theorem dX2_keep_43 : decode cX2_keep 43 = .ok (.iload 4, 2) := by decide +kernel
theorem dX2_keep_45 : decode cX2_keep 45 = .ok (.aaload, 1) := by decide +kernel
theorem dX2_keep_46 : decode cX2_keep 46 = .ok (.getfield 46, 3) := by decide +kernel
theorem dX2_keep_49 : decode cX2_keep 49 = .ok (.iastore, 1) := by decide +kernel
theorem dX2_keep_50 : decode cX2_keep 50 = .ok (.aload_n 0, 1) := by decide +kernel
theorem dX2_keep_51 : decode cX2_keep 51 = .ok (.getfield 18, 3) := by decide +kernel
theorem dX2_keep_54 : decode cX2_keep 54 = .ok (.iload 4, 2) := by decide +kernel
theorem dX2_keep_56 : decode cX2_keep 56 = .ok (.aload_n 1, 1) := by decide +kernel
theorem dX2_keep_57 : decode cX2_keep 57 = .ok (.iload 4, 2) := by decide +kernel
theorem dX2_keep_59 : decode cX2_keep 59 = .ok (.aaload, 1) := by decide +kernel
theorem dX2_keep_60 : decode cX2_keep 60 = .ok (.getfield 49, 3) := by decide +kernel
theorem dX2_keep_63 : decode cX2_keep 63 = .ok (.iastore, 1) := by decide +kernel
theorem dX2_keep_64 : decode cX2_keep 64 = .ok (.aload_n 0, 1) := by decide +kernel
theorem dX2_keep_65 : decode cX2_keep 65 = .ok (.getfield 21, 3) := by decide +kernel
theorem dX2_keep_68 : decode cX2_keep 68 = .ok (.iload 4, 2) := by decide +kernel
theorem dX2_keep_70 : decode cX2_keep 70 = .ok (.aload_n 1, 1) := by decide +kernel
theorem dX2_keep_71 : decode cX2_keep 71 = .ok (.iload 4, 2) := by decide +kernel
theorem dX2_keep_73 : decode cX2_keep 73 = .ok (.aaload, 1) := by decide +kernel
theorem dX2_keep_74 : decode cX2_keep 74 = .ok (.getfield 52, 3) := by decide +kernel
theorem dX2_keep_77 : decode cX2_keep 77 = .ok (.iastore, 1) := by decide +kernel
theorem dX2_keep_78 : decode cX2_keep 78 = .ok (.iinc 4 1, 3) := by decide +kernel
theorem dX2_keep_81 : decode cX2_keep 81 = .ok (.goto (-68), 3) := by decide +kernel
theorem dX2_keep_84 : decode cX2_keep 84 = .ok (.aload_n 0, 1) := by decide +kernel
theorem dX2_keep_85 : decode cX2_keep 85 = .ok (.getfield 27, 3) := by decide +kernel
theorem dX2_keep_88 : decode cX2_keep 88 = .ok (.aload_n 3, 1) := by decide +kernel
theorem dX2_keep_89 : decode cX2_keep 89 = .ok (.invokevirtual 55, 3) := by decide +kernel
theorem dX2_keep_92 : decode cX2_keep 92 = .ok (.return_, 1) := by decide +kernel
theorem dX2_bringBack_0 : decode cX2_bringBack 0 = .ok (.iload_n 1, 1) := by decide +kernel
theorem dX2_bringBack_1 : decode cX2_bringBack 1 = .ok (.ifCond .lt 11, 3) := by decide +kernel
theorem dX2_bringBack_4 : decode cX2_bringBack 4 = .ok (.iload_n 1, 1) := by decide +kernel
theorem dX2_bringBack_5 : decode cX2_bringBack 5 = .ok (.aload_n 0, 1) := by decide +kernel
theorem dX2_bringBack_6 : decode cX2_bringBack 6 = .ok (.getfield 37, 3) := by decide +kernel
theorem dX2_bringBack_9 : decode cX2_bringBack 9 = .ok (.if_icmp .lt 16, 3) := by decide +kernel
theorem dX2_bringBack_12 : decode cX2_bringBack 12 = .ok (.aload_n 2, 1) := by decide +kernel
theorem dX2_bringBack_13 : decode cX2_bringBack 13 = .ok (.iconst 0, 1) := by decide +kernel
theorem dX2_bringBack_14 : decode cX2_bringBack 14 = .ok (.iconst (-1), 1) := by decide +kernel
theorem dX2_bringBack_15 : decode cX2_bringBack 15 = .ok (.iconst 0, 1) := by decide +kernel
theorem dX2_bringBack_16 : decode cX2_bringBack 16 = .ok (.invokevirtual 59, 3) := by decide +kernel
theorem dX2_bringBack_19 : decode cX2_bringBack 19 = .ok (.aload_n 2, 1) := by decide +kernel
theorem dX2_bringBack_20 : decode cX2_bringBack 20 = .ok (.iconst (-1), 1) := by decide +kernel
theorem dX2_bringBack_21 : decode cX2_bringBack 21 = .ok (.putfield 52, 3) := by decide +kernel
theorem dX2_bringBack_24 : decode cX2_bringBack 24 = .ok (.return_, 1) := by decide +kernel
theorem dX2_bringBack_25 : decode cX2_bringBack 25 = .ok (.aload_n 2, 1) := by decide +kernel
theorem dX2_bringBack_26 : decode cX2_bringBack 26 = .ok (.aload_n 0, 1) := by decide +kernel
theorem dX2_bringBack_27 : decode cX2_bringBack 27 = .ok (.getfield 9, 3) := by decide +kernel
theorem dX2_bringBack_30 : decode cX2_bringBack 30 = .ok (.iload_n 1, 1) := by decide +kernel
theorem dX2_bringBack_31 : decode cX2_bringBack 31 = .ok (.iaload, 1) := by decide +kernel
theorem dX2_bringBack_32 : decode cX2_bringBack 32 = .ok (.aload_n 0, 1) := by decide +kernel
theorem dX2_bringBack_33 : decode cX2_bringBack 33 = .ok (.getfield 15, 3) := by decide +kernel
theorem dX2_bringBack_36 : decode cX2_bringBack 36 = .ok (.iload_n 1, 1) := by decide +kernel
theorem dX2_bringBack_37 : decode cX2_bringBack 37 = .ok (.iaload, 1) := by decide +kernel
theorem dX2_bringBack_38 : decode cX2_bringBack 38 = .ok (.aload_n 0, 1) := by decide +kernel
theorem dX2_bringBack_39 : decode cX2_bringBack 39 = .ok (.getfield 18, 3) := by decide +kernel
theorem dX2_bringBack_42 : decode cX2_bringBack 42 = .ok (.iload_n 1, 1) := by decide +kernel
theorem dX2_bringBack_43 : decode cX2_bringBack 43 = .ok (.iaload, 1) := by decide +kernel
theorem dX2_bringBack_44 : decode cX2_bringBack 44 = .ok (.invokevirtual 59, 3) := by decide +kernel
theorem dX2_bringBack_47 : decode cX2_bringBack 47 = .ok (.aload_n 2, 1) := by decide +kernel
theorem dX2_bringBack_48 : decode cX2_bringBack 48 = .ok (.aload_n 0, 1) := by decide +kernel
theorem dX2_bringBack_49 : decode cX2_bringBack 49 = .ok (.getfield 21, 3) := by decide +kernel
theorem dX2_bringBack_52 : decode cX2_bringBack 52 = .ok (.iload_n 1, 1) := by decide +kernel
theorem dX2_bringBack_53 : decode cX2_bringBack 53 = .ok (.iaload, 1) := by decide +kernel
theorem dX2_bringBack_54 : decode cX2_bringBack 54 = .ok (.iload_n 3, 1) := by decide +kernel
theorem dX2_bringBack_55 : decode cX2_bringBack 55 = .ok (.if_icmp .ge 12, 3) := by decide +kernel
theorem dX2_bringBack_58 : decode cX2_bringBack 58 = .ok (.aload_n 0, 1) := by decide +kernel
theorem dX2_bringBack_59 : decode cX2_bringBack 59 = .ok (.getfield 21, 3) := by decide +kernel
theorem dX2_bringBack_62 : decode cX2_bringBack 62 = .ok (.iload_n 1, 1) := by decide +kernel
theorem dX2_bringBack_63 : decode cX2_bringBack 63 = .ok (.iaload, 1) := by decide +kernel
theorem dX2_bringBack_64 : decode cX2_bringBack 64 = .ok (.goto 4, 3) := by decide +kernel
theorem dX2_bringBack_67 : decode cX2_bringBack 67 = .ok (.iconst (-1), 1) := by decide +kernel
theorem dX2_bringBack_68 : decode cX2_bringBack 68 = .ok (.putfield 52, 3) := by decide +kernel
theorem dX2_bringBack_71 : decode cX2_bringBack 71 = .ok (.return_, 1) := by decide +kernel
theorem dX3_init_0 : decode cX3_init 0 = .ok (.aload_n 0, 1) := by decide +kernel
theorem dX3_init_1 : decode cX3_init 1 = .ok (.invokespecial 3, 3) := by decide +kernel
theorem dX3_init_4 : decode cX3_init 4 = .ok (.aload_n 0, 1) := by decide +kernel
theorem dX3_init_5 : decode cX3_init 5 = .ok (.bipush 40, 2) := by decide +kernel
theorem dX3_init_7 : decode cX3_init 7 = .ok (.newarray .int, 2) := by decide +kernel
theorem dX3_init_9 : decode cX3_init 9 = .ok (.putfield 9, 3) := by decide +kernel
theorem dX3_init_12 : decode cX3_init 12 = .ok (.aload_n 0, 1) := by decide +kernel
theorem dX3_init_13 : decode cX3_init 13 = .ok (.bipush 40, 2) := by decide +kernel
theorem dX3_init_15 : decode cX3_init 15 = .ok (.newarray .int, 2) := by decide +kernel
theorem dX3_init_17 : decode cX3_init 17 = .ok (.putfield 15, 3) := by decide +kernel
theorem dX3_init_20 : decode cX3_init 20 = .ok (.aload_n 0, 1) := by decide +kernel
theorem dX3_init_21 : decode cX3_init 21 = .ok (.bipush 40, 2) := by decide +kernel
theorem dX3_init_23 : decode cX3_init 23 = .ok (.newarray .boolean, 2) := by decide +kernel
theorem dX3_init_25 : decode cX3_init 25 = .ok (.putfield 18, 3) := by decide +kernel
theorem dX3_init_28 : decode cX3_init 28 = .ok (.return_, 1) := by decide +kernel
theorem dX3_beginAnew_0 : decode cX3_beginAnew 0 = .ok (.aload_n 0, 1) := by decide +kernel
theorem dX3_beginAnew_1 : decode cX3_beginAnew 1 = .ok (.iconst 0, 1) := by decide +kernel
theorem dX3_beginAnew_2 : decode cX3_beginAnew 2 = .ok (.putfield 22, 3) := by decide +kernel
theorem dX3_beginAnew_5 : decode cX3_beginAnew 5 = .ok (.aload_n 0, 1) := by decide +kernel
theorem dX3_beginAnew_6 : decode cX3_beginAnew 6 = .ok (.iconst 0, 1) := by decide +kernel
theorem dX3_beginAnew_7 : decode cX3_beginAnew 7 = .ok (.putfield 26, 3) := by decide +kernel
theorem dX3_beginAnew_10 : decode cX3_beginAnew 10 = .ok (.aload_n 0, 1) := by decide +kernel
theorem dX3_beginAnew_11 : decode cX3_beginAnew 11 = .ok (.iload_n 1, 1) := by decide +kernel
theorem dX3_beginAnew_12 : decode cX3_beginAnew 12 = .ok (.putfield 30, 3) := by decide +kernel
theorem dX3_beginAnew_15 : decode cX3_beginAnew 15 = .ok (.aload_n 0, 1) := by decide +kernel
theorem dX3_beginAnew_16 : decode cX3_beginAnew 16 = .ok (.iload_n 2, 1) := by decide +kernel
theorem dX3_beginAnew_17 : decode cX3_beginAnew 17 = .ok (.putfield 33, 3) := by decide +kernel
theorem dX3_beginAnew_20 : decode cX3_beginAnew 20 = .ok (.aload_n 0, 1) := by decide +kernel
theorem dX3_beginAnew_21 : decode cX3_beginAnew 21 = .ok (.iconst (-1), 1) := by decide +kernel
theorem dX3_beginAnew_22 : decode cX3_beginAnew 22 = .ok (.putfield 36, 3) := by decide +kernel
theorem dX3_beginAnew_25 : decode cX3_beginAnew 25 = .ok (.aload_n 0, 1) := by decide +kernel
theorem dX3_beginAnew_26 : decode cX3_beginAnew 26 = .ok (.iconst 0, 1) := by decide +kernel
theorem dX3_beginAnew_27 : decode cX3_beginAnew 27 = .ok (.iconst (-1), 1) := by decide +kernel
theorem dX3_beginAnew_28 : decode cX3_beginAnew 28 = .ok (.iconst 0, 1) := by decide +kernel
theorem dX3_beginAnew_29 : decode cX3_beginAnew 29 = .ok (.invokevirtual 39, 3) := by decide +kernel
theorem dX3_beginAnew_32 : decode cX3_beginAnew 32 = .ok (.return_, 1) := by decide +kernel
theorem dX3_stand_0 : decode cX3_stand 0 = .ok (.aload_n 0, 1) := by decide +kernel
theorem dX3_stand_1 : decode cX3_stand 1 = .ok (.iload_n 1, 1) := by decide +kernel
theorem dX3_stand_2 : decode cX3_stand 2 = .ok (.putfield 43, 3) := by decide +kernel
theorem dX3_stand_5 : decode cX3_stand 5 = .ok (.aload_n 0, 1) := by decide +kernel
theorem dX3_stand_6 : decode cX3_stand 6 = .ok (.iload_n 2, 1) := by decide +kernel
theorem dX3_stand_7 : decode cX3_stand 7 = .ok (.putfield 46, 3) := by decide +kernel
theorem dX3_stand_10 : decode cX3_stand 10 = .ok (.aload_n 0, 1) := by decide +kernel
theorem dX3_stand_11 : decode cX3_stand 11 = .ok (.iload_n 3, 1) := by decide +kernel
theorem dX3_stand_12 : decode cX3_stand 12 = .ok (.putfield 49, 3) := by decide +kernel
theorem dX3_stand_15 : decode cX3_stand 15 = .ok (.return_, 1) := by decide +kernel
theorem dX3_hasRow_0 : decode cX3_hasRow 0 = .ok (.iload_n 1, 1) := by decide +kernel
theorem dX3_hasRow_1 : decode cX3_hasRow 1 = .ok (.ifCond .lt 15, 3) := by decide +kernel
theorem dX3_hasRow_4 : decode cX3_hasRow 4 = .ok (.iload_n 1, 1) := by decide +kernel
theorem dX3_hasRow_5 : decode cX3_hasRow 5 = .ok (.aload_n 0, 1) := by decide +kernel
theorem dX3_hasRow_6 : decode cX3_hasRow 6 = .ok (.getfield 22, 3) := by decide +kernel
theorem dX3_hasRow_9 : decode cX3_hasRow 9 = .ok (.if_icmp .ge 7, 3) := by decide +kernel
theorem dX3_hasRow_12 : decode cX3_hasRow 12 = .ok (.iconst 1, 1) := by decide +kernel
theorem dX3_hasRow_13 : decode cX3_hasRow 13 = .ok (.goto 4, 3) := by decide +kernel
theorem dX3_hasRow_16 : decode cX3_hasRow 16 = .ok (.iconst 0, 1) := by decide +kernel
theorem dX3_hasRow_17 : decode cX3_hasRow 17 = .ok (.ireturn, 1) := by decide +kernel
theorem dX3_isReady_0 : decode cX3_isReady 0 = .ok (.aload_n 0, 1) := by decide +kernel
theorem dX3_isReady_1 : decode cX3_isReady 1 = .ok (.aload_n 0, 1) := by decide +kernel
theorem dX3_isReady_2 : decode cX3_isReady 2 = .ok (.getfield 43, 3) := by decide +kernel
theorem dX3_isReady_5 : decode cX3_isReady 5 = .ok (.invokevirtual 52, 3) := by decide +kernel
theorem dX3_isReady_8 : decode cX3_isReady 8 = .ok (.ireturn, 1) := by decide +kernel
theorem dX3_isReadyFor_0 : decode cX3_isReadyFor 0 = .ok (.aload_n 0, 1) := by decide +kernel
theorem dX3_isReadyFor_1 : decode cX3_isReadyFor 1 = .ok (.getfield 36, 3) := by decide +kernel
theorem dX3_isReadyFor_4 : decode cX3_isReadyFor 4 = .ok (.iload_n 1, 1) := by decide +kernel
theorem dX3_isReadyFor_5 : decode cX3_isReadyFor 5 = .ok (.if_icmp .ne 14, 3) := by decide +kernel
theorem dX3_isReadyFor_8 : decode cX3_isReadyFor 8 = .ok (.aload_n 0, 1) := by decide +kernel
theorem dX3_isReadyFor_9 : decode cX3_isReadyFor 9 = .ok (.invokevirtual 56, 3) := by decide +kernel
theorem dX3_isReadyFor_12 : decode cX3_isReadyFor 12 = .ok (.ifCond .eq 7, 3) := by decide +kernel
theorem dX3_isReadyFor_15 : decode cX3_isReadyFor 15 = .ok (.iconst 1, 1) := by decide +kernel
theorem dX3_isReadyFor_16 : decode cX3_isReadyFor 16 = .ok (.goto 4, 3) := by decide +kernel
theorem dX3_isReadyFor_19 : decode cX3_isReadyFor 19 = .ok (.iconst 0, 1) := by decide +kernel
theorem dX3_isReadyFor_20 : decode cX3_isReadyFor 20 = .ok (.ireturn, 1) := by decide +kernel
theorem dX3_isDone_0 : decode cX3_isDone 0 = .ok (.aload_n 0, 1) := by decide +kernel
theorem dX3_isDone_1 : decode cX3_isDone 1 = .ok (.getfield 26, 3) := by decide +kernel
theorem dX3_isDone_4 : decode cX3_isDone 4 = .ok (.ifCond .eq 14, 3) := by decide +kernel
theorem dX3_isDone_7 : decode cX3_isDone 7 = .ok (.aload_n 0, 1) := by decide +kernel
theorem dX3_isDone_8 : decode cX3_isDone 8 = .ok (.invokevirtual 56, 3) := by decide +kernel
theorem dX3_isDone_11 : decode cX3_isDone 11 = .ok (.ifCond .ne 7, 3) := by decide +kernel
theorem dX3_isDone_14 : decode cX3_isDone 14 = .ok (.iconst 1, 1) := by decide +kernel
theorem dX3_isDone_15 : decode cX3_isDone 15 = .ok (.goto 4, 3) := by decide +kernel
theorem dX3_isDone_18 : decode cX3_isDone 18 = .ok (.iconst 0, 1) := by decide +kernel
theorem dX3_isDone_19 : decode cX3_isDone 19 = .ok (.ireturn, 1) := by decide +kernel
theorem dX3_addRow_0 : decode cX3_addRow 0 = .ok (.aload_n 0, 1) := by decide +kernel
theorem dX3_addRow_1 : decode cX3_addRow 1 = .ok (.getfield 22, 3) := by decide +kernel
theorem dX3_addRow_4 : decode cX3_addRow 4 = .ok (.bipush 40, 2) := by decide +kernel
theorem dX3_addRow_6 : decode cX3_addRow 6 = .ok (.if_icmp .ge 43, 3) := by decide +kernel
theorem dX3_addRow_9 : decode cX3_addRow 9 = .ok (.aload_n 0, 1) := by decide +kernel
theorem dX3_addRow_10 : decode cX3_addRow 10 = .ok (.getfield 9, 3) := by decide +kernel
theorem dX3_addRow_13 : decode cX3_addRow 13 = .ok (.aload_n 0, 1) := by decide +kernel
theorem dX3_addRow_14 : decode cX3_addRow 14 = .ok (.getfield 22, 3) := by decide +kernel
theorem dX3_addRow_17 : decode cX3_addRow 17 = .ok (.iload_n 1, 1) := by decide +kernel
theorem dX3_addRow_18 : decode cX3_addRow 18 = .ok (.iastore, 1) := by decide +kernel
theorem dX3_addRow_19 : decode cX3_addRow 19 = .ok (.aload_n 0, 1) := by decide +kernel
theorem dX3_addRow_20 : decode cX3_addRow 20 = .ok (.getfield 15, 3) := by decide +kernel
theorem dX3_addRow_23 : decode cX3_addRow 23 = .ok (.aload_n 0, 1) := by decide +kernel
theorem dX3_addRow_24 : decode cX3_addRow 24 = .ok (.getfield 22, 3) := by decide +kernel
theorem dX3_addRow_27 : decode cX3_addRow 27 = .ok (.iload_n 2, 1) := by decide +kernel
theorem dX3_addRow_28 : decode cX3_addRow 28 = .ok (.iastore, 1) := by decide +kernel
theorem dX3_addRow_29 : decode cX3_addRow 29 = .ok (.aload_n 0, 1) := by decide +kernel
theorem dX3_addRow_30 : decode cX3_addRow 30 = .ok (.getfield 18, 3) := by decide +kernel
theorem dX3_addRow_33 : decode cX3_addRow 33 = .ok (.aload_n 0, 1) := by decide +kernel
theorem dX3_addRow_34 : decode cX3_addRow 34 = .ok (.getfield 22, 3) := by decide +kernel
theorem dX3_addRow_37 : decode cX3_addRow 37 = .ok (.iload_n 3, 1) := by decide +kernel
theorem dX3_addRow_38 : decode cX3_addRow 38 = .ok (.bastore, 1) := by decide +kernel
theorem dX3_addRow_39 : decode cX3_addRow 39 = .ok (.aload_n 0, 1) := by decide +kernel
theorem dX3_addRow_40 : decode cX3_addRow 40 = .ok (.dup, 1) := by decide +kernel
theorem dX3_addRow_41 : decode cX3_addRow 41 = .ok (.getfield 22, 3) := by decide +kernel
theorem dX3_addRow_44 : decode cX3_addRow 44 = .ok (.iconst 1, 1) := by decide +kernel
theorem dX3_addRow_45 : decode cX3_addRow 45 = .ok (.iadd, 1) := by decide +kernel
theorem dX3_addRow_46 : decode cX3_addRow 46 = .ok (.putfield 22, 3) := by decide +kernel
theorem dX3_addRow_49 : decode cX3_addRow 49 = .ok (.return_, 1) := by decide +kernel
theorem dX3_moveRowsFrom_0 : decode cX3_moveRowsFrom 0 = .ok (.iload_n 1, 1) := by decide +kernel
theorem dX3_moveRowsFrom_1 : decode cX3_moveRowsFrom 1 = .ok (.istore_n 3, 1) := by decide +kernel
theorem dX3_moveRowsFrom_2 : decode cX3_moveRowsFrom 2 = .ok (.iload_n 3, 1) := by decide +kernel
theorem dX3_moveRowsFrom_3 : decode cX3_moveRowsFrom 3 = .ok (.aload_n 0, 1) := by decide +kernel
theorem dX3_moveRowsFrom_4 : decode cX3_moveRowsFrom 4 = .ok (.getfield 22, 3) := by decide +kernel
theorem dX3_moveRowsFrom_7 : decode cX3_moveRowsFrom 7 = .ok (.if_icmp .ge 31, 3) := by decide +kernel
theorem dX3_moveRowsFrom_10 : decode cX3_moveRowsFrom 10 = .ok (.aload_n 2, 1) := by decide +kernel
theorem dX3_moveRowsFrom_11 : decode cX3_moveRowsFrom 11 = .ok (.aload_n 0, 1) := by decide +kernel
theorem dX3_moveRowsFrom_12 : decode cX3_moveRowsFrom 12 = .ok (.getfield 9, 3) := by decide +kernel
theorem dX3_moveRowsFrom_15 : decode cX3_moveRowsFrom 15 = .ok (.iload_n 3, 1) := by decide +kernel
theorem dX3_moveRowsFrom_16 : decode cX3_moveRowsFrom 16 = .ok (.iaload, 1) := by decide +kernel
theorem dX3_moveRowsFrom_17 : decode cX3_moveRowsFrom 17 = .ok (.aload_n 0, 1) := by decide +kernel
theorem dX3_moveRowsFrom_18 : decode cX3_moveRowsFrom 18 = .ok (.getfield 15, 3) := by decide +kernel
theorem dX3_moveRowsFrom_21 : decode cX3_moveRowsFrom 21 = .ok (.iload_n 3, 1) := by decide +kernel
theorem dX3_moveRowsFrom_22 : decode cX3_moveRowsFrom 22 = .ok (.iaload, 1) := by decide +kernel
theorem dX3_moveRowsFrom_23 : decode cX3_moveRowsFrom 23 = .ok (.aload_n 0, 1) := by decide +kernel
theorem dX3_moveRowsFrom_24 : decode cX3_moveRowsFrom 24 = .ok (.getfield 18, 3) := by decide +kernel
theorem dX3_moveRowsFrom_27 : decode cX3_moveRowsFrom 27 = .ok (.iload_n 3, 1) := by decide +kernel
theorem dX3_moveRowsFrom_28 : decode cX3_moveRowsFrom 28 = .ok (.baload, 1) := by decide +kernel
theorem dX3_moveRowsFrom_29 : decode cX3_moveRowsFrom 29 = .ok (.invokevirtual 60, 3) := by decide +kernel
theorem dX3_moveRowsFrom_32 : decode cX3_moveRowsFrom 32 = .ok (.iinc 3 1, 3) := by decide +kernel
theorem dX3_moveRowsFrom_35 : decode cX3_moveRowsFrom 35 = .ok (.goto (-33), 3) := by decide +kernel
theorem dX3_moveRowsFrom_38 : decode cX3_moveRowsFrom 38 = .ok (.aload_n 2, 1) := by decide +kernel
theorem dX3_moveRowsFrom_39 : decode cX3_moveRowsFrom 39 = .ok (.aload_n 0, 1) := by decide +kernel
theorem dX3_moveRowsFrom_40 : decode cX3_moveRowsFrom 40 = .ok (.getfield 26, 3) := by decide +kernel
theorem dX3_moveRowsFrom_43 : decode cX3_moveRowsFrom 43 = .ok (.putfield 26, 3) := by decide +kernel
theorem dX3_moveRowsFrom_46 : decode cX3_moveRowsFrom 46 = .ok (.aload_n 0, 1) := by decide +kernel
theorem dX3_moveRowsFrom_47 : decode cX3_moveRowsFrom 47 = .ok (.iload_n 1, 1) := by decide +kernel
theorem dX3_moveRowsFrom_48 : decode cX3_moveRowsFrom 48 = .ok (.putfield 22, 3) := by decide +kernel
theorem dX3_moveRowsFrom_51 : decode cX3_moveRowsFrom 51 = .ok (.aload_n 0, 1) := by decide +kernel
theorem dX3_moveRowsFrom_52 : decode cX3_moveRowsFrom 52 = .ok (.iconst 1, 1) := by decide +kernel
theorem dX3_moveRowsFrom_53 : decode cX3_moveRowsFrom 53 = .ok (.putfield 26, 3) := by decide +kernel
theorem dX3_moveRowsFrom_56 : decode cX3_moveRowsFrom 56 = .ok (.return_, 1) := by decide +kernel
theorem dX3_firstPlaceFrom_0 : decode cX3_firstPlaceFrom 0 = .ok (.iconst 0, 1) := by decide +kernel
theorem dX3_firstPlaceFrom_1 : decode cX3_firstPlaceFrom 1 = .ok (.istore_n 2, 1) := by decide +kernel
theorem dX3_firstPlaceFrom_2 : decode cX3_firstPlaceFrom 2 = .ok (.iload_n 2, 1) := by decide +kernel
theorem dX3_firstPlaceFrom_3 : decode cX3_firstPlaceFrom 3 = .ok (.aload_n 0, 1) := by decide +kernel
theorem dX3_firstPlaceFrom_4 : decode cX3_firstPlaceFrom 4 = .ok (.getfield 22, 3) := by decide +kernel
theorem dX3_firstPlaceFrom_7 : decode cX3_firstPlaceFrom 7 = .ok (.if_icmp .ge 21, 3) := by decide +kernel
theorem dX3_firstPlaceFrom_10 : decode cX3_firstPlaceFrom 10 = .ok (.aload_n 0, 1) := by decide +kernel
theorem dX3_firstPlaceFrom_11 : decode cX3_firstPlaceFrom 11 = .ok (.getfield 15, 3) := by decide +kernel
theorem dX3_firstPlaceFrom_14 : decode cX3_firstPlaceFrom 14 = .ok (.iload_n 2, 1) := by decide +kernel
theorem dX3_firstPlaceFrom_15 : decode cX3_firstPlaceFrom 15 = .ok (.iaload, 1) := by decide +kernel
theorem dX3_firstPlaceFrom_16 : decode cX3_firstPlaceFrom 16 = .ok (.iload_n 1, 1) := by decide +kernel
theorem dX3_firstPlaceFrom_17 : decode cX3_firstPlaceFrom 17 = .ok (.if_icmp .lt 5, 3) := by decide +kernel
theorem dX3_firstPlaceFrom_20 : decode cX3_firstPlaceFrom 20 = .ok (.iload_n 2, 1) := by decide +kernel
theorem dX3_firstPlaceFrom_21 : decode cX3_firstPlaceFrom 21 = .ok (.ireturn, 1) := by decide +kernel
theorem dX3_firstPlaceFrom_22 : decode cX3_firstPlaceFrom 22 = .ok (.iinc 2 1, 3) := by decide +kernel
theorem dX3_firstPlaceFrom_25 : decode cX3_firstPlaceFrom 25 = .ok (.goto (-23), 3) := by decide +kernel
theorem dX3_firstPlaceFrom_28 : decode cX3_firstPlaceFrom 28 = .ok (.aload_n 0, 1) := by decide +kernel
theorem dX3_firstPlaceFrom_29 : decode cX3_firstPlaceFrom 29 = .ok (.getfield 22, 3) := by decide +kernel
theorem dX3_firstPlaceFrom_32 : decode cX3_firstPlaceFrom 32 = .ok (.ireturn, 1) := by decide +kernel
theorem dX3_pass_0 : decode cX3_pass 0 = .ok (.aload_n 0, 1) := by decide +kernel
theorem dX3_pass_1 : decode cX3_pass 1 = .ok (.invokevirtual 56, 3) := by decide +kernel
theorem dX3_pass_4 : decode cX3_pass 4 = .ok (.ifCond .eq 33, 3) := by decide +kernel
theorem dX3_pass_7 : decode cX3_pass 7 = .ok (.aload_n 0, 1) := by decide +kernel
theorem dX3_pass_8 : decode cX3_pass 8 = .ok (.aload_n 0, 1) := by decide +kernel
theorem dX3_pass_9 : decode cX3_pass 9 = .ok (.getfield 46, 3) := by decide +kernel
theorem dX3_pass_12 : decode cX3_pass 12 = .ok (.aload_n 0, 1) := by decide +kernel
theorem dX3_pass_13 : decode cX3_pass 13 = .ok (.getfield 15, 3) := by decide +kernel
theorem dX3_pass_16 : decode cX3_pass 16 = .ok (.aload_n 0, 1) := by decide +kernel
theorem dX3_pass_17 : decode cX3_pass 17 = .ok (.getfield 43, 3) := by decide +kernel
theorem dX3_pass_20 : decode cX3_pass 20 = .ok (.iaload, 1) := by decide +kernel
theorem dX3_pass_21 : decode cX3_pass 21 = .ok (.invokestatic 64, 3) := by decide +kernel
theorem dX3_pass_24 : decode cX3_pass 24 = .ok (.putfield 46, 3) := by decide +kernel
theorem dX3_pass_27 : decode cX3_pass 27 = .ok (.aload_n 0, 1) := by decide +kernel
theorem dX3_pass_28 : decode cX3_pass 28 = .ok (.dup, 1) := by decide +kernel
theorem dX3_pass_29 : decode cX3_pass 29 = .ok (.getfield 43, 3) := by decide +kernel
theorem dX3_pass_32 : decode cX3_pass 32 = .ok (.iconst 1, 1) := by decide +kernel
theorem dX3_pass_33 : decode cX3_pass 33 = .ok (.iadd, 1) := by decide +kernel
theorem dX3_pass_34 : decode cX3_pass 34 = .ok (.putfield 43, 3) := by decide +kernel
theorem dX3_pass_37 : decode cX3_pass 37 = .ok (.return_, 1) := by decide +kernel
theorem dX4_init_0 : decode cX4_init 0 = .ok (.aload_n 0, 1) := by decide +kernel
theorem dX4_init_1 : decode cX4_init 1 = .ok (.invokespecial 1, 3) := by decide +kernel
theorem dX4_init_4 : decode cX4_init 4 = .ok (.aload_n 0, 1) := by decide +kernel
theorem dX4_init_5 : decode cX4_init 5 = .ok (.bipush 12, 2) := by decide +kernel
theorem dX4_init_7 : decode cX4_init 7 = .ok (.anewarray 9, 3) := by decide +kernel
theorem dX4_init_10 : decode cX4_init 10 = .ok (.putfield 11, 3) := by decide +kernel
theorem dX4_init_13 : decode cX4_init 13 = .ok (.aload_n 0, 1) := by decide +kernel
theorem dX4_init_14 : decode cX4_init 14 = .ok (.bipush 6, 2) := by decide +kernel
theorem dX4_init_16 : decode cX4_init 16 = .ok (.anewarray 15, 3) := by decide +kernel
theorem dX4_init_19 : decode cX4_init 19 = .ok (.putfield 17, 3) := by decide +kernel
theorem dX4_init_22 : decode cX4_init 22 = .ok (.aload_n 0, 1) := by decide +kernel
theorem dX4_init_23 : decode cX4_init 23 = .ok (.new 21, 3) := by decide +kernel
theorem dX4_init_26 : decode cX4_init 26 = .ok (.dup, 1) := by decide +kernel
theorem dX4_init_27 : decode cX4_init 27 = .ok (.invokespecial 23, 3) := by decide +kernel
theorem dX4_init_30 : decode cX4_init 30 = .ok (.putfield 24, 3) := by decide +kernel
theorem dX4_init_33 : decode cX4_init 33 = .ok (.aload_n 0, 1) := by decide +kernel
theorem dX4_init_34 : decode cX4_init 34 = .ok (.new 28, 3) := by decide +kernel
theorem dX4_init_37 : decode cX4_init 37 = .ok (.dup, 1) := by decide +kernel
theorem dX4_init_38 : decode cX4_init 38 = .ok (.invokespecial 30, 3) := by decide +kernel
theorem dX4_init_41 : decode cX4_init 41 = .ok (.putfield 31, 3) := by decide +kernel
theorem dX4_init_44 : decode cX4_init 44 = .ok (.aload_n 0, 1) := by decide +kernel
theorem dX4_init_45 : decode cX4_init 45 = .ok (.iconst 5, 1) := by decide +kernel
theorem dX4_init_46 : decode cX4_init 46 = .ok (.newarray .int, 2) := by decide +kernel
theorem dX4_init_48 : decode cX4_init 48 = .ok (.putfield 35, 3) := by decide +kernel
theorem dX4_init_51 : decode cX4_init 51 = .ok (.iconst 0, 1) := by decide +kernel
theorem dX4_init_52 : decode cX4_init 52 = .ok (.istore_n 1, 1) := by decide +kernel
theorem dX4_init_53 : decode cX4_init 53 = .ok (.iload_n 1, 1) := by decide +kernel
theorem dX4_init_54 : decode cX4_init 54 = .ok (.bipush 12, 2) := by decide +kernel
theorem dX4_init_56 : decode cX4_init 56 = .ok (.if_icmp .ge 22, 3) := by decide +kernel
theorem dX4_init_59 : decode cX4_init 59 = .ok (.aload_n 0, 1) := by decide +kernel
theorem dX4_init_60 : decode cX4_init 60 = .ok (.getfield 11, 3) := by decide +kernel
theorem dX4_init_63 : decode cX4_init 63 = .ok (.iload_n 1, 1) := by decide +kernel
theorem dX4_init_64 : decode cX4_init 64 = .ok (.new 9, 3) := by decide +kernel
theorem dX4_init_67 : decode cX4_init 67 = .ok (.dup, 1) := by decide +kernel
theorem dX4_init_68 : decode cX4_init 68 = .ok (.invokespecial 39, 3) := by decide +kernel
theorem dX4_init_71 : decode cX4_init 71 = .ok (.aastore, 1) := by decide +kernel
theorem dX4_init_72 : decode cX4_init 72 = .ok (.iinc 1 1, 3) := by decide +kernel
theorem dX4_init_75 : decode cX4_init 75 = .ok (.goto (-22), 3) := by decide +kernel
theorem dX4_init_78 : decode cX4_init 78 = .ok (.iconst 0, 1) := by decide +kernel
theorem dX4_init_79 : decode cX4_init 79 = .ok (.istore_n 1, 1) := by decide +kernel
theorem dX4_init_80 : decode cX4_init 80 = .ok (.iload_n 1, 1) := by decide +kernel
theorem dX4_init_81 : decode cX4_init 81 = .ok (.bipush 6, 2) := by decide +kernel
theorem dX4_init_83 : decode cX4_init 83 = .ok (.if_icmp .ge 22, 3) := by decide +kernel
theorem dX4_init_86 : decode cX4_init 86 = .ok (.aload_n 0, 1) := by decide +kernel
theorem dX4_init_87 : decode cX4_init 87 = .ok (.getfield 17, 3) := by decide +kernel
theorem dX4_init_90 : decode cX4_init 90 = .ok (.iload_n 1, 1) := by decide +kernel
theorem dX4_init_91 : decode cX4_init 91 = .ok (.new 15, 3) := by decide +kernel
theorem dX4_init_94 : decode cX4_init 94 = .ok (.dup, 1) := by decide +kernel
theorem dX4_init_95 : decode cX4_init 95 = .ok (.invokespecial 40, 3) := by decide +kernel
theorem dX4_init_98 : decode cX4_init 98 = .ok (.aastore, 1) := by decide +kernel
theorem dX4_init_99 : decode cX4_init 99 = .ok (.iinc 1 1, 3) := by decide +kernel
theorem dX4_init_102 : decode cX4_init 102 = .ok (.goto (-22), 3) := by decide +kernel
theorem dX4_init_105 : decode cX4_init 105 = .ok (.aload_n 0, 1) := by decide +kernel
theorem dX4_init_106 : decode cX4_init 106 = .ok (.invokevirtual 41, 3) := by decide +kernel
theorem dX4_init_109 : decode cX4_init 109 = .ok (.return_, 1) := by decide +kernel
theorem dX4_part_0 : decode cX4_part 0 = .ok (.iload_n 1, 1) := by decide +kernel
theorem dX4_part_1 : decode cX4_part 1 = .ok (.iconst 1, 1) := by decide +kernel
theorem dX4_part_2 : decode cX4_part 2 = .ok (.if_icmp .lt 9, 3) := by decide +kernel
theorem dX4_part_5 : decode cX4_part 5 = .ok (.iload_n 1, 1) := by decide +kernel
theorem dX4_part_6 : decode cX4_part 6 = .ok (.bipush 9, 2) := by decide +kernel
theorem dX4_part_8 : decode cX4_part 8 = .ok (.if_icmp .le 6, 3) := by decide +kernel
theorem dX4_part_11 : decode cX4_part 11 = .ok (.bipush (-12), 2) := by decide +kernel
theorem dX4_part_13 : decode cX4_part 13 = .ok (.ireturn, 1) := by decide +kernel
theorem dX4_part_14 : decode cX4_part 14 = .ok (.aload_n 0, 1) := by decide +kernel
theorem dX4_part_15 : decode cX4_part 15 = .ok (.getfield 44, 3) := by decide +kernel
theorem dX4_part_18 : decode cX4_part 18 = .ok (.bipush 12, 2) := by decide +kernel
theorem dX4_part_20 : decode cX4_part 20 = .ok (.if_icmp .lt 6, 3) := by decide +kernel
theorem dX4_part_23 : decode cX4_part 23 = .ok (.bipush (-14), 2) := by decide +kernel
theorem dX4_part_25 : decode cX4_part 25 = .ok (.ireturn, 1) := by decide +kernel
theorem dX4_part_26 : decode cX4_part 26 = .ok (.aload_n 0, 1) := by decide +kernel
theorem dX4_part_27 : decode cX4_part 27 = .ok (.iload_n 1, 1) := by decide +kernel
theorem dX4_part_28 : decode cX4_part 28 = .ok (.iconst (-1), 1) := by decide +kernel
theorem dX4_part_29 : decode cX4_part 29 = .ok (.invokevirtual 48, 3) := by decide +kernel
theorem dX4_part_32 : decode cX4_part 32 = .ok (.ireturn, 1) := by decide +kernel
theorem dX4_row_0 : decode cX4_row 0 = .ok (.aload_n 0, 1) := by decide +kernel
theorem dX4_row_1 : decode cX4_row 1 = .ok (.iload_n 1, 1) := by decide +kernel
theorem dX4_row_2 : decode cX4_row 2 = .ok (.invokevirtual 52, 3) := by decide +kernel
theorem dX4_row_5 : decode cX4_row 5 = .ok (.ifCond .ne 6, 3) := by decide +kernel
theorem dX4_row_8 : decode cX4_row 8 = .ok (.bipush (-11), 2) := by decide +kernel
theorem dX4_row_10 : decode cX4_row 10 = .ok (.ireturn, 1) := by decide +kernel
theorem dX4_row_11 : decode cX4_row 11 = .ok (.iload_n 2, 1) := by decide +kernel
theorem dX4_row_12 : decode cX4_row 12 = .ok (.invokestatic 56, 3) := by decide +kernel
theorem dX4_row_15 : decode cX4_row 15 = .ok (.ifCond .eq 10, 3) := by decide +kernel
theorem dX4_row_18 : decode cX4_row 18 = .ok (.iload_n 3, 1) := by decide +kernel
theorem dX4_row_19 : decode cX4_row 19 = .ok (.invokestatic 59, 3) := by decide +kernel
theorem dX4_row_22 : decode cX4_row 22 = .ok (.ifCond .ne 6, 3) := by decide +kernel
theorem dX4_row_25 : decode cX4_row 25 = .ok (.bipush (-12), 2) := by decide +kernel
theorem dX4_row_27 : decode cX4_row 27 = .ok (.ireturn, 1) := by decide +kernel
theorem dX4_row_28 : decode cX4_row 28 = .ok (.aload_n 0, 1) := by decide +kernel
theorem dX4_row_29 : decode cX4_row 29 = .ok (.getfield 11, 3) := by decide +kernel
theorem dX4_row_32 : decode cX4_row 32 = .ok (.iload_n 1, 1) := by decide +kernel
theorem dX4_row_33 : decode cX4_row 33 = .ok (.aaload, 1) := by decide +kernel
theorem dX4_row_34 : decode cX4_row 34 = .ok (.astore 5, 2) := by decide +kernel
theorem dX4_row_36 : decode cX4_row 36 = .ok (.aload 5, 2) := by decide +kernel
theorem dX4_row_38 : decode cX4_row 38 = .ok (.getfield 62, 3) := by decide +kernel
theorem dX4_row_41 : decode cX4_row 41 = .ok (.ifCond .eq 6, 3) := by decide +kernel
theorem dX4_row_44 : decode cX4_row 44 = .ok (.bipush (-13), 2) := by decide +kernel
theorem dX4_row_46 : decode cX4_row 46 = .ok (.ireturn, 1) := by decide +kernel
theorem dX4_row_47 : decode cX4_row 47 = .ok (.aload 5, 2) := by decide +kernel
theorem dX4_row_49 : decode cX4_row 49 = .ok (.getfield 66, 3) := by decide +kernel
theorem dX4_row_52 : decode cX4_row 52 = .ok (.bipush 40, 2) := by decide +kernel
theorem dX4_row_54 : decode cX4_row 54 = .ok (.if_icmp .lt 6, 3) := by decide +kernel
theorem dX4_row_57 : decode cX4_row 57 = .ok (.bipush (-14), 2) := by decide +kernel
theorem dX4_row_59 : decode cX4_row 59 = .ok (.ireturn, 1) := by decide +kernel
theorem dX4_row_60 : decode cX4_row 60 = .ok (.aload 5, 2) := by decide +kernel
theorem dX4_row_62 : decode cX4_row 62 = .ok (.iload_n 2, 1) := by decide +kernel
theorem dX4_row_63 : decode cX4_row 63 = .ok (.iload_n 3, 1) := by decide +kernel
theorem dX4_row_64 : decode cX4_row 64 = .ok (.iload 4, 2) := by decide +kernel
theorem dX4_row_66 : decode cX4_row 66 = .ok (.invokevirtual 69, 3) := by decide +kernel
theorem dX4_row_69 : decode cX4_row 69 = .ok (.aload 5, 2) := by decide +kernel
theorem dX4_row_71 : decode cX4_row 71 = .ok (.getfield 66, 3) := by decide +kernel
theorem dX4_row_74 : decode cX4_row 74 = .ok (.ireturn, 1) := by decide +kernel
theorem dX4_end_0 : decode cX4_end 0 = .ok (.aload_n 0, 1) := by decide +kernel
theorem dX4_end_1 : decode cX4_end 1 = .ok (.iload_n 1, 1) := by decide +kernel
theorem dX4_end_2 : decode cX4_end 2 = .ok (.invokevirtual 52, 3) := by decide +kernel
theorem dX4_end_5 : decode cX4_end 5 = .ok (.ifCond .ne 6, 3) := by decide +kernel
theorem dX4_end_8 : decode cX4_end 8 = .ok (.bipush (-11), 2) := by decide +kernel
theorem dX4_end_10 : decode cX4_end 10 = .ok (.ireturn, 1) := by decide +kernel
theorem dX4_end_11 : decode cX4_end 11 = .ok (.aload_n 0, 1) := by decide +kernel
theorem dX4_end_12 : decode cX4_end 12 = .ok (.getfield 11, 3) := by decide +kernel
theorem dX4_end_15 : decode cX4_end 15 = .ok (.iload_n 1, 1) := by decide +kernel
theorem dX4_end_16 : decode cX4_end 16 = .ok (.aaload, 1) := by decide +kernel
theorem dX4_end_17 : decode cX4_end 17 = .ok (.astore_n 2, 1) := by decide +kernel
theorem dX4_end_18 : decode cX4_end 18 = .ok (.aload_n 2, 1) := by decide +kernel
theorem dX4_end_19 : decode cX4_end 19 = .ok (.getfield 62, 3) := by decide +kernel
theorem dX4_end_22 : decode cX4_end 22 = .ok (.ifCond .eq 6, 3) := by decide +kernel
theorem dX4_end_25 : decode cX4_end 25 = .ok (.bipush (-13), 2) := by decide +kernel
theorem dX4_end_27 : decode cX4_end 27 = .ok (.ireturn, 1) := by decide +kernel
theorem dX4_end_28 : decode cX4_end 28 = .ok (.aload_n 2, 1) := by decide +kernel
theorem dX4_end_29 : decode cX4_end 29 = .ok (.iconst 1, 1) := by decide +kernel
theorem dX4_end_30 : decode cX4_end 30 = .ok (.putfield 62, 3) := by decide +kernel
theorem dX4_end_33 : decode cX4_end 33 = .ok (.aload_n 2, 1) := by decide +kernel
theorem dX4_end_34 : decode cX4_end 34 = .ok (.getfield 66, 3) := by decide +kernel
theorem dX4_end_37 : decode cX4_end 37 = .ok (.ireturn, 1) := by decide +kernel
theorem dX4_split_0 : decode cX4_split 0 = .ok (.aload_n 0, 1) := by decide +kernel
theorem dX4_split_1 : decode cX4_split 1 = .ok (.iload_n 1, 1) := by decide +kernel
theorem dX4_split_2 : decode cX4_split 2 = .ok (.invokevirtual 52, 3) := by decide +kernel
theorem dX4_split_5 : decode cX4_split 5 = .ok (.ifCond .eq 16, 3) := by decide +kernel
theorem dX4_split_8 : decode cX4_split 8 = .ok (.aload_n 0, 1) := by decide +kernel
theorem dX4_split_9 : decode cX4_split 9 = .ok (.getfield 11, 3) := by decide +kernel
theorem dX4_split_12 : decode cX4_split 12 = .ok (.iload_n 1, 1) := by decide +kernel
theorem dX4_split_13 : decode cX4_split 13 = .ok (.aaload, 1) := by decide +kernel
theorem dX4_split_14 : decode cX4_split 14 = .ok (.iload_n 2, 1) := by decide +kernel
theorem dX4_split_15 : decode cX4_split 15 = .ok (.invokevirtual 73, 3) := by decide +kernel
theorem dX4_split_18 : decode cX4_split 18 = .ok (.ifCond .ne 6, 3) := by decide +kernel
theorem dX4_split_21 : decode cX4_split 21 = .ok (.bipush (-11), 2) := by decide +kernel
theorem dX4_split_23 : decode cX4_split 23 = .ok (.ireturn, 1) := by decide +kernel
theorem dX4_split_24 : decode cX4_split 24 = .ok (.aload_n 0, 1) := by decide +kernel
theorem dX4_split_25 : decode cX4_split 25 = .ok (.getfield 11, 3) := by decide +kernel
theorem dX4_split_28 : decode cX4_split 28 = .ok (.iload_n 1, 1) := by decide +kernel
theorem dX4_split_29 : decode cX4_split 29 = .ok (.aaload, 1) := by decide +kernel
theorem dX4_split_30 : decode cX4_split 30 = .ok (.astore_n 3, 1) := by decide +kernel
theorem dX4_split_31 : decode cX4_split 31 = .ok (.iload_n 2, 1) := by decide +kernel
theorem dX4_split_32 : decode cX4_split 32 = .ok (.ifCond .eq 11, 3) := by decide +kernel
theorem dX4_split_35 : decode cX4_split 35 = .ok (.iload_n 2, 1) := by decide +kernel
theorem dX4_split_36 : decode cX4_split 36 = .ok (.aload_n 3, 1) := by decide +kernel
theorem dX4_split_37 : decode cX4_split 37 = .ok (.getfield 76, 3) := by decide +kernel
theorem dX4_split_40 : decode cX4_split 40 = .ok (.if_icmp .ge 6, 3) := by decide +kernel
theorem dX4_split_43 : decode cX4_split 43 = .ok (.bipush (-13), 2) := by decide +kernel
theorem dX4_split_45 : decode cX4_split 45 = .ok (.ireturn, 1) := by decide +kernel
theorem dX4_split_46 : decode cX4_split 46 = .ok (.aload_n 0, 1) := by decide +kernel
theorem dX4_split_47 : decode cX4_split 47 = .ok (.getfield 44, 3) := by decide +kernel
theorem dX4_split_50 : decode cX4_split 50 = .ok (.bipush 12, 2) := by decide +kernel
theorem dX4_split_52 : decode cX4_split 52 = .ok (.if_icmp .lt 6, 3) := by decide +kernel
theorem dX4_split_55 : decode cX4_split 55 = .ok (.bipush (-14), 2) := by decide +kernel
theorem dX4_split_57 : decode cX4_split 57 = .ok (.ireturn, 1) := by decide +kernel
theorem dX4_split_58 : decode cX4_split 58 = .ok (.aload_n 0, 1) := by decide +kernel
theorem dX4_split_59 : decode cX4_split 59 = .ok (.aload_n 3, 1) := by decide +kernel
theorem dX4_split_60 : decode cX4_split 60 = .ok (.getfield 79, 3) := by decide +kernel
theorem dX4_split_63 : decode cX4_split 63 = .ok (.iload_n 1, 1) := by decide +kernel
theorem dX4_split_64 : decode cX4_split 64 = .ok (.invokevirtual 48, 3) := by decide +kernel
theorem dX4_split_67 : decode cX4_split 67 = .ok (.istore 4, 2) := by decide +kernel
theorem dX4_split_69 : decode cX4_split 69 = .ok (.aload_n 3, 1) := by decide +kernel
theorem dX4_split_70 : decode cX4_split 70 = .ok (.iload_n 2, 1) := by decide +kernel
theorem dX4_split_71 : decode cX4_split 71 = .ok (.aload_n 0, 1) := by decide +kernel
theorem dX4_split_72 : decode cX4_split 72 = .ok (.getfield 11, 3) := by decide +kernel
theorem dX4_split_75 : decode cX4_split 75 = .ok (.iload 4, 2) := by decide +kernel
theorem dX4_split_77 : decode cX4_split 77 = .ok (.aaload, 1) := by decide +kernel
theorem dX4_split_78 : decode cX4_split 78 = .ok (.invokevirtual 82, 3) := by decide +kernel
theorem dX4_split_81 : decode cX4_split 81 = .ok (.iload 4, 2) := by decide +kernel
theorem dX4_split_83 : decode cX4_split 83 = .ok (.ireturn, 1) := by decide +kernel
theorem dX4_give_0 : decode cX4_give 0 = .ok (.aload_n 0, 1) := by decide +kernel
theorem dX4_give_1 : decode cX4_give 1 = .ok (.iload_n 1, 1) := by decide +kernel
theorem dX4_give_2 : decode cX4_give 2 = .ok (.invokevirtual 52, 3) := by decide +kernel
theorem dX4_give_5 : decode cX4_give 5 = .ok (.ifCond .eq 16, 3) := by decide +kernel
theorem dX4_give_8 : decode cX4_give 8 = .ok (.iload_n 2, 1) := by decide +kernel
theorem dX4_give_9 : decode cX4_give 9 = .ok (.iconst (-1), 1) := by decide +kernel
theorem dX4_give_10 : decode cX4_give 10 = .ok (.if_icmp .eq 14, 3) := by decide +kernel
theorem dX4_give_13 : decode cX4_give 13 = .ok (.aload_n 0, 1) := by decide +kernel
theorem dX4_give_14 : decode cX4_give 14 = .ok (.iload_n 2, 1) := by decide +kernel
theorem dX4_give_15 : decode cX4_give 15 = .ok (.invokevirtual 86, 3) := by decide +kernel
theorem dX4_give_18 : decode cX4_give 18 = .ok (.ifCond .ne 6, 3) := by decide +kernel
theorem dX4_give_21 : decode cX4_give 21 = .ok (.bipush (-11), 2) := by decide +kernel
theorem dX4_give_23 : decode cX4_give 23 = .ok (.ireturn, 1) := by decide +kernel
theorem dX4_give_24 : decode cX4_give 24 = .ok (.aload_n 0, 1) := by decide +kernel
theorem dX4_give_25 : decode cX4_give 25 = .ok (.getfield 11, 3) := by decide +kernel
theorem dX4_give_28 : decode cX4_give 28 = .ok (.iload_n 1, 1) := by decide +kernel
theorem dX4_give_29 : decode cX4_give 29 = .ok (.aaload, 1) := by decide +kernel
theorem dX4_give_30 : decode cX4_give 30 = .ok (.astore_n 3, 1) := by decide +kernel
theorem dX4_give_31 : decode cX4_give 31 = .ok (.aload_n 3, 1) := by decide +kernel
theorem dX4_give_32 : decode cX4_give 32 = .ok (.invokevirtual 89, 3) := by decide +kernel
theorem dX4_give_35 : decode cX4_give 35 = .ok (.ifCond .eq 6, 3) := by decide +kernel
theorem dX4_give_38 : decode cX4_give 38 = .ok (.bipush (-13), 2) := by decide +kernel
theorem dX4_give_40 : decode cX4_give 40 = .ok (.ireturn, 1) := by decide +kernel
theorem dX4_give_41 : decode cX4_give 41 = .ok (.aload_n 3, 1) := by decide +kernel
theorem dX4_give_42 : decode cX4_give 42 = .ok (.getfield 93, 3) := by decide +kernel
theorem dX4_give_45 : decode cX4_give 45 = .ok (.istore 4, 2) := by decide +kernel
theorem dX4_give_47 : decode cX4_give 47 = .ok (.aload_n 3, 1) := by decide +kernel
theorem dX4_give_48 : decode cX4_give 48 = .ok (.iload_n 2, 1) := by decide +kernel
theorem dX4_give_49 : decode cX4_give 49 = .ok (.putfield 93, 3) := by decide +kernel
theorem dX4_give_52 : decode cX4_give 52 = .ok (.iload 4, 2) := by decide +kernel
theorem dX4_give_54 : decode cX4_give 54 = .ok (.ireturn, 1) := by decide +kernel
theorem dX4_read_0 : decode cX4_read 0 = .ok (.aload_n 0, 1) := by decide +kernel
theorem dX4_read_1 : decode cX4_read 1 = .ok (.iload_n 1, 1) := by decide +kernel
theorem dX4_read_2 : decode cX4_read 2 = .ok (.invokevirtual 86, 3) := by decide +kernel
theorem dX4_read_5 : decode cX4_read 5 = .ok (.ifCond .ne 6, 3) := by decide +kernel
theorem dX4_read_8 : decode cX4_read 8 = .ok (.bipush (-11), 2) := by decide +kernel
theorem dX4_read_10 : decode cX4_read 10 = .ok (.ireturn, 1) := by decide +kernel
theorem dX4_read_11 : decode cX4_read 11 = .ok (.aload_n 0, 1) := by decide +kernel
theorem dX4_read_12 : decode cX4_read 12 = .ok (.iload_n 1, 1) := by decide +kernel
theorem dX4_read_13 : decode cX4_read 13 = .ok (.invokevirtual 96, 3) := by decide +kernel
theorem dX4_read_16 : decode cX4_read 16 = .ok (.istore_n 2, 1) := by decide +kernel
theorem dX4_read_17 : decode cX4_read 17 = .ok (.aload_n 0, 1) := by decide +kernel
theorem dX4_read_18 : decode cX4_read 18 = .ok (.iload_n 2, 1) := by decide +kernel
theorem dX4_read_19 : decode cX4_read 19 = .ok (.invokevirtual 52, 3) := by decide +kernel
theorem dX4_read_22 : decode cX4_read 22 = .ok (.ifCond .ne 5, 3) := by decide +kernel
theorem dX4_read_25 : decode cX4_read 25 = .ok (.iconst (-1), 1) := by decide +kernel
theorem dX4_read_26 : decode cX4_read 26 = .ok (.ireturn, 1) := by decide +kernel
theorem dX4_read_27 : decode cX4_read 27 = .ok (.aload_n 0, 1) := by decide +kernel
theorem dX4_read_28 : decode cX4_read 28 = .ok (.iload_n 2, 1) := by decide +kernel
theorem dX4_read_29 : decode cX4_read 29 = .ok (.invokevirtual 100, 3) := by decide +kernel
theorem dX4_read_32 : decode cX4_read 32 = .ok (.ireturn, 1) := by decide +kernel
theorem dX4_latest_0 : decode cX4_latest 0 = .ok (.iload_n 1, 1) := by decide +kernel
theorem dX4_latest_1 : decode cX4_latest 1 = .ok (.ifCond .lt 8, 3) := by decide +kernel
theorem dX4_latest_4 : decode cX4_latest 4 = .ok (.iload_n 1, 1) := by decide +kernel
theorem dX4_latest_5 : decode cX4_latest 5 = .ok (.iconst 5, 1) := by decide +kernel
theorem dX4_latest_6 : decode cX4_latest 6 = .ok (.if_icmp .lt 6, 3) := by decide +kernel
theorem dX4_latest_9 : decode cX4_latest 9 = .ok (.bipush (-12), 2) := by decide +kernel
theorem dX4_latest_11 : decode cX4_latest 11 = .ok (.ireturn, 1) := by decide +kernel
theorem dX4_latest_12 : decode cX4_latest 12 = .ok (.aload_n 0, 1) := by decide +kernel
theorem dX4_latest_13 : decode cX4_latest 13 = .ok (.getfield 35, 3) := by decide +kernel
theorem dX4_latest_16 : decode cX4_latest 16 = .ok (.iload_n 1, 1) := by decide +kernel
theorem dX4_latest_17 : decode cX4_latest 17 = .ok (.iaload, 1) := by decide +kernel
theorem dX4_latest_18 : decode cX4_latest 18 = .ok (.ireturn, 1) := by decide +kernel
theorem dX4_lose_0 : decode cX4_lose 0 = .ok (.iload_n 1, 1) := by decide +kernel
theorem dX4_lose_1 : decode cX4_lose 1 = .ok (.iconst 1, 1) := by decide +kernel
theorem dX4_lose_2 : decode cX4_lose 2 = .ok (.if_icmp .lt 9, 3) := by decide +kernel
theorem dX4_lose_5 : decode cX4_lose 5 = .ok (.iload_n 1, 1) := by decide +kernel
theorem dX4_lose_6 : decode cX4_lose 6 = .ok (.bipush 50, 2) := by decide +kernel
theorem dX4_lose_8 : decode cX4_lose 8 = .ok (.if_icmp .le 6, 3) := by decide +kernel
theorem dX4_lose_11 : decode cX4_lose 11 = .ok (.bipush (-12), 2) := by decide +kernel
theorem dX4_lose_13 : decode cX4_lose 13 = .ok (.ireturn, 1) := by decide +kernel
theorem dX4_lose_14 : decode cX4_lose 14 = .ok (.aload_n 0, 1) := by decide +kernel
theorem dX4_lose_15 : decode cX4_lose 15 = .ok (.getfield 31, 3) := by decide +kernel
theorem dX4_lose_18 : decode cX4_lose 18 = .ok (.iload_n 1, 1) := by decide +kernel
theorem dX4_lose_19 : decode cX4_lose 19 = .ok (.iload_n 2, 1) := by decide +kernel
theorem dX4_lose_20 : decode cX4_lose 20 = .ok (.invokevirtual 103, 3) := by decide +kernel
theorem dX4_lose_23 : decode cX4_lose 23 = .ok (.ifCond .eq 7, 3) := by decide +kernel
theorem dX4_lose_26 : decode cX4_lose 26 = .ok (.iconst 1, 1) := by decide +kernel
theorem dX4_lose_27 : decode cX4_lose 27 = .ok (.goto 4, 3) := by decide +kernel
theorem dX4_lose_30 : decode cX4_lose 30 = .ok (.iconst 0, 1) := by decide +kernel
theorem dX4_lose_31 : decode cX4_lose 31 = .ok (.ireturn, 1) := by decide +kernel
theorem dX4_mark_0 : decode cX4_mark 0 = .ok (.aload_n 0, 1) := by decide +kernel
theorem dX4_mark_1 : decode cX4_mark 1 = .ok (.getfield 107, 3) := by decide +kernel
theorem dX4_mark_4 : decode cX4_mark 4 = .ok (.bipush 6, 2) := by decide +kernel
theorem dX4_mark_6 : decode cX4_mark 6 = .ok (.if_icmp .lt 6, 3) := by decide +kernel
theorem dX4_mark_9 : decode cX4_mark 9 = .ok (.bipush (-14), 2) := by decide +kernel
theorem dX4_mark_11 : decode cX4_mark 11 = .ok (.ireturn, 1) := by decide +kernel
theorem dX4_mark_12 : decode cX4_mark 12 = .ok (.aload_n 0, 1) := by decide +kernel
theorem dX4_mark_13 : decode cX4_mark 13 = .ok (.getfield 17, 3) := by decide +kernel
theorem dX4_mark_16 : decode cX4_mark 16 = .ok (.aload_n 0, 1) := by decide +kernel
theorem dX4_mark_17 : decode cX4_mark 17 = .ok (.getfield 107, 3) := by decide +kernel
theorem dX4_mark_20 : decode cX4_mark 20 = .ok (.aaload, 1) := by decide +kernel
theorem dX4_mark_21 : decode cX4_mark 21 = .ok (.aload_n 0, 1) := by decide +kernel
theorem dX4_mark_22 : decode cX4_mark 22 = .ok (.getfield 11, 3) := by decide +kernel
theorem dX4_mark_25 : decode cX4_mark 25 = .ok (.aload_n 0, 1) := by decide +kernel
theorem dX4_mark_26 : decode cX4_mark 26 = .ok (.getfield 44, 3) := by decide +kernel
theorem dX4_mark_29 : decode cX4_mark 29 = .ok (.aload_n 0, 1) := by decide +kernel
theorem dX4_mark_30 : decode cX4_mark 30 = .ok (.getfield 24, 3) := by decide +kernel
theorem dX4_mark_33 : decode cX4_mark 33 = .ok (.invokevirtual 110, 3) := by decide +kernel
theorem dX4_mark_36 : decode cX4_mark 36 = .ok (.aload_n 0, 1) := by decide +kernel
theorem dX4_mark_37 : decode cX4_mark 37 = .ok (.dup, 1) := by decide +kernel
theorem dX4_mark_38 : decode cX4_mark 38 = .ok (.getfield 107, 3) := by decide +kernel
theorem dX4_mark_41 : decode cX4_mark 41 = .ok (.iconst 1, 1) := by decide +kernel
theorem dX4_mark_42 : decode cX4_mark 42 = .ok (.iadd, 1) := by decide +kernel
theorem dX4_mark_43 : decode cX4_mark 43 = .ok (.putfield 107, 3) := by decide +kernel
theorem dX4_mark_46 : decode cX4_mark 46 = .ok (.aload_n 0, 1) := by decide +kernel
theorem dX4_mark_47 : decode cX4_mark 47 = .ok (.getfield 107, 3) := by decide +kernel
theorem dX4_mark_50 : decode cX4_mark 50 = .ok (.iconst 1, 1) := by decide +kernel
theorem dX4_mark_51 : decode cX4_mark 51 = .ok (.isub, 1) := by decide +kernel
theorem dX4_mark_52 : decode cX4_mark 52 = .ok (.ireturn, 1) := by decide +kernel
theorem dX4_restore_0 : decode cX4_restore 0 = .ok (.iload_n 1, 1) := by decide +kernel
theorem dX4_restore_1 : decode cX4_restore 1 = .ok (.ifCond .lt 11, 3) := by decide +kernel
theorem dX4_restore_4 : decode cX4_restore 4 = .ok (.iload_n 1, 1) := by decide +kernel
theorem dX4_restore_5 : decode cX4_restore 5 = .ok (.aload_n 0, 1) := by decide +kernel
theorem dX4_restore_6 : decode cX4_restore 6 = .ok (.getfield 107, 3) := by decide +kernel
theorem dX4_restore_9 : decode cX4_restore 9 = .ok (.if_icmp .lt 6, 3) := by decide +kernel
theorem dX4_restore_12 : decode cX4_restore 12 = .ok (.bipush (-11), 2) := by decide +kernel
theorem dX4_restore_14 : decode cX4_restore 14 = .ok (.ireturn, 1) := by decide +kernel
theorem dX4_restore_15 : decode cX4_restore 15 = .ok (.aload_n 0, 1) := by decide +kernel
theorem dX4_restore_16 : decode cX4_restore 16 = .ok (.getfield 17, 3) := by decide +kernel
theorem dX4_restore_19 : decode cX4_restore 19 = .ok (.iload_n 1, 1) := by decide +kernel
theorem dX4_restore_20 : decode cX4_restore 20 = .ok (.aaload, 1) := by decide +kernel
theorem dX4_restore_21 : decode cX4_restore 21 = .ok (.astore_n 2, 1) := by decide +kernel
theorem dX4_restore_22 : decode cX4_restore 22 = .ok (.iconst 0, 1) := by decide +kernel
theorem dX4_restore_23 : decode cX4_restore 23 = .ok (.istore_n 3, 1) := by decide +kernel
theorem dX4_restore_24 : decode cX4_restore 24 = .ok (.iconst 0, 1) := by decide +kernel
theorem dX4_restore_25 : decode cX4_restore 25 = .ok (.istore 4, 2) := by decide +kernel
theorem dX4_restore_27 : decode cX4_restore 27 = .ok (.iload 4, 2) := by decide +kernel
theorem dX4_restore_29 : decode cX4_restore 29 = .ok (.aload_n 0, 1) := by decide +kernel
theorem dX4_restore_30 : decode cX4_restore 30 = .ok (.getfield 44, 3) := by decide +kernel
theorem dX4_restore_33 : decode cX4_restore 33 = .ok (.if_icmp .ge 56, 3) := by decide +kernel
theorem dX4_restore_36 : decode cX4_restore 36 = .ok (.aload_n 0, 1) := by decide +kernel
theorem dX4_restore_37 : decode cX4_restore 37 = .ok (.getfield 11, 3) := by decide +kernel
theorem dX4_restore_40 : decode cX4_restore 40 = .ok (.iload 4, 2) := by decide +kernel
theorem dX4_restore_42 : decode cX4_restore 42 = .ok (.aaload, 1) := by decide +kernel
theorem dX4_restore_43 : decode cX4_restore 43 = .ok (.getfield 76, 3) := by decide +kernel
theorem dX4_restore_46 : decode cX4_restore 46 = .ok (.istore 5, 2) := by decide +kernel
theorem dX4_restore_48 : decode cX4_restore 48 = .ok (.aload_n 2, 1) := by decide +kernel
theorem dX4_restore_49 : decode cX4_restore 49 = .ok (.iload 4, 2) := by decide +kernel
theorem dX4_restore_51 : decode cX4_restore 51 = .ok (.aload_n 0, 1) := by decide +kernel
theorem dX4_restore_52 : decode cX4_restore 52 = .ok (.getfield 11, 3) := by decide +kernel
theorem dX4_restore_55 : decode cX4_restore 55 = .ok (.iload 4, 2) := by decide +kernel
theorem dX4_restore_57 : decode cX4_restore 57 = .ok (.aaload, 1) := by decide +kernel
theorem dX4_restore_58 : decode cX4_restore 58 = .ok (.aload_n 0, 1) := by decide +kernel
theorem dX4_restore_59 : decode cX4_restore 59 = .ok (.getfield 114, 3) := by decide +kernel
theorem dX4_restore_62 : decode cX4_restore 62 = .ok (.invokevirtual 117, 3) := by decide +kernel
theorem dX4_restore_65 : decode cX4_restore 65 = .ok (.aload_n 0, 1) := by decide +kernel
theorem dX4_restore_66 : decode cX4_restore 66 = .ok (.getfield 11, 3) := by decide +kernel
theorem dX4_restore_69 : decode cX4_restore 69 = .ok (.iload 4, 2) := by decide +kernel
theorem dX4_restore_71 : decode cX4_restore 71 = .ok (.aaload, 1) := by decide +kernel
theorem dX4_restore_72 : decode cX4_restore 72 = .ok (.getfield 76, 3) := by decide +kernel
theorem dX4_restore_75 : decode cX4_restore 75 = .ok (.iload 5, 2) := by decide +kernel
theorem dX4_restore_77 : decode cX4_restore 77 = .ok (.if_icmp .eq 6, 3) := by decide +kernel
theorem dX4_restore_80 : decode cX4_restore 80 = .ok (.iinc 3 1, 3) := by decide +kernel
theorem dX4_restore_83 : decode cX4_restore 83 = .ok (.iinc 4 1, 3) := by decide +kernel
theorem dX4_restore_86 : decode cX4_restore 86 = .ok (.goto (-59), 3) := by decide +kernel
theorem dX4_restore_89 : decode cX4_restore 89 = .ok (.aload_n 0, 1) := by decide +kernel
theorem dX4_restore_90 : decode cX4_restore 90 = .ok (.getfield 24, 3) := by decide +kernel
theorem dX4_restore_93 : decode cX4_restore 93 = .ok (.aload_n 2, 1) := by decide +kernel
theorem dX4_restore_94 : decode cX4_restore 94 = .ok (.getfield 121, 3) := by decide +kernel
theorem dX4_restore_97 : decode cX4_restore 97 = .ok (.invokevirtual 122, 3) := by decide +kernel
theorem dX4_restore_100 : decode cX4_restore 100 = .ok (.iload_n 3, 1) := by decide +kernel
theorem dX4_restore_101 : decode cX4_restore 101 = .ok (.ireturn, 1) := by decide +kernel
theorem dX4_start_0 : decode cX4_start 0 = .ok (.iload_n 1, 1) := by decide +kernel
theorem dX4_start_1 : decode cX4_start 1 = .ok (.invokestatic 59, 3) := by decide +kernel
theorem dX4_start_4 : decode cX4_start 4 = .ok (.ifCond .ne 6, 3) := by decide +kernel
theorem dX4_start_7 : decode cX4_start 7 = .ok (.bipush (-12), 2) := by decide +kernel
theorem dX4_start_9 : decode cX4_start 9 = .ok (.ireturn, 1) := by decide +kernel
theorem dX4_start_10 : decode cX4_start 10 = .ok (.aload_n 0, 1) := by decide +kernel
theorem dX4_start_11 : decode cX4_start 11 = .ok (.getfield 24, 3) := by decide +kernel
theorem dX4_start_14 : decode cX4_start 14 = .ok (.invokevirtual 126, 3) := by decide +kernel
theorem dX4_start_17 : decode cX4_start 17 = .ok (.iconst 0, 1) := by decide +kernel
theorem dX4_start_18 : decode cX4_start 18 = .ok (.istore_n 2, 1) := by decide +kernel
theorem dX4_start_19 : decode cX4_start 19 = .ok (.iconst 0, 1) := by decide +kernel
theorem dX4_start_20 : decode cX4_start 20 = .ok (.istore_n 3, 1) := by decide +kernel
theorem dX4_start_21 : decode cX4_start 21 = .ok (.iload_n 3, 1) := by decide +kernel
theorem dX4_start_22 : decode cX4_start 22 = .ok (.aload_n 0, 1) := by decide +kernel
theorem dX4_start_23 : decode cX4_start 23 = .ok (.getfield 44, 3) := by decide +kernel
theorem dX4_start_26 : decode cX4_start 26 = .ok (.if_icmp .ge 45, 3) := by decide +kernel
theorem dX4_start_29 : decode cX4_start 29 = .ok (.aload_n 0, 1) := by decide +kernel
theorem dX4_start_30 : decode cX4_start 30 = .ok (.getfield 11, 3) := by decide +kernel
theorem dX4_start_33 : decode cX4_start 33 = .ok (.iload_n 3, 1) := by decide +kernel
theorem dX4_start_34 : decode cX4_start 34 = .ok (.aaload, 1) := by decide +kernel
theorem dX4_start_35 : decode cX4_start 35 = .ok (.aload_n 0, 1) := by decide +kernel
theorem dX4_start_36 : decode cX4_start 36 = .ok (.getfield 11, 3) := by decide +kernel
theorem dX4_start_39 : decode cX4_start 39 = .ok (.iload_n 3, 1) := by decide +kernel
theorem dX4_start_40 : decode cX4_start 40 = .ok (.aaload, 1) := by decide +kernel
theorem dX4_start_41 : decode cX4_start 41 = .ok (.iload_n 1, 1) := by decide +kernel
theorem dX4_start_42 : decode cX4_start 42 = .ok (.invokevirtual 129, 3) := by decide +kernel
theorem dX4_start_45 : decode cX4_start 45 = .ok (.iconst (-1), 1) := by decide +kernel
theorem dX4_start_46 : decode cX4_start 46 = .ok (.iconst 0, 1) := by decide +kernel
theorem dX4_start_47 : decode cX4_start 47 = .ok (.invokevirtual 132, 3) := by decide +kernel
theorem dX4_start_50 : decode cX4_start 50 = .ok (.aload_n 0, 1) := by decide +kernel
theorem dX4_start_51 : decode cX4_start 51 = .ok (.getfield 11, 3) := by decide +kernel
theorem dX4_start_54 : decode cX4_start 54 = .ok (.iload_n 3, 1) := by decide +kernel
theorem dX4_start_55 : decode cX4_start 55 = .ok (.aaload, 1) := by decide +kernel
theorem dX4_start_56 : decode cX4_start 56 = .ok (.invokevirtual 136, 3) := by decide +kernel
theorem dX4_start_59 : decode cX4_start 59 = .ok (.ifCond .eq 6, 3) := by decide +kernel
theorem dX4_start_62 : decode cX4_start 62 = .ok (.iinc 2 1, 3) := by decide +kernel
theorem dX4_start_65 : decode cX4_start 65 = .ok (.iinc 3 1, 3) := by decide +kernel
theorem dX4_start_68 : decode cX4_start 68 = .ok (.goto (-47), 3) := by decide +kernel
theorem dX4_start_71 : decode cX4_start 71 = .ok (.iload_n 2, 1) := by decide +kernel
theorem dX4_start_72 : decode cX4_start 72 = .ok (.ireturn, 1) := by decide +kernel
theorem dX4_scale_0 : decode cX4_scale 0 = .ok (.iload_n 1, 1) := by decide +kernel
theorem dX4_scale_1 : decode cX4_scale 1 = .ok (.iconst 1, 1) := by decide +kernel
theorem dX4_scale_2 : decode cX4_scale 2 = .ok (.if_icmp .lt 9, 3) := by decide +kernel
theorem dX4_scale_5 : decode cX4_scale 5 = .ok (.iload_n 1, 1) := by decide +kernel
theorem dX4_scale_6 : decode cX4_scale 6 = .ok (.bipush 6, 2) := by decide +kernel
theorem dX4_scale_8 : decode cX4_scale 8 = .ok (.if_icmp .le 6, 3) := by decide +kernel
theorem dX4_scale_11 : decode cX4_scale 11 = .ok (.bipush (-12), 2) := by decide +kernel
theorem dX4_scale_13 : decode cX4_scale 13 = .ok (.ireturn, 1) := by decide +kernel
theorem dX4_scale_14 : decode cX4_scale 14 = .ok (.aload_n 0, 1) := by decide +kernel
theorem dX4_scale_15 : decode cX4_scale 15 = .ok (.iload_n 1, 1) := by decide +kernel
theorem dX4_scale_16 : decode cX4_scale 16 = .ok (.putfield 114, 3) := by decide +kernel
theorem dX4_scale_19 : decode cX4_scale 19 = .ok (.iconst 0, 1) := by decide +kernel
theorem dX4_scale_20 : decode cX4_scale 20 = .ok (.istore_n 2, 1) := by decide +kernel
theorem dX4_scale_21 : decode cX4_scale 21 = .ok (.iconst 0, 1) := by decide +kernel
theorem dX4_scale_22 : decode cX4_scale 22 = .ok (.istore_n 3, 1) := by decide +kernel
theorem dX4_scale_23 : decode cX4_scale 23 = .ok (.iconst 0, 1) := by decide +kernel
theorem dX4_scale_24 : decode cX4_scale 24 = .ok (.istore 4, 2) := by decide +kernel
theorem dX4_scale_26 : decode cX4_scale 26 = .ok (.iload 4, 2) := by decide +kernel
theorem dX4_scale_28 : decode cX4_scale 28 = .ok (.aload_n 0, 1) := by decide +kernel
theorem dX4_scale_29 : decode cX4_scale 29 = .ok (.getfield 44, 3) := by decide +kernel
theorem dX4_scale_32 : decode cX4_scale 32 = .ok (.if_icmp .ge 65, 3) := by decide +kernel
theorem dX4_scale_35 : decode cX4_scale 35 = .ok (.aload_n 0, 1) := by decide +kernel
theorem dX4_scale_36 : decode cX4_scale 36 = .ok (.getfield 11, 3) := by decide +kernel
theorem dX4_scale_39 : decode cX4_scale 39 = .ok (.iload 4, 2) := by decide +kernel
theorem dX4_scale_41 : decode cX4_scale 41 = .ok (.aaload, 1) := by decide +kernel
theorem dX4_scale_42 : decode cX4_scale 42 = .ok (.invokevirtual 89, 3) := by decide +kernel
theorem dX4_scale_45 : decode cX4_scale 45 = .ok (.ifCond .eq 17, 3) := by decide +kernel
theorem dX4_scale_48 : decode cX4_scale 48 = .ok (.aload_n 0, 1) := by decide +kernel
theorem dX4_scale_49 : decode cX4_scale 49 = .ok (.getfield 11, 3) := by decide +kernel
theorem dX4_scale_52 : decode cX4_scale 52 = .ok (.iload 4, 2) := by decide +kernel
theorem dX4_scale_54 : decode cX4_scale 54 = .ok (.aaload, 1) := by decide +kernel
theorem dX4_scale_55 : decode cX4_scale 55 = .ok (.iconst (-1), 1) := by decide +kernel
theorem dX4_scale_56 : decode cX4_scale 56 = .ok (.putfield 93, 3) := by decide +kernel
theorem dX4_scale_59 : decode cX4_scale 59 = .ok (.goto 32, 3) := by decide +kernel
theorem dX4_scale_62 : decode cX4_scale 62 = .ok (.aload_n 0, 1) := by decide +kernel
theorem dX4_scale_63 : decode cX4_scale 63 = .ok (.getfield 11, 3) := by decide +kernel
theorem dX4_scale_66 : decode cX4_scale 66 = .ok (.iload 4, 2) := by decide +kernel
theorem dX4_scale_68 : decode cX4_scale 68 = .ok (.aaload, 1) := by decide +kernel
theorem dX4_scale_69 : decode cX4_scale 69 = .ok (.iload_n 3, 1) := by decide +kernel
theorem dX4_scale_70 : decode cX4_scale 70 = .ok (.putfield 93, 3) := by decide +kernel
theorem dX4_scale_73 : decode cX4_scale 73 = .ok (.iload_n 3, 1) := by decide +kernel
theorem dX4_scale_74 : decode cX4_scale 74 = .ok (.iconst 1, 1) := by decide +kernel
theorem dX4_scale_75 : decode cX4_scale 75 = .ok (.iadd, 1) := by decide +kernel
theorem dX4_scale_76 : decode cX4_scale 76 = .ok (.iload_n 1, 1) := by decide +kernel
theorem dX4_scale_77 : decode cX4_scale 77 = .ok (.if_icmp .ge 9, 3) := by decide +kernel
theorem dX4_scale_80 : decode cX4_scale 80 = .ok (.iload_n 3, 1) := by decide +kernel
theorem dX4_scale_81 : decode cX4_scale 81 = .ok (.iconst 1, 1) := by decide +kernel
theorem dX4_scale_82 : decode cX4_scale 82 = .ok (.iadd, 1) := by decide +kernel
theorem dX4_scale_83 : decode cX4_scale 83 = .ok (.goto 4, 3) := by decide +kernel
theorem dX4_scale_86 : decode cX4_scale 86 = .ok (.iconst 0, 1) := by decide +kernel
theorem dX4_scale_87 : decode cX4_scale 87 = .ok (.istore_n 3, 1) := by decide +kernel
theorem dX4_scale_88 : decode cX4_scale 88 = .ok (.iinc 2 1, 3) := by decide +kernel
theorem dX4_scale_91 : decode cX4_scale 91 = .ok (.iinc 4 1, 3) := by decide +kernel
theorem dX4_scale_94 : decode cX4_scale 94 = .ok (.goto (-68), 3) := by decide +kernel
theorem dX4_scale_97 : decode cX4_scale 97 = .ok (.iload_n 2, 1) := by decide +kernel
theorem dX4_scale_98 : decode cX4_scale 98 = .ok (.ireturn, 1) := by decide +kernel
theorem dX4_told_0 : decode cX4_told 0 = .ok (.aload_n 0, 1) := by decide +kernel
theorem dX4_told_1 : decode cX4_told 1 = .ok (.iload_n 1, 1) := by decide +kernel
theorem dX4_told_2 : decode cX4_told 2 = .ok (.invokevirtual 52, 3) := by decide +kernel
theorem dX4_told_5 : decode cX4_told 5 = .ok (.ifCond .ne 6, 3) := by decide +kernel
theorem dX4_told_8 : decode cX4_told 8 = .ok (.bipush (-11), 2) := by decide +kernel
theorem dX4_told_10 : decode cX4_told 10 = .ok (.ireturn, 1) := by decide +kernel
theorem dX4_told_11 : decode cX4_told 11 = .ok (.aload_n 0, 1) := by decide +kernel
theorem dX4_told_12 : decode cX4_told 12 = .ok (.getfield 11, 3) := by decide +kernel
theorem dX4_told_15 : decode cX4_told 15 = .ok (.iload_n 1, 1) := by decide +kernel
theorem dX4_told_16 : decode cX4_told 16 = .ok (.aaload, 1) := by decide +kernel
theorem dX4_told_17 : decode cX4_told 17 = .ok (.astore_n 3, 1) := by decide +kernel
theorem dX4_told_18 : decode cX4_told 18 = .ok (.iload_n 2, 1) := by decide +kernel
theorem dX4_told_19 : decode cX4_told 19 = .ok (.tableswitch 127 0 9 #[53, 58, 63, 68, 73, 78, 83, 96, 109, 122], 53) := by decide +kernel
theorem dX4_told_72 : decode cX4_told 72 = .ok (.aload_n 3, 1) := by decide +kernel
theorem dX4_told_73 : decode cX4_told 73 = .ok (.getfield 76, 3) := by decide +kernel
theorem dX4_told_76 : decode cX4_told 76 = .ok (.ireturn, 1) := by decide +kernel
theorem dX4_told_77 : decode cX4_told 77 = .ok (.aload_n 3, 1) := by decide +kernel
theorem dX4_told_78 : decode cX4_told 78 = .ok (.getfield 139, 3) := by decide +kernel
theorem dX4_told_81 : decode cX4_told 81 = .ok (.ireturn, 1) := by decide +kernel
theorem dX4_told_82 : decode cX4_told 82 = .ok (.aload_n 3, 1) := by decide +kernel
theorem dX4_told_83 : decode cX4_told 83 = .ok (.getfield 142, 3) := by decide +kernel
theorem dX4_told_86 : decode cX4_told 86 = .ok (.ireturn, 1) := by decide +kernel
theorem dX4_told_87 : decode cX4_told 87 = .ok (.aload_n 3, 1) := by decide +kernel
theorem dX4_told_88 : decode cX4_told 88 = .ok (.getfield 79, 3) := by decide +kernel
theorem dX4_told_91 : decode cX4_told 91 = .ok (.ireturn, 1) := by decide +kernel
theorem dX4_told_92 : decode cX4_told 92 = .ok (.aload_n 3, 1) := by decide +kernel
theorem dX4_told_93 : decode cX4_told 93 = .ok (.getfield 93, 3) := by decide +kernel
theorem dX4_told_96 : decode cX4_told 96 = .ok (.ireturn, 1) := by decide +kernel
theorem dX4_told_97 : decode cX4_told 97 = .ok (.aload_n 3, 1) := by decide +kernel
theorem dX4_told_98 : decode cX4_told 98 = .ok (.getfield 66, 3) := by decide +kernel
theorem dX4_told_101 : decode cX4_told 101 = .ok (.ireturn, 1) := by decide +kernel
theorem dX4_told_102 : decode cX4_told 102 = .ok (.aload_n 3, 1) := by decide +kernel
theorem dX4_told_103 : decode cX4_told 103 = .ok (.getfield 62, 3) := by decide +kernel
theorem dX4_told_106 : decode cX4_told 106 = .ok (.ifCond .eq 7, 3) := by decide +kernel
theorem dX4_told_109 : decode cX4_told 109 = .ok (.iconst 1, 1) := by decide +kernel
theorem dX4_told_110 : decode cX4_told 110 = .ok (.goto 4, 3) := by decide +kernel
theorem dX4_told_113 : decode cX4_told 113 = .ok (.iconst 0, 1) := by decide +kernel
theorem dX4_told_114 : decode cX4_told 114 = .ok (.ireturn, 1) := by decide +kernel
theorem dX4_told_115 : decode cX4_told 115 = .ok (.aload_n 3, 1) := by decide +kernel
theorem dX4_told_116 : decode cX4_told 116 = .ok (.invokevirtual 136, 3) := by decide +kernel
theorem dX4_told_119 : decode cX4_told 119 = .ok (.ifCond .eq 7, 3) := by decide +kernel
theorem dX4_told_122 : decode cX4_told 122 = .ok (.iconst 1, 1) := by decide +kernel
theorem dX4_told_123 : decode cX4_told 123 = .ok (.goto 4, 3) := by decide +kernel
theorem dX4_told_126 : decode cX4_told 126 = .ok (.iconst 0, 1) := by decide +kernel
theorem dX4_told_127 : decode cX4_told 127 = .ok (.ireturn, 1) := by decide +kernel
theorem dX4_told_128 : decode cX4_told 128 = .ok (.aload_n 3, 1) := by decide +kernel
theorem dX4_told_129 : decode cX4_told 129 = .ok (.invokevirtual 89, 3) := by decide +kernel
theorem dX4_told_132 : decode cX4_told 132 = .ok (.ifCond .eq 7, 3) := by decide +kernel
theorem dX4_told_135 : decode cX4_told 135 = .ok (.iconst 1, 1) := by decide +kernel
theorem dX4_told_136 : decode cX4_told 136 = .ok (.goto 4, 3) := by decide +kernel
theorem dX4_told_139 : decode cX4_told 139 = .ok (.iconst 0, 1) := by decide +kernel
theorem dX4_told_140 : decode cX4_told 140 = .ok (.ireturn, 1) := by decide +kernel
theorem dX4_told_141 : decode cX4_told 141 = .ok (.aload_n 3, 1) := by decide +kernel
theorem dX4_told_142 : decode cX4_told 142 = .ok (.getfield 145, 3) := by decide +kernel
theorem dX4_told_145 : decode cX4_told 145 = .ok (.ireturn, 1) := by decide +kernel
theorem dX4_told_146 : decode cX4_told 146 = .ok (.ldc 148, 2) := by decide +kernel
theorem dX4_told_148 : decode cX4_told 148 = .ok (.ireturn, 1) := by decide +kernel
theorem dX4_given_0 : decode cX4_given 0 = .ok (.iload_n 1, 1) := by decide +kernel
theorem dX4_given_1 : decode cX4_given 1 = .ok (.invokestatic 56, 3) := by decide +kernel
theorem dX4_given_4 : decode cX4_given 4 = .ok (.ifCond .ne 6, 3) := by decide +kernel
theorem dX4_given_7 : decode cX4_given 7 = .ok (.bipush (-12), 2) := by decide +kernel
theorem dX4_given_9 : decode cX4_given 9 = .ok (.ireturn, 1) := by decide +kernel
theorem dX4_given_10 : decode cX4_given 10 = .ok (.aload_n 0, 1) := by decide +kernel
theorem dX4_given_11 : decode cX4_given 11 = .ok (.getfield 24, 3) := by decide +kernel
theorem dX4_given_14 : decode cX4_given 14 = .ok (.iload_n 1, 1) := by decide +kernel
theorem dX4_given_15 : decode cX4_given 15 = .ok (.invokevirtual 149, 3) := by decide +kernel
theorem dX4_given_18 : decode cX4_given 18 = .ok (.ifCond .eq 7, 3) := by decide +kernel
theorem dX4_given_21 : decode cX4_given 21 = .ok (.iconst 1, 1) := by decide +kernel
theorem dX4_given_22 : decode cX4_given 22 = .ok (.goto 4, 3) := by decide +kernel
theorem dX4_given_25 : decode cX4_given 25 = .ok (.iconst 0, 1) := by decide +kernel
theorem dX4_given_26 : decode cX4_given 26 = .ok (.ireturn, 1) := by decide +kernel
theorem dX4_number_0 : decode cX4_number 0 = .ok (.aload_n 0, 1) := by decide +kernel
theorem dX4_number_1 : decode cX4_number 1 = .ok (.iload_n 1, 1) := by decide +kernel
theorem dX4_number_2 : decode cX4_number 2 = .ok (.invokevirtual 52, 3) := by decide +kernel
theorem dX4_number_5 : decode cX4_number 5 = .ok (.ifCond .eq 13, 3) := by decide +kernel
theorem dX4_number_8 : decode cX4_number 8 = .ok (.iload_n 2, 1) := by decide +kernel
theorem dX4_number_9 : decode cX4_number 9 = .ok (.ifCond .lt 9, 3) := by decide +kernel
theorem dX4_number_12 : decode cX4_number 12 = .ok (.iload_n 2, 1) := by decide +kernel
theorem dX4_number_13 : decode cX4_number 13 = .ok (.bipush 40, 2) := by decide +kernel
theorem dX4_number_15 : decode cX4_number 15 = .ok (.if_icmp .lt 13, 3) := by decide +kernel
theorem dX4_number_18 : decode cX4_number 18 = .ok (.new 152, 3) := by decide +kernel
theorem dX4_number_21 : decode cX4_number 21 = .ok (.dup, 1) := by decide +kernel
theorem dX4_number_22 : decode cX4_number 22 = .ok (.ldc 154, 2) := by decide +kernel
theorem dX4_number_24 : decode cX4_number 24 = .ok (.invokespecial 156, 3) := by decide +kernel
theorem dX4_number_27 : decode cX4_number 27 = .ok (.athrow, 1) := by decide +kernel
theorem dX4_number_28 : decode cX4_number 28 = .ok (.aload_n 0, 1) := by decide +kernel
theorem dX4_number_29 : decode cX4_number 29 = .ok (.getfield 11, 3) := by decide +kernel
theorem dX4_number_32 : decode cX4_number 32 = .ok (.iload_n 1, 1) := by decide +kernel
theorem dX4_number_33 : decode cX4_number 33 = .ok (.aaload, 1) := by decide +kernel
theorem dX4_number_34 : decode cX4_number 34 = .ok (.iload_n 2, 1) := by decide +kernel
theorem dX4_number_35 : decode cX4_number 35 = .ok (.invokevirtual 73, 3) := by decide +kernel
theorem dX4_number_38 : decode cX4_number 38 = .ok (.ifCond .ne 13, 3) := by decide +kernel
theorem dX4_number_41 : decode cX4_number 41 = .ok (.new 159, 3) := by decide +kernel
theorem dX4_number_44 : decode cX4_number 44 = .ok (.dup, 1) := by decide +kernel
theorem dX4_number_45 : decode cX4_number 45 = .ok (.ldc 161, 2) := by decide +kernel
theorem dX4_number_47 : decode cX4_number 47 = .ok (.invokespecial 163, 3) := by decide +kernel
theorem dX4_number_50 : decode cX4_number 50 = .ok (.athrow, 1) := by decide +kernel
theorem dX4_number_51 : decode cX4_number 51 = .ok (.aload_n 0, 1) := by decide +kernel
theorem dX4_number_52 : decode cX4_number 52 = .ok (.getfield 11, 3) := by decide +kernel
theorem dX4_number_55 : decode cX4_number 55 = .ok (.iload_n 1, 1) := by decide +kernel
theorem dX4_number_56 : decode cX4_number 56 = .ok (.aaload, 1) := by decide +kernel
theorem dX4_number_57 : decode cX4_number 57 = .ok (.getfield 164, 3) := by decide +kernel
theorem dX4_number_60 : decode cX4_number 60 = .ok (.iload_n 2, 1) := by decide +kernel
theorem dX4_number_61 : decode cX4_number 61 = .ok (.iaload, 1) := by decide +kernel
theorem dX4_number_62 : decode cX4_number 62 = .ok (.ireturn, 1) := by decide +kernel
theorem dX4_aside_0 : decode cX4_aside 0 = .ok (.iload_n 1, 1) := by decide +kernel
theorem dX4_aside_1 : decode cX4_aside 1 = .ok (.ifCond .lt 14, 3) := by decide +kernel
theorem dX4_aside_4 : decode cX4_aside 4 = .ok (.iload_n 1, 1) := by decide +kernel
theorem dX4_aside_5 : decode cX4_aside 5 = .ok (.aload_n 0, 1) := by decide +kernel
theorem dX4_aside_6 : decode cX4_aside 6 = .ok (.getfield 24, 3) := by decide +kernel
theorem dX4_aside_9 : decode cX4_aside 9 = .ok (.getfield 167, 3) := by decide +kernel
theorem dX4_aside_12 : decode cX4_aside 12 = .ok (.if_icmp .lt 6, 3) := by decide +kernel
theorem dX4_aside_15 : decode cX4_aside 15 = .ok (.bipush (-11), 2) := by decide +kernel
theorem dX4_aside_17 : decode cX4_aside 17 = .ok (.ireturn, 1) := by decide +kernel
theorem dX4_aside_18 : decode cX4_aside 18 = .ok (.iload_n 2, 1) := by decide +kernel
theorem dX4_aside_19 : decode cX4_aside 19 = .ok (.lookupswitch 45 #[(0, 25), (1, 35)], 25) := by decide +kernel
theorem dX4_aside_44 : decode cX4_aside 44 = .ok (.aload_n 0, 1) := by decide +kernel
theorem dX4_aside_45 : decode cX4_aside 45 = .ok (.getfield 24, 3) := by decide +kernel
theorem dX4_aside_48 : decode cX4_aside 48 = .ok (.getfield 170, 3) := by decide +kernel
theorem dX4_aside_51 : decode cX4_aside 51 = .ok (.iload_n 1, 1) := by decide +kernel
theorem dX4_aside_52 : decode cX4_aside 52 = .ok (.iaload, 1) := by decide +kernel
theorem dX4_aside_53 : decode cX4_aside 53 = .ok (.ireturn, 1) := by decide +kernel
theorem dX4_aside_54 : decode cX4_aside 54 = .ok (.aload_n 0, 1) := by decide +kernel
theorem dX4_aside_55 : decode cX4_aside 55 = .ok (.getfield 24, 3) := by decide +kernel
theorem dX4_aside_58 : decode cX4_aside 58 = .ok (.getfield 173, 3) := by decide +kernel
theorem dX4_aside_61 : decode cX4_aside 61 = .ok (.iload_n 1, 1) := by decide +kernel
theorem dX4_aside_62 : decode cX4_aside 62 = .ok (.iaload, 1) := by decide +kernel
theorem dX4_aside_63 : decode cX4_aside 63 = .ok (.ireturn, 1) := by decide +kernel
theorem dX4_aside_64 : decode cX4_aside 64 = .ok (.bipush (-12), 2) := by decide +kernel
theorem dX4_aside_66 : decode cX4_aside 66 = .ok (.ireturn, 1) := by decide +kernel
theorem dX4_rate_0 : decode cX4_rate 0 = .ok (.aload_n 0, 1) := by decide +kernel
theorem dX4_rate_1 : decode cX4_rate 1 = .ok (.iload_n 1, 1) := by decide +kernel
theorem dX4_rate_2 : decode cX4_rate 2 = .ok (.invokevirtual 52, 3) := by decide +kernel
theorem dX4_rate_5 : decode cX4_rate 5 = .ok (.ifCond .ne 6, 3) := by decide +kernel
theorem dX4_rate_8 : decode cX4_rate 8 = .ok (.bipush (-11), 2) := by decide +kernel
theorem dX4_rate_10 : decode cX4_rate 10 = .ok (.ireturn, 1) := by decide +kernel
theorem dX4_rate_11 : decode cX4_rate 11 = .ok (.aload_n 0, 1) := by decide +kernel
theorem dX4_rate_12 : decode cX4_rate 12 = .ok (.getfield 11, 3) := by decide +kernel
theorem dX4_rate_15 : decode cX4_rate 15 = .ok (.iload_n 1, 1) := by decide +kernel
theorem dX4_rate_16 : decode cX4_rate 16 = .ok (.aaload, 1) := by decide +kernel
theorem dX4_rate_17 : decode cX4_rate 17 = .ok (.astore_n 2, 1) := by decide +kernel
theorem dX4_rate_18 : decode cX4_rate 18 = .ok (.aload_n 2, 1) := by decide +kernel
theorem dX4_rate_19 : decode cX4_rate 19 = .ok (.getfield 93, 3) := by decide +kernel
theorem dX4_rate_22 : decode cX4_rate 22 = .ok (.iconst (-1), 1) := by decide +kernel
theorem dX4_rate_23 : decode cX4_rate 23 = .ok (.if_icmp .ne 13, 3) := by decide +kernel
theorem dX4_rate_26 : decode cX4_rate 26 = .ok (.new 159, 3) := by decide +kernel
theorem dX4_rate_29 : decode cX4_rate 29 = .ok (.dup, 1) := by decide +kernel
theorem dX4_rate_30 : decode cX4_rate 30 = .ok (.ldc 176, 2) := by decide +kernel
theorem dX4_rate_32 : decode cX4_rate 32 = .ok (.invokespecial 163, 3) := by decide +kernel
theorem dX4_rate_35 : decode cX4_rate 35 = .ok (.athrow, 1) := by decide +kernel
theorem dX4_rate_36 : decode cX4_rate 36 = .ok (.aload_n 2, 1) := by decide +kernel
theorem dX4_rate_37 : decode cX4_rate 37 = .ok (.getfield 79, 3) := by decide +kernel
theorem dX4_rate_40 : decode cX4_rate 40 = .ok (.istore_n 3, 1) := by decide +kernel
theorem dX4_rate_41 : decode cX4_rate 41 = .ok (.iconst 0, 1) := by decide +kernel
theorem dX4_rate_42 : decode cX4_rate 42 = .ok (.istore 4, 2) := by decide +kernel
theorem dX4_rate_44 : decode cX4_rate 44 = .ok (.iload 4, 2) := by decide +kernel
theorem dX4_rate_46 : decode cX4_rate 46 = .ok (.aload_n 0, 1) := by decide +kernel
theorem dX4_rate_47 : decode cX4_rate 47 = .ok (.getfield 44, 3) := by decide +kernel
theorem dX4_rate_50 : decode cX4_rate 50 = .ok (.if_icmp .ge 45, 3) := by decide +kernel
theorem dX4_rate_53 : decode cX4_rate 53 = .ok (.iload 4, 2) := by decide +kernel
theorem dX4_rate_55 : decode cX4_rate 55 = .ok (.iload_n 1, 1) := by decide +kernel
theorem dX4_rate_56 : decode cX4_rate 56 = .ok (.if_icmp .eq 33, 3) := by decide +kernel
theorem dX4_rate_59 : decode cX4_rate 59 = .ok (.aload_n 0, 1) := by decide +kernel
theorem dX4_rate_60 : decode cX4_rate 60 = .ok (.getfield 11, 3) := by decide +kernel
theorem dX4_rate_63 : decode cX4_rate 63 = .ok (.iload 4, 2) := by decide +kernel
theorem dX4_rate_65 : decode cX4_rate 65 = .ok (.aaload, 1) := by decide +kernel
theorem dX4_rate_66 : decode cX4_rate 66 = .ok (.aload_n 2, 1) := by decide +kernel
theorem dX4_rate_67 : decode cX4_rate 67 = .ok (.getfield 93, 3) := by decide +kernel
theorem dX4_rate_70 : decode cX4_rate 70 = .ok (.invokevirtual 178, 3) := by decide +kernel
theorem dX4_rate_73 : decode cX4_rate 73 = .ok (.ifCond .eq 16, 3) := by decide +kernel
theorem dX4_rate_76 : decode cX4_rate 76 = .ok (.iload_n 3, 1) := by decide +kernel
theorem dX4_rate_77 : decode cX4_rate 77 = .ok (.aload_n 0, 1) := by decide +kernel
theorem dX4_rate_78 : decode cX4_rate 78 = .ok (.getfield 11, 3) := by decide +kernel
theorem dX4_rate_81 : decode cX4_rate 81 = .ok (.iload 4, 2) := by decide +kernel
theorem dX4_rate_83 : decode cX4_rate 83 = .ok (.aaload, 1) := by decide +kernel
theorem dX4_rate_84 : decode cX4_rate 84 = .ok (.getfield 79, 3) := by decide +kernel
theorem dX4_rate_87 : decode cX4_rate 87 = .ok (.iadd, 1) := by decide +kernel
theorem dX4_rate_88 : decode cX4_rate 88 = .ok (.istore_n 3, 1) := by decide +kernel
theorem dX4_rate_89 : decode cX4_rate 89 = .ok (.iinc 4 1, 3) := by decide +kernel
theorem dX4_rate_92 : decode cX4_rate 92 = .ok (.goto (-48), 3) := by decide +kernel
theorem dX4_rate_95 : decode cX4_rate 95 = .ok (.iload_n 3, 1) := by decide +kernel
theorem dX4_rate_96 : decode cX4_rate 96 = .ok (.iconst 1, 1) := by decide +kernel
theorem dX4_rate_97 : decode cX4_rate 97 = .ok (.if_icmp .ge 7, 3) := by decide +kernel
theorem dX4_rate_100 : decode cX4_rate 100 = .ok (.iconst 0, 1) := by decide +kernel
theorem dX4_rate_101 : decode cX4_rate 101 = .ok (.goto 13, 3) := by decide +kernel
theorem dX4_rate_104 : decode cX4_rate 104 = .ok (.sipush 1000, 3) := by decide +kernel
theorem dX4_rate_107 : decode cX4_rate 107 = .ok (.aload_n 2, 1) := by decide +kernel
theorem dX4_rate_108 : decode cX4_rate 108 = .ok (.getfield 79, 3) := by decide +kernel
theorem dX4_rate_111 : decode cX4_rate 111 = .ok (.imul, 1) := by decide +kernel
theorem dX4_rate_112 : decode cX4_rate 112 = .ok (.iload_n 3, 1) := by decide +kernel
theorem dX4_rate_113 : decode cX4_rate 113 = .ok (.idiv, 1) := by decide +kernel
theorem dX4_rate_114 : decode cX4_rate 114 = .ok (.ireturn, 1) := by decide +kernel
theorem dX4_water_0 : decode cX4_water 0 = .ok (.iconst (-1), 1) := by decide +kernel
theorem dX4_water_1 : decode cX4_water 1 = .ok (.istore_n 1, 1) := by decide +kernel
theorem dX4_water_2 : decode cX4_water 2 = .ok (.iconst (-1), 1) := by decide +kernel
theorem dX4_water_3 : decode cX4_water 3 = .ok (.istore_n 2, 1) := by decide +kernel
theorem dX4_water_4 : decode cX4_water 4 = .ok (.iconst 1, 1) := by decide +kernel
theorem dX4_water_5 : decode cX4_water 5 = .ok (.istore_n 3, 1) := by decide +kernel
theorem dX4_water_6 : decode cX4_water 6 = .ok (.iconst 0, 1) := by decide +kernel
theorem dX4_water_7 : decode cX4_water 7 = .ok (.istore 4, 2) := by decide +kernel
theorem dX4_water_9 : decode cX4_water 9 = .ok (.iload 4, 2) := by decide +kernel
theorem dX4_water_11 : decode cX4_water 11 = .ok (.aload_n 0, 1) := by decide +kernel
theorem dX4_water_12 : decode cX4_water 12 = .ok (.getfield 44, 3) := by decide +kernel
theorem dX4_water_15 : decode cX4_water 15 = .ok (.if_icmp .ge 59, 3) := by decide +kernel
theorem dX4_water_18 : decode cX4_water 18 = .ok (.aload_n 0, 1) := by decide +kernel
theorem dX4_water_19 : decode cX4_water 19 = .ok (.getfield 11, 3) := by decide +kernel
theorem dX4_water_22 : decode cX4_water 22 = .ok (.iload 4, 2) := by decide +kernel
theorem dX4_water_24 : decode cX4_water 24 = .ok (.aaload, 1) := by decide +kernel
theorem dX4_water_25 : decode cX4_water 25 = .ok (.getfield 139, 3) := by decide +kernel
theorem dX4_water_28 : decode cX4_water 28 = .ok (.istore 5, 2) := by decide +kernel
theorem dX4_water_30 : decode cX4_water 30 = .ok (.iload_n 2, 1) := by decide +kernel
theorem dX4_water_31 : decode cX4_water 31 = .ok (.iload 5, 2) := by decide +kernel
theorem dX4_water_33 : decode cX4_water 33 = .ok (.invokestatic 181, 3) := by decide +kernel
theorem dX4_water_36 : decode cX4_water 36 = .ok (.istore_n 2, 1) := by decide +kernel
theorem dX4_water_37 : decode cX4_water 37 = .ok (.aload_n 0, 1) := by decide +kernel
theorem dX4_water_38 : decode cX4_water 38 = .ok (.getfield 11, 3) := by decide +kernel
theorem dX4_water_41 : decode cX4_water 41 = .ok (.iload 4, 2) := by decide +kernel
theorem dX4_water_43 : decode cX4_water 43 = .ok (.aaload, 1) := by decide +kernel
theorem dX4_water_44 : decode cX4_water 44 = .ok (.invokevirtual 89, 3) := by decide +kernel
theorem dX4_water_47 : decode cX4_water 47 = .ok (.ifCond .ne 21, 3) := by decide +kernel
theorem dX4_water_50 : decode cX4_water 50 = .ok (.iload_n 3, 1) := by decide +kernel
theorem dX4_water_51 : decode cX4_water 51 = .ok (.ifCond .eq 8, 3) := by decide +kernel
theorem dX4_water_54 : decode cX4_water 54 = .ok (.iload 5, 2) := by decide +kernel
theorem dX4_water_56 : decode cX4_water 56 = .ok (.goto 9, 3) := by decide +kernel
theorem dX4_water_59 : decode cX4_water 59 = .ok (.iload_n 1, 1) := by decide +kernel
theorem dX4_water_60 : decode cX4_water 60 = .ok (.iload 5, 2) := by decide +kernel
theorem dX4_water_62 : decode cX4_water 62 = .ok (.invokestatic 186, 3) := by decide +kernel
theorem dX4_water_65 : decode cX4_water 65 = .ok (.istore_n 1, 1) := by decide +kernel
theorem dX4_water_66 : decode cX4_water 66 = .ok (.iconst 0, 1) := by decide +kernel
theorem dX4_water_67 : decode cX4_water 67 = .ok (.istore_n 3, 1) := by decide +kernel
theorem dX4_water_68 : decode cX4_water 68 = .ok (.iinc 4 1, 3) := by decide +kernel
theorem dX4_water_71 : decode cX4_water 71 = .ok (.goto (-62), 3) := by decide +kernel
theorem dX4_water_74 : decode cX4_water 74 = .ok (.iload_n 3, 1) := by decide +kernel
theorem dX4_water_75 : decode cX4_water 75 = .ok (.ifCond .eq 7, 3) := by decide +kernel
theorem dX4_water_78 : decode cX4_water 78 = .ok (.iload_n 2, 1) := by decide +kernel
theorem dX4_water_79 : decode cX4_water 79 = .ok (.goto 4, 3) := by decide +kernel
theorem dX4_water_82 : decode cX4_water 82 = .ok (.iload_n 1, 1) := by decide +kernel
theorem dX4_water_83 : decode cX4_water 83 = .ok (.ireturn, 1) := by decide +kernel
theorem dX4_count_0 : decode cX4_count 0 = .ok (.iload_n 1, 1) := by decide +kernel
theorem dX4_count_1 : decode cX4_count 1 = .ok (.tableswitch 123 0 9 #[55, 60, 65, 70, 78, 86, 94, 99, 107, 115], 55) := by decide +kernel
