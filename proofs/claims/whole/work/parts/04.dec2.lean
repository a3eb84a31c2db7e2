theorem dX4_count_56 : decode cX4_count 56 = .ok (.aload_n 0, 1) := by decide +kernel
theorem dX4_count_57 : decode cX4_count 57 = .ok (.getfield 44, 3) := by decide +kernel
theorem dX4_count_60 : decode cX4_count 60 = .ok (.ireturn, 1) := by decide +kernel
theorem dX4_count_61 : decode cX4_count 61 = .ok (.aload_n 0, 1) := by decide +kernel
theorem dX4_count_62 : decode cX4_count 62 = .ok (.getfield 114, 3) := by decide +kernel
theorem dX4_count_65 : decode cX4_count 65 = .ok (.ireturn, 1) := by decide +kernel
theorem dX4_count_66 : decode cX4_count 66 = .ok (.aload_n 0, 1) := by decide +kernel
theorem dX4_count_67 : decode cX4_count 67 = .ok (.getfield 107, 3) := by decide +kernel
theorem dX4_count_70 : decode cX4_count 70 = .ok (.ireturn, 1) := by decide +kernel
theorem dX4_count_71 : decode cX4_count 71 = .ok (.aload_n 0, 1) := by decide +kernel
theorem dX4_count_72 : decode cX4_count 72 = .ok (.getfield 31, 3) := by decide +kernel
theorem dX4_count_75 : decode cX4_count 75 = .ok (.getfield 189, 3) := by decide +kernel
theorem dX4_count_78 : decode cX4_count 78 = .ok (.ireturn, 1) := by decide +kernel
theorem dX4_count_79 : decode cX4_count 79 = .ok (.aload_n 0, 1) := by decide +kernel
theorem dX4_count_80 : decode cX4_count 80 = .ok (.getfield 24, 3) := by decide +kernel
theorem dX4_count_83 : decode cX4_count 83 = .ok (.getfield 192, 3) := by decide +kernel
theorem dX4_count_86 : decode cX4_count 86 = .ok (.ireturn, 1) := by decide +kernel
theorem dX4_count_87 : decode cX4_count 87 = .ok (.aload_n 0, 1) := by decide +kernel
theorem dX4_count_88 : decode cX4_count 88 = .ok (.getfield 24, 3) := by decide +kernel
theorem dX4_count_91 : decode cX4_count 91 = .ok (.getfield 167, 3) := by decide +kernel
theorem dX4_count_94 : decode cX4_count 94 = .ok (.ireturn, 1) := by decide +kernel
theorem dX4_count_95 : decode cX4_count 95 = .ok (.aload_n 0, 1) := by decide +kernel
theorem dX4_count_96 : decode cX4_count 96 = .ok (.invokevirtual 195, 3) := by decide +kernel
theorem dX4_count_99 : decode cX4_count 99 = .ok (.ireturn, 1) := by decide +kernel
theorem dX4_count_100 : decode cX4_count 100 = .ok (.aload_n 0, 1) := by decide +kernel
theorem dX4_count_101 : decode cX4_count 101 = .ok (.getfield 31, 3) := by decide +kernel
theorem dX4_count_104 : decode cX4_count 104 = .ok (.getfield 199, 3) := by decide +kernel
theorem dX4_count_107 : decode cX4_count 107 = .ok (.ireturn, 1) := by decide +kernel
theorem dX4_count_108 : decode cX4_count 108 = .ok (.aload_n 0, 1) := by decide +kernel
theorem dX4_count_109 : decode cX4_count 109 = .ok (.getfield 31, 3) := by decide +kernel
theorem dX4_count_112 : decode cX4_count 112 = .ok (.getfield 202, 3) := by decide +kernel
theorem dX4_count_115 : decode cX4_count 115 = .ok (.ireturn, 1) := by decide +kernel
theorem dX4_count_116 : decode cX4_count 116 = .ok (.aload_n 0, 1) := by decide +kernel
theorem dX4_count_117 : decode cX4_count 117 = .ok (.getfield 31, 3) := by decide +kernel
theorem dX4_count_120 : decode cX4_count 120 = .ok (.getfield 205, 3) := by decide +kernel
theorem dX4_count_123 : decode cX4_count 123 = .ok (.ireturn, 1) := by decide +kernel
theorem dX4_count_124 : decode cX4_count 124 = .ok (.bipush (-12), 2) := by decide +kernel
theorem dX4_count_126 : decode cX4_count 126 = .ok (.ireturn, 1) := by decide +kernel
theorem dX4_clear_0 : decode cX4_clear 0 = .ok (.aload_n 0, 1) := by decide +kernel
theorem dX4_clear_1 : decode cX4_clear 1 = .ok (.getfield 44, 3) := by decide +kernel
theorem dX4_clear_4 : decode cX4_clear 4 = .ok (.istore_n 1, 1) := by decide +kernel
theorem dX4_clear_5 : decode cX4_clear 5 = .ok (.aload_n 0, 1) := by decide +kernel
theorem dX4_clear_6 : decode cX4_clear 6 = .ok (.invokevirtual 41, 3) := by decide +kernel
theorem dX4_clear_9 : decode cX4_clear 9 = .ok (.iload_n 1, 1) := by decide +kernel
theorem dX4_clear_10 : decode cX4_clear 10 = .ok (.ireturn, 1) := by decide +kernel
theorem dX4_begin_0 : decode cX4_begin 0 = .ok (.aload_n 0, 1) := by decide +kernel
theorem dX4_begin_1 : decode cX4_begin 1 = .ok (.iconst 0, 1) := by decide +kernel
theorem dX4_begin_2 : decode cX4_begin 2 = .ok (.putfield 44, 3) := by decide +kernel
theorem dX4_begin_5 : decode cX4_begin 5 = .ok (.aload_n 0, 1) := by decide +kernel
theorem dX4_begin_6 : decode cX4_begin 6 = .ok (.iconst 0, 1) := by decide +kernel
theorem dX4_begin_7 : decode cX4_begin 7 = .ok (.putfield 107, 3) := by decide +kernel
theorem dX4_begin_10 : decode cX4_begin 10 = .ok (.aload_n 0, 1) := by decide +kernel
theorem dX4_begin_11 : decode cX4_begin 11 = .ok (.iconst 1, 1) := by decide +kernel
theorem dX4_begin_12 : decode cX4_begin 12 = .ok (.putfield 114, 3) := by decide +kernel
theorem dX4_begin_15 : decode cX4_begin 15 = .ok (.aload_n 0, 1) := by decide +kernel
theorem dX4_begin_16 : decode cX4_begin 16 = .ok (.getfield 24, 3) := by decide +kernel
theorem dX4_begin_19 : decode cX4_begin 19 = .ok (.invokevirtual 126, 3) := by decide +kernel
theorem dX4_begin_22 : decode cX4_begin 22 = .ok (.aload_n 0, 1) := by decide +kernel
theorem dX4_begin_23 : decode cX4_begin 23 = .ok (.getfield 31, 3) := by decide +kernel
theorem dX4_begin_26 : decode cX4_begin 26 = .ok (.invokevirtual 208, 3) := by decide +kernel
theorem dX4_begin_29 : decode cX4_begin 29 = .ok (.iconst 0, 1) := by decide +kernel
theorem dX4_begin_30 : decode cX4_begin 30 = .ok (.istore_n 1, 1) := by decide +kernel
theorem dX4_begin_31 : decode cX4_begin 31 = .ok (.iload_n 1, 1) := by decide +kernel
theorem dX4_begin_32 : decode cX4_begin 32 = .ok (.iconst 5, 1) := by decide +kernel
theorem dX4_begin_33 : decode cX4_begin 33 = .ok (.if_icmp .ge 16, 3) := by decide +kernel
theorem dX4_begin_36 : decode cX4_begin 36 = .ok (.aload_n 0, 1) := by decide +kernel
theorem dX4_begin_37 : decode cX4_begin 37 = .ok (.getfield 35, 3) := by decide +kernel
theorem dX4_begin_40 : decode cX4_begin 40 = .ok (.iload_n 1, 1) := by decide +kernel
theorem dX4_begin_41 : decode cX4_begin 41 = .ok (.iconst (-1), 1) := by decide +kernel
theorem dX4_begin_42 : decode cX4_begin 42 = .ok (.iastore, 1) := by decide +kernel
theorem dX4_begin_43 : decode cX4_begin 43 = .ok (.iinc 1 1, 3) := by decide +kernel
theorem dX4_begin_46 : decode cX4_begin 46 = .ok (.goto (-15), 3) := by decide +kernel
theorem dX4_begin_49 : decode cX4_begin 49 = .ok (.return_, 1) := by decide +kernel
theorem dX4_isPart_0 : decode cX4_isPart 0 = .ok (.iload_n 1, 1) := by decide +kernel
theorem dX4_isPart_1 : decode cX4_isPart 1 = .ok (.ifCond .lt 15, 3) := by decide +kernel
theorem dX4_isPart_4 : decode cX4_isPart 4 = .ok (.iload_n 1, 1) := by decide +kernel
theorem dX4_isPart_5 : decode cX4_isPart 5 = .ok (.aload_n 0, 1) := by decide +kernel
theorem dX4_isPart_6 : decode cX4_isPart 6 = .ok (.getfield 44, 3) := by decide +kernel
theorem dX4_isPart_9 : decode cX4_isPart 9 = .ok (.if_icmp .ge 7, 3) := by decide +kernel
theorem dX4_isPart_12 : decode cX4_isPart 12 = .ok (.iconst 1, 1) := by decide +kernel
theorem dX4_isPart_13 : decode cX4_isPart 13 = .ok (.goto 4, 3) := by decide +kernel
theorem dX4_isPart_16 : decode cX4_isPart 16 = .ok (.iconst 0, 1) := by decide +kernel
theorem dX4_isPart_17 : decode cX4_isPart 17 = .ok (.ireturn, 1) := by decide +kernel
theorem dX4_isTask_0 : decode cX4_isTask 0 = .ok (.iload_n 1, 1) := by decide +kernel
theorem dX4_isTask_1 : decode cX4_isTask 1 = .ok (.ifCond .lt 15, 3) := by decide +kernel
theorem dX4_isTask_4 : decode cX4_isTask 4 = .ok (.iload_n 1, 1) := by decide +kernel
theorem dX4_isTask_5 : decode cX4_isTask 5 = .ok (.aload_n 0, 1) := by decide +kernel
theorem dX4_isTask_6 : decode cX4_isTask 6 = .ok (.getfield 114, 3) := by decide +kernel
theorem dX4_isTask_9 : decode cX4_isTask 9 = .ok (.if_icmp .ge 7, 3) := by decide +kernel
theorem dX4_isTask_12 : decode cX4_isTask 12 = .ok (.iconst 1, 1) := by decide +kernel
theorem dX4_isTask_13 : decode cX4_isTask 13 = .ok (.goto 4, 3) := by decide +kernel
theorem dX4_isTask_16 : decode cX4_isTask 16 = .ok (.iconst 0, 1) := by decide +kernel
theorem dX4_isTask_17 : decode cX4_isTask 17 = .ok (.ireturn, 1) := by decide +kernel
theorem dX4_isNumber_0 : decode cX4_isNumber 0 = .ok (.iload_n 0, 1) := by decide +kernel
theorem dX4_isNumber_1 : decode cX4_isNumber 1 = .ok (.ifCond .lt 14, 3) := by decide +kernel
theorem dX4_isNumber_4 : decode cX4_isNumber 4 = .ok (.iload_n 0, 1) := by decide +kernel
theorem dX4_isNumber_5 : decode cX4_isNumber 5 = .ok (.sipush 255, 3) := by decide +kernel
theorem dX4_isNumber_8 : decode cX4_isNumber 8 = .ok (.if_icmp .gt 7, 3) := by decide +kernel
theorem dX4_isNumber_11 : decode cX4_isNumber 11 = .ok (.iconst 1, 1) := by decide +kernel
theorem dX4_isNumber_12 : decode cX4_isNumber 12 = .ok (.goto 4, 3) := by decide +kernel
theorem dX4_isNumber_15 : decode cX4_isNumber 15 = .ok (.iconst 0, 1) := by decide +kernel
theorem dX4_isNumber_16 : decode cX4_isNumber 16 = .ok (.ireturn, 1) := by decide +kernel
theorem dX4_isTime_0 : decode cX4_isTime 0 = .ok (.iload_n 0, 1) := by decide +kernel
theorem dX4_isTime_1 : decode cX4_isTime 1 = .ok (.ifCond .lt 13, 3) := by decide +kernel
theorem dX4_isTime_4 : decode cX4_isTime 4 = .ok (.iload_n 0, 1) := by decide +kernel
theorem dX4_isTime_5 : decode cX4_isTime 5 = .ok (.ldc 209, 2) := by decide +kernel
theorem dX4_isTime_7 : decode cX4_isTime 7 = .ok (.if_icmp .gt 7, 3) := by decide +kernel
theorem dX4_isTime_10 : decode cX4_isTime 10 = .ok (.iconst 1, 1) := by decide +kernel
theorem dX4_isTime_11 : decode cX4_isTime 11 = .ok (.goto 4, 3) := by decide +kernel
theorem dX4_isTime_14 : decode cX4_isTime 14 = .ok (.iconst 0, 1) := by decide +kernel
theorem dX4_isTime_15 : decode cX4_isTime 15 = .ok (.ireturn, 1) := by decide +kernel
theorem dX4_addPart_0 : decode cX4_addPart 0 = .ok (.aload_n 0, 1) := by decide +kernel
theorem dX4_addPart_1 : decode cX4_addPart 1 = .ok (.getfield 11, 3) := by decide +kernel
theorem dX4_addPart_4 : decode cX4_addPart 4 = .ok (.aload_n 0, 1) := by decide +kernel
theorem dX4_addPart_5 : decode cX4_addPart 5 = .ok (.getfield 44, 3) := by decide +kernel
theorem dX4_addPart_8 : decode cX4_addPart 8 = .ok (.aaload, 1) := by decide +kernel
theorem dX4_addPart_9 : decode cX4_addPart 9 = .ok (.iload_n 1, 1) := by decide +kernel
theorem dX4_addPart_10 : decode cX4_addPart 10 = .ok (.iload_n 2, 1) := by decide +kernel
theorem dX4_addPart_11 : decode cX4_addPart 11 = .ok (.invokevirtual 210, 3) := by decide +kernel
theorem dX4_addPart_14 : decode cX4_addPart 14 = .ok (.aload_n 0, 1) := by decide +kernel
theorem dX4_addPart_15 : decode cX4_addPart 15 = .ok (.dup, 1) := by decide +kernel
theorem dX4_addPart_16 : decode cX4_addPart 16 = .ok (.getfield 44, 3) := by decide +kernel
theorem dX4_addPart_19 : decode cX4_addPart 19 = .ok (.iconst 1, 1) := by decide +kernel
theorem dX4_addPart_20 : decode cX4_addPart 20 = .ok (.iadd, 1) := by decide +kernel
theorem dX4_addPart_21 : decode cX4_addPart 21 = .ok (.putfield 44, 3) := by decide +kernel
theorem dX4_addPart_24 : decode cX4_addPart 24 = .ok (.aload_n 0, 1) := by decide +kernel
theorem dX4_addPart_25 : decode cX4_addPart 25 = .ok (.getfield 44, 3) := by decide +kernel
theorem dX4_addPart_28 : decode cX4_addPart 28 = .ok (.iconst 1, 1) := by decide +kernel
theorem dX4_addPart_29 : decode cX4_addPart 29 = .ok (.isub, 1) := by decide +kernel
theorem dX4_addPart_30 : decode cX4_addPart 30 = .ok (.ireturn, 1) := by decide +kernel
theorem dX4_chooseByCredit_0 : decode cX4_chooseByCredit 0 = .ok (.iconst (-1), 1) := by decide +kernel
theorem dX4_chooseByCredit_1 : decode cX4_chooseByCredit 1 = .ok (.istore_n 2, 1) := by decide +kernel
theorem dX4_chooseByCredit_2 : decode cX4_chooseByCredit 2 = .ok (.iconst 0, 1) := by decide +kernel
theorem dX4_chooseByCredit_3 : decode cX4_chooseByCredit 3 = .ok (.istore_n 3, 1) := by decide +kernel
theorem dX4_chooseByCredit_4 : decode cX4_chooseByCredit 4 = .ok (.iconst 0, 1) := by decide +kernel
theorem dX4_chooseByCredit_5 : decode cX4_chooseByCredit 5 = .ok (.istore 4, 2) := by decide +kernel
theorem dX4_chooseByCredit_7 : decode cX4_chooseByCredit 7 = .ok (.iload 4, 2) := by decide +kernel
theorem dX4_chooseByCredit_9 : decode cX4_chooseByCredit 9 = .ok (.aload_n 0, 1) := by decide +kernel
theorem dX4_chooseByCredit_10 : decode cX4_chooseByCredit 10 = .ok (.getfield 44, 3) := by decide +kernel
theorem dX4_chooseByCredit_13 : decode cX4_chooseByCredit 13 = .ok (.if_icmp .ge 75, 3) := by decide +kernel
theorem dX4_chooseByCredit_16 : decode cX4_chooseByCredit 16 = .ok (.aload_n 0, 1) := by decide +kernel
theorem dX4_chooseByCredit_17 : decode cX4_chooseByCredit 17 = .ok (.getfield 11, 3) := by decide +kernel
theorem dX4_chooseByCredit_20 : decode cX4_chooseByCredit 20 = .ok (.iload 4, 2) := by decide +kernel
theorem dX4_chooseByCredit_22 : decode cX4_chooseByCredit 22 = .ok (.aaload, 1) := by decide +kernel
theorem dX4_chooseByCredit_23 : decode cX4_chooseByCredit 23 = .ok (.astore 5, 2) := by decide +kernel
theorem dX4_chooseByCredit_25 : decode cX4_chooseByCredit 25 = .ok (.aload 5, 2) := by decide +kernel
theorem dX4_chooseByCredit_27 : decode cX4_chooseByCredit 27 = .ok (.iload_n 1, 1) := by decide +kernel
theorem dX4_chooseByCredit_28 : decode cX4_chooseByCredit 28 = .ok (.invokevirtual 178, 3) := by decide +kernel
theorem dX4_chooseByCredit_31 : decode cX4_chooseByCredit 31 = .ok (.ifCond .eq 51, 3) := by decide +kernel
theorem dX4_chooseByCredit_34 : decode cX4_chooseByCredit 34 = .ok (.aload 5, 2) := by decide +kernel
theorem dX4_chooseByCredit_36 : decode cX4_chooseByCredit 36 = .ok (.dup, 1) := by decide +kernel
theorem dX4_chooseByCredit_37 : decode cX4_chooseByCredit 37 = .ok (.getfield 142, 3) := by decide +kernel
theorem dX4_chooseByCredit_40 : decode cX4_chooseByCredit 40 = .ok (.aload 5, 2) := by decide +kernel
theorem dX4_chooseByCredit_42 : decode cX4_chooseByCredit 42 = .ok (.getfield 79, 3) := by decide +kernel
theorem dX4_chooseByCredit_45 : decode cX4_chooseByCredit 45 = .ok (.iadd, 1) := by decide +kernel
theorem dX4_chooseByCredit_46 : decode cX4_chooseByCredit 46 = .ok (.putfield 142, 3) := by decide +kernel
theorem dX4_chooseByCredit_49 : decode cX4_chooseByCredit 49 = .ok (.iload_n 3, 1) := by decide +kernel
theorem dX4_chooseByCredit_50 : decode cX4_chooseByCredit 50 = .ok (.aload 5, 2) := by decide +kernel
theorem dX4_chooseByCredit_52 : decode cX4_chooseByCredit 52 = .ok (.getfield 79, 3) := by decide +kernel
theorem dX4_chooseByCredit_55 : decode cX4_chooseByCredit 55 = .ok (.iadd, 1) := by decide +kernel
theorem dX4_chooseByCredit_56 : decode cX4_chooseByCredit 56 = .ok (.istore_n 3, 1) := by decide +kernel
theorem dX4_chooseByCredit_57 : decode cX4_chooseByCredit 57 = .ok (.iload_n 2, 1) := by decide +kernel
theorem dX4_chooseByCredit_58 : decode cX4_chooseByCredit 58 = .ok (.iconst (-1), 1) := by decide +kernel
theorem dX4_chooseByCredit_59 : decode cX4_chooseByCredit 59 = .ok (.if_icmp .eq 20, 3) := by decide +kernel
theorem dX4_chooseByCredit_62 : decode cX4_chooseByCredit 62 = .ok (.aload 5, 2) := by decide +kernel
theorem dX4_chooseByCredit_64 : decode cX4_chooseByCredit 64 = .ok (.getfield 142, 3) := by decide +kernel
theorem dX4_chooseByCredit_67 : decode cX4_chooseByCredit 67 = .ok (.aload_n 0, 1) := by decide +kernel
theorem dX4_chooseByCredit_68 : decode cX4_chooseByCredit 68 = .ok (.getfield 11, 3) := by decide +kernel
theorem dX4_chooseByCredit_71 : decode cX4_chooseByCredit 71 = .ok (.iload_n 2, 1) := by decide +kernel
theorem dX4_chooseByCredit_72 : decode cX4_chooseByCredit 72 = .ok (.aaload, 1) := by decide +kernel
theorem dX4_chooseByCredit_73 : decode cX4_chooseByCredit 73 = .ok (.getfield 142, 3) := by decide +kernel
theorem dX4_chooseByCredit_76 : decode cX4_chooseByCredit 76 = .ok (.if_icmp .le 6, 3) := by decide +kernel
theorem dX4_chooseByCredit_79 : decode cX4_chooseByCredit 79 = .ok (.iload 4, 2) := by decide +kernel
theorem dX4_chooseByCredit_81 : decode cX4_chooseByCredit 81 = .ok (.istore_n 2, 1) := by decide +kernel
theorem dX4_chooseByCredit_82 : decode cX4_chooseByCredit 82 = .ok (.iinc 4 1, 3) := by decide +kernel
theorem dX4_chooseByCredit_85 : decode cX4_chooseByCredit 85 = .ok (.goto (-78), 3) := by decide +kernel
theorem dX4_chooseByCredit_88 : decode cX4_chooseByCredit 88 = .ok (.iload_n 2, 1) := by decide +kernel
theorem dX4_chooseByCredit_89 : decode cX4_chooseByCredit 89 = .ok (.iconst (-1), 1) := by decide +kernel
theorem dX4_chooseByCredit_90 : decode cX4_chooseByCredit 90 = .ok (.if_icmp .eq 18, 3) := by decide +kernel
theorem dX4_chooseByCredit_93 : decode cX4_chooseByCredit 93 = .ok (.aload_n 0, 1) := by decide +kernel
theorem dX4_chooseByCredit_94 : decode cX4_chooseByCredit 94 = .ok (.getfield 11, 3) := by decide +kernel
theorem dX4_chooseByCredit_97 : decode cX4_chooseByCredit 97 = .ok (.iload_n 2, 1) := by decide +kernel
theorem dX4_chooseByCredit_98 : decode cX4_chooseByCredit 98 = .ok (.aaload, 1) := by decide +kernel
theorem dX4_chooseByCredit_99 : decode cX4_chooseByCredit 99 = .ok (.dup, 1) := by decide +kernel
theorem dX4_chooseByCredit_100 : decode cX4_chooseByCredit 100 = .ok (.getfield 142, 3) := by decide +kernel
theorem dX4_chooseByCredit_103 : decode cX4_chooseByCredit 103 = .ok (.iload_n 3, 1) := by decide +kernel
theorem dX4_chooseByCredit_104 : decode cX4_chooseByCredit 104 = .ok (.isub, 1) := by decide +kernel
theorem dX4_chooseByCredit_105 : decode cX4_chooseByCredit 105 = .ok (.putfield 142, 3) := by decide +kernel
theorem dX4_chooseByCredit_108 : decode cX4_chooseByCredit 108 = .ok (.iload_n 2, 1) := by decide +kernel
theorem dX4_chooseByCredit_109 : decode cX4_chooseByCredit 109 = .ok (.ireturn, 1) := by decide +kernel
theorem dX4_deliverFrom_0 : decode cX4_deliverFrom 0 = .ok (.aload_n 0, 1) := by decide +kernel
theorem dX4_deliverFrom_1 : decode cX4_deliverFrom 1 = .ok (.getfield 11, 3) := by decide +kernel
theorem dX4_deliverFrom_4 : decode cX4_deliverFrom 4 = .ok (.iload_n 1, 1) := by decide +kernel
theorem dX4_deliverFrom_5 : decode cX4_deliverFrom 5 = .ok (.aaload, 1) := by decide +kernel
theorem dX4_deliverFrom_6 : decode cX4_deliverFrom 6 = .ok (.astore_n 2, 1) := by decide +kernel
theorem dX4_deliverFrom_7 : decode cX4_deliverFrom 7 = .ok (.aload_n 2, 1) := by decide +kernel
theorem dX4_deliverFrom_8 : decode cX4_deliverFrom 8 = .ok (.invokevirtual 136, 3) := by decide +kernel
theorem dX4_deliverFrom_11 : decode cX4_deliverFrom 11 = .ok (.ifCond .ne 5, 3) := by decide +kernel
theorem dX4_deliverFrom_14 : decode cX4_deliverFrom 14 = .ok (.iconst (-1), 1) := by decide +kernel
theorem dX4_deliverFrom_15 : decode cX4_deliverFrom 15 = .ok (.ireturn, 1) := by decide +kernel
theorem dX4_deliverFrom_16 : decode cX4_deliverFrom 16 = .ok (.aload_n 2, 1) := by decide +kernel
theorem dX4_deliverFrom_17 : decode cX4_deliverFrom 17 = .ok (.getfield 76, 3) := by decide +kernel
theorem dX4_deliverFrom_20 : decode cX4_deliverFrom 20 = .ok (.istore_n 3, 1) := by decide +kernel
theorem dX4_deliverFrom_21 : decode cX4_deliverFrom 21 = .ok (.aload_n 2, 1) := by decide +kernel
theorem dX4_deliverFrom_22 : decode cX4_deliverFrom 22 = .ok (.getfield 164, 3) := by decide +kernel
theorem dX4_deliverFrom_25 : decode cX4_deliverFrom 25 = .ok (.iload_n 3, 1) := by decide +kernel
theorem dX4_deliverFrom_26 : decode cX4_deliverFrom 26 = .ok (.iaload, 1) := by decide +kernel
theorem dX4_deliverFrom_27 : decode cX4_deliverFrom 27 = .ok (.istore 4, 2) := by decide +kernel
theorem dX4_deliverFrom_29 : decode cX4_deliverFrom 29 = .ok (.aload_n 0, 1) := by decide +kernel
theorem dX4_deliverFrom_30 : decode cX4_deliverFrom 30 = .ok (.getfield 31, 3) := by decide +kernel
theorem dX4_deliverFrom_33 : decode cX4_deliverFrom 33 = .ok (.dup, 1) := by decide +kernel
theorem dX4_deliverFrom_34 : decode cX4_deliverFrom 34 = .ok (.getfield 189, 3) := by decide +kernel
theorem dX4_deliverFrom_37 : decode cX4_deliverFrom 37 = .ok (.iconst 1, 1) := by decide +kernel
theorem dX4_deliverFrom_38 : decode cX4_deliverFrom 38 = .ok (.iadd, 1) := by decide +kernel
theorem dX4_deliverFrom_39 : decode cX4_deliverFrom 39 = .ok (.putfield 189, 3) := by decide +kernel
theorem dX4_deliverFrom_42 : decode cX4_deliverFrom 42 = .ok (.aload_n 0, 1) := by decide +kernel
theorem dX4_deliverFrom_43 : decode cX4_deliverFrom 43 = .ok (.iload_n 1, 1) := by decide +kernel
theorem dX4_deliverFrom_44 : decode cX4_deliverFrom 44 = .ok (.iload_n 3, 1) := by decide +kernel
theorem dX4_deliverFrom_45 : decode cX4_deliverFrom 45 = .ok (.invokevirtual 214, 3) := by decide +kernel
theorem dX4_deliverFrom_48 : decode cX4_deliverFrom 48 = .ok (.aload_n 0, 1) := by decide +kernel
theorem dX4_deliverFrom_49 : decode cX4_deliverFrom 49 = .ok (.getfield 31, 3) := by decide +kernel
theorem dX4_deliverFrom_52 : decode cX4_deliverFrom 52 = .ok (.aload_n 0, 1) := by decide +kernel
theorem dX4_deliverFrom_53 : decode cX4_deliverFrom 53 = .ok (.getfield 31, 3) := by decide +kernel
theorem dX4_deliverFrom_56 : decode cX4_deliverFrom 56 = .ok (.getfield 217, 3) := by decide +kernel
theorem dX4_deliverFrom_59 : decode cX4_deliverFrom 59 = .ok (.invokevirtual 221, 3) := by decide +kernel
theorem dX4_deliverFrom_62 : decode cX4_deliverFrom 62 = .ok (.istore 5, 2) := by decide +kernel
theorem dX4_deliverFrom_64 : decode cX4_deliverFrom 64 = .ok (.aload_n 0, 1) := by decide +kernel
theorem dX4_deliverFrom_65 : decode cX4_deliverFrom 65 = .ok (.getfield 31, 3) := by decide +kernel
theorem dX4_deliverFrom_68 : decode cX4_deliverFrom 68 = .ok (.aload_n 0, 1) := by decide +kernel
theorem dX4_deliverFrom_69 : decode cX4_deliverFrom 69 = .ok (.getfield 31, 3) := by decide +kernel
theorem dX4_deliverFrom_72 : decode cX4_deliverFrom 72 = .ok (.getfield 225, 3) := by decide +kernel
theorem dX4_deliverFrom_75 : decode cX4_deliverFrom 75 = .ok (.invokevirtual 221, 3) := by decide +kernel
theorem dX4_deliverFrom_78 : decode cX4_deliverFrom 78 = .ok (.istore 6, 2) := by decide +kernel
theorem dX4_deliverFrom_80 : decode cX4_deliverFrom 80 = .ok (.iload 5, 2) := by decide +kernel
theorem dX4_deliverFrom_82 : decode cX4_deliverFrom 82 = .ok (.ifCond .eq 19, 3) := by decide +kernel
theorem dX4_deliverFrom_85 : decode cX4_deliverFrom 85 = .ok (.aload_n 0, 1) := by decide +kernel
theorem dX4_deliverFrom_86 : decode cX4_deliverFrom 86 = .ok (.getfield 31, 3) := by decide +kernel
theorem dX4_deliverFrom_89 : decode cX4_deliverFrom 89 = .ok (.dup, 1) := by decide +kernel
theorem dX4_deliverFrom_90 : decode cX4_deliverFrom 90 = .ok (.getfield 199, 3) := by decide +kernel
theorem dX4_deliverFrom_93 : decode cX4_deliverFrom 93 = .ok (.iconst 1, 1) := by decide +kernel
theorem dX4_deliverFrom_94 : decode cX4_deliverFrom 94 = .ok (.iadd, 1) := by decide +kernel
theorem dX4_deliverFrom_95 : decode cX4_deliverFrom 95 = .ok (.putfield 199, 3) := by decide +kernel
theorem dX4_deliverFrom_98 : decode cX4_deliverFrom 98 = .ok (.bipush (-2), 2) := by decide +kernel
theorem dX4_deliverFrom_100 : decode cX4_deliverFrom 100 = .ok (.ireturn, 1) := by decide +kernel
theorem dX4_deliverFrom_101 : decode cX4_deliverFrom 101 = .ok (.aload_n 2, 1) := by decide +kernel
theorem dX4_deliverFrom_102 : decode cX4_deliverFrom 102 = .ok (.getfield 228, 3) := by decide +kernel
theorem dX4_deliverFrom_105 : decode cX4_deliverFrom 105 = .ok (.iload_n 3, 1) := by decide +kernel
theorem dX4_deliverFrom_106 : decode cX4_deliverFrom 106 = .ok (.baload, 1) := by decide +kernel
theorem dX4_deliverFrom_107 : decode cX4_deliverFrom 107 = .ok (.ifCond .ne 19, 3) := by decide +kernel
theorem dX4_deliverFrom_110 : decode cX4_deliverFrom 110 = .ok (.aload_n 0, 1) := by decide +kernel
theorem dX4_deliverFrom_111 : decode cX4_deliverFrom 111 = .ok (.getfield 24, 3) := by decide +kernel
theorem dX4_deliverFrom_114 : decode cX4_deliverFrom 114 = .ok (.iload_n 1, 1) := by decide +kernel
theorem dX4_deliverFrom_115 : decode cX4_deliverFrom 115 = .ok (.iload_n 3, 1) := by decide +kernel
theorem dX4_deliverFrom_116 : decode cX4_deliverFrom 116 = .ok (.invokevirtual 231, 3) := by decide +kernel
theorem dX4_deliverFrom_119 : decode cX4_deliverFrom 119 = .ok (.aload_n 2, 1) := by decide +kernel
theorem dX4_deliverFrom_120 : decode cX4_deliverFrom 120 = .ok (.invokevirtual 234, 3) := by decide +kernel
theorem dX4_deliverFrom_123 : decode cX4_deliverFrom 123 = .ok (.bipush (-3), 2) := by decide +kernel
theorem dX4_deliverFrom_125 : decode cX4_deliverFrom 125 = .ok (.ireturn, 1) := by decide +kernel
theorem dX4_deliverFrom_126 : decode cX4_deliverFrom 126 = .ok (.aload_n 0, 1) := by decide +kernel
theorem dX4_deliverFrom_127 : decode cX4_deliverFrom 127 = .ok (.getfield 24, 3) := by decide +kernel
theorem dX4_deliverFrom_130 : decode cX4_deliverFrom 130 = .ok (.iload 4, 2) := by decide +kernel
theorem dX4_deliverFrom_132 : decode cX4_deliverFrom 132 = .ok (.invokevirtual 149, 3) := by decide +kernel
theorem dX4_deliverFrom_135 : decode cX4_deliverFrom 135 = .ok (.ifCond .eq 23, 3) := by decide +kernel
theorem dX4_deliverFrom_138 : decode cX4_deliverFrom 138 = .ok (.aload_n 0, 1) := by decide +kernel
theorem dX4_deliverFrom_139 : decode cX4_deliverFrom 139 = .ok (.getfield 31, 3) := by decide +kernel
theorem dX4_deliverFrom_142 : decode cX4_deliverFrom 142 = .ok (.dup, 1) := by decide +kernel
theorem dX4_deliverFrom_143 : decode cX4_deliverFrom 143 = .ok (.getfield 202, 3) := by decide +kernel
theorem dX4_deliverFrom_146 : decode cX4_deliverFrom 146 = .ok (.iconst 1, 1) := by decide +kernel
theorem dX4_deliverFrom_147 : decode cX4_deliverFrom 147 = .ok (.iadd, 1) := by decide +kernel
theorem dX4_deliverFrom_148 : decode cX4_deliverFrom 148 = .ok (.putfield 202, 3) := by decide +kernel
theorem dX4_deliverFrom_151 : decode cX4_deliverFrom 151 = .ok (.aload_n 2, 1) := by decide +kernel
theorem dX4_deliverFrom_152 : decode cX4_deliverFrom 152 = .ok (.invokevirtual 234, 3) := by decide +kernel
theorem dX4_deliverFrom_155 : decode cX4_deliverFrom 155 = .ok (.bipush (-4), 2) := by decide +kernel
theorem dX4_deliverFrom_157 : decode cX4_deliverFrom 157 = .ok (.ireturn, 1) := by decide +kernel
theorem dX4_deliverFrom_158 : decode cX4_deliverFrom 158 = .ok (.aload_n 0, 1) := by decide +kernel
theorem dX4_deliverFrom_159 : decode cX4_deliverFrom 159 = .ok (.getfield 24, 3) := by decide +kernel
theorem dX4_deliverFrom_162 : decode cX4_deliverFrom 162 = .ok (.iload 4, 2) := by decide +kernel
theorem dX4_deliverFrom_164 : decode cX4_deliverFrom 164 = .ok (.invokevirtual 237, 3) := by decide +kernel
theorem dX4_deliverFrom_167 : decode cX4_deliverFrom 167 = .ok (.iload 6, 2) := by decide +kernel
theorem dX4_deliverFrom_169 : decode cX4_deliverFrom 169 = .ok (.ifCond .ne 7, 3) := by decide +kernel
theorem dX4_deliverFrom_172 : decode cX4_deliverFrom 172 = .ok (.aload_n 2, 1) := by decide +kernel
theorem dX4_deliverFrom_173 : decode cX4_deliverFrom 173 = .ok (.invokevirtual 234, 3) := by decide +kernel
theorem dX4_deliverFrom_176 : decode cX4_deliverFrom 176 = .ok (.iload 4, 2) := by decide +kernel
theorem dX4_deliverFrom_178 : decode cX4_deliverFrom 178 = .ok (.ireturn, 1) := by decide +kernel
theorem dX4_noteLatest_0 : decode cX4_noteLatest 0 = .ok (.aload_n 0, 1) := by decide +kernel
theorem dX4_noteLatest_1 : decode cX4_noteLatest 1 = .ok (.getfield 35, 3) := by decide +kernel
theorem dX4_noteLatest_4 : decode cX4_noteLatest 4 = .ok (.iconst 0, 1) := by decide +kernel
theorem dX4_noteLatest_5 : decode cX4_noteLatest 5 = .ok (.iload_n 1, 1) := by decide +kernel
theorem dX4_noteLatest_6 : decode cX4_noteLatest 6 = .ok (.iastore, 1) := by decide +kernel
theorem dX4_noteLatest_7 : decode cX4_noteLatest 7 = .ok (.aload_n 0, 1) := by decide +kernel
theorem dX4_noteLatest_8 : decode cX4_noteLatest 8 = .ok (.getfield 35, 3) := by decide +kernel
theorem dX4_noteLatest_11 : decode cX4_noteLatest 11 = .ok (.iconst 1, 1) := by decide +kernel
theorem dX4_noteLatest_12 : decode cX4_noteLatest 12 = .ok (.iload_n 2, 1) := by decide +kernel
theorem dX4_noteLatest_13 : decode cX4_noteLatest 13 = .ok (.iastore, 1) := by decide +kernel
theorem dX4_noteLatest_14 : decode cX4_noteLatest 14 = .ok (.aload_n 0, 1) := by decide +kernel
theorem dX4_noteLatest_15 : decode cX4_noteLatest 15 = .ok (.getfield 35, 3) := by decide +kernel
theorem dX4_noteLatest_18 : decode cX4_noteLatest 18 = .ok (.iconst 2, 1) := by decide +kernel
theorem dX4_noteLatest_19 : decode cX4_noteLatest 19 = .ok (.aload_n 0, 1) := by decide +kernel
theorem dX4_noteLatest_20 : decode cX4_noteLatest 20 = .ok (.getfield 11, 3) := by decide +kernel
theorem dX4_noteLatest_23 : decode cX4_noteLatest 23 = .ok (.iload_n 1, 1) := by decide +kernel
theorem dX4_noteLatest_24 : decode cX4_noteLatest 24 = .ok (.aaload, 1) := by decide +kernel
theorem dX4_noteLatest_25 : decode cX4_noteLatest 25 = .ok (.getfield 241, 3) := by decide +kernel
theorem dX4_noteLatest_28 : decode cX4_noteLatest 28 = .ok (.iload_n 2, 1) := by decide +kernel
theorem dX4_noteLatest_29 : decode cX4_noteLatest 29 = .ok (.iaload, 1) := by decide +kernel
theorem dX4_noteLatest_30 : decode cX4_noteLatest 30 = .ok (.iastore, 1) := by decide +kernel
theorem dX4_noteLatest_31 : decode cX4_noteLatest 31 = .ok (.aload_n 0, 1) := by decide +kernel
theorem dX4_noteLatest_32 : decode cX4_noteLatest 32 = .ok (.getfield 35, 3) := by decide +kernel
theorem dX4_noteLatest_35 : decode cX4_noteLatest 35 = .ok (.iconst 3, 1) := by decide +kernel
theorem dX4_noteLatest_36 : decode cX4_noteLatest 36 = .ok (.aload_n 0, 1) := by decide +kernel
theorem dX4_noteLatest_37 : decode cX4_noteLatest 37 = .ok (.getfield 31, 3) := by decide +kernel
theorem dX4_noteLatest_40 : decode cX4_noteLatest 40 = .ok (.getfield 189, 3) := by decide +kernel
theorem dX4_noteLatest_43 : decode cX4_noteLatest 43 = .ok (.iastore, 1) := by decide +kernel
theorem dX4_noteLatest_44 : decode cX4_noteLatest 44 = .ok (.aload_n 0, 1) := by decide +kernel
theorem dX4_noteLatest_45 : decode cX4_noteLatest 45 = .ok (.getfield 35, 3) := by decide +kernel
theorem dX4_noteLatest_48 : decode cX4_noteLatest 48 = .ok (.iconst 4, 1) := by decide +kernel
theorem dX4_noteLatest_49 : decode cX4_noteLatest 49 = .ok (.aload_n 0, 1) := by decide +kernel
theorem dX4_noteLatest_50 : decode cX4_noteLatest 50 = .ok (.getfield 11, 3) := by decide +kernel
theorem dX4_noteLatest_53 : decode cX4_noteLatest 53 = .ok (.iload_n 1, 1) := by decide +kernel
theorem dX4_noteLatest_54 : decode cX4_noteLatest 54 = .ok (.aaload, 1) := by decide +kernel
theorem dX4_noteLatest_55 : decode cX4_noteLatest 55 = .ok (.getfield 142, 3) := by decide +kernel
theorem dX4_noteLatest_58 : decode cX4_noteLatest 58 = .ok (.iastore, 1) := by decide +kernel
theorem dX4_noteLatest_59 : decode cX4_noteLatest 59 = .ok (.return_, 1) := by decide +kernel
theorem dX4_countDone_0 : decode cX4_countDone 0 = .ok (.iconst 0, 1) := by decide +kernel
theorem dX4_countDone_1 : decode cX4_countDone 1 = .ok (.istore_n 1, 1) := by decide +kernel
theorem dX4_countDone_2 : decode cX4_countDone 2 = .ok (.iconst 0, 1) := by decide +kernel
theorem dX4_countDone_3 : decode cX4_countDone 3 = .ok (.istore_n 2, 1) := by decide +kernel
theorem dX4_countDone_4 : decode cX4_countDone 4 = .ok (.iload_n 2, 1) := by decide +kernel
theorem dX4_countDone_5 : decode cX4_countDone 5 = .ok (.aload_n 0, 1) := by decide +kernel
theorem dX4_countDone_6 : decode cX4_countDone 6 = .ok (.getfield 44, 3) := by decide +kernel
theorem dX4_countDone_9 : decode cX4_countDone 9 = .ok (.if_icmp .ge 24, 3) := by decide +kernel
theorem dX4_countDone_12 : decode cX4_countDone 12 = .ok (.aload_n 0, 1) := by decide +kernel
theorem dX4_countDone_13 : decode cX4_countDone 13 = .ok (.getfield 11, 3) := by decide +kernel
theorem dX4_countDone_16 : decode cX4_countDone 16 = .ok (.iload_n 2, 1) := by decide +kernel
theorem dX4_countDone_17 : decode cX4_countDone 17 = .ok (.aaload, 1) := by decide +kernel
theorem dX4_countDone_18 : decode cX4_countDone 18 = .ok (.invokevirtual 89, 3) := by decide +kernel
theorem dX4_countDone_21 : decode cX4_countDone 21 = .ok (.ifCond .eq 6, 3) := by decide +kernel
theorem dX4_countDone_24 : decode cX4_countDone 24 = .ok (.iinc 1 1, 3) := by decide +kernel
theorem dX4_countDone_27 : decode cX4_countDone 27 = .ok (.iinc 2 1, 3) := by decide +kernel
theorem dX4_countDone_30 : decode cX4_countDone 30 = .ok (.goto (-26), 3) := by decide +kernel
theorem dX4_countDone_33 : decode cX4_countDone 33 = .ok (.iload_n 1, 1) := by decide +kernel
theorem dX4_countDone_34 : decode cX4_countDone 34 = .ok (.ireturn, 1) := by decide +kernel
theorem dX5_init_0 : decode cX5_init 0 = .ok (.aload_n 0, 1) := by decide +kernel
theorem dX5_init_1 : decode cX5_init 1 = .ok (.invokespecial 1, 3) := by decide +kernel
theorem dX5_init_4 : decode cX5_init 4 = .ok (.aload_n 0, 1) := by decide +kernel
theorem dX5_init_5 : decode cX5_init 5 = .ok (.iconst 1, 1) := by decide +kernel
theorem dX5_init_6 : decode cX5_init 6 = .ok (.putfield 7, 3) := by decide +kernel
theorem dX5_init_9 : decode cX5_init 9 = .ok (.aload_n 0, 1) := by decide +kernel
theorem dX5_init_10 : decode cX5_init 10 = .ok (.sipush 480, 3) := by decide +kernel
theorem dX5_init_13 : decode cX5_init 13 = .ok (.newarray .int, 2) := by decide +kernel
theorem dX5_init_15 : decode cX5_init 15 = .ok (.putfield 13, 3) := by decide +kernel
theorem dX5_init_18 : decode cX5_init 18 = .ok (.aload_n 0, 1) := by decide +kernel
theorem dX5_init_19 : decode cX5_init 19 = .ok (.sipush 480, 3) := by decide +kernel
theorem dX5_init_22 : decode cX5_init 22 = .ok (.newarray .int, 2) := by decide +kernel
theorem dX5_init_24 : decode cX5_init 24 = .ok (.putfield 17, 3) := by decide +kernel
theorem dX5_init_27 : decode cX5_init 27 = .ok (.aload_n 0, 1) := by decide +kernel
theorem dX5_init_28 : decode cX5_init 28 = .ok (.sipush 480, 3) := by decide +kernel
theorem dX5_init_31 : decode cX5_init 31 = .ok (.newarray .boolean, 2) := by decide +kernel
theorem dX5_init_33 : decode cX5_init 33 = .ok (.putfield 20, 3) := by decide +kernel
theorem dX5_init_36 : decode cX5_init 36 = .ok (.aload_n 0, 1) := by decide +kernel
theorem dX5_init_37 : decode cX5_init 37 = .ok (.bipush 12, 2) := by decide +kernel
theorem dX5_init_39 : decode cX5_init 39 = .ok (.newarray .int, 2) := by decide +kernel
theorem dX5_init_41 : decode cX5_init 41 = .ok (.putfield 24, 3) := by decide +kernel
theorem dX5_init_44 : decode cX5_init 44 = .ok (.aload_n 0, 1) := by decide +kernel
theorem dX5_init_45 : decode cX5_init 45 = .ok (.bipush 12, 2) := by decide +kernel
theorem dX5_init_47 : decode cX5_init 47 = .ok (.newarray .boolean, 2) := by decide +kernel
theorem dX5_init_49 : decode cX5_init 49 = .ok (.putfield 27, 3) := by decide +kernel
theorem dX5_init_52 : decode cX5_init 52 = .ok (.aload_n 0, 1) := by decide +kernel
theorem dX5_init_53 : decode cX5_init 53 = .ok (.bipush 12, 2) := by decide +kernel
theorem dX5_init_55 : decode cX5_init 55 = .ok (.newarray .int, 2) := by decide +kernel
theorem dX5_init_57 : decode cX5_init 57 = .ok (.putfield 30, 3) := by decide +kernel
theorem dX5_init_60 : decode cX5_init 60 = .ok (.aload_n 0, 1) := by decide +kernel
theorem dX5_init_61 : decode cX5_init 61 = .ok (.bipush 12, 2) := by decide +kernel
theorem dX5_init_63 : decode cX5_init 63 = .ok (.newarray .int, 2) := by decide +kernel
theorem dX5_init_65 : decode cX5_init 65 = .ok (.putfield 33, 3) := by decide +kernel
theorem dX5_init_68 : decode cX5_init 68 = .ok (.aload_n 0, 1) := by decide +kernel
theorem dX5_init_69 : decode cX5_init 69 = .ok (.bipush 48, 2) := by decide +kernel
theorem dX5_init_71 : decode cX5_init 71 = .ok (.newarray .int, 2) := by decide +kernel
theorem dX5_init_73 : decode cX5_init 73 = .ok (.putfield 36, 3) := by decide +kernel
theorem dX5_init_76 : decode cX5_init 76 = .ok (.aload_n 0, 1) := by decide +kernel
theorem dX5_init_77 : decode cX5_init 77 = .ok (.sipush 256, 3) := by decide +kernel
theorem dX5_init_80 : decode cX5_init 80 = .ok (.newarray .boolean, 2) := by decide +kernel
theorem dX5_init_82 : decode cX5_init 82 = .ok (.putfield 39, 3) := by decide +kernel
theorem dX5_init_85 : decode cX5_init 85 = .ok (.aload_n 0, 1) := by decide +kernel
theorem dX5_init_86 : decode cX5_init 86 = .ok (.sipush 200, 3) := by decide +kernel
theorem dX5_init_89 : decode cX5_init 89 = .ok (.newarray .int, 2) := by decide +kernel
theorem dX5_init_91 : decode cX5_init 91 = .ok (.putfield 42, 3) := by decide +kernel
theorem dX5_init_94 : decode cX5_init 94 = .ok (.aload_n 0, 1) := by decide +kernel
theorem dX5_init_95 : decode cX5_init 95 = .ok (.sipush 288, 3) := by decide +kernel
theorem dX5_init_98 : decode cX5_init 98 = .ok (.newarray .int, 2) := by decide +kernel
theorem dX5_init_100 : decode cX5_init 100 = .ok (.putfield 45, 3) := by decide +kernel
theorem dX5_init_103 : decode cX5_init 103 = .ok (.aload_n 0, 1) := by decide +kernel
theorem dX5_init_104 : decode cX5_init 104 = .ok (.sipush 1536, 3) := by decide +kernel
theorem dX5_init_107 : decode cX5_init 107 = .ok (.newarray .boolean, 2) := by decide +kernel
theorem dX5_init_109 : decode cX5_init 109 = .ok (.putfield 48, 3) := by decide +kernel
theorem dX5_init_112 : decode cX5_init 112 = .ok (.aload_n 0, 1) := by decide +kernel
theorem dX5_init_113 : decode cX5_init 113 = .ok (.sipush 1200, 3) := by decide +kernel
theorem dX5_init_116 : decode cX5_init 116 = .ok (.newarray .int, 2) := by decide +kernel
theorem dX5_init_118 : decode cX5_init 118 = .ok (.putfield 51, 3) := by decide +kernel
theorem dX5_init_121 : decode cX5_init 121 = .ok (.aload_n 0, 1) := by decide +kernel
theorem dX5_init_122 : decode cX5_init 122 = .ok (.bipush 6, 2) := by decide +kernel
theorem dX5_init_124 : decode cX5_init 124 = .ok (.newarray .int, 2) := by decide +kernel
theorem dX5_init_126 : decode cX5_init 126 = .ok (.putfield 54, 3) := by decide +kernel
theorem dX5_init_129 : decode cX5_init 129 = .ok (.aload_n 0, 1) := by decide +kernel
theorem dX5_init_130 : decode cX5_init 130 = .ok (.bipush 6, 2) := by decide +kernel
theorem dX5_init_132 : decode cX5_init 132 = .ok (.newarray .int, 2) := by decide +kernel
theorem dX5_init_134 : decode cX5_init 134 = .ok (.putfield 57, 3) := by decide +kernel
theorem dX5_init_137 : decode cX5_init 137 = .ok (.aload_n 0, 1) := by decide +kernel
theorem dX5_init_138 : decode cX5_init 138 = .ok (.bipush 64, 2) := by decide +kernel
theorem dX5_init_140 : decode cX5_init 140 = .ok (.newarray .boolean, 2) := by decide +kernel
theorem dX5_init_142 : decode cX5_init 142 = .ok (.putfield 60, 3) := by decide +kernel
theorem dX5_init_145 : decode cX5_init 145 = .ok (.aload_n 0, 1) := by decide +kernel
theorem dX5_init_146 : decode cX5_init 146 = .ok (.bipush 64, 2) := by decide +kernel
theorem dX5_init_148 : decode cX5_init 148 = .ok (.newarray .boolean, 2) := by decide +kernel
theorem dX5_init_150 : decode cX5_init 150 = .ok (.putfield 63, 3) := by decide +kernel
theorem dX5_init_153 : decode cX5_init 153 = .ok (.aload_n 0, 1) := by decide +kernel
theorem dX5_init_154 : decode cX5_init 154 = .ok (.iconst 5, 1) := by decide +kernel
theorem dX5_init_155 : decode cX5_init 155 = .ok (.newarray .int, 2) := by decide +kernel
theorem dX5_init_157 : decode cX5_init 157 = .ok (.putfield 66, 3) := by decide +kernel
theorem dX5_init_160 : decode cX5_init 160 = .ok (.aload_n 0, 1) := by decide +kernel
theorem dX5_init_161 : decode cX5_init 161 = .ok (.invokevirtual 69, 3) := by decide +kernel
theorem dX5_init_164 : decode cX5_init 164 = .ok (.return_, 1) := by decide +kernel
theorem dX5_forgets_0 : decode cX5_forgets 0 = .ok (.iconst 0, 1) := by decide +kernel
theorem dX5_forgets_1 : decode cX5_forgets 1 = .ok (.istore_n 1, 1) := by decide +kernel
theorem dX5_forgets_2 : decode cX5_forgets 2 = .ok (.iload_n 1, 1) := by decide +kernel
theorem dX5_forgets_3 : decode cX5_forgets 3 = .ok (.iconst 5, 1) := by decide +kernel
theorem dX5_forgets_4 : decode cX5_forgets 4 = .ok (.if_icmp .ge 16, 3) := by decide +kernel
theorem dX5_forgets_7 : decode cX5_forgets 7 = .ok (.aload_n 0, 1) := by decide +kernel
theorem dX5_forgets_8 : decode cX5_forgets 8 = .ok (.getfield 66, 3) := by decide +kernel
theorem dX5_forgets_11 : decode cX5_forgets 11 = .ok (.iload_n 1, 1) := by decide +kernel
theorem dX5_forgets_12 : decode cX5_forgets 12 = .ok (.iconst (-1), 1) := by decide +kernel
theorem dX5_forgets_13 : decode cX5_forgets 13 = .ok (.iastore, 1) := by decide +kernel
theorem dX5_forgets_14 : decode cX5_forgets 14 = .ok (.iinc 1 1, 3) := by decide +kernel
theorem dX5_forgets_17 : decode cX5_forgets 17 = .ok (.goto (-15), 3) := by decide +kernel
theorem dX5_forgets_20 : decode cX5_forgets 20 = .ok (.return_, 1) := by decide +kernel
theorem dX5_thrown_0 : decode cX5_thrown 0 = .ok (.aload_n 0, 1) := by decide +kernel
theorem dX5_thrown_1 : decode cX5_thrown 1 = .ok (.getfield 72, 3) := by decide +kernel
theorem dX5_thrown_4 : decode cX5_thrown 4 = .ok (.ireturn, 1) := by decide +kernel
theorem dX5_in_0 : decode cX5_in 0 = .ok (.iload_n 0, 1) := by decide +kernel
theorem dX5_in_1 : decode cX5_in 1 = .ok (.iload_n 1, 1) := by decide +kernel
theorem dX5_in_2 : decode cX5_in 2 = .ok (.if_icmp .lt 12, 3) := by decide +kernel
theorem dX5_in_5 : decode cX5_in 5 = .ok (.iload_n 0, 1) := by decide +kernel
theorem dX5_in_6 : decode cX5_in 6 = .ok (.iload_n 2, 1) := by decide +kernel
theorem dX5_in_7 : decode cX5_in 7 = .ok (.if_icmp .gt 7, 3) := by decide +kernel
theorem dX5_in_10 : decode cX5_in 10 = .ok (.iconst 1, 1) := by decide +kernel
theorem dX5_in_11 : decode cX5_in 11 = .ok (.goto 4, 3) := by decide +kernel
theorem dX5_in_14 : decode cX5_in 14 = .ok (.iconst 0, 1) := by decide +kernel
theorem dX5_in_15 : decode cX5_in 15 = .ok (.ireturn, 1) := by decide +kernel
theorem dX5_isPart_0 : decode cX5_isPart 0 = .ok (.iload_n 1, 1) := by decide +kernel
theorem dX5_isPart_1 : decode cX5_isPart 1 = .ok (.iconst 0, 1) := by decide +kernel
theorem dX5_isPart_2 : decode cX5_isPart 2 = .ok (.aload_n 0, 1) := by decide +kernel
theorem dX5_isPart_3 : decode cX5_isPart 3 = .ok (.getfield 75, 3) := by decide +kernel
theorem dX5_isPart_6 : decode cX5_isPart 6 = .ok (.iconst 1, 1) := by decide +kernel
theorem dX5_isPart_7 : decode cX5_isPart 7 = .ok (.isub, 1) := by decide +kernel
theorem dX5_isPart_8 : decode cX5_isPart 8 = .ok (.invokestatic 78, 3) := by decide +kernel
theorem dX5_isPart_11 : decode cX5_isPart 11 = .ok (.ireturn, 1) := by decide +kernel
theorem dX5_isReady_0 : decode cX5_isReady 0 = .ok (.aload_n 0, 1) := by decide +kernel
theorem dX5_isReady_1 : decode cX5_isReady 1 = .ok (.getfield 36, 3) := by decide +kernel
theorem dX5_isReady_4 : decode cX5_isReady 4 = .ok (.iload_n 1, 1) := by decide +kernel
theorem dX5_isReady_5 : decode cX5_isReady 5 = .ok (.iaload, 1) := by decide +kernel
theorem dX5_isReady_6 : decode cX5_isReady 6 = .ok (.aload_n 0, 1) := by decide +kernel
theorem dX5_isReady_7 : decode cX5_isReady 7 = .ok (.getfield 24, 3) := by decide +kernel
theorem dX5_isReady_10 : decode cX5_isReady 10 = .ok (.iload_n 1, 1) := by decide +kernel
theorem dX5_isReady_11 : decode cX5_isReady 11 = .ok (.iaload, 1) := by decide +kernel
theorem dX5_isReady_12 : decode cX5_isReady 12 = .ok (.if_icmp .ge 7, 3) := by decide +kernel
theorem dX5_isReady_15 : decode cX5_isReady 15 = .ok (.iconst 1, 1) := by decide +kernel
theorem dX5_isReady_16 : decode cX5_isReady 16 = .ok (.goto 4, 3) := by decide +kernel
theorem dX5_isReady_19 : decode cX5_isReady 19 = .ok (.iconst 0, 1) := by decide +kernel
theorem dX5_isReady_20 : decode cX5_isReady 20 = .ok (.ireturn, 1) := by decide +kernel
theorem dX5_isDone_0 : decode cX5_isDone 0 = .ok (.aload_n 0, 1) := by decide +kernel
theorem dX5_isDone_1 : decode cX5_isDone 1 = .ok (.getfield 27, 3) := by decide +kernel
theorem dX5_isDone_4 : decode cX5_isDone 4 = .ok (.iload_n 1, 1) := by decide +kernel
theorem dX5_isDone_5 : decode cX5_isDone 5 = .ok (.baload, 1) := by decide +kernel
theorem dX5_isDone_6 : decode cX5_isDone 6 = .ok (.ifCond .eq 15, 3) := by decide +kernel
theorem dX5_isDone_9 : decode cX5_isDone 9 = .ok (.aload_n 0, 1) := by decide +kernel
theorem dX5_isDone_10 : decode cX5_isDone 10 = .ok (.iload_n 1, 1) := by decide +kernel
theorem dX5_isDone_11 : decode cX5_isDone 11 = .ok (.invokevirtual 82, 3) := by decide +kernel
theorem dX5_isDone_14 : decode cX5_isDone 14 = .ok (.ifCond .ne 7, 3) := by decide +kernel
theorem dX5_isDone_17 : decode cX5_isDone 17 = .ok (.iconst 1, 1) := by decide +kernel
theorem dX5_isDone_18 : decode cX5_isDone 18 = .ok (.goto 4, 3) := by decide +kernel
theorem dX5_isDone_21 : decode cX5_isDone 21 = .ok (.iconst 0, 1) := by decide +kernel
theorem dX5_isDone_22 : decode cX5_isDone 22 = .ok (.ireturn, 1) := by decide +kernel
theorem dX5_reader_0 : decode cX5_reader 0 = .ok (.aload_n 0, 1) := by decide +kernel
theorem dX5_reader_1 : decode cX5_reader 1 = .ok (.getfield 36, 3) := by decide +kernel
theorem dX5_reader_4 : decode cX5_reader 4 = .ok (.bipush 36, 2) := by decide +kernel
theorem dX5_reader_6 : decode cX5_reader 6 = .ok (.iload_n 1, 1) := by decide +kernel
theorem dX5_reader_7 : decode cX5_reader 7 = .ok (.iadd, 1) := by decide +kernel
theorem dX5_reader_8 : decode cX5_reader 8 = .ok (.iaload, 1) := by decide +kernel
theorem dX5_reader_9 : decode cX5_reader 9 = .ok (.ireturn, 1) := by decide +kernel
theorem dX5_fresh_0 : decode cX5_fresh 0 = .ok (.aload_n 0, 1) := by decide +kernel
theorem dX5_fresh_1 : decode cX5_fresh 1 = .ok (.getfield 36, 3) := by decide +kernel
theorem dX5_fresh_4 : decode cX5_fresh 4 = .ok (.iload_n 1, 1) := by decide +kernel
theorem dX5_fresh_5 : decode cX5_fresh 5 = .ok (.iconst 0, 1) := by decide +kernel
theorem dX5_fresh_6 : decode cX5_fresh 6 = .ok (.iastore, 1) := by decide +kernel
theorem dX5_fresh_7 : decode cX5_fresh 7 = .ok (.aload_n 0, 1) := by decide +kernel
theorem dX5_fresh_8 : decode cX5_fresh 8 = .ok (.getfield 36, 3) := by decide +kernel
theorem dX5_fresh_11 : decode cX5_fresh 11 = .ok (.bipush 12, 2) := by decide +kernel
theorem dX5_fresh_13 : decode cX5_fresh 13 = .ok (.iload_n 1, 1) := by decide +kernel
theorem dX5_fresh_14 : decode cX5_fresh 14 = .ok (.iadd, 1) := by decide +kernel
theorem dX5_fresh_15 : decode cX5_fresh 15 = .ok (.iconst (-1), 1) := by decide +kernel
theorem dX5_fresh_16 : decode cX5_fresh 16 = .ok (.iastore, 1) := by decide +kernel
theorem dX5_fresh_17 : decode cX5_fresh 17 = .ok (.aload_n 0, 1) := by decide +kernel
theorem dX5_fresh_18 : decode cX5_fresh 18 = .ok (.getfield 36, 3) := by decide +kernel
theorem dX5_fresh_21 : decode cX5_fresh 21 = .ok (.bipush 24, 2) := by decide +kernel
theorem dX5_fresh_23 : decode cX5_fresh 23 = .ok (.iload_n 1, 1) := by decide +kernel
theorem dX5_fresh_24 : decode cX5_fresh 24 = .ok (.iadd, 1) := by decide +kernel
theorem dX5_fresh_25 : decode cX5_fresh 25 = .ok (.iconst 0, 1) := by decide +kernel
theorem dX5_fresh_26 : decode cX5_fresh 26 = .ok (.iastore, 1) := by decide +kernel
theorem dX5_fresh_27 : decode cX5_fresh 27 = .ok (.aload_n 0, 1) := by decide +kernel
theorem dX5_fresh_28 : decode cX5_fresh 28 = .ok (.getfield 36, 3) := by decide +kernel
theorem dX5_fresh_31 : decode cX5_fresh 31 = .ok (.bipush 36, 2) := by decide +kernel
theorem dX5_fresh_33 : decode cX5_fresh 33 = .ok (.iload_n 1, 1) := by decide +kernel
theorem dX5_fresh_34 : decode cX5_fresh 34 = .ok (.iadd, 1) := by decide +kernel
theorem dX5_fresh_35 : decode cX5_fresh 35 = .ok (.iconst (-1), 1) := by decide +kernel
theorem dX5_fresh_36 : decode cX5_fresh 36 = .ok (.iastore, 1) := by decide +kernel
theorem dX5_fresh_37 : decode cX5_fresh 37 = .ok (.return_, 1) := by decide +kernel
theorem dX5_adds_0 : decode cX5_adds 0 = .ok (.aload_n 0, 1) := by decide +kernel
theorem dX5_adds_1 : decode cX5_adds 1 = .ok (.getfield 24, 3) := by decide +kernel
theorem dX5_adds_4 : decode cX5_adds 4 = .ok (.aload_n 0, 1) := by decide +kernel
theorem dX5_adds_5 : decode cX5_adds 5 = .ok (.getfield 75, 3) := by decide +kernel
theorem dX5_adds_8 : decode cX5_adds 8 = .ok (.iconst 0, 1) := by decide +kernel
theorem dX5_adds_9 : decode cX5_adds 9 = .ok (.iastore, 1) := by decide +kernel
theorem dX5_adds_10 : decode cX5_adds 10 = .ok (.aload_n 0, 1) := by decide +kernel
theorem dX5_adds_11 : decode cX5_adds 11 = .ok (.getfield 27, 3) := by decide +kernel
theorem dX5_adds_14 : decode cX5_adds 14 = .ok (.aload_n 0, 1) := by decide +kernel
theorem dX5_adds_15 : decode cX5_adds 15 = .ok (.getfield 75, 3) := by decide +kernel
theorem dX5_adds_18 : decode cX5_adds 18 = .ok (.iconst 0, 1) := by decide +kernel
theorem dX5_adds_19 : decode cX5_adds 19 = .ok (.bastore, 1) := by decide +kernel
theorem dX5_adds_20 : decode cX5_adds 20 = .ok (.aload_n 0, 1) := by decide +kernel
theorem dX5_adds_21 : decode cX5_adds 21 = .ok (.getfield 30, 3) := by decide +kernel
theorem dX5_adds_24 : decode cX5_adds 24 = .ok (.aload_n 0, 1) := by decide +kernel
theorem dX5_adds_25 : decode cX5_adds 25 = .ok (.getfield 75, 3) := by decide +kernel
theorem dX5_adds_28 : decode cX5_adds 28 = .ok (.iload_n 1, 1) := by decide +kernel
theorem dX5_adds_29 : decode cX5_adds 29 = .ok (.iastore, 1) := by decide +kernel
theorem dX5_adds_30 : decode cX5_adds 30 = .ok (.aload_n 0, 1) := by decide +kernel
theorem dX5_adds_31 : decode cX5_adds 31 = .ok (.getfield 33, 3) := by decide +kernel
theorem dX5_adds_34 : decode cX5_adds 34 = .ok (.aload_n 0, 1) := by decide +kernel
theorem dX5_adds_35 : decode cX5_adds 35 = .ok (.getfield 75, 3) := by decide +kernel
theorem dX5_adds_38 : decode cX5_adds 38 = .ok (.iload_n 2, 1) := by decide +kernel
theorem dX5_adds_39 : decode cX5_adds 39 = .ok (.iastore, 1) := by decide +kernel
theorem dX5_adds_40 : decode cX5_adds 40 = .ok (.aload_n 0, 1) := by decide +kernel
theorem dX5_adds_41 : decode cX5_adds 41 = .ok (.aload_n 0, 1) := by decide +kernel
theorem dX5_adds_42 : decode cX5_adds 42 = .ok (.getfield 75, 3) := by decide +kernel
theorem dX5_adds_45 : decode cX5_adds 45 = .ok (.invokevirtual 86, 3) := by decide +kernel
theorem dX5_adds_48 : decode cX5_adds 48 = .ok (.aload_n 0, 1) := by decide +kernel
theorem dX5_adds_49 : decode cX5_adds 49 = .ok (.dup, 1) := by decide +kernel
theorem dX5_adds_50 : decode cX5_adds 50 = .ok (.getfield 75, 3) := by decide +kernel
theorem dX5_adds_53 : decode cX5_adds 53 = .ok (.iconst 1, 1) := by decide +kernel
theorem dX5_adds_54 : decode cX5_adds 54 = .ok (.iadd, 1) := by decide +kernel
theorem dX5_adds_55 : decode cX5_adds 55 = .ok (.putfield 75, 3) := by decide +kernel
theorem dX5_adds_58 : decode cX5_adds 58 = .ok (.aload_n 0, 1) := by decide +kernel
theorem dX5_adds_59 : decode cX5_adds 59 = .ok (.getfield 75, 3) := by decide +kernel
theorem dX5_adds_62 : decode cX5_adds 62 = .ok (.iconst 1, 1) := by decide +kernel
theorem dX5_adds_63 : decode cX5_adds 63 = .ok (.isub, 1) := by decide +kernel
theorem dX5_adds_64 : decode cX5_adds 64 = .ok (.ireturn, 1) := by decide +kernel
theorem dX5_part_0 : decode cX5_part 0 = .ok (.aload_n 0, 1) := by decide +kernel
theorem dX5_part_1 : decode cX5_part 1 = .ok (.iconst 0, 1) := by decide +kernel
theorem dX5_part_2 : decode cX5_part 2 = .ok (.putfield 72, 3) := by decide +kernel
theorem dX5_part_5 : decode cX5_part 5 = .ok (.iload_n 1, 1) := by decide +kernel
theorem dX5_part_6 : decode cX5_part 6 = .ok (.iconst 1, 1) := by decide +kernel
theorem dX5_part_7 : decode cX5_part 7 = .ok (.bipush 9, 2) := by decide +kernel
theorem dX5_part_9 : decode cX5_part 9 = .ok (.invokestatic 78, 3) := by decide +kernel
theorem dX5_part_12 : decode cX5_part 12 = .ok (.ifCond .ne 8, 3) := by decide +kernel
theorem dX5_part_15 : decode cX5_part 15 = .ok (.bipush (-12), 2) := by decide +kernel
theorem dX5_part_17 : decode cX5_part 17 = .ok (.goto 23, 3) := by decide +kernel
theorem dX5_part_20 : decode cX5_part 20 = .ok (.aload_n 0, 1) := by decide +kernel
theorem dX5_part_21 : decode cX5_part 21 = .ok (.getfield 75, 3) := by decide +kernel
theorem dX5_part_24 : decode cX5_part 24 = .ok (.bipush 12, 2) := by decide +kernel
theorem dX5_part_26 : decode cX5_part 26 = .ok (.if_icmp .ne 8, 3) := by decide +kernel
theorem dX5_part_29 : decode cX5_part 29 = .ok (.bipush (-14), 2) := by decide +kernel
theorem dX5_part_31 : decode cX5_part 31 = .ok (.goto 9, 3) := by decide +kernel
theorem dX5_part_34 : decode cX5_part 34 = .ok (.aload_n 0, 1) := by decide +kernel
theorem dX5_part_35 : decode cX5_part 35 = .ok (.iload_n 1, 1) := by decide +kernel
theorem dX5_part_36 : decode cX5_part 36 = .ok (.iconst (-1), 1) := by decide +kernel
theorem dX5_part_37 : decode cX5_part 37 = .ok (.invokevirtual 90, 3) := by decide +kernel
theorem dX5_part_40 : decode cX5_part 40 = .ok (.ireturn, 1) := by decide +kernel
theorem dX5_lays_0 : decode cX5_lays 0 = .ok (.bipush 40, 2) := by decide +kernel
theorem dX5_lays_2 : decode cX5_lays 2 = .ok (.iload_n 1, 1) := by decide +kernel
theorem dX5_lays_3 : decode cX5_lays 3 = .ok (.imul, 1) := by decide +kernel
theorem dX5_lays_4 : decode cX5_lays 4 = .ok (.aload_n 0, 1) := by decide +kernel
theorem dX5_lays_5 : decode cX5_lays 5 = .ok (.getfield 24, 3) := by decide +kernel
theorem dX5_lays_8 : decode cX5_lays 8 = .ok (.iload_n 1, 1) := by decide +kernel
theorem dX5_lays_9 : decode cX5_lays 9 = .ok (.iaload, 1) := by decide +kernel
theorem dX5_lays_10 : decode cX5_lays 10 = .ok (.iadd, 1) := by decide +kernel
theorem dX5_lays_11 : decode cX5_lays 11 = .ok (.istore 5, 2) := by decide +kernel
theorem dX5_lays_13 : decode cX5_lays 13 = .ok (.aload_n 0, 1) := by decide +kernel
theorem dX5_lays_14 : decode cX5_lays 14 = .ok (.getfield 13, 3) := by decide +kernel
theorem dX5_lays_17 : decode cX5_lays 17 = .ok (.iload 5, 2) := by decide +kernel
theorem dX5_lays_19 : decode cX5_lays 19 = .ok (.iload_n 2, 1) := by decide +kernel
theorem dX5_lays_20 : decode cX5_lays 20 = .ok (.iastore, 1) := by decide +kernel
theorem dX5_lays_21 : decode cX5_lays 21 = .ok (.aload_n 0, 1) := by decide +kernel
theorem dX5_lays_22 : decode cX5_lays 22 = .ok (.getfield 17, 3) := by decide +kernel
theorem dX5_lays_25 : decode cX5_lays 25 = .ok (.iload 5, 2) := by decide +kernel
theorem dX5_lays_27 : decode cX5_lays 27 = .ok (.iload_n 3, 1) := by decide +kernel
theorem dX5_lays_28 : decode cX5_lays 28 = .ok (.iastore, 1) := by decide +kernel
theorem dX5_lays_29 : decode cX5_lays 29 = .ok (.aload_n 0, 1) := by decide +kernel
theorem dX5_lays_30 : decode cX5_lays 30 = .ok (.getfield 20, 3) := by decide +kernel
theorem dX5_lays_33 : decode cX5_lays 33 = .ok (.iload 5, 2) := by decide +kernel
theorem dX5_lays_35 : decode cX5_lays 35 = .ok (.iload 4, 2) := by decide +kernel
theorem dX5_lays_37 : decode cX5_lays 37 = .ok (.bastore, 1) := by decide +kernel
theorem dX5_lays_38 : decode cX5_lays 38 = .ok (.aload_n 0, 1) := by decide +kernel
theorem dX5_lays_39 : decode cX5_lays 39 = .ok (.getfield 24, 3) := by decide +kernel
theorem dX5_lays_42 : decode cX5_lays 42 = .ok (.iload_n 1, 1) := by decide +kernel
theorem dX5_lays_43 : decode cX5_lays 43 = .ok (.dup2, 1) := by decide +kernel
theorem dX5_lays_44 : decode cX5_lays 44 = .ok (.iaload, 1) := by decide +kernel
theorem dX5_lays_45 : decode cX5_lays 45 = .ok (.iconst 1, 1) := by decide +kernel
theorem dX5_lays_46 : decode cX5_lays 46 = .ok (.iadd, 1) := by decide +kernel
theorem dX5_lays_47 : decode cX5_lays 47 = .ok (.iastore, 1) := by decide +kernel
theorem dX5_lays_48 : decode cX5_lays 48 = .ok (.return_, 1) := by decide +kernel
theorem dX5_row_0 : decode cX5_row 0 = .ok (.aload_n 0, 1) := by decide +kernel
theorem dX5_row_1 : decode cX5_row 1 = .ok (.iconst 0, 1) := by decide +kernel
theorem dX5_row_2 : decode cX5_row 2 = .ok (.putfield 72, 3) := by decide +kernel
theorem dX5_row_5 : decode cX5_row 5 = .ok (.aload_n 0, 1) := by decide +kernel
theorem dX5_row_6 : decode cX5_row 6 = .ok (.iload_n 1, 1) := by decide +kernel
theorem dX5_row_7 : decode cX5_row 7 = .ok (.invokevirtual 94, 3) := by decide +kernel
theorem dX5_row_10 : decode cX5_row 10 = .ok (.ifCond .ne 6, 3) := by decide +kernel
theorem dX5_row_13 : decode cX5_row 13 = .ok (.bipush (-11), 2) := by decide +kernel
theorem dX5_row_15 : decode cX5_row 15 = .ok (.ireturn, 1) := by decide +kernel
theorem dX5_row_16 : decode cX5_row 16 = .ok (.iload_n 2, 1) := by decide +kernel
theorem dX5_row_17 : decode cX5_row 17 = .ok (.iconst 0, 1) := by decide +kernel
theorem dX5_row_18 : decode cX5_row 18 = .ok (.sipush 255, 3) := by decide +kernel
theorem dX5_row_21 : decode cX5_row 21 = .ok (.invokestatic 78, 3) := by decide +kernel
theorem dX5_row_24 : decode cX5_row 24 = .ok (.ifCond .eq 13, 3) := by decide +kernel
theorem dX5_row_27 : decode cX5_row 27 = .ok (.iload_n 3, 1) := by decide +kernel
theorem dX5_row_28 : decode cX5_row 28 = .ok (.iconst 0, 1) := by decide +kernel
theorem dX5_row_29 : decode cX5_row 29 = .ok (.ldc 97, 2) := by decide +kernel
theorem dX5_row_31 : decode cX5_row 31 = .ok (.invokestatic 78, 3) := by decide +kernel
theorem dX5_row_34 : decode cX5_row 34 = .ok (.ifCond .ne 6, 3) := by decide +kernel
theorem dX5_row_37 : decode cX5_row 37 = .ok (.bipush (-12), 2) := by decide +kernel
theorem dX5_row_39 : decode cX5_row 39 = .ok (.ireturn, 1) := by decide +kernel
theorem dX5_row_40 : decode cX5_row 40 = .ok (.aload_n 0, 1) := by decide +kernel
theorem dX5_row_41 : decode cX5_row 41 = .ok (.getfield 27, 3) := by decide +kernel
theorem dX5_row_44 : decode cX5_row 44 = .ok (.iload_n 1, 1) := by decide +kernel
theorem dX5_row_45 : decode cX5_row 45 = .ok (.baload, 1) := by decide +kernel
theorem dX5_row_46 : decode cX5_row 46 = .ok (.ifCond .eq 6, 3) := by decide +kernel
theorem dX5_row_49 : decode cX5_row 49 = .ok (.bipush (-13), 2) := by decide +kernel
theorem dX5_row_51 : decode cX5_row 51 = .ok (.ireturn, 1) := by decide +kernel
theorem dX5_row_52 : decode cX5_row 52 = .ok (.aload_n 0, 1) := by decide +kernel
theorem dX5_row_53 : decode cX5_row 53 = .ok (.getfield 24, 3) := by decide +kernel
theorem dX5_row_56 : decode cX5_row 56 = .ok (.iload_n 1, 1) := by decide +kernel
theorem dX5_row_57 : decode cX5_row 57 = .ok (.iaload, 1) := by decide +kernel
theorem dX5_row_58 : decode cX5_row 58 = .ok (.bipush 40, 2) := by decide +kernel
theorem dX5_row_60 : decode cX5_row 60 = .ok (.if_icmp .ne 6, 3) := by decide +kernel
theorem dX5_row_63 : decode cX5_row 63 = .ok (.bipush (-14), 2) := by decide +kernel
theorem dX5_row_65 : decode cX5_row 65 = .ok (.ireturn, 1) := by decide +kernel
theorem dX5_row_66 : decode cX5_row 66 = .ok (.aload_n 0, 1) := by decide +kernel
theorem dX5_row_67 : decode cX5_row 67 = .ok (.iload_n 1, 1) := by decide +kernel
theorem dX5_row_68 : decode cX5_row 68 = .ok (.iload_n 2, 1) := by decide +kernel
theorem dX5_row_69 : decode cX5_row 69 = .ok (.iload_n 3, 1) := by decide +kernel
theorem dX5_row_70 : decode cX5_row 70 = .ok (.iload 4, 2) := by decide +kernel
theorem dX5_row_72 : decode cX5_row 72 = .ok (.invokevirtual 98, 3) := by decide +kernel
theorem dX5_row_75 : decode cX5_row 75 = .ok (.aload_n 0, 1) := by decide +kernel
theorem dX5_row_76 : decode cX5_row 76 = .ok (.getfield 24, 3) := by decide +kernel
theorem dX5_row_79 : decode cX5_row 79 = .ok (.iload_n 1, 1) := by decide +kernel
theorem dX5_row_80 : decode cX5_row 80 = .ok (.iaload, 1) := by decide +kernel
theorem dX5_row_81 : decode cX5_row 81 = .ok (.ireturn, 1) := by decide +kernel
theorem dX5_end_0 : decode cX5_end 0 = .ok (.aload_n 0, 1) := by decide +kernel
theorem dX5_end_1 : decode cX5_end 1 = .ok (.iconst 0, 1) := by decide +kernel
theorem dX5_end_2 : decode cX5_end 2 = .ok (.putfield 72, 3) := by decide +kernel
theorem dX5_end_5 : decode cX5_end 5 = .ok (.aload_n 0, 1) := by decide +kernel
theorem dX5_end_6 : decode cX5_end 6 = .ok (.iload_n 1, 1) := by decide +kernel
theorem dX5_end_7 : decode cX5_end 7 = .ok (.invokevirtual 94, 3) := by decide +kernel
theorem dX5_end_10 : decode cX5_end 10 = .ok (.ifCond .ne 6, 3) := by decide +kernel
theorem dX5_end_13 : decode cX5_end 13 = .ok (.bipush (-11), 2) := by decide +kernel
theorem dX5_end_15 : decode cX5_end 15 = .ok (.ireturn, 1) := by decide +kernel
theorem dX5_end_16 : decode cX5_end 16 = .ok (.aload_n 0, 1) := by decide +kernel
theorem dX5_end_17 : decode cX5_end 17 = .ok (.getfield 27, 3) := by decide +kernel
theorem dX5_end_20 : decode cX5_end 20 = .ok (.iload_n 1, 1) := by decide +kernel
theorem dX5_end_21 : decode cX5_end 21 = .ok (.baload, 1) := by decide +kernel
theorem dX5_end_22 : decode cX5_end 22 = .ok (.ifCond .eq 6, 3) := by decide +kernel
theorem dX5_end_25 : decode cX5_end 25 = .ok (.bipush (-13), 2) := by decide +kernel
theorem dX5_end_27 : decode cX5_end 27 = .ok (.ireturn, 1) := by decide +kernel
theorem dX5_end_28 : decode cX5_end 28 = .ok (.aload_n 0, 1) := by decide +kernel
theorem dX5_end_29 : decode cX5_end 29 = .ok (.getfield 27, 3) := by decide +kernel
theorem dX5_end_32 : decode cX5_end 32 = .ok (.iload_n 1, 1) := by decide +kernel
theorem dX5_end_33 : decode cX5_end 33 = .ok (.iconst 1, 1) := by decide +kernel
theorem dX5_end_34 : decode cX5_end 34 = .ok (.bastore, 1) := by decide +kernel
theorem dX5_end_35 : decode cX5_end 35 = .ok (.aload_n 0, 1) := by decide +kernel
theorem dX5_end_36 : decode cX5_end 36 = .ok (.getfield 24, 3) := by decide +kernel
theorem dX5_end_39 : decode cX5_end 39 = .ok (.iload_n 1, 1) := by decide +kernel
theorem dX5_end_40 : decode cX5_end 40 = .ok (.iaload, 1) := by decide +kernel
theorem dX5_end_41 : decode cX5_end 41 = .ok (.ireturn, 1) := by decide +kernel
theorem dX5_split_0 : decode cX5_split 0 = .ok (.aload_n 0, 1) := by decide +kernel
theorem dX5_split_1 : decode cX5_split 1 = .ok (.iconst 0, 1) := by decide +kernel
theorem dX5_split_2 : decode cX5_split 2 = .ok (.putfield 72, 3) := by decide +kernel
theorem dX5_split_5 : decode cX5_split 5 = .ok (.aload_n 0, 1) := by decide +kernel
theorem dX5_split_6 : decode cX5_split 6 = .ok (.iload_n 1, 1) := by decide +kernel
theorem dX5_split_7 : decode cX5_split 7 = .ok (.invokevirtual 94, 3) := by decide +kernel
theorem dX5_split_10 : decode cX5_split 10 = .ok (.ifCond .eq 19, 3) := by decide +kernel
theorem dX5_split_13 : decode cX5_split 13 = .ok (.iload_n 2, 1) := by decide +kernel
theorem dX5_split_14 : decode cX5_split 14 = .ok (.iconst 0, 1) := by decide +kernel
theorem dX5_split_15 : decode cX5_split 15 = .ok (.aload_n 0, 1) := by decide +kernel
theorem dX5_split_16 : decode cX5_split 16 = .ok (.getfield 24, 3) := by decide +kernel
theorem dX5_split_19 : decode cX5_split 19 = .ok (.iload_n 1, 1) := by decide +kernel
theorem dX5_split_20 : decode cX5_split 20 = .ok (.iaload, 1) := by decide +kernel
theorem dX5_split_21 : decode cX5_split 21 = .ok (.iconst 1, 1) := by decide +kernel
theorem dX5_split_22 : decode cX5_split 22 = .ok (.isub, 1) := by decide +kernel
theorem dX5_split_23 : decode cX5_split 23 = .ok (.invokestatic 78, 3) := by decide +kernel
theorem dX5_split_26 : decode cX5_split 26 = .ok (.ifCond .ne 6, 3) := by decide +kernel
theorem dX5_split_29 : decode cX5_split 29 = .ok (.bipush (-11), 2) := by decide +kernel
theorem dX5_split_31 : decode cX5_split 31 = .ok (.ireturn, 1) := by decide +kernel
theorem dX5_split_32 : decode cX5_split 32 = .ok (.iload_n 2, 1) := by decide +kernel
theorem dX5_split_33 : decode cX5_split 33 = .ok (.ifCond .eq 13, 3) := by decide +kernel
theorem dX5_split_36 : decode cX5_split 36 = .ok (.iload_n 2, 1) := by decide +kernel
theorem dX5_split_37 : decode cX5_split 37 = .ok (.aload_n 0, 1) := by decide +kernel
theorem dX5_split_38 : decode cX5_split 38 = .ok (.getfield 36, 3) := by decide +kernel
theorem dX5_split_41 : decode cX5_split 41 = .ok (.iload_n 1, 1) := by decide +kernel
theorem dX5_split_42 : decode cX5_split 42 = .ok (.iaload, 1) := by decide +kernel
theorem dX5_split_43 : decode cX5_split 43 = .ok (.if_icmp .ge 6, 3) := by decide +kernel
theorem dX5_split_46 : decode cX5_split 46 = .ok (.bipush (-13), 2) := by decide +kernel
theorem dX5_split_48 : decode cX5_split 48 = .ok (.ireturn, 1) := by decide +kernel
theorem dX5_split_49 : decode cX5_split 49 = .ok (.aload_n 0, 1) := by decide +kernel
theorem dX5_split_50 : decode cX5_split 50 = .ok (.getfield 75, 3) := by decide +kernel
theorem dX5_split_53 : decode cX5_split 53 = .ok (.bipush 12, 2) := by decide +kernel
theorem dX5_split_55 : decode cX5_split 55 = .ok (.if_icmp .ne 6, 3) := by decide +kernel
theorem dX5_split_58 : decode cX5_split 58 = .ok (.bipush (-14), 2) := by decide +kernel
theorem dX5_split_60 : decode cX5_split 60 = .ok (.ireturn, 1) := by decide +kernel
theorem dX5_split_61 : decode cX5_split 61 = .ok (.aload_n 0, 1) := by decide +kernel
theorem dX5_split_62 : decode cX5_split 62 = .ok (.aload_n 0, 1) := by decide +kernel
theorem dX5_split_63 : decode cX5_split 63 = .ok (.getfield 30, 3) := by decide +kernel
theorem dX5_split_66 : decode cX5_split 66 = .ok (.iload_n 1, 1) := by decide +kernel
theorem dX5_split_67 : decode cX5_split 67 = .ok (.iaload, 1) := by decide +kernel
theorem dX5_split_68 : decode cX5_split 68 = .ok (.iload_n 1, 1) := by decide +kernel
theorem dX5_split_69 : decode cX5_split 69 = .ok (.invokevirtual 90, 3) := by decide +kernel
theorem dX5_split_72 : decode cX5_split 72 = .ok (.istore_n 3, 1) := by decide +kernel
theorem dX5_split_73 : decode cX5_split 73 = .ok (.iload_n 2, 1) := by decide +kernel
theorem dX5_split_74 : decode cX5_split 74 = .ok (.istore 4, 2) := by decide +kernel
theorem dX5_split_76 : decode cX5_split 76 = .ok (.iload 4, 2) := by decide +kernel
theorem dX5_split_78 : decode cX5_split 78 = .ok (.aload_n 0, 1) := by decide +kernel
theorem dX5_split_79 : decode cX5_split 79 = .ok (.getfield 24, 3) := by decide +kernel
theorem dX5_split_82 : decode cX5_split 82 = .ok (.iload_n 1, 1) := by decide +kernel
theorem dX5_split_83 : decode cX5_split 83 = .ok (.iaload, 1) := by decide +kernel
theorem dX5_split_84 : decode cX5_split 84 = .ok (.if_icmp .ge 50, 3) := by decide +kernel
theorem dX5_split_87 : decode cX5_split 87 = .ok (.aload_n 0, 1) := by decide +kernel
theorem dX5_split_88 : decode cX5_split 88 = .ok (.iload_n 3, 1) := by decide +kernel
theorem dX5_split_89 : decode cX5_split 89 = .ok (.aload_n 0, 1) := by decide +kernel
theorem dX5_split_90 : decode cX5_split 90 = .ok (.getfield 13, 3) := by decide +kernel
theorem dX5_split_93 : decode cX5_split 93 = .ok (.bipush 40, 2) := by decide +kernel
theorem dX5_split_95 : decode cX5_split 95 = .ok (.iload_n 1, 1) := by decide +kernel
theorem dX5_split_96 : decode cX5_split 96 = .ok (.imul, 1) := by decide +kernel
theorem dX5_split_97 : decode cX5_split 97 = .ok (.iload 4, 2) := by decide +kernel
theorem dX5_split_99 : decode cX5_split 99 = .ok (.iadd, 1) := by decide +kernel
theorem dX5_split_100 : decode cX5_split 100 = .ok (.iaload, 1) := by decide +kernel
theorem dX5_split_101 : decode cX5_split 101 = .ok (.aload_n 0, 1) := by decide +kernel
theorem dX5_split_102 : decode cX5_split 102 = .ok (.getfield 17, 3) := by decide +kernel
theorem dX5_split_105 : decode cX5_split 105 = .ok (.bipush 40, 2) := by decide +kernel
theorem dX5_split_107 : decode cX5_split 107 = .ok (.iload_n 1, 1) := by decide +kernel
theorem dX5_split_108 : decode cX5_split 108 = .ok (.imul, 1) := by decide +kernel
theorem dX5_split_109 : decode cX5_split 109 = .ok (.iload 4, 2) := by decide +kernel
theorem dX5_split_111 : decode cX5_split 111 = .ok (.iadd, 1) := by decide +kernel
theorem dX5_split_112 : decode cX5_split 112 = .ok (.iaload, 1) := by decide +kernel
theorem dX5_split_113 : decode cX5_split 113 = .ok (.aload_n 0, 1) := by decide +kernel
theorem dX5_split_114 : decode cX5_split 114 = .ok (.getfield 20, 3) := by decide +kernel
theorem dX5_split_117 : decode cX5_split 117 = .ok (.bipush 40, 2) := by decide +kernel
theorem dX5_split_119 : decode cX5_split 119 = .ok (.iload_n 1, 1) := by decide +kernel
theorem dX5_split_120 : decode cX5_split 120 = .ok (.imul, 1) := by decide +kernel
theorem dX5_split_121 : decode cX5_split 121 = .ok (.iload 4, 2) := by decide +kernel
theorem dX5_split_123 : decode cX5_split 123 = .ok (.iadd, 1) := by decide +kernel
theorem dX5_split_124 : decode cX5_split 124 = .ok (.baload, 1) := by decide +kernel
theorem dX5_split_125 : decode cX5_split 125 = .ok (.invokevirtual 98, 3) := by decide +kernel
theorem dX5_split_128 : decode cX5_split 128 = .ok (.iinc 4 1, 3) := by decide +kernel
theorem dX5_split_131 : decode cX5_split 131 = .ok (.goto (-55), 3) := by decide +kernel
theorem dX5_split_134 : decode cX5_split 134 = .ok (.aload_n 0, 1) := by decide +kernel
theorem dX5_split_135 : decode cX5_split 135 = .ok (.getfield 27, 3) := by decide +kernel
theorem dX5_split_138 : decode cX5_split 138 = .ok (.iload_n 3, 1) := by decide +kernel
theorem dX5_split_139 : decode cX5_split 139 = .ok (.aload_n 0, 1) := by decide +kernel
theorem dX5_split_140 : decode cX5_split 140 = .ok (.getfield 27, 3) := by decide +kernel
theorem dX5_split_143 : decode cX5_split 143 = .ok (.iload_n 1, 1) := by decide +kernel
theorem dX5_split_144 : decode cX5_split 144 = .ok (.baload, 1) := by decide +kernel
theorem dX5_split_145 : decode cX5_split 145 = .ok (.bastore, 1) := by decide +kernel
theorem dX5_split_146 : decode cX5_split 146 = .ok (.aload_n 0, 1) := by decide +kernel
theorem dX5_split_147 : decode cX5_split 147 = .ok (.getfield 24, 3) := by decide +kernel
theorem dX5_split_150 : decode cX5_split 150 = .ok (.iload_n 1, 1) := by decide +kernel
theorem dX5_split_151 : decode cX5_split 151 = .ok (.iload_n 2, 1) := by decide +kernel
theorem dX5_split_152 : decode cX5_split 152 = .ok (.iastore, 1) := by decide +kernel
theorem dX5_split_153 : decode cX5_split 153 = .ok (.aload_n 0, 1) := by decide +kernel
theorem dX5_split_154 : decode cX5_split 154 = .ok (.getfield 27, 3) := by decide +kernel
theorem dX5_split_157 : decode cX5_split 157 = .ok (.iload_n 1, 1) := by decide +kernel
theorem dX5_split_158 : decode cX5_split 158 = .ok (.iconst 1, 1) := by decide +kernel
theorem dX5_split_159 : decode cX5_split 159 = .ok (.bastore, 1) := by decide +kernel
theorem dX5_split_160 : decode cX5_split 160 = .ok (.iload_n 3, 1) := by decide +kernel
theorem dX5_split_161 : decode cX5_split 161 = .ok (.ireturn, 1) := by decide +kernel
theorem dX5_give_0 : decode cX5_give 0 = .ok (.aload_n 0, 1) := by decide +kernel
theorem dX5_give_1 : decode cX5_give 1 = .ok (.iconst 0, 1) := by decide +kernel
theorem dX5_give_2 : decode cX5_give 2 = .ok (.putfield 72, 3) := by decide +kernel
theorem dX5_give_5 : decode cX5_give 5 = .ok (.aload_n 0, 1) := by decide +kernel
theorem dX5_give_6 : decode cX5_give 6 = .ok (.iload_n 1, 1) := by decide +kernel
theorem dX5_give_7 : decode cX5_give 7 = .ok (.invokevirtual 94, 3) := by decide +kernel
theorem dX5_give_10 : decode cX5_give 10 = .ok (.ifCond .eq 22, 3) := by decide +kernel
theorem dX5_give_13 : decode cX5_give 13 = .ok (.iload_n 2, 1) := by decide +kernel
theorem dX5_give_14 : decode cX5_give 14 = .ok (.iconst (-1), 1) := by decide +kernel
theorem dX5_give_15 : decode cX5_give 15 = .ok (.if_icmp .eq 20, 3) := by decide +kernel
theorem dX5_give_18 : decode cX5_give 18 = .ok (.iload_n 2, 1) := by decide +kernel
theorem dX5_give_19 : decode cX5_give 19 = .ok (.iconst 0, 1) := by decide +kernel
theorem dX5_give_20 : decode cX5_give 20 = .ok (.aload_n 0, 1) := by decide +kernel
theorem dX5_give_21 : decode cX5_give 21 = .ok (.getfield 7, 3) := by decide +kernel
theorem dX5_give_24 : decode cX5_give 24 = .ok (.iconst 1, 1) := by decide +kernel
theorem dX5_give_25 : decode cX5_give 25 = .ok (.isub, 1) := by decide +kernel
theorem dX5_give_26 : decode cX5_give 26 = .ok (.invokestatic 78, 3) := by decide +kernel
theorem dX5_give_29 : decode cX5_give 29 = .ok (.ifCond .ne 6, 3) := by decide +kernel
theorem dX5_give_32 : decode cX5_give 32 = .ok (.bipush (-11), 2) := by decide +kernel
theorem dX5_give_34 : decode cX5_give 34 = .ok (.ireturn, 1) := by decide +kernel
theorem dX5_give_35 : decode cX5_give 35 = .ok (.aload_n 0, 1) := by decide +kernel
theorem dX5_give_36 : decode cX5_give 36 = .ok (.iload_n 1, 1) := by decide +kernel
theorem dX5_give_37 : decode cX5_give 37 = .ok (.invokevirtual 102, 3) := by decide +kernel
theorem dX5_give_40 : decode cX5_give 40 = .ok (.ifCond .eq 6, 3) := by decide +kernel
theorem dX5_give_43 : decode cX5_give 43 = .ok (.bipush (-13), 2) := by decide +kernel
theorem dX5_give_45 : decode cX5_give 45 = .ok (.ireturn, 1) := by decide +kernel
theorem dX5_give_46 : decode cX5_give 46 = .ok (.aload_n 0, 1) := by decide +kernel
theorem dX5_give_47 : decode cX5_give 47 = .ok (.iload_n 1, 1) := by decide +kernel
theorem dX5_give_48 : decode cX5_give 48 = .ok (.invokevirtual 105, 3) := by decide +kernel
theorem dX5_give_51 : decode cX5_give 51 = .ok (.istore_n 3, 1) := by decide +kernel
theorem dX5_give_52 : decode cX5_give 52 = .ok (.aload_n 0, 1) := by decide +kernel
theorem dX5_give_53 : decode cX5_give 53 = .ok (.getfield 36, 3) := by decide +kernel
theorem dX5_give_56 : decode cX5_give 56 = .ok (.bipush 36, 2) := by decide +kernel
theorem dX5_give_58 : decode cX5_give 58 = .ok (.iload_n 1, 1) := by decide +kernel
theorem dX5_give_59 : decode cX5_give 59 = .ok (.iadd, 1) := by decide +kernel
theorem dX5_give_60 : decode cX5_give 60 = .ok (.iload_n 2, 1) := by decide +kernel
theorem dX5_give_61 : decode cX5_give 61 = .ok (.iastore, 1) := by decide +kernel
theorem dX5_give_62 : decode cX5_give 62 = .ok (.iload_n 3, 1) := by decide +kernel
theorem dX5_give_63 : decode cX5_give 63 = .ok (.ireturn, 1) := by decide +kernel
theorem dX5_nextOf_0 : decode cX5_nextOf 0 = .ok (.iconst (-1), 1) := by decide +kernel
theorem dX5_nextOf_1 : decode cX5_nextOf 1 = .ok (.istore_n 2, 1) := by decide +kernel
theorem dX5_nextOf_2 : decode cX5_nextOf 2 = .ok (.iconst 0, 1) := by decide +kernel
theorem dX5_nextOf_3 : decode cX5_nextOf 3 = .ok (.istore_n 3, 1) := by decide +kernel
theorem dX5_nextOf_4 : decode cX5_nextOf 4 = .ok (.iconst 0, 1) := by decide +kernel
theorem dX5_nextOf_5 : decode cX5_nextOf 5 = .ok (.istore 4, 2) := by decide +kernel
theorem dX5_nextOf_7 : decode cX5_nextOf 7 = .ok (.iload 4, 2) := by decide +kernel
theorem dX5_nextOf_9 : decode cX5_nextOf 9 = .ok (.aload_n 0, 1) := by decide +kernel
theorem dX5_nextOf_10 : decode cX5_nextOf 10 = .ok (.getfield 75, 3) := by decide +kernel
theorem dX5_nextOf_13 : decode cX5_nextOf 13 = .ok (.if_icmp .ge 92, 3) := by decide +kernel
theorem dX5_nextOf_16 : decode cX5_nextOf 16 = .ok (.aload_n 0, 1) := by decide +kernel
theorem dX5_nextOf_17 : decode cX5_nextOf 17 = .ok (.iload 4, 2) := by decide +kernel
theorem dX5_nextOf_19 : decode cX5_nextOf 19 = .ok (.invokevirtual 105, 3) := by decide +kernel
theorem dX5_nextOf_22 : decode cX5_nextOf 22 = .ok (.iload_n 1, 1) := by decide +kernel
theorem dX5_nextOf_23 : decode cX5_nextOf 23 = .ok (.if_icmp .ne 76, 3) := by decide +kernel
theorem dX5_nextOf_26 : decode cX5_nextOf 26 = .ok (.aload_n 0, 1) := by decide +kernel
theorem dX5_nextOf_27 : decode cX5_nextOf 27 = .ok (.iload 4, 2) := by decide +kernel
theorem dX5_nextOf_29 : decode cX5_nextOf 29 = .ok (.invokevirtual 82, 3) := by decide +kernel
theorem dX5_nextOf_32 : decode cX5_nextOf 32 = .ok (.ifCond .eq 67, 3) := by decide +kernel
theorem dX5_nextOf_35 : decode cX5_nextOf 35 = .ok (.aload_n 0, 1) := by decide +kernel
theorem dX5_nextOf_36 : decode cX5_nextOf 36 = .ok (.getfield 36, 3) := by decide +kernel
theorem dX5_nextOf_39 : decode cX5_nextOf 39 = .ok (.bipush 24, 2) := by decide +kernel
theorem dX5_nextOf_41 : decode cX5_nextOf 41 = .ok (.iload 4, 2) := by decide +kernel
theorem dX5_nextOf_43 : decode cX5_nextOf 43 = .ok (.iadd, 1) := by decide +kernel
theorem dX5_nextOf_44 : decode cX5_nextOf 44 = .ok (.dup2, 1) := by decide +kernel
theorem dX5_nextOf_45 : decode cX5_nextOf 45 = .ok (.iaload, 1) := by decide +kernel
theorem dX5_nextOf_46 : decode cX5_nextOf 46 = .ok (.aload_n 0, 1) := by decide +kernel
theorem dX5_nextOf_47 : decode cX5_nextOf 47 = .ok (.getfield 30, 3) := by decide +kernel
theorem dX5_nextOf_50 : decode cX5_nextOf 50 = .ok (.iload 4, 2) := by decide +kernel
theorem dX5_nextOf_52 : decode cX5_nextOf 52 = .ok (.iaload, 1) := by decide +kernel
theorem dX5_nextOf_53 : decode cX5_nextOf 53 = .ok (.iadd, 1) := by decide +kernel
theorem dX5_nextOf_54 : decode cX5_nextOf 54 = .ok (.iastore, 1) := by decide +kernel
theorem dX5_nextOf_55 : decode cX5_nextOf 55 = .ok (.iload_n 3, 1) := by decide +kernel
theorem dX5_nextOf_56 : decode cX5_nextOf 56 = .ok (.aload_n 0, 1) := by decide +kernel
theorem dX5_nextOf_57 : decode cX5_nextOf 57 = .ok (.getfield 30, 3) := by decide +kernel
theorem dX5_nextOf_60 : decode cX5_nextOf 60 = .ok (.iload 4, 2) := by decide +kernel
theorem dX5_nextOf_62 : decode cX5_nextOf 62 = .ok (.iaload, 1) := by decide +kernel
theorem dX5_nextOf_63 : decode cX5_nextOf 63 = .ok (.iadd, 1) := by decide +kernel
theorem dX5_nextOf_64 : decode cX5_nextOf 64 = .ok (.istore_n 3, 1) := by decide +kernel
theorem dX5_nextOf_65 : decode cX5_nextOf 65 = .ok (.iload_n 2, 1) := by decide +kernel
theorem dX5_nextOf_66 : decode cX5_nextOf 66 = .ok (.iconst (-1), 1) := by decide +kernel
theorem dX5_nextOf_67 : decode cX5_nextOf 67 = .ok (.if_icmp .eq 25, 3) := by decide +kernel
theorem dX5_nextOf_70 : decode cX5_nextOf 70 = .ok (.aload_n 0, 1) := by decide +kernel
theorem dX5_nextOf_71 : decode cX5_nextOf 71 = .ok (.getfield 36, 3) := by decide +kernel
theorem dX5_nextOf_74 : decode cX5_nextOf 74 = .ok (.bipush 24, 2) := by decide +kernel
theorem dX5_nextOf_76 : decode cX5_nextOf 76 = .ok (.iload 4, 2) := by decide +kernel
theorem dX5_nextOf_78 : decode cX5_nextOf 78 = .ok (.iadd, 1) := by decide +kernel
theorem dX5_nextOf_79 : decode cX5_nextOf 79 = .ok (.iaload, 1) := by decide +kernel
theorem dX5_nextOf_80 : decode cX5_nextOf 80 = .ok (.aload_n 0, 1) := by decide +kernel
theorem dX5_nextOf_81 : decode cX5_nextOf 81 = .ok (.getfield 36, 3) := by decide +kernel
theorem dX5_nextOf_84 : decode cX5_nextOf 84 = .ok (.bipush 24, 2) := by decide +kernel
theorem dX5_nextOf_86 : decode cX5_nextOf 86 = .ok (.iload_n 2, 1) := by decide +kernel
theorem dX5_nextOf_87 : decode cX5_nextOf 87 = .ok (.iadd, 1) := by decide +kernel
theorem dX5_nextOf_88 : decode cX5_nextOf 88 = .ok (.iaload, 1) := by decide +kernel
theorem dX5_nextOf_89 : decode cX5_nextOf 89 = .ok (.if_icmp .le 8, 3) := by decide +kernel
theorem dX5_nextOf_92 : decode cX5_nextOf 92 = .ok (.iload 4, 2) := by decide +kernel
theorem dX5_nextOf_94 : decode cX5_nextOf 94 = .ok (.goto 4, 3) := by decide +kernel
theorem dX5_nextOf_97 : decode cX5_nextOf 97 = .ok (.iload_n 2, 1) := by decide +kernel
theorem dX5_nextOf_98 : decode cX5_nextOf 98 = .ok (.istore_n 2, 1) := by decide +kernel
theorem dX5_nextOf_99 : decode cX5_nextOf 99 = .ok (.iinc 4 1, 3) := by decide +kernel
theorem dX5_nextOf_102 : decode cX5_nextOf 102 = .ok (.goto (-95), 3) := by decide +kernel
theorem dX5_nextOf_105 : decode cX5_nextOf 105 = .ok (.iload_n 2, 1) := by decide +kernel
theorem dX5_nextOf_106 : decode cX5_nextOf 106 = .ok (.iconst (-1), 1) := by decide +kernel
theorem dX5_nextOf_107 : decode cX5_nextOf 107 = .ok (.if_icmp .eq 16, 3) := by decide +kernel
theorem dX5_nextOf_110 : decode cX5_nextOf 110 = .ok (.aload_n 0, 1) := by decide +kernel
theorem dX5_nextOf_111 : decode cX5_nextOf 111 = .ok (.getfield 36, 3) := by decide +kernel
theorem dX5_nextOf_114 : decode cX5_nextOf 114 = .ok (.bipush 24, 2) := by decide +kernel
theorem dX5_nextOf_116 : decode cX5_nextOf 116 = .ok (.iload_n 2, 1) := by decide +kernel
theorem dX5_nextOf_117 : decode cX5_nextOf 117 = .ok (.iadd, 1) := by decide +kernel
theorem dX5_nextOf_118 : decode cX5_nextOf 118 = .ok (.dup2, 1) := by decide +kernel
theorem dX5_nextOf_119 : decode cX5_nextOf 119 = .ok (.iaload, 1) := by decide +kernel
theorem dX5_nextOf_120 : decode cX5_nextOf 120 = .ok (.iload_n 3, 1) := by decide +kernel
theorem dX5_nextOf_121 : decode cX5_nextOf 121 = .ok (.isub, 1) := by decide +kernel
theorem dX5_nextOf_122 : decode cX5_nextOf 122 = .ok (.iastore, 1) := by decide +kernel
theorem dX5_nextOf_123 : decode cX5_nextOf 123 = .ok (.iload_n 2, 1) := by decide +kernel
theorem dX5_nextOf_124 : decode cX5_nextOf 124 = .ok (.ireturn, 1) := by decide +kernel
theorem dX5_passes_0 : decode cX5_passes 0 = .ok (.aload_n 0, 1) := by decide +kernel
theorem dX5_passes_1 : decode cX5_passes 1 = .ok (.getfield 17, 3) := by decide +kernel
theorem dX5_passes_4 : decode cX5_passes 4 = .ok (.bipush 40, 2) := by decide +kernel
theorem dX5_passes_6 : decode cX5_passes 6 = .ok (.iload_n 1, 1) := by decide +kernel
theorem dX5_passes_7 : decode cX5_passes 7 = .ok (.imul, 1) := by decide +kernel
theorem dX5_passes_8 : decode cX5_passes 8 = .ok (.aload_n 0, 1) := by decide +kernel
theorem dX5_passes_9 : decode cX5_passes 9 = .ok (.getfield 36, 3) := by decide +kernel
theorem dX5_passes_12 : decode cX5_passes 12 = .ok (.iload_n 1, 1) := by decide +kernel
theorem dX5_passes_13 : decode cX5_passes 13 = .ok (.iaload, 1) := by decide +kernel
theorem dX5_passes_14 : decode cX5_passes 14 = .ok (.iadd, 1) := by decide +kernel
theorem dX5_passes_15 : decode cX5_passes 15 = .ok (.iaload, 1) := by decide +kernel
theorem dX5_passes_16 : decode cX5_passes 16 = .ok (.istore_n 2, 1) := by decide +kernel
theorem dX5_passes_17 : decode cX5_passes 17 = .ok (.aload_n 0, 1) := by decide +kernel
theorem dX5_passes_18 : decode cX5_passes 18 = .ok (.getfield 36, 3) := by decide +kernel
theorem dX5_passes_21 : decode cX5_passes 21 = .ok (.iload_n 1, 1) := by decide +kernel
theorem dX5_passes_22 : decode cX5_passes 22 = .ok (.dup2, 1) := by decide +kernel
theorem dX5_passes_23 : decode cX5_passes 23 = .ok (.iaload, 1) := by decide +kernel
theorem dX5_passes_24 : decode cX5_passes 24 = .ok (.iconst 1, 1) := by decide +kernel
theorem dX5_passes_25 : decode cX5_passes 25 = .ok (.iadd, 1) := by decide +kernel
theorem dX5_passes_26 : decode cX5_passes 26 = .ok (.iastore, 1) := by decide +kernel
theorem dX5_passes_27 : decode cX5_passes 27 = .ok (.aload_n 0, 1) := by decide +kernel
theorem dX5_passes_28 : decode cX5_passes 28 = .ok (.getfield 36, 3) := by decide +kernel
theorem dX5_passes_31 : decode cX5_passes 31 = .ok (.bipush 12, 2) := by decide +kernel
theorem dX5_passes_33 : decode cX5_passes 33 = .ok (.iload_n 1, 1) := by decide +kernel
theorem dX5_passes_34 : decode cX5_passes 34 = .ok (.iadd, 1) := by decide +kernel
theorem dX5_passes_35 : decode cX5_passes 35 = .ok (.iload_n 2, 1) := by decide +kernel
theorem dX5_passes_36 : decode cX5_passes 36 = .ok (.aload_n 0, 1) := by decide +kernel
theorem dX5_passes_37 : decode cX5_passes 37 = .ok (.getfield 36, 3) := by decide +kernel
theorem dX5_passes_40 : decode cX5_passes 40 = .ok (.bipush 12, 2) := by decide +kernel
theorem dX5_passes_42 : decode cX5_passes 42 = .ok (.iload_n 1, 1) := by decide +kernel
theorem dX5_passes_43 : decode cX5_passes 43 = .ok (.iadd, 1) := by decide +kernel
theorem dX5_passes_44 : decode cX5_passes 44 = .ok (.iaload, 1) := by decide +kernel
theorem dX5_passes_45 : decode cX5_passes 45 = .ok (.if_icmp .le 7, 3) := by decide +kernel
theorem dX5_passes_48 : decode cX5_passes 48 = .ok (.iload_n 2, 1) := by decide +kernel
theorem dX5_passes_49 : decode cX5_passes 49 = .ok (.goto 12, 3) := by decide +kernel
theorem dX5_passes_52 : decode cX5_passes 52 = .ok (.aload_n 0, 1) := by decide +kernel
theorem dX5_passes_53 : decode cX5_passes 53 = .ok (.getfield 36, 3) := by decide +kernel
theorem dX5_passes_56 : decode cX5_passes 56 = .ok (.bipush 12, 2) := by decide +kernel
theorem dX5_passes_58 : decode cX5_passes 58 = .ok (.iload_n 1, 1) := by decide +kernel
theorem dX5_passes_59 : decode cX5_passes 59 = .ok (.iadd, 1) := by decide +kernel
theorem dX5_passes_60 : decode cX5_passes 60 = .ok (.iaload, 1) := by decide +kernel
theorem dX5_passes_61 : decode cX5_passes 61 = .ok (.iastore, 1) := by decide +kernel
theorem dX5_passes_62 : decode cX5_passes 62 = .ok (.return_, 1) := by decide +kernel
theorem dX5_read_0 : decode cX5_read 0 = .ok (.aload_n 0, 1) := by decide +kernel
theorem dX5_read_1 : decode cX5_read 1 = .ok (.iconst 0, 1) := by decide +kernel
theorem dX5_read_2 : decode cX5_read 2 = .ok (.putfield 72, 3) := by decide +kernel
theorem dX5_read_5 : decode cX5_read 5 = .ok (.iload_n 1, 1) := by decide +kernel
theorem dX5_read_6 : decode cX5_read 6 = .ok (.iconst 0, 1) := by decide +kernel
theorem dX5_read_7 : decode cX5_read 7 = .ok (.aload_n 0, 1) := by decide +kernel
theorem dX5_read_8 : decode cX5_read 8 = .ok (.getfield 7, 3) := by decide +kernel
theorem dX5_read_11 : decode cX5_read 11 = .ok (.iconst 1, 1) := by decide +kernel
theorem dX5_read_12 : decode cX5_read 12 = .ok (.isub, 1) := by decide +kernel
theorem dX5_read_13 : decode cX5_read 13 = .ok (.invokestatic 78, 3) := by decide +kernel
theorem dX5_read_16 : decode cX5_read 16 = .ok (.ifCond .ne 6, 3) := by decide +kernel
theorem dX5_read_19 : decode cX5_read 19 = .ok (.bipush (-11), 2) := by decide +kernel
theorem dX5_read_21 : decode cX5_read 21 = .ok (.ireturn, 1) := by decide +kernel
theorem dX5_read_22 : decode cX5_read 22 = .ok (.aload_n 0, 1) := by decide +kernel
theorem dX5_read_23 : decode cX5_read 23 = .ok (.iload_n 1, 1) := by decide +kernel
theorem dX5_read_24 : decode cX5_read 24 = .ok (.invokevirtual 109, 3) := by decide +kernel
theorem dX5_read_27 : decode cX5_read 27 = .ok (.istore_n 2, 1) := by decide +kernel
theorem dX5_read_28 : decode cX5_read 28 = .ok (.iload_n 2, 1) := by decide +kernel
theorem dX5_read_29 : decode cX5_read 29 = .ok (.iconst (-1), 1) := by decide +kernel
theorem dX5_read_30 : decode cX5_read 30 = .ok (.if_icmp .ne 5, 3) := by decide +kernel
theorem dX5_read_33 : decode cX5_read 33 = .ok (.iconst (-1), 1) := by decide +kernel
theorem dX5_read_34 : decode cX5_read 34 = .ok (.ireturn, 1) := by decide +kernel
theorem dX5_read_35 : decode cX5_read 35 = .ok (.aload_n 0, 1) := by decide +kernel
theorem dX5_read_36 : decode cX5_read 36 = .ok (.getfield 36, 3) := by decide +kernel
theorem dX5_read_39 : decode cX5_read 39 = .ok (.iload_n 2, 1) := by decide +kernel
theorem dX5_read_40 : decode cX5_read 40 = .ok (.iaload, 1) := by decide +kernel
theorem dX5_read_41 : decode cX5_read 41 = .ok (.istore_n 3, 1) := by decide +kernel
theorem dX5_read_42 : decode cX5_read 42 = .ok (.bipush 40, 2) := by decide +kernel
theorem dX5_read_44 : decode cX5_read 44 = .ok (.iload_n 2, 1) := by decide +kernel
theorem dX5_read_45 : decode cX5_read 45 = .ok (.imul, 1) := by decide +kernel
theorem dX5_read_46 : decode cX5_read 46 = .ok (.iload_n 3, 1) := by decide +kernel
theorem dX5_read_47 : decode cX5_read 47 = .ok (.iadd, 1) := by decide +kernel
theorem dX5_read_48 : decode cX5_read 48 = .ok (.istore 4, 2) := by decide +kernel
theorem dX5_read_50 : decode cX5_read 50 = .ok (.aload_n 0, 1) := by decide +kernel
theorem dX5_read_51 : decode cX5_read 51 = .ok (.dup, 1) := by decide +kernel
theorem dX5_read_52 : decode cX5_read 52 = .ok (.getfield 112, 3) := by decide +kernel
theorem dX5_read_55 : decode cX5_read 55 = .ok (.iconst 1, 1) := by decide +kernel
theorem dX5_read_56 : decode cX5_read 56 = .ok (.iadd, 1) := by decide +kernel
theorem dX5_read_57 : decode cX5_read 57 = .ok (.putfield 112, 3) := by decide +kernel
theorem dX5_read_60 : decode cX5_read 60 = .ok (.aload_n 0, 1) := by decide +kernel
theorem dX5_read_61 : decode cX5_read 61 = .ok (.getfield 60, 3) := by decide +kernel
theorem dX5_read_64 : decode cX5_read 64 = .ok (.aload_n 0, 1) := by decide +kernel
theorem dX5_read_65 : decode cX5_read 65 = .ok (.getfield 112, 3) := by decide +kernel
theorem dX5_read_68 : decode cX5_read 68 = .ok (.bipush 64, 2) := by decide +kernel
theorem dX5_read_70 : decode cX5_read 70 = .ok (.irem, 1) := by decide +kernel
theorem dX5_read_71 : decode cX5_read 71 = .ok (.baload, 1) := by decide +kernel
theorem dX5_read_72 : decode cX5_read 72 = .ok (.istore 5, 2) := by decide +kernel
theorem dX5_read_74 : decode cX5_read 74 = .ok (.aload_n 0, 1) := by decide +kernel
theorem dX5_read_75 : decode cX5_read 75 = .ok (.getfield 63, 3) := by decide +kernel
theorem dX5_read_78 : decode cX5_read 78 = .ok (.aload_n 0, 1) := by decide +kernel
theorem dX5_read_79 : decode cX5_read 79 = .ok (.getfield 112, 3) := by decide +kernel
theorem dX5_read_82 : decode cX5_read 82 = .ok (.bipush 64, 2) := by decide +kernel
theorem dX5_read_84 : decode cX5_read 84 = .ok (.irem, 1) := by decide +kernel
theorem dX5_read_85 : decode cX5_read 85 = .ok (.baload, 1) := by decide +kernel
theorem dX5_read_86 : decode cX5_read 86 = .ok (.istore 6, 2) := by decide +kernel
theorem dX5_read_88 : decode cX5_read 88 = .ok (.aload_n 0, 1) := by decide +kernel
theorem dX5_read_89 : decode cX5_read 89 = .ok (.getfield 60, 3) := by decide +kernel
theorem dX5_read_92 : decode cX5_read 92 = .ok (.aload_n 0, 1) := by decide +kernel
theorem dX5_read_93 : decode cX5_read 93 = .ok (.getfield 112, 3) := by decide +kernel
theorem dX5_read_96 : decode cX5_read 96 = .ok (.bipush 64, 2) := by decide +kernel
theorem dX5_read_98 : decode cX5_read 98 = .ok (.irem, 1) := by decide +kernel
theorem dX5_read_99 : decode cX5_read 99 = .ok (.iconst 0, 1) := by decide +kernel
theorem dX5_read_100 : decode cX5_read 100 = .ok (.bastore, 1) := by decide +kernel
theorem dX5_read_101 : decode cX5_read 101 = .ok (.aload_n 0, 1) := by decide +kernel
theorem dX5_read_102 : decode cX5_read 102 = .ok (.getfield 63, 3) := by decide +kernel
theorem dX5_read_105 : decode cX5_read 105 = .ok (.aload_n 0, 1) := by decide +kernel
theorem dX5_read_106 : decode cX5_read 106 = .ok (.getfield 112, 3) := by decide +kernel
theorem dX5_read_109 : decode cX5_read 109 = .ok (.bipush 64, 2) := by decide +kernel
theorem dX5_read_111 : decode cX5_read 111 = .ok (.irem, 1) := by decide +kernel
theorem dX5_read_112 : decode cX5_read 112 = .ok (.iconst 0, 1) := by decide +kernel
theorem dX5_read_113 : decode cX5_read 113 = .ok (.bastore, 1) := by decide +kernel
theorem dX5_read_114 : decode cX5_read 114 = .ok (.aload_n 0, 1) := by decide +kernel
theorem dX5_read_115 : decode cX5_read 115 = .ok (.getfield 66, 3) := by decide +kernel
theorem dX5_read_118 : decode cX5_read 118 = .ok (.iconst 0, 1) := by decide +kernel
theorem dX5_read_119 : decode cX5_read 119 = .ok (.iload_n 2, 1) := by decide +kernel
theorem dX5_read_120 : decode cX5_read 120 = .ok (.iastore, 1) := by decide +kernel
theorem dX5_read_121 : decode cX5_read 121 = .ok (.aload_n 0, 1) := by decide +kernel
theorem dX5_read_122 : decode cX5_read 122 = .ok (.getfield 66, 3) := by decide +kernel
theorem dX5_read_125 : decode cX5_read 125 = .ok (.iconst 1, 1) := by decide +kernel
theorem dX5_read_126 : decode cX5_read 126 = .ok (.iload_n 3, 1) := by decide +kernel
theorem dX5_read_127 : decode cX5_read 127 = .ok (.iastore, 1) := by decide +kernel
theorem dX5_read_128 : decode cX5_read 128 = .ok (.aload_n 0, 1) := by decide +kernel
theorem dX5_read_129 : decode cX5_read 129 = .ok (.getfield 66, 3) := by decide +kernel
theorem dX5_read_132 : decode cX5_read 132 = .ok (.iconst 2, 1) := by decide +kernel
theorem dX5_read_133 : decode cX5_read 133 = .ok (.aload_n 0, 1) := by decide +kernel
theorem dX5_read_134 : decode cX5_read 134 = .ok (.getfield 17, 3) := by decide +kernel
theorem dX5_read_137 : decode cX5_read 137 = .ok (.iload 4, 2) := by decide +kernel
theorem dX5_read_139 : decode cX5_read 139 = .ok (.iaload, 1) := by decide +kernel
theorem dX5_read_140 : decode cX5_read 140 = .ok (.iastore, 1) := by decide +kernel
theorem dX5_read_141 : decode cX5_read 141 = .ok (.aload_n 0, 1) := by decide +kernel
theorem dX5_read_142 : decode cX5_read 142 = .ok (.getfield 66, 3) := by decide +kernel
theorem dX5_read_145 : decode cX5_read 145 = .ok (.iconst 3, 1) := by decide +kernel
theorem dX5_read_146 : decode cX5_read 146 = .ok (.aload_n 0, 1) := by decide +kernel
theorem dX5_read_147 : decode cX5_read 147 = .ok (.getfield 112, 3) := by decide +kernel
theorem dX5_read_150 : decode cX5_read 150 = .ok (.iastore, 1) := by decide +kernel
theorem dX5_read_151 : decode cX5_read 151 = .ok (.aload_n 0, 1) := by decide +kernel
theorem dX5_read_152 : decode cX5_read 152 = .ok (.getfield 66, 3) := by decide +kernel
theorem dX5_read_155 : decode cX5_read 155 = .ok (.iconst 4, 1) := by decide +kernel
theorem dX5_read_156 : decode cX5_read 156 = .ok (.aload_n 0, 1) := by decide +kernel
theorem dX5_read_157 : decode cX5_read 157 = .ok (.getfield 36, 3) := by decide +kernel
theorem dX5_read_160 : decode cX5_read 160 = .ok (.bipush 24, 2) := by decide +kernel
theorem dX5_read_162 : decode cX5_read 162 = .ok (.iload_n 2, 1) := by decide +kernel
theorem dX5_read_163 : decode cX5_read 163 = .ok (.iadd, 1) := by decide +kernel
theorem dX5_read_164 : decode cX5_read 164 = .ok (.iaload, 1) := by decide +kernel
theorem dX5_read_165 : decode cX5_read 165 = .ok (.iastore, 1) := by decide +kernel
theorem dX5_read_166 : decode cX5_read 166 = .ok (.iload 5, 2) := by decide +kernel
theorem dX5_read_168 : decode cX5_read 168 = .ok (.ifCond .eq 16, 3) := by decide +kernel
theorem dX5_read_171 : decode cX5_read 171 = .ok (.aload_n 0, 1) := by decide +kernel
theorem dX5_read_172 : decode cX5_read 172 = .ok (.dup, 1) := by decide +kernel
theorem dX5_read_173 : decode cX5_read 173 = .ok (.getfield 115, 3) := by decide +kernel
theorem dX5_read_176 : decode cX5_read 176 = .ok (.iconst 1, 1) := by decide +kernel
theorem dX5_read_177 : decode cX5_read 177 = .ok (.iadd, 1) := by decide +kernel
theorem dX5_read_178 : decode cX5_read 178 = .ok (.putfield 115, 3) := by decide +kernel
theorem dX5_read_181 : decode cX5_read 181 = .ok (.bipush (-2), 2) := by decide +kernel
theorem dX5_read_183 : decode cX5_read 183 = .ok (.ireturn, 1) := by decide +kernel
theorem dX5_read_184 : decode cX5_read 184 = .ok (.aload_n 0, 1) := by decide +kernel
theorem dX5_read_185 : decode cX5_read 185 = .ok (.getfield 20, 3) := by decide +kernel
theorem dX5_read_188 : decode cX5_read 188 = .ok (.iload 4, 2) := by decide +kernel
theorem dX5_read_190 : decode cX5_read 190 = .ok (.baload, 1) := by decide +kernel
theorem dX5_read_191 : decode cX5_read 191 = .ok (.ifCond .ne 17, 3) := by decide +kernel
theorem dX5_read_194 : decode cX5_read 194 = .ok (.aload_n 0, 1) := by decide +kernel
theorem dX5_read_195 : decode cX5_read 195 = .ok (.iload_n 2, 1) := by decide +kernel
theorem dX5_read_196 : decode cX5_read 196 = .ok (.iload_n 3, 1) := by decide +kernel
theorem dX5_read_197 : decode cX5_read 197 = .ok (.invokevirtual 118, 3) := by decide +kernel
theorem dX5_read_200 : decode cX5_read 200 = .ok (.aload_n 0, 1) := by decide +kernel
theorem dX5_read_201 : decode cX5_read 201 = .ok (.iload_n 2, 1) := by decide +kernel
theorem dX5_read_202 : decode cX5_read 202 = .ok (.invokevirtual 122, 3) := by decide +kernel
theorem dX5_read_205 : decode cX5_read 205 = .ok (.bipush (-3), 2) := by decide +kernel
theorem dX5_read_207 : decode cX5_read 207 = .ok (.ireturn, 1) := by decide +kernel
theorem dX5_read_208 : decode cX5_read 208 = .ok (.aload_n 0, 1) := by decide +kernel
theorem dX5_read_209 : decode cX5_read 209 = .ok (.getfield 39, 3) := by decide +kernel
theorem dX5_read_212 : decode cX5_read 212 = .ok (.aload_n 0, 1) := by decide +kernel
theorem dX5_read_213 : decode cX5_read 213 = .ok (.getfield 13, 3) := by decide +kernel
theorem dX5_read_216 : decode cX5_read 216 = .ok (.iload 4, 2) := by decide +kernel
theorem dX5_read_218 : decode cX5_read 218 = .ok (.iaload, 1) := by decide +kernel
theorem dX5_read_219 : decode cX5_read 219 = .ok (.baload, 1) := by decide +kernel
theorem dX5_read_220 : decode cX5_read 220 = .ok (.ifCond .eq 21, 3) := by decide +kernel
theorem dX5_read_223 : decode cX5_read 223 = .ok (.aload_n 0, 1) := by decide +kernel
theorem dX5_read_224 : decode cX5_read 224 = .ok (.dup, 1) := by decide +kernel
theorem dX5_read_225 : decode cX5_read 225 = .ok (.getfield 125, 3) := by decide +kernel
theorem dX5_read_228 : decode cX5_read 228 = .ok (.iconst 1, 1) := by decide +kernel
theorem dX5_read_229 : decode cX5_read 229 = .ok (.iadd, 1) := by decide +kernel
theorem dX5_read_230 : decode cX5_read 230 = .ok (.putfield 125, 3) := by decide +kernel
theorem dX5_read_233 : decode cX5_read 233 = .ok (.aload_n 0, 1) := by decide +kernel
theorem dX5_read_234 : decode cX5_read 234 = .ok (.iload_n 2, 1) := by decide +kernel
theorem dX5_read_235 : decode cX5_read 235 = .ok (.invokevirtual 122, 3) := by decide +kernel
theorem dX5_read_238 : decode cX5_read 238 = .ok (.bipush (-4), 2) := by decide +kernel
theorem dX5_read_240 : decode cX5_read 240 = .ok (.ireturn, 1) := by decide +kernel
theorem dX5_read_241 : decode cX5_read 241 = .ok (.aload_n 0, 1) := by decide +kernel
theorem dX5_read_242 : decode cX5_read 242 = .ok (.getfield 39, 3) := by decide +kernel
theorem dX5_read_245 : decode cX5_read 245 = .ok (.aload_n 0, 1) := by decide +kernel
theorem dX5_read_246 : decode cX5_read 246 = .ok (.getfield 13, 3) := by decide +kernel
theorem dX5_read_249 : decode cX5_read 249 = .ok (.iload 4, 2) := by decide +kernel
theorem dX5_read_251 : decode cX5_read 251 = .ok (.iaload, 1) := by decide +kernel
theorem dX5_read_252 : decode cX5_read 252 = .ok (.iconst 1, 1) := by decide +kernel
theorem dX5_read_253 : decode cX5_read 253 = .ok (.bastore, 1) := by decide +kernel
theorem dX5_read_254 : decode cX5_read 254 = .ok (.iload 6, 2) := by decide +kernel
theorem dX5_read_256 : decode cX5_read 256 = .ok (.ifCond .ne 8, 3) := by decide +kernel
theorem dX5_read_259 : decode cX5_read 259 = .ok (.aload_n 0, 1) := by decide +kernel
theorem dX5_read_260 : decode cX5_read 260 = .ok (.iload_n 2, 1) := by decide +kernel
theorem dX5_read_261 : decode cX5_read 261 = .ok (.invokevirtual 122, 3) := by decide +kernel
theorem dX5_read_264 : decode cX5_read 264 = .ok (.aload_n 0, 1) := by decide +kernel
theorem dX5_read_265 : decode cX5_read 265 = .ok (.getfield 13, 3) := by decide +kernel
theorem dX5_read_268 : decode cX5_read 268 = .ok (.iload 4, 2) := by decide +kernel
theorem dX5_read_270 : decode cX5_read 270 = .ok (.iaload, 1) := by decide +kernel
theorem dX5_read_271 : decode cX5_read 271 = .ok (.ireturn, 1) := by decide +kernel
theorem dX5_notes_0 : decode cX5_notes 0 = .ok (.aload_n 0, 1) := by decide +kernel
theorem dX5_notes_1 : decode cX5_notes 1 = .ok (.getfield 128, 3) := by decide +kernel
theorem dX5_notes_4 : decode cX5_notes 4 = .ok (.bipush 100, 2) := by decide +kernel
theorem dX5_notes_6 : decode cX5_notes 6 = .ok (.if_icmp .ge 39, 3) := by decide +kernel
theorem dX5_notes_9 : decode cX5_notes 9 = .ok (.aload_n 0, 1) := by decide +kernel
theorem dX5_notes_10 : decode cX5_notes 10 = .ok (.getfield 42, 3) := by decide +kernel
theorem dX5_notes_13 : decode cX5_notes 13 = .ok (.iconst 2, 1) := by decide +kernel
theorem dX5_notes_14 : decode cX5_notes 14 = .ok (.aload_n 0, 1) := by decide +kernel
theorem dX5_notes_15 : decode cX5_notes 15 = .ok (.getfield 128, 3) := by decide +kernel
theorem dX5_notes_18 : decode cX5_notes 18 = .ok (.imul, 1) := by decide +kernel
theorem dX5_notes_19 : decode cX5_notes 19 = .ok (.iload_n 1, 1) := by decide +kernel
theorem dX5_notes_20 : decode cX5_notes 20 = .ok (.iastore, 1) := by decide +kernel
theorem dX5_notes_21 : decode cX5_notes 21 = .ok (.aload_n 0, 1) := by decide +kernel
theorem dX5_notes_22 : decode cX5_notes 22 = .ok (.getfield 42, 3) := by decide +kernel
theorem dX5_notes_25 : decode cX5_notes 25 = .ok (.iconst 2, 1) := by decide +kernel
theorem dX5_notes_26 : decode cX5_notes 26 = .ok (.aload_n 0, 1) := by decide +kernel
theorem dX5_notes_27 : decode cX5_notes 27 = .ok (.getfield 128, 3) := by decide +kernel
theorem dX5_notes_30 : decode cX5_notes 30 = .ok (.imul, 1) := by decide +kernel
theorem dX5_notes_31 : decode cX5_notes 31 = .ok (.iconst 1, 1) := by decide +kernel
theorem dX5_notes_32 : decode cX5_notes 32 = .ok (.iadd, 1) := by decide +kernel
theorem dX5_notes_33 : decode cX5_notes 33 = .ok (.iload_n 2, 1) := by decide +kernel
theorem dX5_notes_34 : decode cX5_notes 34 = .ok (.iastore, 1) := by decide +kernel
theorem dX5_notes_35 : decode cX5_notes 35 = .ok (.aload_n 0, 1) := by decide +kernel
theorem dX5_notes_36 : decode cX5_notes 36 = .ok (.dup, 1) := by decide +kernel
theorem dX5_notes_37 : decode cX5_notes 37 = .ok (.getfield 128, 3) := by decide +kernel
theorem dX5_notes_40 : decode cX5_notes 40 = .ok (.iconst 1, 1) := by decide +kernel
theorem dX5_notes_41 : decode cX5_notes 41 = .ok (.iadd, 1) := by decide +kernel
theorem dX5_notes_42 : decode cX5_notes 42 = .ok (.putfield 128, 3) := by decide +kernel
theorem dX5_notes_45 : decode cX5_notes 45 = .ok (.return_, 1) := by decide +kernel
theorem dX5_latest_0 : decode cX5_latest 0 = .ok (.aload_n 0, 1) := by decide +kernel
theorem dX5_latest_1 : decode cX5_latest 1 = .ok (.iconst 0, 1) := by decide +kernel
theorem dX5_latest_2 : decode cX5_latest 2 = .ok (.putfield 72, 3) := by decide +kernel
theorem dX5_latest_5 : decode cX5_latest 5 = .ok (.iload_n 1, 1) := by decide +kernel
theorem dX5_latest_6 : decode cX5_latest 6 = .ok (.iconst 0, 1) := by decide +kernel
theorem dX5_latest_7 : decode cX5_latest 7 = .ok (.iconst 4, 1) := by decide +kernel
theorem dX5_latest_8 : decode cX5_latest 8 = .ok (.invokestatic 78, 3) := by decide +kernel
theorem dX5_latest_11 : decode cX5_latest 11 = .ok (.ifCond .eq 12, 3) := by decide +kernel
theorem dX5_latest_14 : decode cX5_latest 14 = .ok (.aload_n 0, 1) := by decide +kernel
theorem dX5_latest_15 : decode cX5_latest 15 = .ok (.getfield 66, 3) := by decide +kernel
theorem dX5_latest_18 : decode cX5_latest 18 = .ok (.iload_n 1, 1) := by decide +kernel
theorem dX5_latest_19 : decode cX5_latest 19 = .ok (.iaload, 1) := by decide +kernel
theorem dX5_latest_20 : decode cX5_latest 20 = .ok (.goto 5, 3) := by decide +kernel
theorem dX5_latest_23 : decode cX5_latest 23 = .ok (.bipush (-12), 2) := by decide +kernel
theorem dX5_latest_25 : decode cX5_latest 25 = .ok (.ireturn, 1) := by decide +kernel
theorem dX5_lose_0 : decode cX5_lose 0 = .ok (.aload_n 0, 1) := by decide +kernel
theorem dX5_lose_1 : decode cX5_lose 1 = .ok (.iconst 0, 1) := by decide +kernel
theorem dX5_lose_2 : decode cX5_lose 2 = .ok (.putfield 72, 3) := by decide +kernel
theorem dX5_lose_5 : decode cX5_lose 5 = .ok (.iload_n 1, 1) := by decide +kernel
theorem dX5_lose_6 : decode cX5_lose 6 = .ok (.iconst 1, 1) := by decide +kernel
theorem dX5_lose_7 : decode cX5_lose 7 = .ok (.bipush 50, 2) := by decide +kernel
theorem dX5_lose_9 : decode cX5_lose 9 = .ok (.invokestatic 78, 3) := by decide +kernel
theorem dX5_lose_12 : decode cX5_lose 12 = .ok (.ifCond .ne 6, 3) := by decide +kernel
theorem dX5_lose_15 : decode cX5_lose 15 = .ok (.bipush (-12), 2) := by decide +kernel
theorem dX5_lose_17 : decode cX5_lose 17 = .ok (.ireturn, 1) := by decide +kernel
theorem dX5_lose_18 : decode cX5_lose 18 = .ok (.aload_n 0, 1) := by decide +kernel
theorem dX5_lose_19 : decode cX5_lose 19 = .ok (.getfield 112, 3) := by decide +kernel
theorem dX5_lose_22 : decode cX5_lose 22 = .ok (.iload_n 1, 1) := by decide +kernel
theorem dX5_lose_23 : decode cX5_lose 23 = .ok (.iadd, 1) := by decide +kernel
theorem dX5_lose_24 : decode cX5_lose 24 = .ok (.bipush 64, 2) := by decide +kernel
theorem dX5_lose_26 : decode cX5_lose 26 = .ok (.irem, 1) := by decide +kernel
theorem dX5_lose_27 : decode cX5_lose 27 = .ok (.istore_n 3, 1) := by decide +kernel
theorem dX5_lose_28 : decode cX5_lose 28 = .ok (.iload_n 2, 1) := by decide +kernel
theorem dX5_lose_29 : decode cX5_lose 29 = .ok (.ifCond .eq 12, 3) := by decide +kernel
theorem dX5_lose_32 : decode cX5_lose 32 = .ok (.aload_n 0, 1) := by decide +kernel
theorem dX5_lose_33 : decode cX5_lose 33 = .ok (.getfield 63, 3) := by decide +kernel
theorem dX5_lose_36 : decode cX5_lose 36 = .ok (.iload_n 3, 1) := by decide +kernel
theorem dX5_lose_37 : decode cX5_lose 37 = .ok (.baload, 1) := by decide +kernel
theorem dX5_lose_38 : decode cX5_lose 38 = .ok (.goto 9, 3) := by decide +kernel
theorem dX5_lose_41 : decode cX5_lose 41 = .ok (.aload_n 0, 1) := by decide +kernel
theorem dX5_lose_42 : decode cX5_lose 42 = .ok (.getfield 60, 3) := by decide +kernel
theorem dX5_lose_45 : decode cX5_lose 45 = .ok (.iload_n 3, 1) := by decide +kernel
theorem dX5_lose_46 : decode cX5_lose 46 = .ok (.baload, 1) := by decide +kernel
theorem dX5_lose_47 : decode cX5_lose 47 = .ok (.istore 4, 2) := by decide +kernel
theorem dX5_lose_49 : decode cX5_lose 49 = .ok (.aload_n 0, 1) := by decide +kernel
theorem dX5_lose_50 : decode cX5_lose 50 = .ok (.getfield 63, 3) := by decide +kernel
theorem dX5_lose_53 : decode cX5_lose 53 = .ok (.iload_n 3, 1) := by decide +kernel
theorem dX5_lose_54 : decode cX5_lose 54 = .ok (.aload_n 0, 1) := by decide +kernel
theorem dX5_lose_55 : decode cX5_lose 55 = .ok (.getfield 63, 3) := by decide +kernel
theorem dX5_lose_58 : decode cX5_lose 58 = .ok (.iload_n 3, 1) := by decide +kernel
theorem dX5_lose_59 : decode cX5_lose 59 = .ok (.baload, 1) := by decide +kernel
theorem dX5_lose_60 : decode cX5_lose 60 = .ok (.ifCond .ne 7, 3) := by decide +kernel
theorem dX5_lose_63 : decode cX5_lose 63 = .ok (.iload_n 2, 1) := by decide +kernel
theorem dX5_lose_64 : decode cX5_lose 64 = .ok (.ifCond .eq 7, 3) := by decide +kernel
theorem dX5_lose_67 : decode cX5_lose 67 = .ok (.iconst 1, 1) := by decide +kernel
theorem dX5_lose_68 : decode cX5_lose 68 = .ok (.goto 4, 3) := by decide +kernel
theorem dX5_lose_71 : decode cX5_lose 71 = .ok (.iconst 0, 1) := by decide +kernel
theorem dX5_lose_72 : decode cX5_lose 72 = .ok (.bastore, 1) := by decide +kernel
theorem dX5_lose_73 : decode cX5_lose 73 = .ok (.aload_n 0, 1) := by decide +kernel
theorem dX5_lose_74 : decode cX5_lose 74 = .ok (.getfield 60, 3) := by decide +kernel
theorem dX5_lose_77 : decode cX5_lose 77 = .ok (.iload_n 3, 1) := by decide +kernel
theorem dX5_lose_78 : decode cX5_lose 78 = .ok (.aload_n 0, 1) := by decide +kernel
theorem dX5_lose_79 : decode cX5_lose 79 = .ok (.getfield 60, 3) := by decide +kernel
theorem dX5_lose_82 : decode cX5_lose 82 = .ok (.iload_n 3, 1) := by decide +kernel
theorem dX5_lose_83 : decode cX5_lose 83 = .ok (.baload, 1) := by decide +kernel
theorem dX5_lose_84 : decode cX5_lose 84 = .ok (.ifCond .ne 7, 3) := by decide +kernel
