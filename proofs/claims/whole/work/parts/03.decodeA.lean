theorem dX0_init_0 : decode cX0_init 0 = .ok (.aload_n 0, 1) := by decide +kernel
theorem dX0_init_1 : decode cX0_init 1 = .ok (.invokespecial 3, 3) := by decide +kernel
theorem dX0_init_4 : decode cX0_init 4 = .ok (.aload_n 0, 1) := by decide +kernel
theorem dX0_init_5 : decode cX0_init 5 = .ok (.iload_n 1, 1) := by decide +kernel
theorem dX0_init_6 : decode cX0_init 6 = .ok (.putfield 9, 3) := by decide +kernel
theorem dX0_init_9 : decode cX0_init 9 = .ok (.aload_n 0, 1) := by decide +kernel
theorem dX0_init_10 : decode cX0_init 10 = .ok (.iload_n 2, 1) := by decide +kernel
theorem dX0_init_11 : decode cX0_init 11 = .ok (.putfield 15, 3) := by decide +kernel
theorem dX0_init_14 : decode cX0_init 14 = .ok (.aload_n 0, 1) := by decide +kernel
theorem dX0_init_15 : decode cX0_init 15 = .ok (.iload_n 3, 1) := by decide +kernel
theorem dX0_init_16 : decode cX0_init 16 = .ok (.putfield 18, 3) := by decide +kernel
theorem dX0_init_19 : decode cX0_init 19 = .ok (.aload_n 0, 1) := by decide +kernel
theorem dX0_init_20 : decode cX0_init 20 = .ok (.iconst 0, 1) := by decide +kernel
theorem dX0_init_21 : decode cX0_init 21 = .ok (.putfield 21, 3) := by decide +kernel
theorem dX0_init_24 : decode cX0_init 24 = .ok (.aload_n 0, 1) := by decide +kernel
theorem dX0_init_25 : decode cX0_init 25 = .ok (.iconst 0, 1) := by decide +kernel
theorem dX0_init_26 : decode cX0_init 26 = .ok (.putfield 24, 3) := by decide +kernel
theorem dX0_init_29 : decode cX0_init 29 = .ok (.aload_n 0, 1) := by decide +kernel
theorem dX0_init_30 : decode cX0_init 30 = .ok (.iconst 0, 1) := by decide +kernel
theorem dX0_init_31 : decode cX0_init 31 = .ok (.putfield 27, 3) := by decide +kernel
theorem dX0_init_34 : decode cX0_init 34 = .ok (.return_, 1) := by decide +kernel
theorem dX0_look_0 : decode cX0_look 0 = .ok (.aload_n 0, 1) := by decide +kernel
theorem dX0_look_1 : decode cX0_look 1 = .ok (.iload_n 1, 1) := by decide +kernel
theorem dX0_look_2 : decode cX0_look 2 = .ok (.aload_n 0, 1) := by decide +kernel
theorem dX0_look_3 : decode cX0_look 3 = .ok (.getfield 21, 3) := by decide +kernel
theorem dX0_look_6 : decode cX0_look 6 = .ok (.iconst (-1), 1) := by decide +kernel
theorem dX0_look_7 : decode cX0_look 7 = .ok (.ixor, 1) := by decide +kernel
theorem dX0_look_8 : decode cX0_look 8 = .ok (.iand, 1) := by decide +kernel
theorem dX0_look_9 : decode cX0_look 9 = .ok (.putfield 24, 3) := by decide +kernel
theorem dX0_look_12 : decode cX0_look 12 = .ok (.aload_n 0, 1) := by decide +kernel
theorem dX0_look_13 : decode cX0_look 13 = .ok (.iload_n 1, 1) := by decide +kernel
theorem dX0_look_14 : decode cX0_look 14 = .ok (.putfield 21, 3) := by decide +kernel
theorem dX0_look_17 : decode cX0_look 17 = .ok (.aload_n 0, 1) := by decide +kernel
theorem dX0_look_18 : decode cX0_look 18 = .ok (.iconst 1, 1) := by decide +kernel
theorem dX0_look_19 : decode cX0_look 19 = .ok (.putfield 27, 3) := by decide +kernel
theorem dX0_look_22 : decode cX0_look 22 = .ok (.aload_n 0, 1) := by decide +kernel
theorem dX0_look_23 : decode cX0_look 23 = .ok (.getfield 24, 3) := by decide +kernel
theorem dX0_look_26 : decode cX0_look 26 = .ok (.invokestatic 31, 3) := by decide +kernel
theorem dX0_look_29 : decode cX0_look 29 = .ok (.ireturn, 1) := by decide +kernel
theorem dX0_answer_0 : decode cX0_answer 0 = .ok (.aload_n 0, 1) := by decide +kernel
theorem dX0_answer_1 : decode cX0_answer 1 = .ok (.getfield 27, 3) := by decide +kernel
theorem dX0_answer_4 : decode cX0_answer 4 = .ok (.ifCond .ne 5, 3) := by decide +kernel
theorem dX0_answer_7 : decode cX0_answer 7 = .ok (.iconst (-1), 1) := by decide +kernel
theorem dX0_answer_8 : decode cX0_answer 8 = .ok (.ireturn, 1) := by decide +kernel
theorem dX0_answer_9 : decode cX0_answer 9 = .ok (.iload_n 1, 1) := by decide +kernel
theorem dX0_answer_10 : decode cX0_answer 10 = .ok (.tableswitch 47 0 2 #[26, 34, 42], 26) := by decide +kernel
theorem dX0_answer_36 : decode cX0_answer 36 = .ok (.aload_n 0, 1) := by decide +kernel
theorem dX0_answer_37 : decode cX0_answer 37 = .ok (.getfield 21, 3) := by decide +kernel
theorem dX0_answer_40 : decode cX0_answer 40 = .ok (.invokestatic 31, 3) := by decide +kernel
theorem dX0_answer_43 : decode cX0_answer 43 = .ok (.ireturn, 1) := by decide +kernel
theorem dX0_answer_44 : decode cX0_answer 44 = .ok (.aload_n 0, 1) := by decide +kernel
theorem dX0_answer_45 : decode cX0_answer 45 = .ok (.getfield 24, 3) := by decide +kernel
theorem dX0_answer_48 : decode cX0_answer 48 = .ok (.invokestatic 31, 3) := by decide +kernel
theorem dX0_answer_51 : decode cX0_answer 51 = .ok (.ireturn, 1) := by decide +kernel
theorem dX0_answer_52 : decode cX0_answer 52 = .ok (.aload_n 0, 1) := by decide +kernel
theorem dX0_answer_53 : decode cX0_answer 53 = .ok (.invokevirtual 37, 3) := by decide +kernel
theorem dX0_answer_56 : decode cX0_answer 56 = .ok (.ireturn, 1) := by decide +kernel
theorem dX0_answer_57 : decode cX0_answer 57 = .ok (.iconst (-1), 1) := by decide +kernel
theorem dX0_answer_58 : decode cX0_answer 58 = .ok (.ireturn, 1) := by decide +kernel
theorem dX0_firstRang_0 : decode cX0_firstRang 0 = .ok (.iconst 0, 1) := by decide +kernel
theorem dX0_firstRang_1 : decode cX0_firstRang 1 = .ok (.istore_n 1, 1) := by decide +kernel
theorem dX0_firstRang_2 : decode cX0_firstRang 2 = .ok (.iload_n 1, 1) := by decide +kernel
theorem dX0_firstRang_3 : decode cX0_firstRang 3 = .ok (.bipush 16, 2) := by decide +kernel
theorem dX0_firstRang_5 : decode cX0_firstRang 5 = .ok (.if_icmp .ge 23, 3) := by decide +kernel
theorem dX0_firstRang_8 : decode cX0_firstRang 8 = .ok (.aload_n 0, 1) := by decide +kernel
theorem dX0_firstRang_9 : decode cX0_firstRang 9 = .ok (.getfield 24, 3) := by decide +kernel
theorem dX0_firstRang_12 : decode cX0_firstRang 12 = .ok (.iload_n 1, 1) := by decide +kernel
theorem dX0_firstRang_13 : decode cX0_firstRang 13 = .ok (.ishr, 1) := by decide +kernel
theorem dX0_firstRang_14 : decode cX0_firstRang 14 = .ok (.iconst 1, 1) := by decide +kernel
theorem dX0_firstRang_15 : decode cX0_firstRang 15 = .ok (.iand, 1) := by decide +kernel
theorem dX0_firstRang_16 : decode cX0_firstRang 16 = .ok (.iconst 1, 1) := by decide +kernel
theorem dX0_firstRang_17 : decode cX0_firstRang 17 = .ok (.if_icmp .ne 5, 3) := by decide +kernel
theorem dX0_firstRang_20 : decode cX0_firstRang 20 = .ok (.iload_n 1, 1) := by decide +kernel
theorem dX0_firstRang_21 : decode cX0_firstRang 21 = .ok (.ireturn, 1) := by decide +kernel
theorem dX0_firstRang_22 : decode cX0_firstRang 22 = .ok (.iinc 1 1, 3) := by decide +kernel
theorem dX0_firstRang_25 : decode cX0_firstRang 25 = .ok (.goto (-23), 3) := by decide +kernel
theorem dX0_firstRang_28 : decode cX0_firstRang 28 = .ok (.iconst (-1), 1) := by decide +kernel
theorem dX0_firstRang_29 : decode cX0_firstRang 29 = .ok (.ireturn, 1) := by decide +kernel
theorem dX1_init_0 : decode cX1_init 0 = .ok (.aload_n 0, 1) := by decide +kernel
theorem dX1_init_1 : decode cX1_init 1 = .ok (.invokespecial 1, 3) := by decide +kernel
theorem dX1_init_4 : decode cX1_init 4 = .ok (.aload_n 0, 1) := by decide +kernel
theorem dX1_init_5 : decode cX1_init 5 = .ok (.iload_n 1, 1) := by decide +kernel
theorem dX1_init_6 : decode cX1_init 6 = .ok (.putfield 7, 3) := by decide +kernel
theorem dX1_init_9 : decode cX1_init 9 = .ok (.aload_n 0, 1) := by decide +kernel
theorem dX1_init_10 : decode cX1_init 10 = .ok (.aload_n 2, 1) := by decide +kernel
theorem dX1_init_11 : decode cX1_init 11 = .ok (.putfield 13, 3) := by decide +kernel
theorem dX1_init_14 : decode cX1_init 14 = .ok (.aload_n 0, 1) := by decide +kernel
theorem dX1_init_15 : decode cX1_init 15 = .ok (.aload_n 3, 1) := by decide +kernel
theorem dX1_init_16 : decode cX1_init 16 = .ok (.putfield 17, 3) := by decide +kernel
theorem dX1_init_19 : decode cX1_init 19 = .ok (.return_, 1) := by decide +kernel
theorem dX2_init_0 : decode cX2_init 0 = .ok (.aload_n 0, 1) := by decide +kernel
theorem dX2_init_1 : decode cX2_init 1 = .ok (.invokespecial 3, 3) := by decide +kernel
theorem dX2_init_4 : decode cX2_init 4 = .ok (.aload_n 0, 1) := by decide +kernel
theorem dX2_init_5 : decode cX2_init 5 = .ok (.new 9, 3) := by decide +kernel
theorem dX2_init_8 : decode cX2_init 8 = .ok (.dup, 1) := by decide +kernel
theorem dX2_init_9 : decode cX2_init 9 = .ok (.invokespecial 11, 3) := by decide +kernel
theorem dX2_init_12 : decode cX2_init 12 = .ok (.putfield 12, 3) := by decide +kernel
theorem dX2_init_15 : decode cX2_init 15 = .ok (.aload_n 0, 1) := by decide +kernel
theorem dX2_init_16 : decode cX2_init 16 = .ok (.new 18, 3) := by decide +kernel
theorem dX2_init_19 : decode cX2_init 19 = .ok (.dup, 1) := by decide +kernel
theorem dX2_init_20 : decode cX2_init 20 = .ok (.invokespecial 20, 3) := by decide +kernel
theorem dX2_init_23 : decode cX2_init 23 = .ok (.putfield 21, 3) := by decide +kernel
theorem dX2_init_26 : decode cX2_init 26 = .ok (.aload_n 0, 1) := by decide +kernel
theorem dX2_init_27 : decode cX2_init 27 = .ok (.new 18, 3) := by decide +kernel
theorem dX2_init_30 : decode cX2_init 30 = .ok (.dup, 1) := by decide +kernel
theorem dX2_init_31 : decode cX2_init 31 = .ok (.invokespecial 20, 3) := by decide +kernel
theorem dX2_init_34 : decode cX2_init 34 = .ok (.putfield 25, 3) := by decide +kernel
theorem dX2_init_37 : decode cX2_init 37 = .ok (.aload_n 0, 1) := by decide +kernel
theorem dX2_init_38 : decode cX2_init 38 = .ok (.bipush 16, 2) := by decide +kernel
theorem dX2_init_40 : decode cX2_init 40 = .ok (.newarray .double, 2) := by decide +kernel
theorem dX2_init_42 : decode cX2_init 42 = .ok (.putfield 28, 3) := by decide +kernel
theorem dX2_init_45 : decode cX2_init 45 = .ok (.aload_n 0, 1) := by decide +kernel
theorem dX2_init_46 : decode cX2_init 46 = .ok (.iconst 0, 1) := by decide +kernel
theorem dX2_init_47 : decode cX2_init 47 = .ok (.putfield 32, 3) := by decide +kernel
theorem dX2_init_50 : decode cX2_init 50 = .ok (.return_, 1) := by decide +kernel
theorem dX2_reckon_0 : decode cX2_reckon 0 = .ok (.aload_n 0, 1) := by decide +kernel
theorem dX2_reckon_1 : decode cX2_reckon 1 = .ok (.getfield 21, 3) := by decide +kernel
theorem dX2_reckon_4 : decode cX2_reckon 4 = .ok (.aload_n 1, 1) := by decide +kernel
theorem dX2_reckon_5 : decode cX2_reckon 5 = .ok (.getfield 36, 3) := by decide +kernel
theorem dX2_reckon_8 : decode cX2_reckon 8 = .ok (.putfield 36, 3) := by decide +kernel
theorem dX2_reckon_11 : decode cX2_reckon 11 = .ok (.aload_n 0, 1) := by decide +kernel
theorem dX2_reckon_12 : decode cX2_reckon 12 = .ok (.getfield 25, 3) := by decide +kernel
theorem dX2_reckon_15 : decode cX2_reckon 15 = .ok (.aload_n 1, 1) := by decide +kernel
theorem dX2_reckon_16 : decode cX2_reckon 16 = .ok (.getfield 36, 3) := by decide +kernel
theorem dX2_reckon_19 : decode cX2_reckon 19 = .ok (.putfield 36, 3) := by decide +kernel
theorem dX2_reckon_22 : decode cX2_reckon 22 = .ok (.aload_n 0, 1) := by decide +kernel
theorem dX2_reckon_23 : decode cX2_reckon 23 = .ok (.getfield 21, 3) := by decide +kernel
theorem dX2_reckon_26 : decode cX2_reckon 26 = .ok (.aload_n 2, 1) := by decide +kernel
theorem dX2_reckon_27 : decode cX2_reckon 27 = .ok (.aload_n 1, 1) := by decide +kernel
theorem dX2_reckon_28 : decode cX2_reckon 28 = .ok (.getfield 40, 3) := by decide +kernel
theorem dX2_reckon_31 : decode cX2_reckon 31 = .ok (.aaload, 1) := by decide +kernel
theorem dX2_reckon_32 : decode cX2_reckon 32 = .ok (.invokevirtual 43, 3) := by decide +kernel
theorem dX2_reckon_35 : decode cX2_reckon 35 = .ok (.aload_n 0, 1) := by decide +kernel
theorem dX2_reckon_36 : decode cX2_reckon 36 = .ok (.aload_n 1, 1) := by decide +kernel
theorem dX2_reckon_37 : decode cX2_reckon 37 = .ok (.getfield 47, 3) := by decide +kernel
theorem dX2_reckon_40 : decode cX2_reckon 40 = .ok (.aload_n 2, 1) := by decide +kernel
theorem dX2_reckon_41 : decode cX2_reckon 41 = .ok (.invokevirtual 50, 3) := by decide +kernel
theorem dX2_reckon_44 : decode cX2_reckon 44 = .ok (.aload_n 1, 1) := by decide +kernel
theorem dX2_reckon_45 : decode cX2_reckon 45 = .ok (.getfield 54, 3) := by decide +kernel
theorem dX2_reckon_48 : decode cX2_reckon 48 = .ok (.bipush 22, 2) := by decide +kernel
theorem dX2_reckon_50 : decode cX2_reckon 50 = .ok (.if_icmp .ne 7, 3) := by decide +kernel
theorem dX2_reckon_53 : decode cX2_reckon 53 = .ok (.aload_n 0, 1) := by decide +kernel
theorem dX2_reckon_54 : decode cX2_reckon 54 = .ok (.invokevirtual 57, 3) := by decide +kernel
theorem dX2_reckon_57 : decode cX2_reckon 57 = .ok (.iconst 0, 1) := by decide +kernel
theorem dX2_reckon_58 : decode cX2_reckon 58 = .ok (.istore_n 3, 1) := by decide +kernel
theorem dX2_reckon_59 : decode cX2_reckon 59 = .ok (.iload_n 3, 1) := by decide +kernel
theorem dX2_reckon_60 : decode cX2_reckon 60 = .ok (.bipush 16, 2) := by decide +kernel
theorem dX2_reckon_62 : decode cX2_reckon 62 = .ok (.if_icmp .ge 37, 3) := by decide +kernel
theorem dX2_reckon_65 : decode cX2_reckon 65 = .ok (.aload_n 0, 1) := by decide +kernel
theorem dX2_reckon_66 : decode cX2_reckon 66 = .ok (.aload_n 1, 1) := by decide +kernel
theorem dX2_reckon_67 : decode cX2_reckon 67 = .ok (.iload_n 3, 1) := by decide +kernel
theorem dX2_reckon_68 : decode cX2_reckon 68 = .ok (.invokevirtual 60, 3) := by decide +kernel
theorem dX2_reckon_71 : decode cX2_reckon 71 = .ok (.ifCond .eq 11, 3) := by decide +kernel
theorem dX2_reckon_74 : decode cX2_reckon 74 = .ok (.aload_n 1, 1) := by decide +kernel
theorem dX2_reckon_75 : decode cX2_reckon 75 = .ok (.iload_n 3, 1) := by decide +kernel
theorem dX2_reckon_76 : decode cX2_reckon 76 = .ok (.invokevirtual 64, 3) := by decide +kernel
theorem dX2_reckon_79 : decode cX2_reckon 79 = .ok (.goto 14, 3) := by decide +kernel
theorem dX2_reckon_82 : decode cX2_reckon 82 = .ok (.aload_n 1, 1) := by decide +kernel
theorem dX2_reckon_83 : decode cX2_reckon 83 = .ok (.iload_n 3, 1) := by decide +kernel
theorem dX2_reckon_84 : decode cX2_reckon 84 = .ok (.aload_n 0, 1) := by decide +kernel
theorem dX2_reckon_85 : decode cX2_reckon 85 = .ok (.aload_n 1, 1) := by decide +kernel
theorem dX2_reckon_86 : decode cX2_reckon 86 = .ok (.iload_n 3, 1) := by decide +kernel
theorem dX2_reckon_87 : decode cX2_reckon 87 = .ok (.invokevirtual 68, 3) := by decide +kernel
theorem dX2_reckon_90 : decode cX2_reckon 90 = .ok (.invokevirtual 72, 3) := by decide +kernel
theorem dX2_reckon_93 : decode cX2_reckon 93 = .ok (.iinc 3 1, 3) := by decide +kernel
theorem dX2_reckon_96 : decode cX2_reckon 96 = .ok (.goto (-37), 3) := by decide +kernel
theorem dX2_reckon_99 : decode cX2_reckon 99 = .ok (.return_, 1) := by decide +kernel
theorem dX2_takeSecond_0 : decode cX2_takeSecond 0 = .ok (.iload_n 1, 1) := by decide +kernel
theorem dX2_takeSecond_1 : decode cX2_takeSecond 1 = .ok (.bipush 16, 2) := by decide +kernel
theorem dX2_takeSecond_3 : decode cX2_takeSecond 3 = .ok (.if_icmp .ge 14, 3) := by decide +kernel
theorem dX2_takeSecond_6 : decode cX2_takeSecond 6 = .ok (.aload_n 0, 1) := by decide +kernel
theorem dX2_takeSecond_7 : decode cX2_takeSecond 7 = .ok (.getfield 25, 3) := by decide +kernel
theorem dX2_takeSecond_10 : decode cX2_takeSecond 10 = .ok (.aload_n 2, 1) := by decide +kernel
theorem dX2_takeSecond_11 : decode cX2_takeSecond 11 = .ok (.iload_n 1, 1) := by decide +kernel
theorem dX2_takeSecond_12 : decode cX2_takeSecond 12 = .ok (.aaload, 1) := by decide +kernel
theorem dX2_takeSecond_13 : decode cX2_takeSecond 13 = .ok (.invokevirtual 43, 3) := by decide +kernel
theorem dX2_takeSecond_16 : decode cX2_takeSecond 16 = .ok (.return_, 1) := by decide +kernel
theorem dX2_takeSecond_17 : decode cX2_takeSecond 17 = .ok (.iconst 0, 1) := by decide +kernel
theorem dX2_takeSecond_18 : decode cX2_takeSecond 18 = .ok (.istore_n 3, 1) := by decide +kernel
theorem dX2_takeSecond_19 : decode cX2_takeSecond 19 = .ok (.iload_n 3, 1) := by decide +kernel
theorem dX2_takeSecond_20 : decode cX2_takeSecond 20 = .ok (.bipush 16, 2) := by decide +kernel
theorem dX2_takeSecond_22 : decode cX2_takeSecond 22 = .ok (.if_icmp .ge 25, 3) := by decide +kernel
theorem dX2_takeSecond_25 : decode cX2_takeSecond 25 = .ok (.aload_n 0, 1) := by decide +kernel
theorem dX2_takeSecond_26 : decode cX2_takeSecond 26 = .ok (.getfield 25, 3) := by decide +kernel
theorem dX2_takeSecond_29 : decode cX2_takeSecond 29 = .ok (.iload_n 3, 1) := by decide +kernel
theorem dX2_takeSecond_30 : decode cX2_takeSecond 30 = .ok (.aload_n 2, 1) := by decide +kernel
theorem dX2_takeSecond_31 : decode cX2_takeSecond 31 = .ok (.bipush 12, 2) := by decide +kernel
theorem dX2_takeSecond_33 : decode cX2_takeSecond 33 = .ok (.aaload, 1) := by decide +kernel
theorem dX2_takeSecond_34 : decode cX2_takeSecond 34 = .ok (.iload_n 1, 1) := by decide +kernel
theorem dX2_takeSecond_35 : decode cX2_takeSecond 35 = .ok (.bipush 16, 2) := by decide +kernel
theorem dX2_takeSecond_37 : decode cX2_takeSecond 37 = .ok (.isub, 1) := by decide +kernel
theorem dX2_takeSecond_38 : decode cX2_takeSecond 38 = .ok (.invokevirtual 76, 3) := by decide +kernel
theorem dX2_takeSecond_41 : decode cX2_takeSecond 41 = .ok (.iinc 3 1, 3) := by decide +kernel
theorem dX2_takeSecond_44 : decode cX2_takeSecond 44 = .ok (.goto (-25), 3) := by decide +kernel
theorem dX2_takeSecond_47 : decode cX2_takeSecond 47 = .ok (.return_, 1) := by decide +kernel
theorem dX2_isOfTwo_0 : decode cX2_isOfTwo 0 = .ok (.iload_n 0, 1) := by decide +kernel
theorem dX2_isOfTwo_1 : decode cX2_isOfTwo 1 = .ok (.bipush 9, 2) := by decide +kernel
theorem dX2_isOfTwo_3 : decode cX2_isOfTwo 3 = .ok (.if_icmp .lt 9, 3) := by decide +kernel
theorem dX2_isOfTwo_6 : decode cX2_isOfTwo 6 = .ok (.iload_n 0, 1) := by decide +kernel
theorem dX2_isOfTwo_7 : decode cX2_isOfTwo 7 = .ok (.bipush 16, 2) := by decide +kernel
theorem dX2_isOfTwo_9 : decode cX2_isOfTwo 9 = .ok (.if_icmp .le 9, 3) := by decide +kernel
theorem dX2_isOfTwo_12 : decode cX2_isOfTwo 12 = .ok (.iload_n 0, 1) := by decide +kernel
theorem dX2_isOfTwo_13 : decode cX2_isOfTwo 13 = .ok (.bipush 26, 2) := by decide +kernel
theorem dX2_isOfTwo_15 : decode cX2_isOfTwo 15 = .ok (.if_icmp .ne 7, 3) := by decide +kernel
theorem dX2_isOfTwo_18 : decode cX2_isOfTwo 18 = .ok (.iconst 1, 1) := by decide +kernel
theorem dX2_isOfTwo_19 : decode cX2_isOfTwo 19 = .ok (.goto 4, 3) := by decide +kernel
theorem dX2_isOfTwo_22 : decode cX2_isOfTwo 22 = .ok (.iconst 0, 1) := by decide +kernel
theorem dX2_isOfTwo_23 : decode cX2_isOfTwo 23 = .ok (.ireturn, 1) := by decide +kernel
theorem dX2_leavesBlank_0 : decode cX2_leavesBlank 0 = .ok (.aload_n 1, 1) := by decide +kernel
theorem dX2_leavesBlank_1 : decode cX2_leavesBlank 1 = .ok (.getfield 54, 3) := by decide +kernel
theorem dX2_leavesBlank_4 : decode cX2_leavesBlank 4 = .ok (.invokestatic 80, 3) := by decide +kernel
theorem dX2_leavesBlank_7 : decode cX2_leavesBlank 7 = .ok (.ifCond .eq 59, 3) := by decide +kernel
theorem dX2_leavesBlank_10 : decode cX2_leavesBlank 10 = .ok (.aload_n 0, 1) := by decide +kernel
theorem dX2_leavesBlank_11 : decode cX2_leavesBlank 11 = .ok (.getfield 21, 3) := by decide +kernel
theorem dX2_leavesBlank_14 : decode cX2_leavesBlank 14 = .ok (.iload_n 2, 1) := by decide +kernel
theorem dX2_leavesBlank_15 : decode cX2_leavesBlank 15 = .ok (.invokevirtual 84, 3) := by decide +kernel
theorem dX2_leavesBlank_18 : decode cX2_leavesBlank 18 = .ok (.ifCond .ne 42, 3) := by decide +kernel
theorem dX2_leavesBlank_21 : decode cX2_leavesBlank 21 = .ok (.aload_n 0, 1) := by decide +kernel
theorem dX2_leavesBlank_22 : decode cX2_leavesBlank 22 = .ok (.getfield 25, 3) := by decide +kernel
theorem dX2_leavesBlank_25 : decode cX2_leavesBlank 25 = .ok (.iload_n 2, 1) := by decide +kernel
theorem dX2_leavesBlank_26 : decode cX2_leavesBlank 26 = .ok (.invokevirtual 84, 3) := by decide +kernel
theorem dX2_leavesBlank_29 : decode cX2_leavesBlank 29 = .ok (.ifCond .ne 31, 3) := by decide +kernel
theorem dX2_leavesBlank_32 : decode cX2_leavesBlank 32 = .ok (.aload_n 1, 1) := by decide +kernel
theorem dX2_leavesBlank_33 : decode cX2_leavesBlank 33 = .ok (.getfield 54, 3) := by decide +kernel
theorem dX2_leavesBlank_36 : decode cX2_leavesBlank 36 = .ok (.aload_n 0, 1) := by decide +kernel
theorem dX2_leavesBlank_37 : decode cX2_leavesBlank 37 = .ok (.getfield 21, 3) := by decide +kernel
theorem dX2_leavesBlank_40 : decode cX2_leavesBlank 40 = .ok (.getfield 87, 3) := by decide +kernel
theorem dX2_leavesBlank_43 : decode cX2_leavesBlank 43 = .ok (.iload_n 2, 1) := by decide +kernel
theorem dX2_leavesBlank_44 : decode cX2_leavesBlank 44 = .ok (.daload, 1) := by decide +kernel
theorem dX2_leavesBlank_45 : decode cX2_leavesBlank 45 = .ok (.aload_n 0, 1) := by decide +kernel
theorem dX2_leavesBlank_46 : decode cX2_leavesBlank 46 = .ok (.getfield 25, 3) := by decide +kernel
theorem dX2_leavesBlank_49 : decode cX2_leavesBlank 49 = .ok (.getfield 87, 3) := by decide +kernel
theorem dX2_leavesBlank_52 : decode cX2_leavesBlank 52 = .ok (.iload_n 2, 1) := by decide +kernel
theorem dX2_leavesBlank_53 : decode cX2_leavesBlank 53 = .ok (.daload, 1) := by decide +kernel
theorem dX2_leavesBlank_54 : decode cX2_leavesBlank 54 = .ok (.invokestatic 90, 3) := by decide +kernel
theorem dX2_leavesBlank_57 : decode cX2_leavesBlank 57 = .ok (.ifCond .eq 7, 3) := by decide +kernel
theorem dX2_leavesBlank_60 : decode cX2_leavesBlank 60 = .ok (.iconst 1, 1) := by decide +kernel
theorem dX2_leavesBlank_61 : decode cX2_leavesBlank 61 = .ok (.goto 4, 3) := by decide +kernel
theorem dX2_leavesBlank_64 : decode cX2_leavesBlank 64 = .ok (.iconst 0, 1) := by decide +kernel
theorem dX2_leavesBlank_65 : decode cX2_leavesBlank 65 = .ok (.ireturn, 1) := by decide +kernel
theorem dX2_leavesBlank_66 : decode cX2_leavesBlank 66 = .ok (.aload_n 1, 1) := by decide +kernel
theorem dX2_leavesBlank_67 : decode cX2_leavesBlank 67 = .ok (.getfield 54, 3) := by decide +kernel
theorem dX2_leavesBlank_70 : decode cX2_leavesBlank 70 = .ok (.tableswitch 190 17 25 #[50, 87, 115, 129, 129, 160, 190, 174, 188], 50) := by decide +kernel
theorem dX2_leavesBlank_120 : decode cX2_leavesBlank 120 = .ok (.aload_n 0, 1) := by decide +kernel
theorem dX2_leavesBlank_121 : decode cX2_leavesBlank 121 = .ok (.getfield 21, 3) := by decide +kernel
theorem dX2_leavesBlank_124 : decode cX2_leavesBlank 124 = .ok (.iload_n 2, 1) := by decide +kernel
theorem dX2_leavesBlank_125 : decode cX2_leavesBlank 125 = .ok (.invokevirtual 84, 3) := by decide +kernel
theorem dX2_leavesBlank_128 : decode cX2_leavesBlank 128 = .ok (.ifCond .ne 23, 3) := by decide +kernel
theorem dX2_leavesBlank_131 : decode cX2_leavesBlank 131 = .ok (.aload_n 1, 1) := by decide +kernel
theorem dX2_leavesBlank_132 : decode cX2_leavesBlank 132 = .ok (.getfield 94, 3) := by decide +kernel
theorem dX2_leavesBlank_135 : decode cX2_leavesBlank 135 = .ok (.aload_n 0, 1) := by decide +kernel
theorem dX2_leavesBlank_136 : decode cX2_leavesBlank 136 = .ok (.getfield 21, 3) := by decide +kernel
theorem dX2_leavesBlank_139 : decode cX2_leavesBlank 139 = .ok (.iload_n 2, 1) := by decide +kernel
theorem dX2_leavesBlank_140 : decode cX2_leavesBlank 140 = .ok (.aload_n 0, 1) := by decide +kernel
theorem dX2_leavesBlank_141 : decode cX2_leavesBlank 141 = .ok (.getfield 25, 3) := by decide +kernel
theorem dX2_leavesBlank_144 : decode cX2_leavesBlank 144 = .ok (.iload_n 2, 1) := by decide +kernel
theorem dX2_leavesBlank_145 : decode cX2_leavesBlank 145 = .ok (.invokestatic 97, 3) := by decide +kernel
theorem dX2_leavesBlank_148 : decode cX2_leavesBlank 148 = .ok (.ifCond .ne 7, 3) := by decide +kernel
theorem dX2_leavesBlank_151 : decode cX2_leavesBlank 151 = .ok (.iconst 1, 1) := by decide +kernel
theorem dX2_leavesBlank_152 : decode cX2_leavesBlank 152 = .ok (.goto 4, 3) := by decide +kernel
theorem dX2_leavesBlank_155 : decode cX2_leavesBlank 155 = .ok (.iconst 0, 1) := by decide +kernel
theorem dX2_leavesBlank_156 : decode cX2_leavesBlank 156 = .ok (.ireturn, 1) := by decide +kernel
theorem dX2_leavesBlank_157 : decode cX2_leavesBlank 157 = .ok (.aload_n 0, 1) := by decide +kernel
theorem dX2_leavesBlank_158 : decode cX2_leavesBlank 158 = .ok (.getfield 21, 3) := by decide +kernel
theorem dX2_leavesBlank_161 : decode cX2_leavesBlank 161 = .ok (.iload_n 2, 1) := by decide +kernel
theorem dX2_leavesBlank_162 : decode cX2_leavesBlank 162 = .ok (.invokevirtual 84, 3) := by decide +kernel
theorem dX2_leavesBlank_165 : decode cX2_leavesBlank 165 = .ok (.ifCond .eq 18, 3) := by decide +kernel
theorem dX2_leavesBlank_168 : decode cX2_leavesBlank 168 = .ok (.aload_n 0, 1) := by decide +kernel
theorem dX2_leavesBlank_169 : decode cX2_leavesBlank 169 = .ok (.getfield 25, 3) := by decide +kernel
theorem dX2_leavesBlank_172 : decode cX2_leavesBlank 172 = .ok (.iload_n 2, 1) := by decide +kernel
theorem dX2_leavesBlank_173 : decode cX2_leavesBlank 173 = .ok (.invokevirtual 84, 3) := by decide +kernel
theorem dX2_leavesBlank_176 : decode cX2_leavesBlank 176 = .ok (.ifCond .eq 7, 3) := by decide +kernel
theorem dX2_leavesBlank_179 : decode cX2_leavesBlank 179 = .ok (.iconst 1, 1) := by decide +kernel
theorem dX2_leavesBlank_180 : decode cX2_leavesBlank 180 = .ok (.goto 4, 3) := by decide +kernel
theorem dX2_leavesBlank_183 : decode cX2_leavesBlank 183 = .ok (.iconst 0, 1) := by decide +kernel
theorem dX2_leavesBlank_184 : decode cX2_leavesBlank 184 = .ok (.ireturn, 1) := by decide +kernel
theorem dX2_leavesBlank_185 : decode cX2_leavesBlank 185 = .ok (.aload_n 0, 1) := by decide +kernel
theorem dX2_leavesBlank_186 : decode cX2_leavesBlank 186 = .ok (.iload_n 2, 1) := by decide +kernel
theorem dX2_leavesBlank_187 : decode cX2_leavesBlank 187 = .ok (.invokevirtual 101, 3) := by decide +kernel
theorem dX2_leavesBlank_190 : decode cX2_leavesBlank 190 = .ok (.ifCond .ne 7, 3) := by decide +kernel
theorem dX2_leavesBlank_193 : decode cX2_leavesBlank 193 = .ok (.iconst 1, 1) := by decide +kernel
theorem dX2_leavesBlank_194 : decode cX2_leavesBlank 194 = .ok (.goto 4, 3) := by decide +kernel
theorem dX2_leavesBlank_197 : decode cX2_leavesBlank 197 = .ok (.iconst 0, 1) := by decide +kernel
theorem dX2_leavesBlank_198 : decode cX2_leavesBlank 198 = .ok (.ireturn, 1) := by decide +kernel
theorem dX2_leavesBlank_199 : decode cX2_leavesBlank 199 = .ok (.aload_n 0, 1) := by decide +kernel
theorem dX2_leavesBlank_200 : decode cX2_leavesBlank 200 = .ok (.getfield 21, 3) := by decide +kernel
theorem dX2_leavesBlank_203 : decode cX2_leavesBlank 203 = .ok (.iload_n 2, 1) := by decide +kernel
theorem dX2_leavesBlank_204 : decode cX2_leavesBlank 204 = .ok (.invokevirtual 84, 3) := by decide +kernel
theorem dX2_leavesBlank_207 : decode cX2_leavesBlank 207 = .ok (.ifCond .eq 21, 3) := by decide +kernel
theorem dX2_leavesBlank_210 : decode cX2_leavesBlank 210 = .ok (.iload_n 2, 1) := by decide +kernel
theorem dX2_leavesBlank_211 : decode cX2_leavesBlank 211 = .ok (.ifCond .eq 13, 3) := by decide +kernel
theorem dX2_leavesBlank_214 : decode cX2_leavesBlank 214 = .ok (.aload_n 1, 1) := by decide +kernel
theorem dX2_leavesBlank_215 : decode cX2_leavesBlank 215 = .ok (.iload_n 2, 1) := by decide +kernel
theorem dX2_leavesBlank_216 : decode cX2_leavesBlank 216 = .ok (.iconst 1, 1) := by decide +kernel
theorem dX2_leavesBlank_217 : decode cX2_leavesBlank 217 = .ok (.isub, 1) := by decide +kernel
theorem dX2_leavesBlank_218 : decode cX2_leavesBlank 218 = .ok (.invokevirtual 84, 3) := by decide +kernel
theorem dX2_leavesBlank_221 : decode cX2_leavesBlank 221 = .ok (.ifCond .eq 7, 3) := by decide +kernel
theorem dX2_leavesBlank_224 : decode cX2_leavesBlank 224 = .ok (.iconst 1, 1) := by decide +kernel
theorem dX2_leavesBlank_225 : decode cX2_leavesBlank 225 = .ok (.goto 4, 3) := by decide +kernel
theorem dX2_leavesBlank_228 : decode cX2_leavesBlank 228 = .ok (.iconst 0, 1) := by decide +kernel
theorem dX2_leavesBlank_229 : decode cX2_leavesBlank 229 = .ok (.ireturn, 1) := by decide +kernel
theorem dX2_leavesBlank_230 : decode cX2_leavesBlank 230 = .ok (.iload_n 2, 1) := by decide +kernel
theorem dX2_leavesBlank_231 : decode cX2_leavesBlank 231 = .ok (.aload_n 0, 1) := by decide +kernel
theorem dX2_leavesBlank_232 : decode cX2_leavesBlank 232 = .ok (.getfield 32, 3) := by decide +kernel
theorem dX2_leavesBlank_235 : decode cX2_leavesBlank 235 = .ok (.if_icmp .lt 7, 3) := by decide +kernel
theorem dX2_leavesBlank_238 : decode cX2_leavesBlank 238 = .ok (.iconst 1, 1) := by decide +kernel
theorem dX2_leavesBlank_239 : decode cX2_leavesBlank 239 = .ok (.goto 4, 3) := by decide +kernel
theorem dX2_leavesBlank_242 : decode cX2_leavesBlank 242 = .ok (.iconst 0, 1) := by decide +kernel
theorem dX2_leavesBlank_243 : decode cX2_leavesBlank 243 = .ok (.ireturn, 1) := by decide +kernel
theorem dX2_leavesBlank_244 : decode cX2_leavesBlank 244 = .ok (.aload_n 0, 1) := by decide +kernel
theorem dX2_leavesBlank_245 : decode cX2_leavesBlank 245 = .ok (.iload_n 2, 1) := by decide +kernel
theorem dX2_leavesBlank_246 : decode cX2_leavesBlank 246 = .ok (.invokevirtual 104, 3) := by decide +kernel
theorem dX2_leavesBlank_249 : decode cX2_leavesBlank 249 = .ok (.ifCond .ne 7, 3) := by decide +kernel
theorem dX2_leavesBlank_252 : decode cX2_leavesBlank 252 = .ok (.iconst 1, 1) := by decide +kernel
theorem dX2_leavesBlank_253 : decode cX2_leavesBlank 253 = .ok (.goto 4, 3) := by decide +kernel
theorem dX2_leavesBlank_256 : decode cX2_leavesBlank 256 = .ok (.iconst 0, 1) := by decide +kernel
theorem dX2_leavesBlank_257 : decode cX2_leavesBlank 257 = .ok (.ireturn, 1) := by decide +kernel
theorem dX2_leavesBlank_258 : decode cX2_leavesBlank 258 = .ok (.iconst 0, 1) := by decide +kernel
theorem dX2_leavesBlank_259 : decode cX2_leavesBlank 259 = .ok (.ireturn, 1) := by decide +kernel
theorem dX2_leavesBlank_260 : decode cX2_leavesBlank 260 = .ok (.aload_n 0, 1) := by decide +kernel
theorem dX2_leavesBlank_261 : decode cX2_leavesBlank 261 = .ok (.getfield 21, 3) := by decide +kernel
theorem dX2_leavesBlank_264 : decode cX2_leavesBlank 264 = .ok (.iload_n 2, 1) := by decide +kernel
theorem dX2_leavesBlank_265 : decode cX2_leavesBlank 265 = .ok (.invokevirtual 84, 3) := by decide +kernel
theorem dX2_leavesBlank_268 : decode cX2_leavesBlank 268 = .ok (.ireturn, 1) := by decide +kernel
theorem dX2_hasBothNeighbours_0 : decode cX2_hasBothNeighbours 0 = .ok (.iload_n 1, 1) := by decide +kernel
theorem dX2_hasBothNeighbours_1 : decode cX2_hasBothNeighbours 1 = .ok (.ifCond .le 50, 3) := by decide +kernel
theorem dX2_hasBothNeighbours_4 : decode cX2_hasBothNeighbours 4 = .ok (.iload_n 1, 1) := by decide +kernel
theorem dX2_hasBothNeighbours_5 : decode cX2_hasBothNeighbours 5 = .ok (.bipush 15, 2) := by decide +kernel
theorem dX2_hasBothNeighbours_7 : decode cX2_hasBothNeighbours 7 = .ok (.if_icmp .ge 44, 3) := by decide +kernel
theorem dX2_hasBothNeighbours_10 : decode cX2_hasBothNeighbours 10 = .ok (.aload_n 0, 1) := by decide +kernel
theorem dX2_hasBothNeighbours_11 : decode cX2_hasBothNeighbours 11 = .ok (.getfield 21, 3) := by decide +kernel
theorem dX2_hasBothNeighbours_14 : decode cX2_hasBothNeighbours 14 = .ok (.iload_n 1, 1) := by decide +kernel
theorem dX2_hasBothNeighbours_15 : decode cX2_hasBothNeighbours 15 = .ok (.iconst 1, 1) := by decide +kernel
theorem dX2_hasBothNeighbours_16 : decode cX2_hasBothNeighbours 16 = .ok (.isub, 1) := by decide +kernel
theorem dX2_hasBothNeighbours_17 : decode cX2_hasBothNeighbours 17 = .ok (.invokevirtual 84, 3) := by decide +kernel
theorem dX2_hasBothNeighbours_20 : decode cX2_hasBothNeighbours 20 = .ok (.ifCond .ne 31, 3) := by decide +kernel
theorem dX2_hasBothNeighbours_23 : decode cX2_hasBothNeighbours 23 = .ok (.aload_n 0, 1) := by decide +kernel
theorem dX2_hasBothNeighbours_24 : decode cX2_hasBothNeighbours 24 = .ok (.getfield 21, 3) := by decide +kernel
theorem dX2_hasBothNeighbours_27 : decode cX2_hasBothNeighbours 27 = .ok (.iload_n 1, 1) := by decide +kernel
theorem dX2_hasBothNeighbours_28 : decode cX2_hasBothNeighbours 28 = .ok (.invokevirtual 84, 3) := by decide +kernel
theorem dX2_hasBothNeighbours_31 : decode cX2_hasBothNeighbours 31 = .ok (.ifCond .ne 20, 3) := by decide +kernel
theorem dX2_hasBothNeighbours_34 : decode cX2_hasBothNeighbours 34 = .ok (.aload_n 0, 1) := by decide +kernel
theorem dX2_hasBothNeighbours_35 : decode cX2_hasBothNeighbours 35 = .ok (.getfield 21, 3) := by decide +kernel
theorem dX2_hasBothNeighbours_38 : decode cX2_hasBothNeighbours 38 = .ok (.iload_n 1, 1) := by decide +kernel
theorem dX2_hasBothNeighbours_39 : decode cX2_hasBothNeighbours 39 = .ok (.iconst 1, 1) := by decide +kernel
theorem dX2_hasBothNeighbours_40 : decode cX2_hasBothNeighbours 40 = .ok (.iadd, 1) := by decide +kernel
theorem dX2_hasBothNeighbours_41 : decode cX2_hasBothNeighbours 41 = .ok (.invokevirtual 84, 3) := by decide +kernel
theorem dX2_hasBothNeighbours_44 : decode cX2_hasBothNeighbours 44 = .ok (.ifCond .ne 7, 3) := by decide +kernel
theorem dX2_hasBothNeighbours_47 : decode cX2_hasBothNeighbours 47 = .ok (.iconst 1, 1) := by decide +kernel
theorem dX2_hasBothNeighbours_48 : decode cX2_hasBothNeighbours 48 = .ok (.goto 4, 3) := by decide +kernel
theorem dX2_hasBothNeighbours_51 : decode cX2_hasBothNeighbours 51 = .ok (.iconst 0, 1) := by decide +kernel
theorem dX2_hasBothNeighbours_52 : decode cX2_hasBothNeighbours 52 = .ok (.ireturn, 1) := by decide +kernel
theorem dX2_hasDifference_0 : decode cX2_hasDifference 0 = .ok (.iload_n 1, 1) := by decide +kernel
theorem dX2_hasDifference_1 : decode cX2_hasDifference 1 = .ok (.ifCond .le 59, 3) := by decide +kernel
theorem dX2_hasDifference_4 : decode cX2_hasDifference 4 = .ok (.aload_n 0, 1) := by decide +kernel
theorem dX2_hasDifference_5 : decode cX2_hasDifference 5 = .ok (.getfield 21, 3) := by decide +kernel
theorem dX2_hasDifference_8 : decode cX2_hasDifference 8 = .ok (.iload_n 1, 1) := by decide +kernel
theorem dX2_hasDifference_9 : decode cX2_hasDifference 9 = .ok (.iconst 1, 1) := by decide +kernel
theorem dX2_hasDifference_10 : decode cX2_hasDifference 10 = .ok (.isub, 1) := by decide +kernel
theorem dX2_hasDifference_11 : decode cX2_hasDifference 11 = .ok (.invokevirtual 84, 3) := by decide +kernel
theorem dX2_hasDifference_14 : decode cX2_hasDifference 14 = .ok (.ifCond .ne 46, 3) := by decide +kernel
theorem dX2_hasDifference_17 : decode cX2_hasDifference 17 = .ok (.aload_n 0, 1) := by decide +kernel
theorem dX2_hasDifference_18 : decode cX2_hasDifference 18 = .ok (.getfield 21, 3) := by decide +kernel
theorem dX2_hasDifference_21 : decode cX2_hasDifference 21 = .ok (.iload_n 1, 1) := by decide +kernel
theorem dX2_hasDifference_22 : decode cX2_hasDifference 22 = .ok (.invokevirtual 84, 3) := by decide +kernel
theorem dX2_hasDifference_25 : decode cX2_hasDifference 25 = .ok (.ifCond .ne 35, 3) := by decide +kernel
theorem dX2_hasDifference_28 : decode cX2_hasDifference 28 = .ok (.bipush 10, 2) := by decide +kernel
theorem dX2_hasDifference_30 : decode cX2_hasDifference 30 = .ok (.aload_n 0, 1) := by decide +kernel
theorem dX2_hasDifference_31 : decode cX2_hasDifference 31 = .ok (.getfield 21, 3) := by decide +kernel
theorem dX2_hasDifference_34 : decode cX2_hasDifference 34 = .ok (.getfield 87, 3) := by decide +kernel
theorem dX2_hasDifference_37 : decode cX2_hasDifference 37 = .ok (.iload_n 1, 1) := by decide +kernel
theorem dX2_hasDifference_38 : decode cX2_hasDifference 38 = .ok (.daload, 1) := by decide +kernel
theorem dX2_hasDifference_39 : decode cX2_hasDifference 39 = .ok (.aload_n 0, 1) := by decide +kernel
theorem dX2_hasDifference_40 : decode cX2_hasDifference 40 = .ok (.getfield 21, 3) := by decide +kernel
theorem dX2_hasDifference_43 : decode cX2_hasDifference 43 = .ok (.getfield 87, 3) := by decide +kernel
theorem dX2_hasDifference_46 : decode cX2_hasDifference 46 = .ok (.iload_n 1, 1) := by decide +kernel
theorem dX2_hasDifference_47 : decode cX2_hasDifference 47 = .ok (.iconst 1, 1) := by decide +kernel
theorem dX2_hasDifference_48 : decode cX2_hasDifference 48 = .ok (.isub, 1) := by decide +kernel
theorem dX2_hasDifference_49 : decode cX2_hasDifference 49 = .ok (.daload, 1) := by decide +kernel
theorem dX2_hasDifference_50 : decode cX2_hasDifference 50 = .ok (.invokestatic 90, 3) := by decide +kernel
theorem dX2_hasDifference_53 : decode cX2_hasDifference 53 = .ok (.ifCond .ne 7, 3) := by decide +kernel
theorem dX2_hasDifference_56 : decode cX2_hasDifference 56 = .ok (.iconst 1, 1) := by decide +kernel
theorem dX2_hasDifference_57 : decode cX2_hasDifference 57 = .ok (.goto 4, 3) := by decide +kernel
theorem dX2_hasDifference_60 : decode cX2_hasDifference 60 = .ok (.iconst 0, 1) := by decide +kernel
theorem dX2_hasDifference_61 : decode cX2_hasDifference 61 = .ok (.ireturn, 1) := by decide +kernel
theorem dX2_isUndefined_0 : decode cX2_isUndefined 0 = .ok (.dload_n 1, 1) := by decide +kernel
theorem dX2_isUndefined_1 : decode cX2_isUndefined 1 = .ok (.invokestatic 107, 3) := by decide +kernel
theorem dX2_isUndefined_4 : decode cX2_isUndefined 4 = .ok (.ifCond .eq 14, 3) := by decide +kernel
theorem dX2_isUndefined_7 : decode cX2_isUndefined 7 = .ok (.dload_n 3, 1) := by decide +kernel
theorem dX2_isUndefined_8 : decode cX2_isUndefined 8 = .ok (.invokestatic 107, 3) := by decide +kernel
theorem dX2_isUndefined_11 : decode cX2_isUndefined 11 = .ok (.ifCond .eq 7, 3) := by decide +kernel
theorem dX2_isUndefined_14 : decode cX2_isUndefined 14 = .ok (.iconst 1, 1) := by decide +kernel
theorem dX2_isUndefined_15 : decode cX2_isUndefined 15 = .ok (.goto 4, 3) := by decide +kernel
theorem dX2_isUndefined_18 : decode cX2_isUndefined 18 = .ok (.iconst 0, 1) := by decide +kernel
theorem dX2_isUndefined_19 : decode cX2_isUndefined 19 = .ok (.istore 5, 2) := by decide +kernel
theorem dX2_isUndefined_21 : decode cX2_isUndefined 21 = .ok (.iload_n 0, 1) := by decide +kernel
theorem dX2_isUndefined_22 : decode cX2_isUndefined 22 = .ok (.tableswitch 213 9 26 #[86, 103, 120, 152, 175, 213, 213, 213, 213, 213, 213, 213, 213, 213, 213, 213, 213, 194], 86) := by decide +kernel
theorem dX2_isUndefined_108 : decode cX2_isUndefined 108 = .ok (.iload 5, 2) := by decide +kernel
theorem dX2_isUndefined_110 : decode cX2_isUndefined 110 = .ok (.ifCond .eq 13, 3) := by decide +kernel
theorem dX2_isUndefined_113 : decode cX2_isUndefined 113 = .ok (.dload_n 1, 1) := by decide +kernel
theorem dX2_isUndefined_114 : decode cX2_isUndefined 114 = .ok (.dload_n 3, 1) := by decide +kernel
theorem dX2_isUndefined_115 : decode cX2_isUndefined 115 = .ok (.dcmp .l, 1) := by decide +kernel
theorem dX2_isUndefined_116 : decode cX2_isUndefined 116 = .ok (.ifCond .eq 7, 3) := by decide +kernel
theorem dX2_isUndefined_119 : decode cX2_isUndefined 119 = .ok (.iconst 1, 1) := by decide +kernel
theorem dX2_isUndefined_120 : decode cX2_isUndefined 120 = .ok (.goto 4, 3) := by decide +kernel
theorem dX2_isUndefined_123 : decode cX2_isUndefined 123 = .ok (.iconst 0, 1) := by decide +kernel
theorem dX2_isUndefined_124 : decode cX2_isUndefined 124 = .ok (.ireturn, 1) := by decide +kernel
theorem dX2_isUndefined_125 : decode cX2_isUndefined 125 = .ok (.iload 5, 2) := by decide +kernel
theorem dX2_isUndefined_127 : decode cX2_isUndefined 127 = .ok (.ifCond .eq 13, 3) := by decide +kernel
theorem dX2_isUndefined_130 : decode cX2_isUndefined 130 = .ok (.dload_n 1, 1) := by decide +kernel
theorem dX2_isUndefined_131 : decode cX2_isUndefined 131 = .ok (.dload_n 3, 1) := by decide +kernel
theorem dX2_isUndefined_132 : decode cX2_isUndefined 132 = .ok (.dcmp .l, 1) := by decide +kernel
theorem dX2_isUndefined_133 : decode cX2_isUndefined 133 = .ok (.ifCond .ne 7, 3) := by decide +kernel
theorem dX2_isUndefined_136 : decode cX2_isUndefined 136 = .ok (.iconst 1, 1) := by decide +kernel
theorem dX2_isUndefined_137 : decode cX2_isUndefined 137 = .ok (.goto 4, 3) := by decide +kernel
theorem dX2_isUndefined_140 : decode cX2_isUndefined 140 = .ok (.iconst 0, 1) := by decide +kernel
theorem dX2_isUndefined_141 : decode cX2_isUndefined 141 = .ok (.ireturn, 1) := by decide +kernel
theorem dX2_isUndefined_142 : decode cX2_isUndefined 142 = .ok (.dload_n 1, 1) := by decide +kernel
theorem dX2_isUndefined_143 : decode cX2_isUndefined 143 = .ok (.dconst 0, 1) := by decide +kernel
theorem dX2_isUndefined_144 : decode cX2_isUndefined 144 = .ok (.dcmp .l, 1) := by decide +kernel
theorem dX2_isUndefined_145 : decode cX2_isUndefined 145 = .ok (.ifCond .ne 10, 3) := by decide +kernel
theorem dX2_isUndefined_148 : decode cX2_isUndefined 148 = .ok (.dload_n 3, 1) := by decide +kernel
theorem dX2_isUndefined_149 : decode cX2_isUndefined 149 = .ok (.invokestatic 107, 3) := by decide +kernel
theorem dX2_isUndefined_152 : decode cX2_isUndefined 152 = .ok (.ifCond .ne 16, 3) := by decide +kernel
theorem dX2_isUndefined_155 : decode cX2_isUndefined 155 = .ok (.dload_n 1, 1) := by decide +kernel
theorem dX2_isUndefined_156 : decode cX2_isUndefined 156 = .ok (.invokestatic 107, 3) := by decide +kernel
theorem dX2_isUndefined_159 : decode cX2_isUndefined 159 = .ok (.ifCond .eq 13, 3) := by decide +kernel
theorem dX2_isUndefined_162 : decode cX2_isUndefined 162 = .ok (.dload_n 3, 1) := by decide +kernel
theorem dX2_isUndefined_163 : decode cX2_isUndefined 163 = .ok (.dconst 0, 1) := by decide +kernel
theorem dX2_isUndefined_164 : decode cX2_isUndefined 164 = .ok (.dcmp .l, 1) := by decide +kernel
theorem dX2_isUndefined_165 : decode cX2_isUndefined 165 = .ok (.ifCond .ne 7, 3) := by decide +kernel
theorem dX2_isUndefined_168 : decode cX2_isUndefined 168 = .ok (.iconst 1, 1) := by decide +kernel
theorem dX2_isUndefined_169 : decode cX2_isUndefined 169 = .ok (.goto 4, 3) := by decide +kernel
theorem dX2_isUndefined_172 : decode cX2_isUndefined 172 = .ok (.iconst 0, 1) := by decide +kernel
theorem dX2_isUndefined_173 : decode cX2_isUndefined 173 = .ok (.ireturn, 1) := by decide +kernel
theorem dX2_isUndefined_174 : decode cX2_isUndefined 174 = .ok (.iload 5, 2) := by decide +kernel
theorem dX2_isUndefined_176 : decode cX2_isUndefined 176 = .ok (.ifCond .ne 15, 3) := by decide +kernel
theorem dX2_isUndefined_179 : decode cX2_isUndefined 179 = .ok (.dload_n 1, 1) := by decide +kernel
theorem dX2_isUndefined_180 : decode cX2_isUndefined 180 = .ok (.dconst 0, 1) := by decide +kernel
theorem dX2_isUndefined_181 : decode cX2_isUndefined 181 = .ok (.dcmp .l, 1) := by decide +kernel
theorem dX2_isUndefined_182 : decode cX2_isUndefined 182 = .ok (.ifCond .ne 13, 3) := by decide +kernel
theorem dX2_isUndefined_185 : decode cX2_isUndefined 185 = .ok (.dload_n 3, 1) := by decide +kernel
theorem dX2_isUndefined_186 : decode cX2_isUndefined 186 = .ok (.dconst 0, 1) := by decide +kernel
theorem dX2_isUndefined_187 : decode cX2_isUndefined 187 = .ok (.dcmp .l, 1) := by decide +kernel
theorem dX2_isUndefined_188 : decode cX2_isUndefined 188 = .ok (.ifCond .ne 7, 3) := by decide +kernel
theorem dX2_isUndefined_191 : decode cX2_isUndefined 191 = .ok (.iconst 1, 1) := by decide +kernel
theorem dX2_isUndefined_192 : decode cX2_isUndefined 192 = .ok (.goto 4, 3) := by decide +kernel
theorem dX2_isUndefined_195 : decode cX2_isUndefined 195 = .ok (.iconst 0, 1) := by decide +kernel
theorem dX2_isUndefined_196 : decode cX2_isUndefined 196 = .ok (.ireturn, 1) := by decide +kernel
theorem dX2_isUndefined_197 : decode cX2_isUndefined 197 = .ok (.dload_n 3, 1) := by decide +kernel
theorem dX2_isUndefined_198 : decode cX2_isUndefined 198 = .ok (.dconst 0, 1) := by decide +kernel
theorem dX2_isUndefined_199 : decode cX2_isUndefined 199 = .ok (.dcmp .l, 1) := by decide +kernel
theorem dX2_isUndefined_200 : decode cX2_isUndefined 200 = .ok (.ifCond .eq 10, 3) := by decide +kernel
theorem dX2_isUndefined_203 : decode cX2_isUndefined 203 = .ok (.dload_n 1, 1) := by decide +kernel
theorem dX2_isUndefined_204 : decode cX2_isUndefined 204 = .ok (.invokestatic 107, 3) := by decide +kernel
theorem dX2_isUndefined_207 : decode cX2_isUndefined 207 = .ok (.ifCond .eq 7, 3) := by decide +kernel
theorem dX2_isUndefined_210 : decode cX2_isUndefined 210 = .ok (.iconst 1, 1) := by decide +kernel
theorem dX2_isUndefined_211 : decode cX2_isUndefined 211 = .ok (.goto 4, 3) := by decide +kernel
theorem dX2_isUndefined_214 : decode cX2_isUndefined 214 = .ok (.iconst 0, 1) := by decide +kernel
theorem dX2_isUndefined_215 : decode cX2_isUndefined 215 = .ok (.ireturn, 1) := by decide +kernel
theorem dX2_isUndefined_216 : decode cX2_isUndefined 216 = .ok (.dload_n 3, 1) := by decide +kernel
theorem dX2_isUndefined_217 : decode cX2_isUndefined 217 = .ok (.dconst 0, 1) := by decide +kernel
theorem dX2_isUndefined_218 : decode cX2_isUndefined 218 = .ok (.dcmp .l, 1) := by decide +kernel
theorem dX2_isUndefined_219 : decode cX2_isUndefined 219 = .ok (.ifCond .eq 10, 3) := by decide +kernel
theorem dX2_isUndefined_222 : decode cX2_isUndefined 222 = .ok (.dload_n 3, 1) := by decide +kernel
theorem dX2_isUndefined_223 : decode cX2_isUndefined 223 = .ok (.invokestatic 107, 3) := by decide +kernel
theorem dX2_isUndefined_226 : decode cX2_isUndefined 226 = .ok (.ifCond .eq 7, 3) := by decide +kernel
theorem dX2_isUndefined_229 : decode cX2_isUndefined 229 = .ok (.iconst 1, 1) := by decide +kernel
theorem dX2_isUndefined_230 : decode cX2_isUndefined 230 = .ok (.goto 4, 3) := by decide +kernel
theorem dX2_isUndefined_233 : decode cX2_isUndefined 233 = .ok (.iconst 0, 1) := by decide +kernel
theorem dX2_isUndefined_234 : decode cX2_isUndefined 234 = .ok (.ireturn, 1) := by decide +kernel
theorem dX2_isUndefined_235 : decode cX2_isUndefined 235 = .ok (.iconst 0, 1) := by decide +kernel
theorem dX2_isUndefined_236 : decode cX2_isUndefined 236 = .ok (.ireturn, 1) := by decide +kernel
theorem dX2_numberAt_0 : decode cX2_numberAt 0 = .ok (.aload_n 1, 1) := by decide +kernel
theorem dX2_numberAt_1 : decode cX2_numberAt 1 = .ok (.getfield 54, 3) := by decide +kernel
theorem dX2_numberAt_4 : decode cX2_numberAt 4 = .ok (.bipush 8, 2) := by decide +kernel
theorem dX2_numberAt_6 : decode cX2_numberAt 6 = .ok (.if_icmp .gt 21, 3) := by decide +kernel
theorem dX2_numberAt_9 : decode cX2_numberAt 9 = .ok (.aload_n 0, 1) := by decide +kernel
theorem dX2_numberAt_10 : decode cX2_numberAt 10 = .ok (.aload_n 1, 1) := by decide +kernel
theorem dX2_numberAt_11 : decode cX2_numberAt 11 = .ok (.getfield 54, 3) := by decide +kernel
theorem dX2_numberAt_14 : decode cX2_numberAt 14 = .ok (.aload_n 0, 1) := by decide +kernel
theorem dX2_numberAt_15 : decode cX2_numberAt 15 = .ok (.getfield 21, 3) := by decide +kernel
theorem dX2_numberAt_18 : decode cX2_numberAt 18 = .ok (.getfield 87, 3) := by decide +kernel
theorem dX2_numberAt_21 : decode cX2_numberAt 21 = .ok (.iload_n 2, 1) := by decide +kernel
theorem dX2_numberAt_22 : decode cX2_numberAt 22 = .ok (.daload, 1) := by decide +kernel
theorem dX2_numberAt_23 : decode cX2_numberAt 23 = .ok (.invokevirtual 111, 3) := by decide +kernel
theorem dX2_numberAt_26 : decode cX2_numberAt 26 = .ok (.dreturn, 1) := by decide +kernel
theorem dX2_numberAt_27 : decode cX2_numberAt 27 = .ok (.aload_n 1, 1) := by decide +kernel
theorem dX2_numberAt_28 : decode cX2_numberAt 28 = .ok (.getfield 54, 3) := by decide +kernel
theorem dX2_numberAt_31 : decode cX2_numberAt 31 = .ok (.invokestatic 80, 3) := by decide +kernel
theorem dX2_numberAt_34 : decode cX2_numberAt 34 = .ok (.ifCond .eq 30, 3) := by decide +kernel
theorem dX2_numberAt_37 : decode cX2_numberAt 37 = .ok (.aload_n 0, 1) := by decide +kernel
theorem dX2_numberAt_38 : decode cX2_numberAt 38 = .ok (.aload_n 1, 1) := by decide +kernel
theorem dX2_numberAt_39 : decode cX2_numberAt 39 = .ok (.getfield 54, 3) := by decide +kernel
theorem dX2_numberAt_42 : decode cX2_numberAt 42 = .ok (.aload_n 0, 1) := by decide +kernel
theorem dX2_numberAt_43 : decode cX2_numberAt 43 = .ok (.getfield 21, 3) := by decide +kernel
theorem dX2_numberAt_46 : decode cX2_numberAt 46 = .ok (.getfield 87, 3) := by decide +kernel
theorem dX2_numberAt_49 : decode cX2_numberAt 49 = .ok (.iload_n 2, 1) := by decide +kernel
theorem dX2_numberAt_50 : decode cX2_numberAt 50 = .ok (.daload, 1) := by decide +kernel
theorem dX2_numberAt_51 : decode cX2_numberAt 51 = .ok (.aload_n 0, 1) := by decide +kernel
theorem dX2_numberAt_52 : decode cX2_numberAt 52 = .ok (.getfield 25, 3) := by decide +kernel
theorem dX2_numberAt_55 : decode cX2_numberAt 55 = .ok (.getfield 87, 3) := by decide +kernel
theorem dX2_numberAt_58 : decode cX2_numberAt 58 = .ok (.iload_n 2, 1) := by decide +kernel
theorem dX2_numberAt_59 : decode cX2_numberAt 59 = .ok (.daload, 1) := by decide +kernel
theorem dX2_numberAt_60 : decode cX2_numberAt 60 = .ok (.invokevirtual 115, 3) := by decide +kernel
theorem dX2_numberAt_63 : decode cX2_numberAt 63 = .ok (.dreturn, 1) := by decide +kernel
theorem dX2_numberAt_64 : decode cX2_numberAt 64 = .ok (.aload_n 1, 1) := by decide +kernel
theorem dX2_numberAt_65 : decode cX2_numberAt 65 = .ok (.getfield 54, 3) := by decide +kernel
theorem dX2_numberAt_68 : decode cX2_numberAt 68 = .ok (.tableswitch 205 18 25 #[48, 81, 87, 87, 94, 113, 128, 162], 48) := by decide +kernel
theorem dX2_numberAt_116 : decode cX2_numberAt 116 = .ok (.aload_n 0, 1) := by decide +kernel
theorem dX2_numberAt_117 : decode cX2_numberAt 117 = .ok (.getfield 21, 3) := by decide +kernel
theorem dX2_numberAt_120 : decode cX2_numberAt 120 = .ok (.iload_n 2, 1) := by decide +kernel
theorem dX2_numberAt_121 : decode cX2_numberAt 121 = .ok (.invokevirtual 84, 3) := by decide +kernel
theorem dX2_numberAt_124 : decode cX2_numberAt 124 = .ok (.ifCond .eq 15, 3) := by decide +kernel
theorem dX2_numberAt_127 : decode cX2_numberAt 127 = .ok (.aload_n 0, 1) := by decide +kernel
theorem dX2_numberAt_128 : decode cX2_numberAt 128 = .ok (.getfield 25, 3) := by decide +kernel
theorem dX2_numberAt_131 : decode cX2_numberAt 131 = .ok (.getfield 87, 3) := by decide +kernel
theorem dX2_numberAt_134 : decode cX2_numberAt 134 = .ok (.iload_n 2, 1) := by decide +kernel
theorem dX2_numberAt_135 : decode cX2_numberAt 135 = .ok (.daload, 1) := by decide +kernel
theorem dX2_numberAt_136 : decode cX2_numberAt 136 = .ok (.goto 12, 3) := by decide +kernel
theorem dX2_numberAt_139 : decode cX2_numberAt 139 = .ok (.aload_n 0, 1) := by decide +kernel
theorem dX2_numberAt_140 : decode cX2_numberAt 140 = .ok (.getfield 21, 3) := by decide +kernel
theorem dX2_numberAt_143 : decode cX2_numberAt 143 = .ok (.getfield 87, 3) := by decide +kernel
theorem dX2_numberAt_146 : decode cX2_numberAt 146 = .ok (.iload_n 2, 1) := by decide +kernel
theorem dX2_numberAt_147 : decode cX2_numberAt 147 = .ok (.daload, 1) := by decide +kernel
theorem dX2_numberAt_148 : decode cX2_numberAt 148 = .ok (.dreturn, 1) := by decide +kernel
theorem dX2_numberAt_149 : decode cX2_numberAt 149 = .ok (.aload_n 0, 1) := by decide +kernel
theorem dX2_numberAt_150 : decode cX2_numberAt 150 = .ok (.iload_n 2, 1) := by decide +kernel
theorem dX2_numberAt_151 : decode cX2_numberAt 151 = .ok (.invokevirtual 119, 3) := by decide +kernel
theorem dX2_numberAt_154 : decode cX2_numberAt 154 = .ok (.dreturn, 1) := by decide +kernel
theorem dX2_numberAt_155 : decode cX2_numberAt 155 = .ok (.aload_n 0, 1) := by decide +kernel
theorem dX2_numberAt_156 : decode cX2_numberAt 156 = .ok (.aload_n 1, 1) := by decide +kernel
theorem dX2_numberAt_157 : decode cX2_numberAt 157 = .ok (.iload_n 2, 1) := by decide +kernel
theorem dX2_numberAt_158 : decode cX2_numberAt 158 = .ok (.invokevirtual 123, 3) := by decide +kernel
theorem dX2_numberAt_161 : decode cX2_numberAt 161 = .ok (.dreturn, 1) := by decide +kernel
theorem dX2_numberAt_162 : decode cX2_numberAt 162 = .ok (.iload_n 2, 1) := by decide +kernel
theorem dX2_numberAt_163 : decode cX2_numberAt 163 = .ok (.aload_n 0, 1) := by decide +kernel
theorem dX2_numberAt_164 : decode cX2_numberAt 164 = .ok (.getfield 32, 3) := by decide +kernel
theorem dX2_numberAt_167 : decode cX2_numberAt 167 = .ok (.if_icmp .ge 12, 3) := by decide +kernel
theorem dX2_numberAt_170 : decode cX2_numberAt 170 = .ok (.aload_n 0, 1) := by decide +kernel
theorem dX2_numberAt_171 : decode cX2_numberAt 171 = .ok (.getfield 28, 3) := by decide +kernel
theorem dX2_numberAt_174 : decode cX2_numberAt 174 = .ok (.iload_n 2, 1) := by decide +kernel
theorem dX2_numberAt_175 : decode cX2_numberAt 175 = .ok (.daload, 1) := by decide +kernel
theorem dX2_numberAt_176 : decode cX2_numberAt 176 = .ok (.goto 4, 3) := by decide +kernel
theorem dX2_numberAt_179 : decode cX2_numberAt 179 = .ok (.dconst 0, 1) := by decide +kernel
theorem dX2_numberAt_180 : decode cX2_numberAt 180 = .ok (.dreturn, 1) := by decide +kernel
theorem dX2_numberAt_181 : decode cX2_numberAt 181 = .ok (.aload_n 0, 1) := by decide +kernel
theorem dX2_numberAt_182 : decode cX2_numberAt 182 = .ok (.aload_n 0, 1) := by decide +kernel
theorem dX2_numberAt_183 : decode cX2_numberAt 183 = .ok (.getfield 21, 3) := by decide +kernel
theorem dX2_numberAt_186 : decode cX2_numberAt 186 = .ok (.getfield 87, 3) := by decide +kernel
theorem dX2_numberAt_189 : decode cX2_numberAt 189 = .ok (.iload_n 2, 1) := by decide +kernel
theorem dX2_numberAt_190 : decode cX2_numberAt 190 = .ok (.daload, 1) := by decide +kernel
theorem dX2_numberAt_191 : decode cX2_numberAt 191 = .ok (.invokevirtual 126, 3) := by decide +kernel
theorem dX2_numberAt_194 : decode cX2_numberAt 194 = .ok (.i2d, 1) := by decide +kernel
theorem dX2_numberAt_195 : decode cX2_numberAt 195 = .ok (.dreturn, 1) := by decide +kernel
theorem dX2_numberAt_196 : decode cX2_numberAt 196 = .ok (.iload_n 2, 1) := by decide +kernel
theorem dX2_numberAt_197 : decode cX2_numberAt 197 = .ok (.ifCond .ne 7, 3) := by decide +kernel
theorem dX2_numberAt_200 : decode cX2_numberAt 200 = .ok (.dconst 0, 1) := by decide +kernel
theorem dX2_numberAt_201 : decode cX2_numberAt 201 = .ok (.goto 28, 3) := by decide +kernel
theorem dX2_numberAt_204 : decode cX2_numberAt 204 = .ok (.aload_n 0, 1) := by decide +kernel
theorem dX2_numberAt_205 : decode cX2_numberAt 205 = .ok (.aload_n 0, 1) := by decide +kernel
theorem dX2_numberAt_206 : decode cX2_numberAt 206 = .ok (.getfield 21, 3) := by decide +kernel
theorem dX2_numberAt_209 : decode cX2_numberAt 209 = .ok (.getfield 87, 3) := by decide +kernel
theorem dX2_numberAt_212 : decode cX2_numberAt 212 = .ok (.iload_n 2, 1) := by decide +kernel
theorem dX2_numberAt_213 : decode cX2_numberAt 213 = .ok (.daload, 1) := by decide +kernel
theorem dX2_numberAt_214 : decode cX2_numberAt 214 = .ok (.aload_n 0, 1) := by decide +kernel
theorem dX2_numberAt_215 : decode cX2_numberAt 215 = .ok (.getfield 21, 3) := by decide +kernel
theorem dX2_numberAt_218 : decode cX2_numberAt 218 = .ok (.getfield 87, 3) := by decide +kernel
theorem dX2_numberAt_221 : decode cX2_numberAt 221 = .ok (.iload_n 2, 1) := by decide +kernel
theorem dX2_numberAt_222 : decode cX2_numberAt 222 = .ok (.iconst 1, 1) := by decide +kernel
theorem dX2_numberAt_223 : decode cX2_numberAt 223 = .ok (.isub, 1) := by decide +kernel
theorem dX2_numberAt_224 : decode cX2_numberAt 224 = .ok (.daload, 1) := by decide +kernel
theorem dX2_numberAt_225 : decode cX2_numberAt 225 = .ok (.dneg, 1) := by decide +kernel
theorem dX2_numberAt_226 : decode cX2_numberAt 226 = .ok (.invokevirtual 130, 3) := by decide +kernel
theorem dX2_numberAt_229 : decode cX2_numberAt 229 = .ok (.dreturn, 1) := by decide +kernel
theorem dX2_numberAt_230 : decode cX2_numberAt 230 = .ok (.iload_n 2, 1) := by decide +kernel
theorem dX2_numberAt_231 : decode cX2_numberAt 231 = .ok (.ifCond .ne 7, 3) := by decide +kernel
theorem dX2_numberAt_234 : decode cX2_numberAt 234 = .ok (.dconst 0, 1) := by decide +kernel
theorem dX2_numberAt_235 : decode cX2_numberAt 235 = .ok (.goto 11, 3) := by decide +kernel
theorem dX2_numberAt_238 : decode cX2_numberAt 238 = .ok (.aload_n 1, 1) := by decide +kernel
theorem dX2_numberAt_239 : decode cX2_numberAt 239 = .ok (.getfield 87, 3) := by decide +kernel
theorem dX2_numberAt_242 : decode cX2_numberAt 242 = .ok (.iload_n 2, 1) := by decide +kernel
theorem dX2_numberAt_243 : decode cX2_numberAt 243 = .ok (.iconst 1, 1) := by decide +kernel
theorem dX2_numberAt_244 : decode cX2_numberAt 244 = .ok (.isub, 1) := by decide +kernel
theorem dX2_numberAt_245 : decode cX2_numberAt 245 = .ok (.daload, 1) := by decide +kernel
theorem dX2_numberAt_246 : decode cX2_numberAt 246 = .ok (.aload_n 1, 1) := by decide +kernel
theorem dX2_numberAt_247 : decode cX2_numberAt 247 = .ok (.getfield 94, 3) := by decide +kernel
theorem dX2_numberAt_250 : decode cX2_numberAt 250 = .ok (.aload_n 0, 1) := by decide +kernel
theorem dX2_numberAt_251 : decode cX2_numberAt 251 = .ok (.getfield 21, 3) := by decide +kernel
theorem dX2_numberAt_254 : decode cX2_numberAt 254 = .ok (.iload_n 2, 1) := by decide +kernel
theorem dX2_numberAt_255 : decode cX2_numberAt 255 = .ok (.aload_n 0, 1) := by decide +kernel
theorem dX2_numberAt_256 : decode cX2_numberAt 256 = .ok (.getfield 25, 3) := by decide +kernel
theorem dX2_numberAt_259 : decode cX2_numberAt 259 = .ok (.iload_n 2, 1) := by decide +kernel
theorem dX2_numberAt_260 : decode cX2_numberAt 260 = .ok (.invokestatic 97, 3) := by decide +kernel
theorem dX2_numberAt_263 : decode cX2_numberAt 263 = .ok (.ifCond .eq 7, 3) := by decide +kernel
theorem dX2_numberAt_266 : decode cX2_numberAt 266 = .ok (.dconst 1, 1) := by decide +kernel
theorem dX2_numberAt_267 : decode cX2_numberAt 267 = .ok (.goto 4, 3) := by decide +kernel
theorem dX2_numberAt_270 : decode cX2_numberAt 270 = .ok (.dconst 0, 1) := by decide +kernel
theorem dX2_numberAt_271 : decode cX2_numberAt 271 = .ok (.dadd, 1) := by decide +kernel
theorem dX2_numberAt_272 : decode cX2_numberAt 272 = .ok (.dreturn, 1) := by decide +kernel
theorem dX2_numberAt_273 : decode cX2_numberAt 273 = .ok (.aload_n 0, 1) := by decide +kernel
theorem dX2_numberAt_274 : decode cX2_numberAt 274 = .ok (.getfield 21, 3) := by decide +kernel
theorem dX2_numberAt_277 : decode cX2_numberAt 277 = .ok (.getfield 87, 3) := by decide +kernel
theorem dX2_numberAt_280 : decode cX2_numberAt 280 = .ok (.iload_n 2, 1) := by decide +kernel
theorem dX2_numberAt_281 : decode cX2_numberAt 281 = .ok (.daload, 1) := by decide +kernel
theorem dX2_numberAt_282 : decode cX2_numberAt 282 = .ok (.dreturn, 1) := by decide +kernel
theorem dX2_ofOne_0 : decode cX2_ofOne 0 = .ok (.iload_n 1, 1) := by decide +kernel
theorem dX2_ofOne_1 : decode cX2_ofOne 1 = .ok (.tableswitch 123 1 8 #[47, 61, 66, 73, 78, 102, 111, 120], 47) := by decide +kernel
theorem dX2_ofOne_48 : decode cX2_ofOne 48 = .ok (.dload_n 2, 1) := by decide +kernel
theorem dX2_ofOne_49 : decode cX2_ofOne 49 = .ok (.invokestatic 134, 3) := by decide +kernel
theorem dX2_ofOne_52 : decode cX2_ofOne 52 = .ok (.ifCond .eq 8, 3) := by decide +kernel
theorem dX2_ofOne_55 : decode cX2_ofOne 55 = .ok (.dload_n 2, 1) := by decide +kernel
theorem dX2_ofOne_56 : decode cX2_ofOne 56 = .ok (.dneg, 1) := by decide +kernel
theorem dX2_ofOne_57 : decode cX2_ofOne 57 = .ok (.goto 4, 3) := by decide +kernel
theorem dX2_ofOne_60 : decode cX2_ofOne 60 = .ok (.dload_n 2, 1) := by decide +kernel
theorem dX2_ofOne_61 : decode cX2_ofOne 61 = .ok (.dreturn, 1) := by decide +kernel
theorem dX2_ofOne_62 : decode cX2_ofOne 62 = .ok (.dload_n 2, 1) := by decide +kernel
theorem dX2_ofOne_63 : decode cX2_ofOne 63 = .ok (.invokestatic 137, 3) := by decide +kernel
theorem dX2_ofOne_66 : decode cX2_ofOne 66 = .ok (.dreturn, 1) := by decide +kernel
theorem dX2_ofOne_67 : decode cX2_ofOne 67 = .ok (.dload_n 2, 1) := by decide +kernel
theorem dX2_ofOne_68 : decode cX2_ofOne 68 = .ok (.dneg, 1) := by decide +kernel
theorem dX2_ofOne_69 : decode cX2_ofOne 69 = .ok (.invokestatic 137, 3) := by decide +kernel
theorem dX2_ofOne_72 : decode cX2_ofOne 72 = .ok (.dneg, 1) := by decide +kernel
theorem dX2_ofOne_73 : decode cX2_ofOne 73 = .ok (.dreturn, 1) := by decide +kernel
theorem dX2_ofOne_74 : decode cX2_ofOne 74 = .ok (.dload_n 2, 1) := by decide +kernel
theorem dX2_ofOne_75 : decode cX2_ofOne 75 = .ok (.invokestatic 141, 3) := by decide +kernel
theorem dX2_ofOne_78 : decode cX2_ofOne 78 = .ok (.dreturn, 1) := by decide +kernel
theorem dX2_ofOne_79 : decode cX2_ofOne 79 = .ok (.dload_n 2, 1) := by decide +kernel
theorem dX2_ofOne_80 : decode cX2_ofOne 80 = .ok (.dconst 0, 1) := by decide +kernel
theorem dX2_ofOne_81 : decode cX2_ofOne 81 = .ok (.dcmp .l, 1) := by decide +kernel
theorem dX2_ofOne_82 : decode cX2_ofOne 82 = .ok (.ifCond .le 7, 3) := by decide +kernel
theorem dX2_ofOne_85 : decode cX2_ofOne 85 = .ok (.dconst 1, 1) := by decide +kernel
theorem dX2_ofOne_86 : decode cX2_ofOne 86 = .ok (.goto 16, 3) := by decide +kernel
theorem dX2_ofOne_89 : decode cX2_ofOne 89 = .ok (.dload_n 2, 1) := by decide +kernel
theorem dX2_ofOne_90 : decode cX2_ofOne 90 = .ok (.dconst 0, 1) := by decide +kernel
theorem dX2_ofOne_91 : decode cX2_ofOne 91 = .ok (.dcmp .g, 1) := by decide +kernel
theorem dX2_ofOne_92 : decode cX2_ofOne 92 = .ok (.ifCond .ge 9, 3) := by decide +kernel
theorem dX2_ofOne_95 : decode cX2_ofOne 95 = .ok (.ldc2_w 144, 3) := by decide +kernel
theorem dX2_ofOne_98 : decode cX2_ofOne 98 = .ok (.goto 4, 3) := by decide +kernel
theorem dX2_ofOne_101 : decode cX2_ofOne 101 = .ok (.dload_n 2, 1) := by decide +kernel
theorem dX2_ofOne_102 : decode cX2_ofOne 102 = .ok (.dreturn, 1) := by decide +kernel
theorem dX2_ofOne_103 : decode cX2_ofOne 103 = .ok (.aload_n 0, 1) := by decide +kernel
theorem dX2_ofOne_104 : decode cX2_ofOne 104 = .ok (.dload_n 2, 1) := by decide +kernel
theorem dX2_ofOne_105 : decode cX2_ofOne 105 = .ok (.ldc2_w 146, 3) := by decide +kernel
theorem dX2_ofOne_108 : decode cX2_ofOne 108 = .ok (.invokevirtual 148, 3) := by decide +kernel
theorem dX2_ofOne_111 : decode cX2_ofOne 111 = .ok (.dreturn, 1) := by decide +kernel
theorem dX2_ofOne_112 : decode cX2_ofOne 112 = .ok (.aload_n 0, 1) := by decide +kernel
theorem dX2_ofOne_113 : decode cX2_ofOne 113 = .ok (.dload_n 2, 1) := by decide +kernel
theorem dX2_ofOne_114 : decode cX2_ofOne 114 = .ok (.ldc2_w 146, 3) := by decide +kernel
theorem dX2_ofOne_117 : decode cX2_ofOne 117 = .ok (.invokevirtual 151, 3) := by decide +kernel
theorem dX2_ofOne_120 : decode cX2_ofOne 120 = .ok (.dreturn, 1) := by decide +kernel
theorem dX2_ofOne_121 : decode cX2_ofOne 121 = .ok (.dload_n 2, 1) := by decide +kernel
theorem dX2_ofOne_122 : decode cX2_ofOne 122 = .ok (.dneg, 1) := by decide +kernel
theorem dX2_ofOne_123 : decode cX2_ofOne 123 = .ok (.dreturn, 1) := by decide +kernel
theorem dX2_ofOne_124 : decode cX2_ofOne 124 = .ok (.dload_n 2, 1) := by decide +kernel
theorem dX2_ofOne_125 : decode cX2_ofOne 125 = .ok (.dreturn, 1) := by decide +kernel
theorem dX2_ofTwo_0 : decode cX2_ofTwo 0 = .ok (.iload_n 1, 1) := by decide +kernel
theorem dX2_ofTwo_1 : decode cX2_ofTwo 1 = .ok (.tableswitch 139 9 16 #[47, 55, 64, 72, 80, 88, 104, 120], 47) := by decide +kernel
theorem dX2_ofTwo_48 : decode cX2_ofTwo 48 = .ok (.aload_n 0, 1) := by decide +kernel
theorem dX2_ofTwo_49 : decode cX2_ofTwo 49 = .ok (.dload_n 2, 1) := by decide +kernel
theorem dX2_ofTwo_50 : decode cX2_ofTwo 50 = .ok (.dload 4, 2) := by decide +kernel
theorem dX2_ofTwo_52 : decode cX2_ofTwo 52 = .ok (.invokevirtual 130, 3) := by decide +kernel
theorem dX2_ofTwo_55 : decode cX2_ofTwo 55 = .ok (.dreturn, 1) := by decide +kernel
theorem dX2_ofTwo_56 : decode cX2_ofTwo 56 = .ok (.aload_n 0, 1) := by decide +kernel
theorem dX2_ofTwo_57 : decode cX2_ofTwo 57 = .ok (.dload_n 2, 1) := by decide +kernel
theorem dX2_ofTwo_58 : decode cX2_ofTwo 58 = .ok (.dload 4, 2) := by decide +kernel
theorem dX2_ofTwo_60 : decode cX2_ofTwo 60 = .ok (.dneg, 1) := by decide +kernel
theorem dX2_ofTwo_61 : decode cX2_ofTwo 61 = .ok (.invokevirtual 130, 3) := by decide +kernel
theorem dX2_ofTwo_64 : decode cX2_ofTwo 64 = .ok (.dreturn, 1) := by decide +kernel
theorem dX2_ofTwo_65 : decode cX2_ofTwo 65 = .ok (.aload_n 0, 1) := by decide +kernel
theorem dX2_ofTwo_66 : decode cX2_ofTwo 66 = .ok (.dload_n 2, 1) := by decide +kernel
theorem dX2_ofTwo_67 : decode cX2_ofTwo 67 = .ok (.dload 4, 2) := by decide +kernel
theorem dX2_ofTwo_69 : decode cX2_ofTwo 69 = .ok (.invokevirtual 151, 3) := by decide +kernel
theorem dX2_ofTwo_72 : decode cX2_ofTwo 72 = .ok (.dreturn, 1) := by decide +kernel
theorem dX2_ofTwo_73 : decode cX2_ofTwo 73 = .ok (.aload_n 0, 1) := by decide +kernel
theorem dX2_ofTwo_74 : decode cX2_ofTwo 74 = .ok (.dload_n 2, 1) := by decide +kernel
theorem dX2_ofTwo_75 : decode cX2_ofTwo 75 = .ok (.dload 4, 2) := by decide +kernel
theorem dX2_ofTwo_77 : decode cX2_ofTwo 77 = .ok (.invokevirtual 148, 3) := by decide +kernel
theorem dX2_ofTwo_80 : decode cX2_ofTwo 80 = .ok (.dreturn, 1) := by decide +kernel
theorem dX2_ofTwo_81 : decode cX2_ofTwo 81 = .ok (.aload_n 0, 1) := by decide +kernel
theorem dX2_ofTwo_82 : decode cX2_ofTwo 82 = .ok (.dload_n 2, 1) := by decide +kernel
theorem dX2_ofTwo_83 : decode cX2_ofTwo 83 = .ok (.dload 4, 2) := by decide +kernel
theorem dX2_ofTwo_85 : decode cX2_ofTwo 85 = .ok (.invokevirtual 154, 3) := by decide +kernel
theorem dX2_ofTwo_88 : decode cX2_ofTwo 88 = .ok (.dreturn, 1) := by decide +kernel
theorem dX2_ofTwo_89 : decode cX2_ofTwo 89 = .ok (.dload 4, 2) := by decide +kernel
theorem dX2_ofTwo_91 : decode cX2_ofTwo 91 = .ok (.dload_n 2, 1) := by decide +kernel
theorem dX2_ofTwo_92 : decode cX2_ofTwo 92 = .ok (.invokestatic 157, 3) := by decide +kernel
theorem dX2_ofTwo_95 : decode cX2_ofTwo 95 = .ok (.ifCond .eq 8, 3) := by decide +kernel
theorem dX2_ofTwo_98 : decode cX2_ofTwo 98 = .ok (.dload 4, 2) := by decide +kernel
theorem dX2_ofTwo_100 : decode cX2_ofTwo 100 = .ok (.goto 4, 3) := by decide +kernel
theorem dX2_ofTwo_103 : decode cX2_ofTwo 103 = .ok (.dload_n 2, 1) := by decide +kernel
theorem dX2_ofTwo_104 : decode cX2_ofTwo 104 = .ok (.dreturn, 1) := by decide +kernel
theorem dX2_ofTwo_105 : decode cX2_ofTwo 105 = .ok (.dload 4, 2) := by decide +kernel
theorem dX2_ofTwo_107 : decode cX2_ofTwo 107 = .ok (.dload_n 2, 1) := by decide +kernel
theorem dX2_ofTwo_108 : decode cX2_ofTwo 108 = .ok (.invokestatic 157, 3) := by decide +kernel
theorem dX2_ofTwo_111 : decode cX2_ofTwo 111 = .ok (.ifCond .eq 7, 3) := by decide +kernel
theorem dX2_ofTwo_114 : decode cX2_ofTwo 114 = .ok (.dload_n 2, 1) := by decide +kernel
theorem dX2_ofTwo_115 : decode cX2_ofTwo 115 = .ok (.goto 5, 3) := by decide +kernel
theorem dX2_ofTwo_118 : decode cX2_ofTwo 118 = .ok (.dload 4, 2) := by decide +kernel
theorem dX2_ofTwo_120 : decode cX2_ofTwo 120 = .ok (.dreturn, 1) := by decide +kernel
theorem dX2_ofTwo_121 : decode cX2_ofTwo 121 = .ok (.dload_n 2, 1) := by decide +kernel
theorem dX2_ofTwo_122 : decode cX2_ofTwo 122 = .ok (.invokestatic 134, 3) := by decide +kernel
theorem dX2_ofTwo_125 : decode cX2_ofTwo 125 = .ok (.dload 4, 2) := by decide +kernel
theorem dX2_ofTwo_127 : decode cX2_ofTwo 127 = .ok (.invokestatic 134, 3) := by decide +kernel
theorem dX2_ofTwo_130 : decode cX2_ofTwo 130 = .ok (.if_icmp .ne 7, 3) := by decide +kernel
theorem dX2_ofTwo_133 : decode cX2_ofTwo 133 = .ok (.dload_n 2, 1) := by decide +kernel
theorem dX2_ofTwo_134 : decode cX2_ofTwo 134 = .ok (.goto 5, 3) := by decide +kernel
theorem dX2_ofTwo_137 : decode cX2_ofTwo 137 = .ok (.dload_n 2, 1) := by decide +kernel
theorem dX2_ofTwo_138 : decode cX2_ofTwo 138 = .ok (.dneg, 1) := by decide +kernel
theorem dX2_ofTwo_139 : decode cX2_ofTwo 139 = .ok (.dreturn, 1) := by decide +kernel
theorem dX2_ofTwo_140 : decode cX2_ofTwo 140 = .ok (.aload_n 0, 1) := by decide +kernel
theorem dX2_ofTwo_141 : decode cX2_ofTwo 141 = .ok (.aload_n 0, 1) := by decide +kernel
theorem dX2_ofTwo_142 : decode cX2_ofTwo 142 = .ok (.dload_n 2, 1) := by decide +kernel
theorem dX2_ofTwo_143 : decode cX2_ofTwo 143 = .ok (.dload 4, 2) := by decide +kernel
theorem dX2_ofTwo_145 : decode cX2_ofTwo 145 = .ok (.invokevirtual 148, 3) := by decide +kernel
theorem dX2_ofTwo_148 : decode cX2_ofTwo 148 = .ok (.invokestatic 141, 3) := by decide +kernel
theorem dX2_ofTwo_151 : decode cX2_ofTwo 151 = .ok (.dload 4, 2) := by decide +kernel
theorem dX2_ofTwo_153 : decode cX2_ofTwo 153 = .ok (.invokevirtual 151, 3) := by decide +kernel
theorem dX2_ofTwo_156 : decode cX2_ofTwo 156 = .ok (.dreturn, 1) := by decide +kernel
theorem dX2_sum_0 : decode cX2_sum 0 = .ok (.aload_n 0, 1) := by decide +kernel
theorem dX2_sum_1 : decode cX2_sum 1 = .ok (.getfield 21, 3) := by decide +kernel
theorem dX2_sum_4 : decode cX2_sum 4 = .ok (.getfield 36, 3) := by decide +kernel
theorem dX2_sum_7 : decode cX2_sum 7 = .ok (.ifCond .eq 12, 3) := by decide +kernel
theorem dX2_sum_10 : decode cX2_sum 10 = .ok (.dload_n 1, 1) := by decide +kernel
theorem dX2_sum_11 : decode cX2_sum 11 = .ok (.d2f, 1) := by decide +kernel
theorem dX2_sum_12 : decode cX2_sum 12 = .ok (.dload_n 3, 1) := by decide +kernel
theorem dX2_sum_13 : decode cX2_sum 13 = .ok (.d2f, 1) := by decide +kernel
theorem dX2_sum_14 : decode cX2_sum 14 = .ok (.fadd, 1) := by decide +kernel
theorem dX2_sum_15 : decode cX2_sum 15 = .ok (.f2d, 1) := by decide +kernel
theorem dX2_sum_16 : decode cX2_sum 16 = .ok (.goto 6, 3) := by decide +kernel
theorem dX2_sum_19 : decode cX2_sum 19 = .ok (.dload_n 1, 1) := by decide +kernel
theorem dX2_sum_20 : decode cX2_sum 20 = .ok (.dload_n 3, 1) := by decide +kernel
theorem dX2_sum_21 : decode cX2_sum 21 = .ok (.dadd, 1) := by decide +kernel
theorem dX2_sum_22 : decode cX2_sum 22 = .ok (.dreturn, 1) := by decide +kernel
theorem dX2_product_0 : decode cX2_product 0 = .ok (.aload_n 0, 1) := by decide +kernel
theorem dX2_product_1 : decode cX2_product 1 = .ok (.getfield 21, 3) := by decide +kernel
theorem dX2_product_4 : decode cX2_product 4 = .ok (.getfield 36, 3) := by decide +kernel
theorem dX2_product_7 : decode cX2_product 7 = .ok (.ifCond .eq 12, 3) := by decide +kernel
theorem dX2_product_10 : decode cX2_product 10 = .ok (.dload_n 1, 1) := by decide +kernel
theorem dX2_product_11 : decode cX2_product 11 = .ok (.d2f, 1) := by decide +kernel
theorem dX2_product_12 : decode cX2_product 12 = .ok (.dload_n 3, 1) := by decide +kernel
theorem dX2_product_13 : decode cX2_product 13 = .ok (.d2f, 1) := by decide +kernel
theorem dX2_product_14 : decode cX2_product 14 = .ok (.fmul, 1) := by decide +kernel
theorem dX2_product_15 : decode cX2_product 15 = .ok (.f2d, 1) := by decide +kernel
theorem dX2_product_16 : decode cX2_product 16 = .ok (.goto 6, 3) := by decide +kernel
theorem dX2_product_19 : decode cX2_product 19 = .ok (.dload_n 1, 1) := by decide +kernel
theorem dX2_product_20 : decode cX2_product 20 = .ok (.dload_n 3, 1) := by decide +kernel
theorem dX2_product_21 : decode cX2_product 21 = .ok (.dmul, 1) := by decide +kernel
theorem dX2_product_22 : decode cX2_product 22 = .ok (.dreturn, 1) := by decide +kernel
theorem dX2_quotient_0 : decode cX2_quotient 0 = .ok (.aload_n 0, 1) := by decide +kernel
theorem dX2_quotient_1 : decode cX2_quotient 1 = .ok (.getfield 21, 3) := by decide +kernel
theorem dX2_quotient_4 : decode cX2_quotient 4 = .ok (.getfield 36, 3) := by decide +kernel
theorem dX2_quotient_7 : decode cX2_quotient 7 = .ok (.ifCond .eq 12, 3) := by decide +kernel
theorem dX2_quotient_10 : decode cX2_quotient 10 = .ok (.dload_n 1, 1) := by decide +kernel
theorem dX2_quotient_11 : decode cX2_quotient 11 = .ok (.d2f, 1) := by decide +kernel
theorem dX2_quotient_12 : decode cX2_quotient 12 = .ok (.dload_n 3, 1) := by decide +kernel
theorem dX2_quotient_13 : decode cX2_quotient 13 = .ok (.d2f, 1) := by decide +kernel
theorem dX2_quotient_14 : decode cX2_quotient 14 = .ok (.fdiv, 1) := by decide +kernel
theorem dX2_quotient_15 : decode cX2_quotient 15 = .ok (.f2d, 1) := by decide +kernel
theorem dX2_quotient_16 : decode cX2_quotient 16 = .ok (.goto 6, 3) := by decide +kernel
theorem dX2_quotient_19 : decode cX2_quotient 19 = .ok (.dload_n 1, 1) := by decide +kernel
theorem dX2_quotient_20 : decode cX2_quotient 20 = .ok (.dload_n 3, 1) := by decide +kernel
theorem dX2_quotient_21 : decode cX2_quotient 21 = .ok (.ddiv, 1) := by decide +kernel
theorem dX2_quotient_22 : decode cX2_quotient 22 = .ok (.dreturn, 1) := by decide +kernel
theorem dX2_isSurelyWhole_0 : decode cX2_isSurelyWhole 0 = .ok (.dload_n 0, 1) := by decide +kernel
theorem dX2_isSurelyWhole_1 : decode cX2_isSurelyWhole 1 = .ok (.ldc2_w 161, 3) := by decide +kernel
theorem dX2_isSurelyWhole_4 : decode cX2_isSurelyWhole 4 = .ok (.dcmp .l, 1) := by decide +kernel
theorem dX2_isSurelyWhole_5 : decode cX2_isSurelyWhole 5 = .ok (.ifCond .ge 17, 3) := by decide +kernel
theorem dX2_isSurelyWhole_8 : decode cX2_isSurelyWhole 8 = .ok (.dload_n 0, 1) := by decide +kernel
theorem dX2_isSurelyWhole_9 : decode cX2_isSurelyWhole 9 = .ok (.ldc2_w 163, 3) := by decide +kernel
theorem dX2_isSurelyWhole_12 : decode cX2_isSurelyWhole 12 = .ok (.dcmp .g, 1) := by decide +kernel
theorem dX2_isSurelyWhole_13 : decode cX2_isSurelyWhole 13 = .ok (.ifCond .le 9, 3) := by decide +kernel
theorem dX2_isSurelyWhole_16 : decode cX2_isSurelyWhole 16 = .ok (.dload_n 0, 1) := by decide +kernel
theorem dX2_isSurelyWhole_17 : decode cX2_isSurelyWhole 17 = .ok (.dconst 0, 1) := by decide +kernel
theorem dX2_isSurelyWhole_18 : decode cX2_isSurelyWhole 18 = .ok (.dcmp .l, 1) := by decide +kernel
theorem dX2_isSurelyWhole_19 : decode cX2_isSurelyWhole 19 = .ok (.ifCond .ne 7, 3) := by decide +kernel
theorem dX2_isSurelyWhole_22 : decode cX2_isSurelyWhole 22 = .ok (.iconst 1, 1) := by decide +kernel
theorem dX2_isSurelyWhole_23 : decode cX2_isSurelyWhole 23 = .ok (.goto 4, 3) := by decide +kernel
theorem dX2_isSurelyWhole_26 : decode cX2_isSurelyWhole 26 = .ok (.iconst 0, 1) := by decide +kernel
theorem dX2_isSurelyWhole_27 : decode cX2_isSurelyWhole 27 = .ok (.ireturn, 1) := by decide +kernel
theorem dX2_floor_0 : decode cX2_floor 0 = .ok (.dload_n 0, 1) := by decide +kernel
theorem dX2_floor_1 : decode cX2_floor 1 = .ok (.invokestatic 165, 3) := by decide +kernel
theorem dX2_floor_4 : decode cX2_floor 4 = .ok (.ifCond .eq 5, 3) := by decide +kernel
theorem dX2_floor_7 : decode cX2_floor 7 = .ok (.dload_n 0, 1) := by decide +kernel
theorem dX2_floor_8 : decode cX2_floor 8 = .ok (.dreturn, 1) := by decide +kernel
theorem dX2_floor_9 : decode cX2_floor 9 = .ok (.dload_n 0, 1) := by decide +kernel
theorem dX2_floor_10 : decode cX2_floor 10 = .ok (.d2l, 1) := by decide +kernel
theorem dX2_floor_11 : decode cX2_floor 11 = .ok (.l2d, 1) := by decide +kernel
theorem dX2_floor_12 : decode cX2_floor 12 = .ok (.dstore_n 2, 1) := by decide +kernel
theorem dX2_floor_13 : decode cX2_floor 13 = .ok (.dload_n 2, 1) := by decide +kernel
theorem dX2_floor_14 : decode cX2_floor 14 = .ok (.dload_n 0, 1) := by decide +kernel
theorem dX2_floor_15 : decode cX2_floor 15 = .ok (.dcmp .l, 1) := by decide +kernel
theorem dX2_floor_16 : decode cX2_floor 16 = .ok (.ifCond .le 9, 3) := by decide +kernel
theorem dX2_floor_19 : decode cX2_floor 19 = .ok (.dload_n 2, 1) := by decide +kernel
theorem dX2_floor_20 : decode cX2_floor 20 = .ok (.dconst 1, 1) := by decide +kernel
theorem dX2_floor_21 : decode cX2_floor 21 = .ok (.dsub, 1) := by decide +kernel
theorem dX2_floor_22 : decode cX2_floor 22 = .ok (.goto 4, 3) := by decide +kernel
theorem dX2_floor_25 : decode cX2_floor 25 = .ok (.dload_n 2, 1) := by decide +kernel
theorem dX2_floor_26 : decode cX2_floor 26 = .ok (.dreturn, 1) := by decide +kernel
theorem dX2_nearest_0 : decode cX2_nearest 0 = .ok (.dload_n 0, 1) := by decide +kernel
theorem dX2_nearest_1 : decode cX2_nearest 1 = .ok (.invokestatic 165, 3) := by decide +kernel
theorem dX2_nearest_4 : decode cX2_nearest 4 = .ok (.ifCond .eq 5, 3) := by decide +kernel
theorem dX2_nearest_7 : decode cX2_nearest 7 = .ok (.dload_n 0, 1) := by decide +kernel
theorem dX2_nearest_8 : decode cX2_nearest 8 = .ok (.dreturn, 1) := by decide +kernel
theorem dX2_nearest_9 : decode cX2_nearest 9 = .ok (.dload_n 0, 1) := by decide +kernel
theorem dX2_nearest_10 : decode cX2_nearest 10 = .ok (.dconst 0, 1) := by decide +kernel
theorem dX2_nearest_11 : decode cX2_nearest 11 = .ok (.dcmp .g, 1) := by decide +kernel
theorem dX2_nearest_12 : decode cX2_nearest 12 = .ok (.ifCond .ge 8, 3) := by decide +kernel
theorem dX2_nearest_15 : decode cX2_nearest 15 = .ok (.dload_n 0, 1) := by decide +kernel
theorem dX2_nearest_16 : decode cX2_nearest 16 = .ok (.dneg, 1) := by decide +kernel
theorem dX2_nearest_17 : decode cX2_nearest 17 = .ok (.goto 4, 3) := by decide +kernel
theorem dX2_nearest_20 : decode cX2_nearest 20 = .ok (.dload_n 0, 1) := by decide +kernel
theorem dX2_nearest_21 : decode cX2_nearest 21 = .ok (.dstore_n 2, 1) := by decide +kernel
theorem dX2_nearest_22 : decode cX2_nearest 22 = .ok (.dload_n 2, 1) := by decide +kernel
theorem dX2_nearest_23 : decode cX2_nearest 23 = .ok (.d2l, 1) := by decide +kernel
theorem dX2_nearest_24 : decode cX2_nearest 24 = .ok (.lstore 4, 2) := by decide +kernel
theorem dX2_nearest_26 : decode cX2_nearest 26 = .ok (.dload_n 2, 1) := by decide +kernel
theorem dX2_nearest_27 : decode cX2_nearest 27 = .ok (.lload 4, 2) := by decide +kernel
theorem dX2_nearest_29 : decode cX2_nearest 29 = .ok (.l2d, 1) := by decide +kernel
theorem dX2_nearest_30 : decode cX2_nearest 30 = .ok (.dsub, 1) := by decide +kernel
theorem dX2_nearest_31 : decode cX2_nearest 31 = .ok (.dstore 6, 2) := by decide +kernel
theorem dX2_nearest_33 : decode cX2_nearest 33 = .ok (.dload 6, 2) := by decide +kernel
theorem dX2_nearest_35 : decode cX2_nearest 35 = .ok (.ldc2_w 168, 3) := by decide +kernel
theorem dX2_nearest_38 : decode cX2_nearest 38 = .ok (.dcmp .l, 1) := by decide +kernel
theorem dX2_nearest_39 : decode cX2_nearest 39 = .ok (.ifCond .gt 21, 3) := by decide +kernel
theorem dX2_nearest_42 : decode cX2_nearest 42 = .ok (.dload 6, 2) := by decide +kernel
theorem dX2_nearest_44 : decode cX2_nearest 44 = .ok (.ldc2_w 168, 3) := by decide +kernel
theorem dX2_nearest_47 : decode cX2_nearest 47 = .ok (.dcmp .l, 1) := by decide +kernel
theorem dX2_nearest_48 : decode cX2_nearest 48 = .ok (.ifCond .ne 18, 3) := by decide +kernel
theorem dX2_nearest_51 : decode cX2_nearest 51 = .ok (.lload 4, 2) := by decide +kernel
theorem dX2_nearest_53 : decode cX2_nearest 53 = .ok (.lconst 1, 1) := by decide +kernel
theorem dX2_nearest_54 : decode cX2_nearest 54 = .ok (.land, 1) := by decide +kernel
theorem dX2_nearest_55 : decode cX2_nearest 55 = .ok (.lconst 1, 1) := by decide +kernel
theorem dX2_nearest_56 : decode cX2_nearest 56 = .ok (.lcmp, 1) := by decide +kernel
theorem dX2_nearest_57 : decode cX2_nearest 57 = .ok (.ifCond .ne 9, 3) := by decide +kernel
theorem dX2_nearest_60 : decode cX2_nearest 60 = .ok (.lload 4, 2) := by decide +kernel
theorem dX2_nearest_62 : decode cX2_nearest 62 = .ok (.lconst 1, 1) := by decide +kernel
theorem dX2_nearest_63 : decode cX2_nearest 63 = .ok (.ladd, 1) := by decide +kernel
theorem dX2_nearest_64 : decode cX2_nearest 64 = .ok (.lstore 4, 2) := by decide +kernel
theorem dX2_nearest_66 : decode cX2_nearest 66 = .ok (.dload_n 0, 1) := by decide +kernel
theorem dX2_nearest_67 : decode cX2_nearest 67 = .ok (.dconst 0, 1) := by decide +kernel
theorem dX2_nearest_68 : decode cX2_nearest 68 = .ok (.dcmp .g, 1) := by decide +kernel
theorem dX2_nearest_69 : decode cX2_nearest 69 = .ok (.ifCond .ge 10, 3) := by decide +kernel
theorem dX2_nearest_72 : decode cX2_nearest 72 = .ok (.lload 4, 2) := by decide +kernel
theorem dX2_nearest_74 : decode cX2_nearest 74 = .ok (.l2d, 1) := by decide +kernel
theorem dX2_nearest_75 : decode cX2_nearest 75 = .ok (.dneg, 1) := by decide +kernel
theorem dX2_nearest_76 : decode cX2_nearest 76 = .ok (.goto 6, 3) := by decide +kernel
theorem dX2_nearest_79 : decode cX2_nearest 79 = .ok (.lload 4, 2) := by decide +kernel
theorem dX2_nearest_81 : decode cX2_nearest 81 = .ok (.l2d, 1) := by decide +kernel
theorem dX2_nearest_82 : decode cX2_nearest 82 = .ok (.dreturn, 1) := by decide +kernel
theorem dX2_remainder_0 : decode cX2_remainder 0 = .ok (.dload_n 1, 1) := by decide +kernel
theorem dX2_remainder_1 : decode cX2_remainder 1 = .ok (.invokestatic 134, 3) := by decide +kernel
theorem dX2_remainder_4 : decode cX2_remainder 4 = .ok (.ifCond .eq 8, 3) := by decide +kernel
theorem dX2_remainder_7 : decode cX2_remainder 7 = .ok (.dload_n 1, 1) := by decide +kernel
theorem dX2_remainder_8 : decode cX2_remainder 8 = .ok (.dneg, 1) := by decide +kernel
theorem dX2_remainder_9 : decode cX2_remainder 9 = .ok (.goto 4, 3) := by decide +kernel
theorem dX2_remainder_12 : decode cX2_remainder 12 = .ok (.dload_n 1, 1) := by decide +kernel
theorem dX2_remainder_13 : decode cX2_remainder 13 = .ok (.dstore 5, 2) := by decide +kernel
theorem dX2_remainder_15 : decode cX2_remainder 15 = .ok (.dload_n 3, 1) := by decide +kernel
theorem dX2_remainder_16 : decode cX2_remainder 16 = .ok (.dconst 0, 1) := by decide +kernel
theorem dX2_remainder_17 : decode cX2_remainder 17 = .ok (.dcmp .g, 1) := by decide +kernel
theorem dX2_remainder_18 : decode cX2_remainder 18 = .ok (.ifCond .ge 8, 3) := by decide +kernel
theorem dX2_remainder_21 : decode cX2_remainder 21 = .ok (.dload_n 3, 1) := by decide +kernel
theorem dX2_remainder_22 : decode cX2_remainder 22 = .ok (.dneg, 1) := by decide +kernel
theorem dX2_remainder_23 : decode cX2_remainder 23 = .ok (.goto 4, 3) := by decide +kernel
theorem dX2_remainder_26 : decode cX2_remainder 26 = .ok (.dload_n 3, 1) := by decide +kernel
theorem dX2_remainder_27 : decode cX2_remainder 27 = .ok (.dstore 7, 2) := by decide +kernel
theorem dX2_remainder_29 : decode cX2_remainder 29 = .ok (.dload 5, 2) := by decide +kernel
theorem dX2_remainder_31 : decode cX2_remainder 31 = .ok (.dload 7, 2) := by decide +kernel
theorem dX2_remainder_33 : decode cX2_remainder 33 = .ok (.dcmp .g, 1) := by decide +kernel
theorem dX2_remainder_34 : decode cX2_remainder 34 = .ok (.ifCond .lt 10, 3) := by decide +kernel
theorem dX2_remainder_37 : decode cX2_remainder 37 = .ok (.dload 5, 2) := by decide +kernel
theorem dX2_remainder_39 : decode cX2_remainder 39 = .ok (.dconst 0, 1) := by decide +kernel
theorem dX2_remainder_40 : decode cX2_remainder 40 = .ok (.dcmp .l, 1) := by decide +kernel
theorem dX2_remainder_41 : decode cX2_remainder 41 = .ok (.ifCond .ne 5, 3) := by decide +kernel
theorem dX2_remainder_44 : decode cX2_remainder 44 = .ok (.dload_n 1, 1) := by decide +kernel
theorem dX2_remainder_45 : decode cX2_remainder 45 = .ok (.dreturn, 1) := by decide +kernel
theorem dX2_remainder_46 : decode cX2_remainder 46 = .ok (.aload_n 0, 1) := by decide +kernel
theorem dX2_remainder_47 : decode cX2_remainder 47 = .ok (.getfield 12, 3) := by decide +kernel
theorem dX2_remainder_50 : decode cX2_remainder 50 = .ok (.dload 5, 2) := by decide +kernel
theorem dX2_remainder_52 : decode cX2_remainder 52 = .ok (.iconst 0, 1) := by decide +kernel
theorem dX2_remainder_53 : decode cX2_remainder 53 = .ok (.invokevirtual 170, 3) := by decide +kernel
theorem dX2_remainder_56 : decode cX2_remainder 56 = .ok (.istore 9, 2) := by decide +kernel
theorem dX2_remainder_58 : decode cX2_remainder 58 = .ok (.aload_n 0, 1) := by decide +kernel
theorem dX2_remainder_59 : decode cX2_remainder 59 = .ok (.getfield 12, 3) := by decide +kernel
theorem dX2_remainder_62 : decode cX2_remainder 62 = .ok (.dload 7, 2) := by decide +kernel
theorem dX2_remainder_64 : decode cX2_remainder 64 = .ok (.iconst 0, 1) := by decide +kernel
theorem dX2_remainder_65 : decode cX2_remainder 65 = .ok (.invokevirtual 170, 3) := by decide +kernel
theorem dX2_remainder_68 : decode cX2_remainder 68 = .ok (.istore 10, 2) := by decide +kernel
theorem dX2_remainder_70 : decode cX2_remainder 70 = .ok (.aload_n 0, 1) := by decide +kernel
theorem dX2_remainder_71 : decode cX2_remainder 71 = .ok (.getfield 12, 3) := by decide +kernel
theorem dX2_remainder_74 : decode cX2_remainder 74 = .ok (.dload 7, 2) := by decide +kernel
theorem dX2_remainder_76 : decode cX2_remainder 76 = .ok (.iload 10, 2) := by decide +kernel
theorem dX2_remainder_78 : decode cX2_remainder 78 = .ok (.ineg, 1) := by decide +kernel
theorem dX2_remainder_79 : decode cX2_remainder 79 = .ok (.invokevirtual 174, 3) := by decide +kernel
theorem dX2_remainder_82 : decode cX2_remainder 82 = .ok (.d2l, 1) := by decide +kernel
theorem dX2_remainder_83 : decode cX2_remainder 83 = .ok (.lstore 11, 2) := by decide +kernel
theorem dX2_remainder_85 : decode cX2_remainder 85 = .ok (.lload 11, 2) := by decide +kernel
theorem dX2_remainder_87 : decode cX2_remainder 87 = .ok (.lconst 0, 1) := by decide +kernel
theorem dX2_remainder_88 : decode cX2_remainder 88 = .ok (.lcmp, 1) := by decide +kernel
theorem dX2_remainder_89 : decode cX2_remainder 89 = .ok (.ifCond .gt 5, 3) := by decide +kernel
theorem dX2_remainder_92 : decode cX2_remainder 92 = .ok (.dload_n 1, 1) := by decide +kernel
theorem dX2_remainder_93 : decode cX2_remainder 93 = .ok (.dreturn, 1) := by decide +kernel
theorem dX2_remainder_94 : decode cX2_remainder 94 = .ok (.aload_n 0, 1) := by decide +kernel
theorem dX2_remainder_95 : decode cX2_remainder 95 = .ok (.getfield 12, 3) := by decide +kernel
theorem dX2_remainder_98 : decode cX2_remainder 98 = .ok (.dload 5, 2) := by decide +kernel
theorem dX2_remainder_100 : decode cX2_remainder 100 = .ok (.iload 9, 2) := by decide +kernel
theorem dX2_remainder_102 : decode cX2_remainder 102 = .ok (.ineg, 1) := by decide +kernel
theorem dX2_remainder_103 : decode cX2_remainder 103 = .ok (.invokevirtual 174, 3) := by decide +kernel
theorem dX2_remainder_106 : decode cX2_remainder 106 = .ok (.d2l, 1) := by decide +kernel
theorem dX2_remainder_107 : decode cX2_remainder 107 = .ok (.lload 11, 2) := by decide +kernel
theorem dX2_remainder_109 : decode cX2_remainder 109 = .ok (.lrem, 1) := by decide +kernel
theorem dX2_remainder_110 : decode cX2_remainder 110 = .ok (.lstore 13, 2) := by decide +kernel
theorem dX2_remainder_112 : decode cX2_remainder 112 = .ok (.iload 9, 2) := by decide +kernel
theorem dX2_remainder_114 : decode cX2_remainder 114 = .ok (.iload 10, 2) := by decide +kernel
theorem dX2_remainder_116 : decode cX2_remainder 116 = .ok (.isub, 1) := by decide +kernel
theorem dX2_remainder_117 : decode cX2_remainder 117 = .ok (.istore 15, 2) := by decide +kernel
theorem dX2_remainder_119 : decode cX2_remainder 119 = .ok (.iload 15, 2) := by decide +kernel
theorem dX2_remainder_121 : decode cX2_remainder 121 = .ok (.ifCond .le 38, 3) := by decide +kernel
theorem dX2_remainder_124 : decode cX2_remainder 124 = .ok (.lload 13, 2) := by decide +kernel
theorem dX2_remainder_126 : decode cX2_remainder 126 = .ok (.lconst 0, 1) := by decide +kernel
theorem dX2_remainder_127 : decode cX2_remainder 127 = .ok (.lcmp, 1) := by decide +kernel
theorem dX2_remainder_128 : decode cX2_remainder 128 = .ok (.ifCond .eq 31, 3) := by decide +kernel
theorem dX2_remainder_131 : decode cX2_remainder 131 = .ok (.lload 13, 2) := by decide +kernel
theorem dX2_remainder_133 : decode cX2_remainder 133 = .ok (.iload 15, 2) := by decide +kernel
theorem dX2_remainder_135 : decode cX2_remainder 135 = .ok (.bipush 10, 2) := by decide +kernel
theorem dX2_remainder_137 : decode cX2_remainder 137 = .ok (.if_icmp .ge 8, 3) := by decide +kernel
theorem dX2_remainder_140 : decode cX2_remainder 140 = .ok (.iload 15, 2) := by decide +kernel
theorem dX2_remainder_142 : decode cX2_remainder 142 = .ok (.goto 5, 3) := by decide +kernel
theorem dX2_remainder_145 : decode cX2_remainder 145 = .ok (.bipush 10, 2) := by decide +kernel
theorem dX2_remainder_147 : decode cX2_remainder 147 = .ok (.lshl, 1) := by decide +kernel
theorem dX2_remainder_148 : decode cX2_remainder 148 = .ok (.lload 11, 2) := by decide +kernel
theorem dX2_remainder_150 : decode cX2_remainder 150 = .ok (.lrem, 1) := by decide +kernel
theorem dX2_remainder_151 : decode cX2_remainder 151 = .ok (.lstore 13, 2) := by decide +kernel
theorem dX2_remainder_153 : decode cX2_remainder 153 = .ok (.iinc 15 (-10), 3) := by decide +kernel
theorem dX2_remainder_156 : decode cX2_remainder 156 = .ok (.goto (-37), 3) := by decide +kernel
theorem dX2_remainder_159 : decode cX2_remainder 159 = .ok (.aload_n 0, 1) := by decide +kernel
theorem dX2_remainder_160 : decode cX2_remainder 160 = .ok (.getfield 12, 3) := by decide +kernel
theorem dX2_remainder_163 : decode cX2_remainder 163 = .ok (.lload 13, 2) := by decide +kernel
theorem dX2_remainder_165 : decode cX2_remainder 165 = .ok (.l2d, 1) := by decide +kernel
theorem dX2_remainder_166 : decode cX2_remainder 166 = .ok (.iload 10, 2) := by decide +kernel
theorem dX2_remainder_168 : decode cX2_remainder 168 = .ok (.invokevirtual 174, 3) := by decide +kernel
theorem dX2_remainder_171 : decode cX2_remainder 171 = .ok (.dstore 15, 2) := by decide +kernel
theorem dX2_remainder_173 : decode cX2_remainder 173 = .ok (.dload_n 1, 1) := by decide +kernel
theorem dX2_remainder_174 : decode cX2_remainder 174 = .ok (.invokestatic 134, 3) := by decide +kernel
theorem dX2_remainder_177 : decode cX2_remainder 177 = .ok (.ifCond .eq 9, 3) := by decide +kernel
theorem dX2_remainder_180 : decode cX2_remainder 180 = .ok (.dload 15, 2) := by decide +kernel
theorem dX2_remainder_182 : decode cX2_remainder 182 = .ok (.dneg, 1) := by decide +kernel
theorem dX2_remainder_183 : decode cX2_remainder 183 = .ok (.goto 5, 3) := by decide +kernel
theorem dX2_remainder_186 : decode cX2_remainder 186 = .ok (.dload 15, 2) := by decide +kernel
theorem dX2_remainder_188 : decode cX2_remainder 188 = .ok (.dreturn, 1) := by decide +kernel
theorem dX2_comesBefore_0 : decode cX2_comesBefore 0 = .ok (.dload_n 0, 1) := by decide +kernel
theorem dX2_comesBefore_1 : decode cX2_comesBefore 1 = .ok (.dload_n 2, 1) := by decide +kernel
theorem dX2_comesBefore_2 : decode cX2_comesBefore 2 = .ok (.dcmp .g, 1) := by decide +kernel
theorem dX2_comesBefore_3 : decode cX2_comesBefore 3 = .ok (.ifCond .lt 23, 3) := by decide +kernel
theorem dX2_comesBefore_6 : decode cX2_comesBefore 6 = .ok (.dload_n 0, 1) := by decide +kernel
theorem dX2_comesBefore_7 : decode cX2_comesBefore 7 = .ok (.dload_n 2, 1) := by decide +kernel
theorem dX2_comesBefore_8 : decode cX2_comesBefore 8 = .ok (.dcmp .l, 1) := by decide +kernel
theorem dX2_comesBefore_9 : decode cX2_comesBefore 9 = .ok (.ifCond .ne 21, 3) := by decide +kernel
theorem dX2_comesBefore_12 : decode cX2_comesBefore 12 = .ok (.dload_n 0, 1) := by decide +kernel
theorem dX2_comesBefore_13 : decode cX2_comesBefore 13 = .ok (.invokestatic 134, 3) := by decide +kernel
theorem dX2_comesBefore_16 : decode cX2_comesBefore 16 = .ok (.ifCond .eq 14, 3) := by decide +kernel
theorem dX2_comesBefore_19 : decode cX2_comesBefore 19 = .ok (.dload_n 2, 1) := by decide +kernel
theorem dX2_comesBefore_20 : decode cX2_comesBefore 20 = .ok (.invokestatic 134, 3) := by decide +kernel
theorem dX2_comesBefore_23 : decode cX2_comesBefore 23 = .ok (.ifCond .ne 7, 3) := by decide +kernel
theorem dX2_comesBefore_26 : decode cX2_comesBefore 26 = .ok (.iconst 1, 1) := by decide +kernel
theorem dX2_comesBefore_27 : decode cX2_comesBefore 27 = .ok (.goto 4, 3) := by decide +kernel
theorem dX2_comesBefore_30 : decode cX2_comesBefore 30 = .ok (.iconst 0, 1) := by decide +kernel
theorem dX2_comesBefore_31 : decode cX2_comesBefore 31 = .ok (.ireturn, 1) := by decide +kernel
theorem dX2_middleAt_0 : decode cX2_middleAt 0 = .ok (.iload_n 1, 1) := by decide +kernel
theorem dX2_middleAt_1 : decode cX2_middleAt 1 = .ok (.ifCond .le 9, 3) := by decide +kernel
theorem dX2_middleAt_4 : decode cX2_middleAt 4 = .ok (.iload_n 1, 1) := by decide +kernel
theorem dX2_middleAt_5 : decode cX2_middleAt 5 = .ok (.bipush 15, 2) := by decide +kernel
theorem dX2_middleAt_7 : decode cX2_middleAt 7 = .ok (.if_icmp .lt 5, 3) := by decide +kernel
theorem dX2_middleAt_10 : decode cX2_middleAt 10 = .ok (.dconst 0, 1) := by decide +kernel
theorem dX2_middleAt_11 : decode cX2_middleAt 11 = .ok (.dreturn, 1) := by decide +kernel
theorem dX2_middleAt_12 : decode cX2_middleAt 12 = .ok (.aload_n 0, 1) := by decide +kernel
theorem dX2_middleAt_13 : decode cX2_middleAt 13 = .ok (.getfield 21, 3) := by decide +kernel
theorem dX2_middleAt_16 : decode cX2_middleAt 16 = .ok (.getfield 87, 3) := by decide +kernel
theorem dX2_middleAt_19 : decode cX2_middleAt 19 = .ok (.iload_n 1, 1) := by decide +kernel
theorem dX2_middleAt_20 : decode cX2_middleAt 20 = .ok (.daload, 1) := by decide +kernel
theorem dX2_middleAt_21 : decode cX2_middleAt 21 = .ok (.aload_n 0, 1) := by decide +kernel
theorem dX2_middleAt_22 : decode cX2_middleAt 22 = .ok (.getfield 21, 3) := by decide +kernel
theorem dX2_middleAt_25 : decode cX2_middleAt 25 = .ok (.getfield 87, 3) := by decide +kernel
theorem dX2_middleAt_28 : decode cX2_middleAt 28 = .ok (.iload_n 1, 1) := by decide +kernel
theorem dX2_middleAt_29 : decode cX2_middleAt 29 = .ok (.iconst 1, 1) := by decide +kernel
theorem dX2_middleAt_30 : decode cX2_middleAt 30 = .ok (.isub, 1) := by decide +kernel
theorem dX2_middleAt_31 : decode cX2_middleAt 31 = .ok (.daload, 1) := by decide +kernel
theorem dX2_middleAt_32 : decode cX2_middleAt 32 = .ok (.invokestatic 157, 3) := by decide +kernel
theorem dX2_middleAt_35 : decode cX2_middleAt 35 = .ok (.istore_n 2, 1) := by decide +kernel
theorem dX2_middleAt_36 : decode cX2_middleAt 36 = .ok (.iload_n 2, 1) := by decide +kernel
theorem dX2_middleAt_37 : decode cX2_middleAt 37 = .ok (.ifCond .eq 15, 3) := by decide +kernel
theorem dX2_middleAt_40 : decode cX2_middleAt 40 = .ok (.aload_n 0, 1) := by decide +kernel
theorem dX2_middleAt_41 : decode cX2_middleAt 41 = .ok (.getfield 21, 3) := by decide +kernel
theorem dX2_middleAt_44 : decode cX2_middleAt 44 = .ok (.getfield 87, 3) := by decide +kernel
theorem dX2_middleAt_47 : decode cX2_middleAt 47 = .ok (.iload_n 1, 1) := by decide +kernel
theorem dX2_middleAt_48 : decode cX2_middleAt 48 = .ok (.daload, 1) := by decide +kernel
theorem dX2_middleAt_49 : decode cX2_middleAt 49 = .ok (.goto 14, 3) := by decide +kernel
theorem dX2_middleAt_52 : decode cX2_middleAt 52 = .ok (.aload_n 0, 1) := by decide +kernel
theorem dX2_middleAt_53 : decode cX2_middleAt 53 = .ok (.getfield 21, 3) := by decide +kernel
theorem dX2_middleAt_56 : decode cX2_middleAt 56 = .ok (.getfield 87, 3) := by decide +kernel
theorem dX2_middleAt_59 : decode cX2_middleAt 59 = .ok (.iload_n 1, 1) := by decide +kernel
theorem dX2_middleAt_60 : decode cX2_middleAt 60 = .ok (.iconst 1, 1) := by decide +kernel
theorem dX2_middleAt_61 : decode cX2_middleAt 61 = .ok (.isub, 1) := by decide +kernel
theorem dX2_middleAt_62 : decode cX2_middleAt 62 = .ok (.daload, 1) := by decide +kernel
theorem dX2_middleAt_63 : decode cX2_middleAt 63 = .ok (.dstore_n 3, 1) := by decide +kernel
theorem dX2_middleAt_64 : decode cX2_middleAt 64 = .ok (.iload_n 2, 1) := by decide +kernel
theorem dX2_middleAt_65 : decode cX2_middleAt 65 = .ok (.ifCond .eq 17, 3) := by decide +kernel
theorem dX2_middleAt_68 : decode cX2_middleAt 68 = .ok (.aload_n 0, 1) := by decide +kernel
theorem dX2_middleAt_69 : decode cX2_middleAt 69 = .ok (.getfield 21, 3) := by decide +kernel
theorem dX2_middleAt_72 : decode cX2_middleAt 72 = .ok (.getfield 87, 3) := by decide +kernel
theorem dX2_middleAt_75 : decode cX2_middleAt 75 = .ok (.iload_n 1, 1) := by decide +kernel
theorem dX2_middleAt_76 : decode cX2_middleAt 76 = .ok (.iconst 1, 1) := by decide +kernel
theorem dX2_middleAt_77 : decode cX2_middleAt 77 = .ok (.isub, 1) := by decide +kernel
theorem dX2_middleAt_78 : decode cX2_middleAt 78 = .ok (.daload, 1) := by decide +kernel
theorem dX2_middleAt_79 : decode cX2_middleAt 79 = .ok (.goto 12, 3) := by decide +kernel
theorem dX2_middleAt_82 : decode cX2_middleAt 82 = .ok (.aload_n 0, 1) := by decide +kernel
theorem dX2_middleAt_83 : decode cX2_middleAt 83 = .ok (.getfield 21, 3) := by decide +kernel
theorem dX2_middleAt_86 : decode cX2_middleAt 86 = .ok (.getfield 87, 3) := by decide +kernel
theorem dX2_middleAt_89 : decode cX2_middleAt 89 = .ok (.iload_n 1, 1) := by decide +kernel
theorem dX2_middleAt_90 : decode cX2_middleAt 90 = .ok (.daload, 1) := by decide +kernel
theorem dX2_middleAt_91 : decode cX2_middleAt 91 = .ok (.dstore 5, 2) := by decide +kernel
theorem dX2_middleAt_93 : decode cX2_middleAt 93 = .ok (.aload_n 0, 1) := by decide +kernel
theorem dX2_middleAt_94 : decode cX2_middleAt 94 = .ok (.getfield 21, 3) := by decide +kernel
theorem dX2_middleAt_97 : decode cX2_middleAt 97 = .ok (.getfield 87, 3) := by decide +kernel
theorem dX2_middleAt_100 : decode cX2_middleAt 100 = .ok (.iload_n 1, 1) := by decide +kernel
theorem dX2_middleAt_101 : decode cX2_middleAt 101 = .ok (.iconst 1, 1) := by decide +kernel
theorem dX2_middleAt_102 : decode cX2_middleAt 102 = .ok (.iadd, 1) := by decide +kernel
theorem dX2_middleAt_103 : decode cX2_middleAt 103 = .ok (.daload, 1) := by decide +kernel
theorem dX2_middleAt_104 : decode cX2_middleAt 104 = .ok (.dstore 7, 2) := by decide +kernel
theorem dX2_middleAt_106 : decode cX2_middleAt 106 = .ok (.dload 7, 2) := by decide +kernel
theorem dX2_middleAt_108 : decode cX2_middleAt 108 = .ok (.dload_n 3, 1) := by decide +kernel
theorem dX2_middleAt_109 : decode cX2_middleAt 109 = .ok (.invokestatic 157, 3) := by decide +kernel
theorem dX2_middleAt_112 : decode cX2_middleAt 112 = .ok (.ifCond .eq 5, 3) := by decide +kernel
theorem dX2_middleAt_115 : decode cX2_middleAt 115 = .ok (.dload_n 3, 1) := by decide +kernel
theorem dX2_middleAt_116 : decode cX2_middleAt 116 = .ok (.dreturn, 1) := by decide +kernel
theorem dX2_middleAt_117 : decode cX2_middleAt 117 = .ok (.dload 5, 2) := by decide +kernel
theorem dX2_middleAt_119 : decode cX2_middleAt 119 = .ok (.dload 7, 2) := by decide +kernel
theorem dX2_middleAt_121 : decode cX2_middleAt 121 = .ok (.invokestatic 157, 3) := by decide +kernel
theorem dX2_middleAt_124 : decode cX2_middleAt 124 = .ok (.ifCond .eq 8, 3) := by decide +kernel
theorem dX2_middleAt_127 : decode cX2_middleAt 127 = .ok (.dload 5, 2) := by decide +kernel
theorem dX2_middleAt_129 : decode cX2_middleAt 129 = .ok (.goto 5, 3) := by decide +kernel
theorem dX2_middleAt_132 : decode cX2_middleAt 132 = .ok (.dload 7, 2) := by decide +kernel
theorem dX2_middleAt_134 : decode cX2_middleAt 134 = .ok (.dreturn, 1) := by decide +kernel
theorem dX2_farthestAt_0 : decode cX2_farthestAt 0 = .ok (.iload_n 2, 1) := by decide +kernel
theorem dX2_farthestAt_1 : decode cX2_farthestAt 1 = .ok (.ifCond .eq 13, 3) := by decide +kernel
theorem dX2_farthestAt_4 : decode cX2_farthestAt 4 = .ok (.aload_n 1, 1) := by decide +kernel
theorem dX2_farthestAt_5 : decode cX2_farthestAt 5 = .ok (.iload_n 2, 1) := by decide +kernel
theorem dX2_farthestAt_6 : decode cX2_farthestAt 6 = .ok (.iconst 1, 1) := by decide +kernel
theorem dX2_farthestAt_7 : decode cX2_farthestAt 7 = .ok (.isub, 1) := by decide +kernel
theorem dX2_farthestAt_8 : decode cX2_farthestAt 8 = .ok (.invokevirtual 84, 3) := by decide +kernel
theorem dX2_farthestAt_11 : decode cX2_farthestAt 11 = .ok (.ifCond .eq 13, 3) := by decide +kernel
theorem dX2_farthestAt_14 : decode cX2_farthestAt 14 = .ok (.aload_n 0, 1) := by decide +kernel
theorem dX2_farthestAt_15 : decode cX2_farthestAt 15 = .ok (.getfield 21, 3) := by decide +kernel
theorem dX2_farthestAt_18 : decode cX2_farthestAt 18 = .ok (.getfield 87, 3) := by decide +kernel
theorem dX2_farthestAt_21 : decode cX2_farthestAt 21 = .ok (.iload_n 2, 1) := by decide +kernel
theorem dX2_farthestAt_22 : decode cX2_farthestAt 22 = .ok (.daload, 1) := by decide +kernel
theorem dX2_farthestAt_23 : decode cX2_farthestAt 23 = .ok (.dreturn, 1) := by decide +kernel
theorem dX2_farthestAt_24 : decode cX2_farthestAt 24 = .ok (.aload_n 1, 1) := by decide +kernel
theorem dX2_farthestAt_25 : decode cX2_farthestAt 25 = .ok (.getfield 87, 3) := by decide +kernel
theorem dX2_farthestAt_28 : decode cX2_farthestAt 28 = .ok (.iload_n 2, 1) := by decide +kernel
theorem dX2_farthestAt_29 : decode cX2_farthestAt 29 = .ok (.iconst 1, 1) := by decide +kernel
theorem dX2_farthestAt_30 : decode cX2_farthestAt 30 = .ok (.isub, 1) := by decide +kernel
theorem dX2_farthestAt_31 : decode cX2_farthestAt 31 = .ok (.daload, 1) := by decide +kernel
theorem dX2_farthestAt_32 : decode cX2_farthestAt 32 = .ok (.dstore_n 3, 1) := by decide +kernel
theorem dX2_farthestAt_33 : decode cX2_farthestAt 33 = .ok (.aload_n 0, 1) := by decide +kernel
theorem dX2_farthestAt_34 : decode cX2_farthestAt 34 = .ok (.getfield 21, 3) := by decide +kernel
theorem dX2_farthestAt_37 : decode cX2_farthestAt 37 = .ok (.iload_n 2, 1) := by decide +kernel
theorem dX2_farthestAt_38 : decode cX2_farthestAt 38 = .ok (.invokevirtual 84, 3) := by decide +kernel
theorem dX2_farthestAt_41 : decode cX2_farthestAt 41 = .ok (.ifCond .eq 5, 3) := by decide +kernel
theorem dX2_farthestAt_44 : decode cX2_farthestAt 44 = .ok (.dload_n 3, 1) := by decide +kernel
theorem dX2_farthestAt_45 : decode cX2_farthestAt 45 = .ok (.dreturn, 1) := by decide +kernel
theorem dX2_farthestAt_46 : decode cX2_farthestAt 46 = .ok (.aload_n 0, 1) := by decide +kernel
theorem dX2_farthestAt_47 : decode cX2_farthestAt 47 = .ok (.getfield 21, 3) := by decide +kernel
theorem dX2_farthestAt_50 : decode cX2_farthestAt 50 = .ok (.getfield 87, 3) := by decide +kernel
theorem dX2_farthestAt_53 : decode cX2_farthestAt 53 = .ok (.iload_n 2, 1) := by decide +kernel
theorem dX2_farthestAt_54 : decode cX2_farthestAt 54 = .ok (.daload, 1) := by decide +kernel
theorem dX2_farthestAt_55 : decode cX2_farthestAt 55 = .ok (.dstore 5, 2) := by decide +kernel
theorem dX2_farthestAt_57 : decode cX2_farthestAt 57 = .ok (.aload_n 1, 1) := by decide +kernel
theorem dX2_farthestAt_58 : decode cX2_farthestAt 58 = .ok (.getfield 54, 3) := by decide +kernel
theorem dX2_farthestAt_61 : decode cX2_farthestAt 61 = .ok (.bipush 20, 2) := by decide +kernel
theorem dX2_farthestAt_63 : decode cX2_farthestAt 63 = .ok (.if_icmp .ne 12, 3) := by decide +kernel
theorem dX2_farthestAt_66 : decode cX2_farthestAt 66 = .ok (.dload_n 3, 1) := by decide +kernel
theorem dX2_farthestAt_67 : decode cX2_farthestAt 67 = .ok (.dload 5, 2) := by decide +kernel
theorem dX2_farthestAt_69 : decode cX2_farthestAt 69 = .ok (.invokestatic 157, 3) := by decide +kernel
theorem dX2_farthestAt_72 : decode cX2_farthestAt 72 = .ok (.goto 9, 3) := by decide +kernel
theorem dX2_farthestAt_75 : decode cX2_farthestAt 75 = .ok (.dload 5, 2) := by decide +kernel
theorem dX2_farthestAt_77 : decode cX2_farthestAt 77 = .ok (.dload_n 3, 1) := by decide +kernel
theorem dX2_farthestAt_78 : decode cX2_farthestAt 78 = .ok (.invokestatic 157, 3) := by decide +kernel
theorem dX2_farthestAt_81 : decode cX2_farthestAt 81 = .ok (.istore 7, 2) := by decide +kernel
theorem dX2_farthestAt_83 : decode cX2_farthestAt 83 = .ok (.iload 7, 2) := by decide +kernel
theorem dX2_farthestAt_85 : decode cX2_farthestAt 85 = .ok (.ifCond .eq 8, 3) := by decide +kernel
theorem dX2_farthestAt_88 : decode cX2_farthestAt 88 = .ok (.dload 5, 2) := by decide +kernel
theorem dX2_farthestAt_90 : decode cX2_farthestAt 90 = .ok (.goto 4, 3) := by decide +kernel
theorem dX2_farthestAt_93 : decode cX2_farthestAt 93 = .ok (.dload_n 3, 1) := by decide +kernel
theorem dX2_farthestAt_94 : decode cX2_farthestAt 94 = .ok (.dreturn, 1) := by decide +kernel
theorem dX2_sort_0 : decode cX2_sort 0 = .ok (.aload_n 0, 1) := by decide +kernel
theorem dX2_sort_1 : decode cX2_sort 1 = .ok (.iconst 0, 1) := by decide +kernel
theorem dX2_sort_2 : decode cX2_sort 2 = .ok (.putfield 32, 3) := by decide +kernel
theorem dX2_sort_5 : decode cX2_sort 5 = .ok (.iconst 0, 1) := by decide +kernel
theorem dX2_sort_6 : decode cX2_sort 6 = .ok (.istore_n 1, 1) := by decide +kernel
theorem dX2_sort_7 : decode cX2_sort 7 = .ok (.iload_n 1, 1) := by decide +kernel
theorem dX2_sort_8 : decode cX2_sort 8 = .ok (.bipush 16, 2) := by decide +kernel
theorem dX2_sort_10 : decode cX2_sort 10 = .ok (.if_icmp .ge 33, 3) := by decide +kernel
theorem dX2_sort_13 : decode cX2_sort 13 = .ok (.aload_n 0, 1) := by decide +kernel
theorem dX2_sort_14 : decode cX2_sort 14 = .ok (.getfield 21, 3) := by decide +kernel
theorem dX2_sort_17 : decode cX2_sort 17 = .ok (.iload_n 1, 1) := by decide +kernel
theorem dX2_sort_18 : decode cX2_sort 18 = .ok (.invokevirtual 84, 3) := by decide +kernel
theorem dX2_sort_21 : decode cX2_sort 21 = .ok (.ifCond .ne 16, 3) := by decide +kernel
theorem dX2_sort_24 : decode cX2_sort 24 = .ok (.aload_n 0, 1) := by decide +kernel
theorem dX2_sort_25 : decode cX2_sort 25 = .ok (.aload_n 0, 1) := by decide +kernel
theorem dX2_sort_26 : decode cX2_sort 26 = .ok (.getfield 21, 3) := by decide +kernel
theorem dX2_sort_29 : decode cX2_sort 29 = .ok (.getfield 87, 3) := by decide +kernel
theorem dX2_sort_32 : decode cX2_sort 32 = .ok (.iload_n 1, 1) := by decide +kernel
theorem dX2_sort_33 : decode cX2_sort 33 = .ok (.daload, 1) := by decide +kernel
theorem dX2_sort_34 : decode cX2_sort 34 = .ok (.invokevirtual 178, 3) := by decide +kernel
theorem dX2_sort_37 : decode cX2_sort 37 = .ok (.iinc 1 1, 3) := by decide +kernel
theorem dX2_sort_40 : decode cX2_sort 40 = .ok (.goto (-33), 3) := by decide +kernel
theorem dX2_sort_43 : decode cX2_sort 43 = .ok (.return_, 1) := by decide +kernel
theorem dX2_insert_0 : decode cX2_insert 0 = .ok (.aload_n 0, 1) := by decide +kernel
theorem dX2_insert_1 : decode cX2_insert 1 = .ok (.getfield 32, 3) := by decide +kernel
theorem dX2_insert_4 : decode cX2_insert 4 = .ok (.istore_n 3, 1) := by decide +kernel
theorem dX2_insert_5 : decode cX2_insert 5 = .ok (.iload_n 3, 1) := by decide +kernel
theorem dX2_insert_6 : decode cX2_insert 6 = .ok (.ifCond .le 38, 3) := by decide +kernel
theorem dX2_insert_9 : decode cX2_insert 9 = .ok (.dload_n 1, 1) := by decide +kernel
theorem dX2_insert_10 : decode cX2_insert 10 = .ok (.aload_n 0, 1) := by decide +kernel
theorem dX2_insert_11 : decode cX2_insert 11 = .ok (.getfield 28, 3) := by decide +kernel
theorem dX2_insert_14 : decode cX2_insert 14 = .ok (.iload_n 3, 1) := by decide +kernel
theorem dX2_insert_15 : decode cX2_insert 15 = .ok (.iconst 1, 1) := by decide +kernel
theorem dX2_insert_16 : decode cX2_insert 16 = .ok (.isub, 1) := by decide +kernel
theorem dX2_insert_17 : decode cX2_insert 17 = .ok (.daload, 1) := by decide +kernel
theorem dX2_insert_18 : decode cX2_insert 18 = .ok (.invokestatic 157, 3) := by decide +kernel
theorem dX2_insert_21 : decode cX2_insert 21 = .ok (.ifCond .eq 23, 3) := by decide +kernel
theorem dX2_insert_24 : decode cX2_insert 24 = .ok (.aload_n 0, 1) := by decide +kernel
theorem dX2_insert_25 : decode cX2_insert 25 = .ok (.getfield 28, 3) := by decide +kernel
theorem dX2_insert_28 : decode cX2_insert 28 = .ok (.iload_n 3, 1) := by decide +kernel
theorem dX2_insert_29 : decode cX2_insert 29 = .ok (.aload_n 0, 1) := by decide +kernel
theorem dX2_insert_30 : decode cX2_insert 30 = .ok (.getfield 28, 3) := by decide +kernel
theorem dX2_insert_33 : decode cX2_insert 33 = .ok (.iload_n 3, 1) := by decide +kernel
theorem dX2_insert_34 : decode cX2_insert 34 = .ok (.iconst 1, 1) := by decide +kernel
theorem dX2_insert_35 : decode cX2_insert 35 = .ok (.isub, 1) := by decide +kernel
theorem dX2_insert_36 : decode cX2_insert 36 = .ok (.daload, 1) := by decide +kernel
theorem dX2_insert_37 : decode cX2_insert 37 = .ok (.dastore, 1) := by decide +kernel
theorem dX2_insert_38 : decode cX2_insert 38 = .ok (.iinc 3 (-1), 3) := by decide +kernel
theorem dX2_insert_41 : decode cX2_insert 41 = .ok (.goto (-36), 3) := by decide +kernel
theorem dX2_insert_44 : decode cX2_insert 44 = .ok (.aload_n 0, 1) := by decide +kernel
theorem dX2_insert_45 : decode cX2_insert 45 = .ok (.getfield 28, 3) := by decide +kernel
theorem dX2_insert_48 : decode cX2_insert 48 = .ok (.iload_n 3, 1) := by decide +kernel
theorem dX2_insert_49 : decode cX2_insert 49 = .ok (.dload_n 1, 1) := by decide +kernel
theorem dX2_insert_50 : decode cX2_insert 50 = .ok (.dastore, 1) := by decide +kernel
theorem dX2_insert_51 : decode cX2_insert 51 = .ok (.aload_n 0, 1) := by decide +kernel
theorem dX2_insert_52 : decode cX2_insert 52 = .ok (.dup, 1) := by decide +kernel
theorem dX2_insert_53 : decode cX2_insert 53 = .ok (.getfield 32, 3) := by decide +kernel
theorem dX2_insert_56 : decode cX2_insert 56 = .ok (.iconst 1, 1) := by decide +kernel
theorem dX2_insert_57 : decode cX2_insert 57 = .ok (.iadd, 1) := by decide +kernel
theorem dX2_insert_58 : decode cX2_insert 58 = .ok (.putfield 32, 3) := by decide +kernel
theorem dX2_insert_61 : decode cX2_insert 61 = .ok (.return_, 1) := by decide +kernel
theorem dX2_lesserPlaces_0 : decode cX2_lesserPlaces 0 = .ok (.iconst 0, 1) := by decide +kernel
theorem dX2_lesserPlaces_1 : decode cX2_lesserPlaces 1 = .ok (.istore_n 3, 1) := by decide +kernel
theorem dX2_lesserPlaces_2 : decode cX2_lesserPlaces 2 = .ok (.iconst 0, 1) := by decide +kernel
theorem dX2_lesserPlaces_3 : decode cX2_lesserPlaces 3 = .ok (.istore 4, 2) := by decide +kernel
theorem dX2_lesserPlaces_5 : decode cX2_lesserPlaces 5 = .ok (.iload 4, 2) := by decide +kernel
theorem dX2_lesserPlaces_7 : decode cX2_lesserPlaces 7 = .ok (.bipush 16, 2) := by decide +kernel
theorem dX2_lesserPlaces_9 : decode cX2_lesserPlaces 9 = .ok (.if_icmp .ge 39, 3) := by decide +kernel
theorem dX2_lesserPlaces_12 : decode cX2_lesserPlaces 12 = .ok (.aload_n 0, 1) := by decide +kernel
theorem dX2_lesserPlaces_13 : decode cX2_lesserPlaces 13 = .ok (.getfield 21, 3) := by decide +kernel
theorem dX2_lesserPlaces_16 : decode cX2_lesserPlaces 16 = .ok (.iload 4, 2) := by decide +kernel
theorem dX2_lesserPlaces_18 : decode cX2_lesserPlaces 18 = .ok (.invokevirtual 84, 3) := by decide +kernel
theorem dX2_lesserPlaces_21 : decode cX2_lesserPlaces 21 = .ok (.ifCond .ne 21, 3) := by decide +kernel
theorem dX2_lesserPlaces_24 : decode cX2_lesserPlaces 24 = .ok (.aload_n 0, 1) := by decide +kernel
theorem dX2_lesserPlaces_25 : decode cX2_lesserPlaces 25 = .ok (.getfield 21, 3) := by decide +kernel
theorem dX2_lesserPlaces_28 : decode cX2_lesserPlaces 28 = .ok (.getfield 87, 3) := by decide +kernel
theorem dX2_lesserPlaces_31 : decode cX2_lesserPlaces 31 = .ok (.iload 4, 2) := by decide +kernel
theorem dX2_lesserPlaces_33 : decode cX2_lesserPlaces 33 = .ok (.daload, 1) := by decide +kernel
theorem dX2_lesserPlaces_34 : decode cX2_lesserPlaces 34 = .ok (.dload_n 1, 1) := by decide +kernel
theorem dX2_lesserPlaces_35 : decode cX2_lesserPlaces 35 = .ok (.dcmp .g, 1) := by decide +kernel
theorem dX2_lesserPlaces_36 : decode cX2_lesserPlaces 36 = .ok (.ifCond .ge 6, 3) := by decide +kernel
theorem dX2_lesserPlaces_39 : decode cX2_lesserPlaces 39 = .ok (.iinc 3 1, 3) := by decide +kernel
theorem dX2_lesserPlaces_42 : decode cX2_lesserPlaces 42 = .ok (.iinc 4 1, 3) := by decide +kernel
theorem dX2_lesserPlaces_45 : decode cX2_lesserPlaces 45 = .ok (.goto (-40), 3) := by decide +kernel
theorem dX2_lesserPlaces_48 : decode cX2_lesserPlaces 48 = .ok (.iload_n 3, 1) := by decide +kernel
theorem dX2_lesserPlaces_49 : decode cX2_lesserPlaces 49 = .ok (.ireturn, 1) := by decide +kernel
theorem dX3_init_0 : decode cX3_init 0 = .ok (.aload_n 0, 1) := by decide +kernel
theorem dX3_init_1 : decode cX3_init 1 = .ok (.invokespecial 3, 3) := by decide +kernel
theorem dX3_init_4 : decode cX3_init 4 = .ok (.aload_n 0, 1) := by decide +kernel
theorem dX3_init_5 : decode cX3_init 5 = .ok (.bipush 16, 2) := by decide +kernel
theorem dX3_init_7 : decode cX3_init 7 = .ok (.newarray .double, 2) := by decide +kernel
theorem dX3_init_9 : decode cX3_init 9 = .ok (.putfield 9, 3) := by decide +kernel
theorem dX3_init_12 : decode cX3_init 12 = .ok (.aload_n 0, 1) := by decide +kernel
theorem dX3_init_13 : decode cX3_init 13 = .ok (.ldc 15, 2) := by decide +kernel
theorem dX3_init_15 : decode cX3_init 15 = .ok (.putfield 16, 3) := by decide +kernel
theorem dX3_init_18 : decode cX3_init 18 = .ok (.aload_n 0, 1) := by decide +kernel
theorem dX3_init_19 : decode cX3_init 19 = .ok (.iconst 0, 1) := by decide +kernel
theorem dX3_init_20 : decode cX3_init 20 = .ok (.putfield 20, 3) := by decide +kernel
theorem dX3_init_23 : decode cX3_init 23 = .ok (.aload_n 0, 1) := by decide +kernel
theorem dX3_init_24 : decode cX3_init 24 = .ok (.iconst (-1), 1) := by decide +kernel
theorem dX3_init_25 : decode cX3_init 25 = .ok (.putfield 24, 3) := by decide +kernel
theorem dX3_init_28 : decode cX3_init 28 = .ok (.aload_n 0, 1) := by decide +kernel
theorem dX3_init_29 : decode cX3_init 29 = .ok (.iconst 0, 1) := by decide +kernel
theorem dX3_init_30 : decode cX3_init 30 = .ok (.putfield 27, 3) := by decide +kernel
theorem dX3_init_33 : decode cX3_init 33 = .ok (.aload_n 0, 1) := by decide +kernel
theorem dX3_init_34 : decode cX3_init 34 = .ok (.iconst 0, 1) := by decide +kernel
theorem dX3_init_35 : decode cX3_init 35 = .ok (.putfield 30, 3) := by decide +kernel
theorem dX3_init_38 : decode cX3_init 38 = .ok (.aload_n 0, 1) := by decide +kernel
theorem dX3_init_39 : decode cX3_init 39 = .ok (.iconst 0, 1) := by decide +kernel
theorem dX3_init_40 : decode cX3_init 40 = .ok (.putfield 33, 3) := by decide +kernel
theorem dX3_init_43 : decode cX3_init 43 = .ok (.return_, 1) := by decide +kernel
theorem dX3_copy_0 : decode cX3_copy 0 = .ok (.new 10, 3) := by decide +kernel
theorem dX3_copy_3 : decode cX3_copy 3 = .ok (.dup, 1) := by decide +kernel
theorem dX3_copy_4 : decode cX3_copy 4 = .ok (.invokespecial 36, 3) := by decide +kernel
theorem dX3_copy_7 : decode cX3_copy 7 = .ok (.astore_n 1, 1) := by decide +kernel
theorem dX3_copy_8 : decode cX3_copy 8 = .ok (.aload_n 0, 1) := by decide +kernel
theorem dX3_copy_9 : decode cX3_copy 9 = .ok (.getfield 9, 3) := by decide +kernel
theorem dX3_copy_12 : decode cX3_copy 12 = .ok (.iconst 0, 1) := by decide +kernel
theorem dX3_copy_13 : decode cX3_copy 13 = .ok (.aload_n 1, 1) := by decide +kernel
theorem dX3_copy_14 : decode cX3_copy 14 = .ok (.getfield 9, 3) := by decide +kernel
theorem dX3_copy_17 : decode cX3_copy 17 = .ok (.iconst 0, 1) := by decide +kernel
theorem dX3_copy_18 : decode cX3_copy 18 = .ok (.bipush 16, 2) := by decide +kernel
theorem dX3_copy_20 : decode cX3_copy 20 = .ok (.invokestatic 37, 3) := by decide +kernel
theorem dX3_copy_23 : decode cX3_copy 23 = .ok (.aload_n 1, 1) := by decide +kernel
theorem dX3_copy_24 : decode cX3_copy 24 = .ok (.aload_n 0, 1) := by decide +kernel
theorem dX3_copy_25 : decode cX3_copy 25 = .ok (.getfield 16, 3) := by decide +kernel
theorem dX3_copy_28 : decode cX3_copy 28 = .ok (.putfield 16, 3) := by decide +kernel
theorem dX3_copy_31 : decode cX3_copy 31 = .ok (.aload_n 1, 1) := by decide +kernel
theorem dX3_copy_32 : decode cX3_copy 32 = .ok (.aload_n 0, 1) := by decide +kernel
theorem dX3_copy_33 : decode cX3_copy 33 = .ok (.getfield 20, 3) := by decide +kernel
theorem dX3_copy_36 : decode cX3_copy 36 = .ok (.putfield 20, 3) := by decide +kernel
theorem dX3_copy_39 : decode cX3_copy 39 = .ok (.aload_n 1, 1) := by decide +kernel
theorem dX3_copy_40 : decode cX3_copy 40 = .ok (.aload_n 0, 1) := by decide +kernel
theorem dX3_copy_41 : decode cX3_copy 41 = .ok (.getfield 24, 3) := by decide +kernel
theorem dX3_copy_44 : decode cX3_copy 44 = .ok (.putfield 24, 3) := by decide +kernel
theorem dX3_copy_47 : decode cX3_copy 47 = .ok (.aload_n 1, 1) := by decide +kernel
theorem dX3_copy_48 : decode cX3_copy 48 = .ok (.aload_n 0, 1) := by decide +kernel
theorem dX3_copy_49 : decode cX3_copy 49 = .ok (.getfield 27, 3) := by decide +kernel
theorem dX3_copy_52 : decode cX3_copy 52 = .ok (.putfield 27, 3) := by decide +kernel
theorem dX3_copy_55 : decode cX3_copy 55 = .ok (.aload_n 1, 1) := by decide +kernel
theorem dX3_copy_56 : decode cX3_copy 56 = .ok (.aload_n 0, 1) := by decide +kernel
theorem dX3_copy_57 : decode cX3_copy 57 = .ok (.getfield 30, 3) := by decide +kernel
theorem dX3_copy_60 : decode cX3_copy 60 = .ok (.putfield 30, 3) := by decide +kernel
theorem dX3_copy_63 : decode cX3_copy 63 = .ok (.aload_n 1, 1) := by decide +kernel
theorem dX3_copy_64 : decode cX3_copy 64 = .ok (.aload_n 0, 1) := by decide +kernel
theorem dX3_copy_65 : decode cX3_copy 65 = .ok (.getfield 33, 3) := by decide +kernel
theorem dX3_copy_68 : decode cX3_copy 68 = .ok (.putfield 33, 3) := by decide +kernel
theorem dX3_copy_71 : decode cX3_copy 71 = .ok (.aload_n 1, 1) := by decide +kernel
theorem dX3_copy_72 : decode cX3_copy 72 = .ok (.areturn, 1) := by decide +kernel
theorem dX3_hasFormula_0 : decode cX3_hasFormula 0 = .ok (.aload_n 0, 1) := by decide +kernel
theorem dX3_hasFormula_1 : decode cX3_hasFormula 1 = .ok (.getfield 24, 3) := by decide +kernel
theorem dX3_hasFormula_4 : decode cX3_hasFormula 4 = .ok (.iconst (-1), 1) := by decide +kernel
theorem dX3_hasFormula_5 : decode cX3_hasFormula 5 = .ok (.if_icmp .eq 7, 3) := by decide +kernel
theorem dX3_hasFormula_8 : decode cX3_hasFormula 8 = .ok (.iconst 1, 1) := by decide +kernel
theorem dX3_hasFormula_9 : decode cX3_hasFormula 9 = .ok (.goto 4, 3) := by decide +kernel
theorem dX3_hasFormula_12 : decode cX3_hasFormula 12 = .ok (.iconst 0, 1) := by decide +kernel
theorem dX3_hasFormula_13 : decode cX3_hasFormula 13 = .ok (.ireturn, 1) := by decide +kernel
theorem dX3_isTouched_0 : decode cX3_isTouched 0 = .ok (.aload_n 0, 1) := by decide +kernel
theorem dX3_isTouched_1 : decode cX3_isTouched 1 = .ok (.getfield 30, 3) := by decide +kernel
theorem dX3_isTouched_4 : decode cX3_isTouched 4 = .ok (.bipush 16, 2) := by decide +kernel
theorem dX3_isTouched_6 : decode cX3_isTouched 6 = .ok (.if_icmp .lt 8, 3) := by decide +kernel
theorem dX3_isTouched_9 : decode cX3_isTouched 9 = .ok (.bipush 12, 2) := by decide +kernel
theorem dX3_isTouched_11 : decode cX3_isTouched 11 = .ok (.goto 7, 3) := by decide +kernel
theorem dX3_isTouched_14 : decode cX3_isTouched 14 = .ok (.aload_n 0, 1) := by decide +kernel
theorem dX3_isTouched_15 : decode cX3_isTouched 15 = .ok (.getfield 30, 3) := by decide +kernel
theorem dX3_isTouched_18 : decode cX3_isTouched 18 = .ok (.istore_n 3, 1) := by decide +kernel
theorem dX3_isTouched_19 : decode cX3_isTouched 19 = .ok (.iload_n 1, 1) := by decide +kernel
theorem dX3_isTouched_20 : decode cX3_isTouched 20 = .ok (.iconst 1, 1) := by decide +kernel
theorem dX3_isTouched_21 : decode cX3_isTouched 21 = .ok (.iload_n 2, 1) := by decide +kernel
theorem dX3_isTouched_22 : decode cX3_isTouched 22 = .ok (.ishl, 1) := by decide +kernel
theorem dX3_isTouched_23 : decode cX3_isTouched 23 = .ok (.iconst 1, 1) := by decide +kernel
theorem dX3_isTouched_24 : decode cX3_isTouched 24 = .ok (.aload_n 0, 1) := by decide +kernel
theorem dX3_isTouched_25 : decode cX3_isTouched 25 = .ok (.getfield 27, 3) := by decide +kernel
theorem dX3_isTouched_28 : decode cX3_isTouched 28 = .ok (.ishl, 1) := by decide +kernel
theorem dX3_isTouched_29 : decode cX3_isTouched 29 = .ok (.ior, 1) := by decide +kernel
theorem dX3_isTouched_30 : decode cX3_isTouched 30 = .ok (.iconst 1, 1) := by decide +kernel
theorem dX3_isTouched_31 : decode cX3_isTouched 31 = .ok (.iload_n 3, 1) := by decide +kernel
theorem dX3_isTouched_32 : decode cX3_isTouched 32 = .ok (.ishl, 1) := by decide +kernel
theorem dX3_isTouched_33 : decode cX3_isTouched 33 = .ok (.ior, 1) := by decide +kernel
theorem dX3_isTouched_34 : decode cX3_isTouched 34 = .ok (.iand, 1) := by decide +kernel
theorem dX3_isTouched_35 : decode cX3_isTouched 35 = .ok (.ifCond .eq 7, 3) := by decide +kernel
theorem dX3_isTouched_38 : decode cX3_isTouched 38 = .ok (.iconst 1, 1) := by decide +kernel
theorem dX3_isTouched_39 : decode cX3_isTouched 39 = .ok (.goto 4, 3) := by decide +kernel
theorem dX3_isTouched_42 : decode cX3_isTouched 42 = .ok (.iconst 0, 1) := by decide +kernel
theorem dX3_isTouched_43 : decode cX3_isTouched 43 = .ok (.ireturn, 1) := by decide +kernel
theorem dX3_blankAt_0 : decode cX3_blankAt 0 = .ok (.aload_n 0, 1) := by decide +kernel
theorem dX3_blankAt_1 : decode cX3_blankAt 1 = .ok (.getfield 16, 3) := by decide +kernel
theorem dX3_blankAt_4 : decode cX3_blankAt 4 = .ok (.iload_n 1, 1) := by decide +kernel
theorem dX3_blankAt_5 : decode cX3_blankAt 5 = .ok (.ishr, 1) := by decide +kernel
theorem dX3_blankAt_6 : decode cX3_blankAt 6 = .ok (.iconst 1, 1) := by decide +kernel
theorem dX3_blankAt_7 : decode cX3_blankAt 7 = .ok (.iand, 1) := by decide +kernel
theorem dX3_blankAt_8 : decode cX3_blankAt 8 = .ok (.iconst 1, 1) := by decide +kernel
theorem dX3_blankAt_9 : decode cX3_blankAt 9 = .ok (.if_icmp .ne 7, 3) := by decide +kernel
theorem dX3_blankAt_12 : decode cX3_blankAt 12 = .ok (.iconst 1, 1) := by decide +kernel
theorem dX3_blankAt_13 : decode cX3_blankAt 13 = .ok (.goto 4, 3) := by decide +kernel
theorem dX3_blankAt_16 : decode cX3_blankAt 16 = .ok (.iconst 0, 1) := by decide +kernel
theorem dX3_blankAt_17 : decode cX3_blankAt 17 = .ok (.ireturn, 1) := by decide +kernel
theorem dX3_put_0 : decode cX3_put 0 = .ok (.aload_n 0, 1) := by decide +kernel
theorem dX3_put_1 : decode cX3_put 1 = .ok (.getfield 9, 3) := by decide +kernel
theorem dX3_put_4 : decode cX3_put 4 = .ok (.iload_n 1, 1) := by decide +kernel
theorem dX3_put_5 : decode cX3_put 5 = .ok (.aload_n 0, 1) := by decide +kernel
theorem dX3_put_6 : decode cX3_put 6 = .ok (.getfield 20, 3) := by decide +kernel
theorem dX3_put_9 : decode cX3_put 9 = .ok (.ifCond .eq 9, 3) := by decide +kernel
theorem dX3_put_12 : decode cX3_put 12 = .ok (.dload_n 2, 1) := by decide +kernel
theorem dX3_put_13 : decode cX3_put 13 = .ok (.d2f, 1) := by decide +kernel
theorem dX3_put_14 : decode cX3_put 14 = .ok (.f2d, 1) := by decide +kernel
theorem dX3_put_15 : decode cX3_put 15 = .ok (.goto 4, 3) := by decide +kernel
theorem dX3_put_18 : decode cX3_put 18 = .ok (.dload_n 2, 1) := by decide +kernel
theorem dX3_put_19 : decode cX3_put 19 = .ok (.dastore, 1) := by decide +kernel
theorem dX3_put_20 : decode cX3_put 20 = .ok (.aload_n 0, 1) := by decide +kernel
theorem dX3_put_21 : decode cX3_put 21 = .ok (.dup, 1) := by decide +kernel
theorem dX3_put_22 : decode cX3_put 22 = .ok (.getfield 16, 3) := by decide +kernel
theorem dX3_put_25 : decode cX3_put 25 = .ok (.iconst 1, 1) := by decide +kernel
theorem dX3_put_26 : decode cX3_put 26 = .ok (.iload_n 1, 1) := by decide +kernel
theorem dX3_put_27 : decode cX3_put 27 = .ok (.ishl, 1) := by decide +kernel
theorem dX3_put_28 : decode cX3_put 28 = .ok (.iconst (-1), 1) := by decide +kernel
theorem dX3_put_29 : decode cX3_put 29 = .ok (.ixor, 1) := by decide +kernel
theorem dX3_put_30 : decode cX3_put 30 = .ok (.iand, 1) := by decide +kernel
theorem dX3_put_31 : decode cX3_put 31 = .ok (.putfield 16, 3) := by decide +kernel
theorem dX3_put_34 : decode cX3_put 34 = .ok (.return_, 1) := by decide +kernel
theorem dX3_clear_0 : decode cX3_clear 0 = .ok (.aload_n 0, 1) := by decide +kernel
theorem dX3_clear_1 : decode cX3_clear 1 = .ok (.getfield 9, 3) := by decide +kernel
theorem dX3_clear_4 : decode cX3_clear 4 = .ok (.iload_n 1, 1) := by decide +kernel
theorem dX3_clear_5 : decode cX3_clear 5 = .ok (.dconst 0, 1) := by decide +kernel
theorem dX3_clear_6 : decode cX3_clear 6 = .ok (.dastore, 1) := by decide +kernel
theorem dX3_clear_7 : decode cX3_clear 7 = .ok (.aload_n 0, 1) := by decide +kernel
theorem dX3_clear_8 : decode cX3_clear 8 = .ok (.dup, 1) := by decide +kernel
theorem dX3_clear_9 : decode cX3_clear 9 = .ok (.getfield 16, 3) := by decide +kernel
theorem dX3_clear_12 : decode cX3_clear 12 = .ok (.iconst 1, 1) := by decide +kernel
theorem dX3_clear_13 : decode cX3_clear 13 = .ok (.iload_n 1, 1) := by decide +kernel
theorem dX3_clear_14 : decode cX3_clear 14 = .ok (.ishl, 1) := by decide +kernel
theorem dX3_clear_15 : decode cX3_clear 15 = .ok (.ior, 1) := by decide +kernel
theorem dX3_clear_16 : decode cX3_clear 16 = .ok (.putfield 16, 3) := by decide +kernel
theorem dX3_clear_19 : decode cX3_clear 19 = .ok (.return_, 1) := by decide +kernel
theorem dX3_bringTo_0 : decode cX3_bringTo 0 = .ok (.aload_n 0, 1) := by decide +kernel
theorem dX3_bringTo_1 : decode cX3_bringTo 1 = .ok (.iload_n 1, 1) := by decide +kernel
theorem dX3_bringTo_2 : decode cX3_bringTo 2 = .ok (.putfield 20, 3) := by decide +kernel
theorem dX3_bringTo_5 : decode cX3_bringTo 5 = .ok (.iconst 0, 1) := by decide +kernel
theorem dX3_bringTo_6 : decode cX3_bringTo 6 = .ok (.istore_n 2, 1) := by decide +kernel
theorem dX3_bringTo_7 : decode cX3_bringTo 7 = .ok (.iload_n 2, 1) := by decide +kernel
theorem dX3_bringTo_8 : decode cX3_bringTo 8 = .ok (.bipush 16, 2) := by decide +kernel
theorem dX3_bringTo_10 : decode cX3_bringTo 10 = .ok (.if_icmp .ge 28, 3) := by decide +kernel
theorem dX3_bringTo_13 : decode cX3_bringTo 13 = .ok (.aload_n 0, 1) := by decide +kernel
theorem dX3_bringTo_14 : decode cX3_bringTo 14 = .ok (.iload_n 2, 1) := by decide +kernel
theorem dX3_bringTo_15 : decode cX3_bringTo 15 = .ok (.invokevirtual 43, 3) := by decide +kernel
theorem dX3_bringTo_18 : decode cX3_bringTo 18 = .ok (.ifCond .ne 14, 3) := by decide +kernel
theorem dX3_bringTo_21 : decode cX3_bringTo 21 = .ok (.aload_n 0, 1) := by decide +kernel
theorem dX3_bringTo_22 : decode cX3_bringTo 22 = .ok (.iload_n 2, 1) := by decide +kernel
theorem dX3_bringTo_23 : decode cX3_bringTo 23 = .ok (.aload_n 0, 1) := by decide +kernel
theorem dX3_bringTo_24 : decode cX3_bringTo 24 = .ok (.getfield 9, 3) := by decide +kernel
theorem dX3_bringTo_27 : decode cX3_bringTo 27 = .ok (.iload_n 2, 1) := by decide +kernel
theorem dX3_bringTo_28 : decode cX3_bringTo 28 = .ok (.daload, 1) := by decide +kernel
theorem dX3_bringTo_29 : decode cX3_bringTo 29 = .ok (.invokevirtual 47, 3) := by decide +kernel
theorem dX3_bringTo_32 : decode cX3_bringTo 32 = .ok (.iinc 2 1, 3) := by decide +kernel
theorem dX3_bringTo_35 : decode cX3_bringTo 35 = .ok (.goto (-28), 3) := by decide +kernel
theorem dX3_bringTo_38 : decode cX3_bringTo 38 = .ok (.return_, 1) := by decide +kernel
theorem dX3_takeAll_0 : decode cX3_takeAll 0 = .ok (.iconst 0, 1) := by decide +kernel
theorem dX3_takeAll_1 : decode cX3_takeAll 1 = .ok (.istore_n 2, 1) := by decide +kernel
theorem dX3_takeAll_2 : decode cX3_takeAll 2 = .ok (.iload_n 2, 1) := by decide +kernel
theorem dX3_takeAll_3 : decode cX3_takeAll 3 = .ok (.bipush 16, 2) := by decide +kernel
theorem dX3_takeAll_5 : decode cX3_takeAll 5 = .ok (.if_icmp .ge 16, 3) := by decide +kernel
theorem dX3_takeAll_8 : decode cX3_takeAll 8 = .ok (.aload_n 0, 1) := by decide +kernel
theorem dX3_takeAll_9 : decode cX3_takeAll 9 = .ok (.iload_n 2, 1) := by decide +kernel
theorem dX3_takeAll_10 : decode cX3_takeAll 10 = .ok (.aload_n 1, 1) := by decide +kernel
theorem dX3_takeAll_11 : decode cX3_takeAll 11 = .ok (.iload_n 2, 1) := by decide +kernel
theorem dX3_takeAll_12 : decode cX3_takeAll 12 = .ok (.invokevirtual 51, 3) := by decide +kernel
theorem dX3_takeAll_15 : decode cX3_takeAll 15 = .ok (.iinc 2 1, 3) := by decide +kernel
theorem dX3_takeAll_18 : decode cX3_takeAll 18 = .ok (.goto (-16), 3) := by decide +kernel
theorem dX3_takeAll_21 : decode cX3_takeAll 21 = .ok (.return_, 1) := by decide +kernel
theorem dX3_takeOne_0 : decode cX3_takeOne 0 = .ok (.aload_n 2, 1) := by decide +kernel
theorem dX3_takeOne_1 : decode cX3_takeOne 1 = .ok (.iload_n 3, 1) := by decide +kernel
theorem dX3_takeOne_2 : decode cX3_takeOne 2 = .ok (.invokevirtual 43, 3) := by decide +kernel
theorem dX3_takeOne_5 : decode cX3_takeOne 5 = .ok (.ifCond .eq 11, 3) := by decide +kernel
theorem dX3_takeOne_8 : decode cX3_takeOne 8 = .ok (.aload_n 0, 1) := by decide +kernel
theorem dX3_takeOne_9 : decode cX3_takeOne 9 = .ok (.iload_n 1, 1) := by decide +kernel
theorem dX3_takeOne_10 : decode cX3_takeOne 10 = .ok (.invokevirtual 55, 3) := by decide +kernel
theorem dX3_takeOne_13 : decode cX3_takeOne 13 = .ok (.goto 14, 3) := by decide +kernel
theorem dX3_takeOne_16 : decode cX3_takeOne 16 = .ok (.aload_n 0, 1) := by decide +kernel
theorem dX3_takeOne_17 : decode cX3_takeOne 17 = .ok (.iload_n 1, 1) := by decide +kernel
theorem dX3_takeOne_18 : decode cX3_takeOne 18 = .ok (.aload_n 2, 1) := by decide +kernel
theorem dX3_takeOne_19 : decode cX3_takeOne 19 = .ok (.getfield 9, 3) := by decide +kernel
theorem dX3_takeOne_22 : decode cX3_takeOne 22 = .ok (.iload_n 3, 1) := by decide +kernel
theorem dX3_takeOne_23 : decode cX3_takeOne 23 = .ok (.daload, 1) := by decide +kernel
theorem dX3_takeOne_24 : decode cX3_takeOne 24 = .ok (.invokevirtual 47, 3) := by decide +kernel
theorem dX3_takeOne_27 : decode cX3_takeOne 27 = .ok (.return_, 1) := by decide +kernel
theorem dX4_init_0 : decode cX4_init 0 = .ok (.aload_n 0, 1) := by decide +kernel
theorem dX4_init_1 : decode cX4_init 1 = .ok (.invokespecial 1, 3) := by decide +kernel
theorem dX4_init_4 : decode cX4_init 4 = .ok (.aload_n 0, 1) := by decide +kernel
theorem dX4_init_5 : decode cX4_init 5 = .ok (.bipush 10, 2) := by decide +kernel
theorem dX4_init_7 : decode cX4_init 7 = .ok (.newarray .double, 2) := by decide +kernel
theorem dX4_init_9 : decode cX4_init 9 = .ok (.putfield 9, 3) := by decide +kernel
theorem dX4_init_12 : decode cX4_init 12 = .ok (.aload_n 0, 1) := by decide +kernel
theorem dX4_init_13 : decode cX4_init 13 = .ok (.bipush 10, 2) := by decide +kernel
theorem dX4_init_15 : decode cX4_init 15 = .ok (.newarray .double, 2) := by decide +kernel
theorem dX4_init_17 : decode cX4_init 17 = .ok (.putfield 13, 3) := by decide +kernel
theorem dX4_init_20 : decode cX4_init 20 = .ok (.aload_n 0, 1) := by decide +kernel
theorem dX4_init_21 : decode cX4_init 21 = .ok (.getfield 9, 3) := by decide +kernel
theorem dX4_init_24 : decode cX4_init 24 = .ok (.iconst 0, 1) := by decide +kernel
theorem dX4_init_25 : decode cX4_init 25 = .ok (.ldc2_w 16, 3) := by decide +kernel
theorem dX4_init_28 : decode cX4_init 28 = .ok (.dastore, 1) := by decide +kernel
theorem dX4_init_29 : decode cX4_init 29 = .ok (.aload_n 0, 1) := by decide +kernel
theorem dX4_init_30 : decode cX4_init 30 = .ok (.getfield 13, 3) := by decide +kernel
theorem dX4_init_33 : decode cX4_init 33 = .ok (.iconst 0, 1) := by decide +kernel
theorem dX4_init_34 : decode cX4_init 34 = .ok (.ldc2_w 18, 3) := by decide +kernel
theorem dX4_init_37 : decode cX4_init 37 = .ok (.dastore, 1) := by decide +kernel
theorem dX4_init_38 : decode cX4_init 38 = .ok (.iconst 1, 1) := by decide +kernel
theorem dX4_init_39 : decode cX4_init 39 = .ok (.istore_n 1, 1) := by decide +kernel
theorem dX4_init_40 : decode cX4_init 40 = .ok (.iload_n 1, 1) := by decide +kernel
theorem dX4_init_41 : decode cX4_init 41 = .ok (.bipush 10, 2) := by decide +kernel
theorem dX4_init_43 : decode cX4_init 43 = .ok (.if_icmp .ge 55, 3) := by decide +kernel
theorem dX4_init_46 : decode cX4_init 46 = .ok (.aload_n 0, 1) := by decide +kernel
theorem dX4_init_47 : decode cX4_init 47 = .ok (.getfield 9, 3) := by decide +kernel
theorem dX4_init_50 : decode cX4_init 50 = .ok (.iload_n 1, 1) := by decide +kernel
theorem dX4_init_51 : decode cX4_init 51 = .ok (.aload_n 0, 1) := by decide +kernel
theorem dX4_init_52 : decode cX4_init 52 = .ok (.getfield 9, 3) := by decide +kernel
theorem dX4_init_55 : decode cX4_init 55 = .ok (.iload_n 1, 1) := by decide +kernel
theorem dX4_init_56 : decode cX4_init 56 = .ok (.iconst 1, 1) := by decide +kernel
theorem dX4_init_57 : decode cX4_init 57 = .ok (.isub, 1) := by decide +kernel
theorem dX4_init_58 : decode cX4_init 58 = .ok (.daload, 1) := by decide +kernel
theorem dX4_init_59 : decode cX4_init 59 = .ok (.aload_n 0, 1) := by decide +kernel
theorem dX4_init_60 : decode cX4_init 60 = .ok (.getfield 9, 3) := by decide +kernel
theorem dX4_init_63 : decode cX4_init 63 = .ok (.iload_n 1, 1) := by decide +kernel
theorem dX4_init_64 : decode cX4_init 64 = .ok (.iconst 1, 1) := by decide +kernel
theorem dX4_init_65 : decode cX4_init 65 = .ok (.isub, 1) := by decide +kernel
theorem dX4_init_66 : decode cX4_init 66 = .ok (.daload, 1) := by decide +kernel
theorem dX4_init_67 : decode cX4_init 67 = .ok (.dmul, 1) := by decide +kernel
theorem dX4_init_68 : decode cX4_init 68 = .ok (.dastore, 1) := by decide +kernel
theorem dX4_init_69 : decode cX4_init 69 = .ok (.aload_n 0, 1) := by decide +kernel
theorem dX4_init_70 : decode cX4_init 70 = .ok (.getfield 13, 3) := by decide +kernel
theorem dX4_init_73 : decode cX4_init 73 = .ok (.iload_n 1, 1) := by decide +kernel
theorem dX4_init_74 : decode cX4_init 74 = .ok (.aload_n 0, 1) := by decide +kernel
theorem dX4_init_75 : decode cX4_init 75 = .ok (.getfield 13, 3) := by decide +kernel
theorem dX4_init_78 : decode cX4_init 78 = .ok (.iload_n 1, 1) := by decide +kernel
theorem dX4_init_79 : decode cX4_init 79 = .ok (.iconst 1, 1) := by decide +kernel
theorem dX4_init_80 : decode cX4_init 80 = .ok (.isub, 1) := by decide +kernel
theorem dX4_init_81 : decode cX4_init 81 = .ok (.daload, 1) := by decide +kernel
theorem dX4_init_82 : decode cX4_init 82 = .ok (.aload_n 0, 1) := by decide +kernel
theorem dX4_init_83 : decode cX4_init 83 = .ok (.getfield 13, 3) := by decide +kernel
theorem dX4_init_86 : decode cX4_init 86 = .ok (.iload_n 1, 1) := by decide +kernel
theorem dX4_init_87 : decode cX4_init 87 = .ok (.iconst 1, 1) := by decide +kernel
theorem dX4_init_88 : decode cX4_init 88 = .ok (.isub, 1) := by decide +kernel
theorem dX4_init_89 : decode cX4_init 89 = .ok (.daload, 1) := by decide +kernel
theorem dX4_init_90 : decode cX4_init 90 = .ok (.dmul, 1) := by decide +kernel
theorem dX4_init_91 : decode cX4_init 91 = .ok (.dastore, 1) := by decide +kernel
theorem dX4_init_92 : decode cX4_init 92 = .ok (.iinc 1 1, 3) := by decide +kernel
theorem dX4_init_95 : decode cX4_init 95 = .ok (.goto (-55), 3) := by decide +kernel
theorem dX4_init_98 : decode cX4_init 98 = .ok (.return_, 1) := by decide +kernel
theorem dX4_times_0 : decode cX4_times 0 = .ok (.iload_n 3, 1) := by decide +kernel
theorem dX4_times_1 : decode cX4_times 1 = .ok (.ifCond .ge 10, 3) := by decide +kernel
theorem dX4_times_4 : decode cX4_times 4 = .ok (.aload_n 0, 1) := by decide +kernel
theorem dX4_times_5 : decode cX4_times 5 = .ok (.getfield 13, 3) := by decide +kernel
theorem dX4_times_8 : decode cX4_times 8 = .ok (.goto 7, 3) := by decide +kernel
theorem dX4_times_11 : decode cX4_times 11 = .ok (.aload_n 0, 1) := by decide +kernel
theorem dX4_times_12 : decode cX4_times 12 = .ok (.getfield 9, 3) := by decide +kernel
theorem dX4_times_15 : decode cX4_times 15 = .ok (.astore 4, 2) := by decide +kernel
theorem dX4_times_17 : decode cX4_times 17 = .ok (.iload_n 3, 1) := by decide +kernel
theorem dX4_times_18 : decode cX4_times 18 = .ok (.ifCond .ge 8, 3) := by decide +kernel
theorem dX4_times_21 : decode cX4_times 21 = .ok (.iload_n 3, 1) := by decide +kernel
theorem dX4_times_22 : decode cX4_times 22 = .ok (.ineg, 1) := by decide +kernel
theorem dX4_times_23 : decode cX4_times 23 = .ok (.goto 4, 3) := by decide +kernel
theorem dX4_times_26 : decode cX4_times 26 = .ok (.iload_n 3, 1) := by decide +kernel
theorem dX4_times_27 : decode cX4_times 27 = .ok (.istore 5, 2) := by decide +kernel
theorem dX4_times_29 : decode cX4_times 29 = .ok (.dload_n 1, 1) := by decide +kernel
theorem dX4_times_30 : decode cX4_times 30 = .ok (.dstore 6, 2) := by decide +kernel
theorem dX4_times_32 : decode cX4_times 32 = .ok (.bipush 9, 2) := by decide +kernel
theorem dX4_times_34 : decode cX4_times 34 = .ok (.istore 8, 2) := by decide +kernel
theorem dX4_times_36 : decode cX4_times 36 = .ok (.iload 8, 2) := by decide +kernel
theorem dX4_times_38 : decode cX4_times 38 = .ok (.ifCond .lt 40, 3) := by decide +kernel
theorem dX4_times_41 : decode cX4_times 41 = .ok (.iload 5, 2) := by decide +kernel
theorem dX4_times_43 : decode cX4_times 43 = .ok (.iconst 1, 1) := by decide +kernel
theorem dX4_times_44 : decode cX4_times 44 = .ok (.iload 8, 2) := by decide +kernel
theorem dX4_times_46 : decode cX4_times 46 = .ok (.ishl, 1) := by decide +kernel
theorem dX4_times_47 : decode cX4_times 47 = .ok (.if_icmp .lt 25, 3) := by decide +kernel
theorem dX4_times_50 : decode cX4_times 50 = .ok (.dload 6, 2) := by decide +kernel
theorem dX4_times_52 : decode cX4_times 52 = .ok (.aload 4, 2) := by decide +kernel
theorem dX4_times_54 : decode cX4_times 54 = .ok (.iload 8, 2) := by decide +kernel
theorem dX4_times_56 : decode cX4_times 56 = .ok (.daload, 1) := by decide +kernel
theorem dX4_times_57 : decode cX4_times 57 = .ok (.dmul, 1) := by decide +kernel
theorem dX4_times_58 : decode cX4_times 58 = .ok (.dstore 6, 2) := by decide +kernel
theorem dX4_times_60 : decode cX4_times 60 = .ok (.iload 5, 2) := by decide +kernel
theorem dX4_times_62 : decode cX4_times 62 = .ok (.iconst 1, 1) := by decide +kernel
theorem dX4_times_63 : decode cX4_times 63 = .ok (.iload 8, 2) := by decide +kernel
theorem dX4_times_65 : decode cX4_times 65 = .ok (.ishl, 1) := by decide +kernel
theorem dX4_times_66 : decode cX4_times 66 = .ok (.isub, 1) := by decide +kernel
theorem dX4_times_67 : decode cX4_times 67 = .ok (.istore 5, 2) := by decide +kernel
theorem dX4_times_69 : decode cX4_times 69 = .ok (.goto (-28), 3) := by decide +kernel
theorem dX4_times_72 : decode cX4_times 72 = .ok (.iinc 8 (-1), 3) := by decide +kernel
theorem dX4_times_75 : decode cX4_times 75 = .ok (.goto (-39), 3) := by decide +kernel
theorem dX4_times_78 : decode cX4_times 78 = .ok (.dload 6, 2) := by decide +kernel
theorem dX4_times_80 : decode cX4_times 80 = .ok (.dreturn, 1) := by decide +kernel
theorem dX4_unit_0 : decode cX4_unit 0 = .ok (.iload_n 3, 1) := by decide +kernel
theorem dX4_unit_1 : decode cX4_unit 1 = .ok (.ifCond .eq 8, 3) := by decide +kernel
theorem dX4_unit_4 : decode cX4_unit 4 = .ok (.bipush 23, 2) := by decide +kernel
theorem dX4_unit_6 : decode cX4_unit 6 = .ok (.goto 5, 3) := by decide +kernel
theorem dX4_unit_9 : decode cX4_unit 9 = .ok (.bipush 52, 2) := by decide +kernel
theorem dX4_unit_11 : decode cX4_unit 11 = .ok (.istore 4, 2) := by decide +kernel
theorem dX4_unit_13 : decode cX4_unit 13 = .ok (.iload_n 3, 1) := by decide +kernel
theorem dX4_unit_14 : decode cX4_unit 14 = .ok (.ifCond .eq 9, 3) := by decide +kernel
theorem dX4_unit_17 : decode cX4_unit 17 = .ok (.sipush (-149), 3) := by decide +kernel
theorem dX4_unit_20 : decode cX4_unit 20 = .ok (.goto 6, 3) := by decide +kernel
theorem dX4_unit_23 : decode cX4_unit 23 = .ok (.sipush (-1074), 3) := by decide +kernel
theorem dX4_unit_26 : decode cX4_unit 26 = .ok (.istore 5, 2) := by decide +kernel
theorem dX4_unit_28 : decode cX4_unit 28 = .ok (.dload_n 1, 1) := by decide +kernel
theorem dX4_unit_29 : decode cX4_unit 29 = .ok (.dstore 6, 2) := by decide +kernel
theorem dX4_unit_31 : decode cX4_unit 31 = .ok (.iconst 0, 1) := by decide +kernel
theorem dX4_unit_32 : decode cX4_unit 32 = .ok (.istore 8, 2) := by decide +kernel
theorem dX4_unit_34 : decode cX4_unit 34 = .ok (.dload 6, 2) := by decide +kernel
theorem dX4_unit_36 : decode cX4_unit 36 = .ok (.aload_n 0, 1) := by decide +kernel
theorem dX4_unit_37 : decode cX4_unit 37 = .ok (.getfield 13, 3) := by decide +kernel
theorem dX4_unit_40 : decode cX4_unit 40 = .ok (.bipush 9, 2) := by decide +kernel
theorem dX4_unit_42 : decode cX4_unit 42 = .ok (.daload, 1) := by decide +kernel
theorem dX4_unit_43 : decode cX4_unit 43 = .ok (.dcmp .g, 1) := by decide +kernel
theorem dX4_unit_44 : decode cX4_unit 44 = .ok (.ifCond .ge 20, 3) := by decide +kernel
theorem dX4_unit_47 : decode cX4_unit 47 = .ok (.dload 6, 2) := by decide +kernel
theorem dX4_unit_49 : decode cX4_unit 49 = .ok (.aload_n 0, 1) := by decide +kernel
theorem dX4_unit_50 : decode cX4_unit 50 = .ok (.getfield 9, 3) := by decide +kernel
theorem dX4_unit_53 : decode cX4_unit 53 = .ok (.bipush 9, 2) := by decide +kernel
theorem dX4_unit_55 : decode cX4_unit 55 = .ok (.daload, 1) := by decide +kernel
theorem dX4_unit_56 : decode cX4_unit 56 = .ok (.dmul, 1) := by decide +kernel
theorem dX4_unit_57 : decode cX4_unit 57 = .ok (.dstore 6, 2) := by decide +kernel
theorem dX4_unit_59 : decode cX4_unit 59 = .ok (.sipush (-512), 3) := by decide +kernel
theorem dX4_unit_62 : decode cX4_unit 62 = .ok (.istore 8, 2) := by decide +kernel
theorem dX4_unit_64 : decode cX4_unit 64 = .ok (.bipush 9, 2) := by decide +kernel
theorem dX4_unit_66 : decode cX4_unit 66 = .ok (.istore 9, 2) := by decide +kernel
theorem dX4_unit_68 : decode cX4_unit 68 = .ok (.iload 9, 2) := by decide +kernel
theorem dX4_unit_70 : decode cX4_unit 70 = .ok (.ifCond .lt 84, 3) := by decide +kernel
theorem dX4_unit_73 : decode cX4_unit 73 = .ok (.dload 6, 2) := by decide +kernel
theorem dX4_unit_75 : decode cX4_unit 75 = .ok (.aload_n 0, 1) := by decide +kernel
theorem dX4_unit_76 : decode cX4_unit 76 = .ok (.getfield 9, 3) := by decide +kernel
theorem dX4_unit_79 : decode cX4_unit 79 = .ok (.iload 9, 2) := by decide +kernel
theorem dX4_unit_81 : decode cX4_unit 81 = .ok (.daload, 1) := by decide +kernel
theorem dX4_unit_82 : decode cX4_unit 82 = .ok (.dcmp .l, 1) := by decide +kernel
theorem dX4_unit_83 : decode cX4_unit 83 = .ok (.ifCond .lt 27, 3) := by decide +kernel
theorem dX4_unit_86 : decode cX4_unit 86 = .ok (.dload 6, 2) := by decide +kernel
theorem dX4_unit_88 : decode cX4_unit 88 = .ok (.aload_n 0, 1) := by decide +kernel
theorem dX4_unit_89 : decode cX4_unit 89 = .ok (.getfield 13, 3) := by decide +kernel
theorem dX4_unit_92 : decode cX4_unit 92 = .ok (.iload 9, 2) := by decide +kernel
theorem dX4_unit_94 : decode cX4_unit 94 = .ok (.daload, 1) := by decide +kernel
theorem dX4_unit_95 : decode cX4_unit 95 = .ok (.dmul, 1) := by decide +kernel
theorem dX4_unit_96 : decode cX4_unit 96 = .ok (.dstore 6, 2) := by decide +kernel
theorem dX4_unit_98 : decode cX4_unit 98 = .ok (.iload 8, 2) := by decide +kernel
theorem dX4_unit_100 : decode cX4_unit 100 = .ok (.iconst 1, 1) := by decide +kernel
theorem dX4_unit_101 : decode cX4_unit 101 = .ok (.iload 9, 2) := by decide +kernel
theorem dX4_unit_103 : decode cX4_unit 103 = .ok (.ishl, 1) := by decide +kernel
theorem dX4_unit_104 : decode cX4_unit 104 = .ok (.iadd, 1) := by decide +kernel
theorem dX4_unit_105 : decode cX4_unit 105 = .ok (.istore 8, 2) := by decide +kernel
theorem dX4_unit_107 : decode cX4_unit 107 = .ok (.goto 41, 3) := by decide +kernel
theorem dX4_unit_110 : decode cX4_unit 110 = .ok (.dload 6, 2) := by decide +kernel
theorem dX4_unit_112 : decode cX4_unit 112 = .ok (.aload_n 0, 1) := by decide +kernel
theorem dX4_unit_113 : decode cX4_unit 113 = .ok (.getfield 9, 3) := by decide +kernel
theorem dX4_unit_116 : decode cX4_unit 116 = .ok (.iload 9, 2) := by decide +kernel
theorem dX4_unit_118 : decode cX4_unit 118 = .ok (.daload, 1) := by decide +kernel
theorem dX4_unit_119 : decode cX4_unit 119 = .ok (.dmul, 1) := by decide +kernel
theorem dX4_unit_120 : decode cX4_unit 120 = .ok (.ldc2_w 16, 3) := by decide +kernel
theorem dX4_unit_123 : decode cX4_unit 123 = .ok (.dcmp .g, 1) := by decide +kernel
theorem dX4_unit_124 : decode cX4_unit 124 = .ok (.ifCond .ge 24, 3) := by decide +kernel
theorem dX4_unit_127 : decode cX4_unit 127 = .ok (.dload 6, 2) := by decide +kernel
theorem dX4_unit_129 : decode cX4_unit 129 = .ok (.aload_n 0, 1) := by decide +kernel
theorem dX4_unit_130 : decode cX4_unit 130 = .ok (.getfield 9, 3) := by decide +kernel
theorem dX4_unit_133 : decode cX4_unit 133 = .ok (.iload 9, 2) := by decide +kernel
theorem dX4_unit_135 : decode cX4_unit 135 = .ok (.daload, 1) := by decide +kernel
theorem dX4_unit_136 : decode cX4_unit 136 = .ok (.dmul, 1) := by decide +kernel
theorem dX4_unit_137 : decode cX4_unit 137 = .ok (.dstore 6, 2) := by decide +kernel
theorem dX4_unit_139 : decode cX4_unit 139 = .ok (.iload 8, 2) := by decide +kernel
theorem dX4_unit_141 : decode cX4_unit 141 = .ok (.iconst 1, 1) := by decide +kernel
theorem dX4_unit_142 : decode cX4_unit 142 = .ok (.iload 9, 2) := by decide +kernel
theorem dX4_unit_144 : decode cX4_unit 144 = .ok (.ishl, 1) := by decide +kernel
theorem dX4_unit_145 : decode cX4_unit 145 = .ok (.isub, 1) := by decide +kernel
theorem dX4_unit_146 : decode cX4_unit 146 = .ok (.istore 8, 2) := by decide +kernel
theorem dX4_unit_148 : decode cX4_unit 148 = .ok (.iinc 9 (-1), 3) := by decide +kernel
theorem dX4_unit_151 : decode cX4_unit 151 = .ok (.goto (-83), 3) := by decide +kernel
theorem dX4_unit_154 : decode cX4_unit 154 = .ok (.iload 8, 2) := by decide +kernel
theorem dX4_unit_156 : decode cX4_unit 156 = .ok (.iload 4, 2) := by decide +kernel
theorem dX4_unit_158 : decode cX4_unit 158 = .ok (.isub, 1) := by decide +kernel
theorem dX4_unit_159 : decode cX4_unit 159 = .ok (.iload 5, 2) := by decide +kernel
theorem dX4_unit_161 : decode cX4_unit 161 = .ok (.if_icmp .ge 8, 3) := by decide +kernel
theorem dX4_unit_164 : decode cX4_unit 164 = .ok (.iload 5, 2) := by decide +kernel
theorem dX4_unit_166 : decode cX4_unit 166 = .ok (.goto 8, 3) := by decide +kernel
theorem dX4_unit_169 : decode cX4_unit 169 = .ok (.iload 8, 2) := by decide +kernel
theorem dX4_unit_171 : decode cX4_unit 171 = .ok (.iload 4, 2) := by decide +kernel
theorem dX4_unit_173 : decode cX4_unit 173 = .ok (.isub, 1) := by decide +kernel
theorem dX4_unit_174 : decode cX4_unit 174 = .ok (.ireturn, 1) := by decide +kernel
theorem dX4_bitsOf_0 : decode cX4_bitsOf 0 = .ok (.iload_n 3, 1) := by decide +kernel
theorem dX4_bitsOf_1 : decode cX4_bitsOf 1 = .ok (.ifCond .eq 8, 3) := by decide +kernel
theorem dX4_bitsOf_4 : decode cX4_bitsOf 4 = .ok (.bipush 23, 2) := by decide +kernel
theorem dX4_bitsOf_6 : decode cX4_bitsOf 6 = .ok (.goto 5, 3) := by decide +kernel
theorem dX4_bitsOf_9 : decode cX4_bitsOf 9 = .ok (.bipush 52, 2) := by decide +kernel
theorem dX4_bitsOf_11 : decode cX4_bitsOf 11 = .ok (.istore 4, 2) := by decide +kernel
theorem dX4_bitsOf_13 : decode cX4_bitsOf 13 = .ok (.iload_n 3, 1) := by decide +kernel
theorem dX4_bitsOf_14 : decode cX4_bitsOf 14 = .ok (.ifCond .eq 9, 3) := by decide +kernel
theorem dX4_bitsOf_17 : decode cX4_bitsOf 17 = .ok (.sipush (-149), 3) := by decide +kernel
theorem dX4_bitsOf_20 : decode cX4_bitsOf 20 = .ok (.goto 6, 3) := by decide +kernel
theorem dX4_bitsOf_23 : decode cX4_bitsOf 23 = .ok (.sipush (-1074), 3) := by decide +kernel
theorem dX4_bitsOf_26 : decode cX4_bitsOf 26 = .ok (.istore 5, 2) := by decide +kernel
theorem dX4_bitsOf_28 : decode cX4_bitsOf 28 = .ok (.dload_n 1, 1) := by decide +kernel
theorem dX4_bitsOf_29 : decode cX4_bitsOf 29 = .ok (.invokestatic 20, 3) := by decide +kernel
theorem dX4_bitsOf_32 : decode cX4_bitsOf 32 = .ok (.istore 6, 2) := by decide +kernel
theorem dX4_bitsOf_34 : decode cX4_bitsOf 34 = .ok (.iload 6, 2) := by decide +kernel
theorem dX4_bitsOf_36 : decode cX4_bitsOf 36 = .ok (.ifCond .eq 8, 3) := by decide +kernel
theorem dX4_bitsOf_39 : decode cX4_bitsOf 39 = .ok (.dload_n 1, 1) := by decide +kernel
theorem dX4_bitsOf_40 : decode cX4_bitsOf 40 = .ok (.dneg, 1) := by decide +kernel
theorem dX4_bitsOf_41 : decode cX4_bitsOf 41 = .ok (.goto 4, 3) := by decide +kernel
theorem dX4_bitsOf_44 : decode cX4_bitsOf 44 = .ok (.dload_n 1, 1) := by decide +kernel
theorem dX4_bitsOf_45 : decode cX4_bitsOf 45 = .ok (.dstore 7, 2) := by decide +kernel
theorem dX4_bitsOf_47 : decode cX4_bitsOf 47 = .ok (.iload 6, 2) := by decide +kernel
theorem dX4_bitsOf_49 : decode cX4_bitsOf 49 = .ok (.ifCond .eq 21, 3) := by decide +kernel
theorem dX4_bitsOf_52 : decode cX4_bitsOf 52 = .ok (.ldc2_w 26, 3) := by decide +kernel
theorem dX4_bitsOf_55 : decode cX4_bitsOf 55 = .ok (.iload_n 3, 1) := by decide +kernel
theorem dX4_bitsOf_56 : decode cX4_bitsOf 56 = .ok (.ifCond .eq 8, 3) := by decide +kernel
theorem dX4_bitsOf_59 : decode cX4_bitsOf 59 = .ok (.bipush 31, 2) := by decide +kernel
theorem dX4_bitsOf_61 : decode cX4_bitsOf 61 = .ok (.goto 5, 3) := by decide +kernel
theorem dX4_bitsOf_64 : decode cX4_bitsOf 64 = .ok (.bipush 63, 2) := by decide +kernel
theorem dX4_bitsOf_66 : decode cX4_bitsOf 66 = .ok (.lshl, 1) := by decide +kernel
theorem dX4_bitsOf_67 : decode cX4_bitsOf 67 = .ok (.goto 4, 3) := by decide +kernel
theorem dX4_bitsOf_70 : decode cX4_bitsOf 70 = .ok (.lconst 0, 1) := by decide +kernel
theorem dX4_bitsOf_71 : decode cX4_bitsOf 71 = .ok (.lstore 9, 2) := by decide +kernel
theorem dX4_bitsOf_73 : decode cX4_bitsOf 73 = .ok (.dload 7, 2) := by decide +kernel
theorem dX4_bitsOf_75 : decode cX4_bitsOf 75 = .ok (.dconst 0, 1) := by decide +kernel
theorem dX4_bitsOf_76 : decode cX4_bitsOf 76 = .ok (.dcmp .l, 1) := by decide +kernel
theorem dX4_bitsOf_77 : decode cX4_bitsOf 77 = .ok (.ifCond .ne 6, 3) := by decide +kernel
theorem dX4_bitsOf_80 : decode cX4_bitsOf 80 = .ok (.lload 9, 2) := by decide +kernel
theorem dX4_bitsOf_82 : decode cX4_bitsOf 82 = .ok (.lreturn, 1) := by decide +kernel
theorem dX4_bitsOf_83 : decode cX4_bitsOf 83 = .ok (.dload 7, 2) := by decide +kernel
theorem dX4_bitsOf_85 : decode cX4_bitsOf 85 = .ok (.invokestatic 28, 3) := by decide +kernel
theorem dX4_bitsOf_88 : decode cX4_bitsOf 88 = .ok (.ifCond .eq 23, 3) := by decide +kernel
theorem dX4_bitsOf_91 : decode cX4_bitsOf 91 = .ok (.lload 9, 2) := by decide +kernel
theorem dX4_bitsOf_93 : decode cX4_bitsOf 93 = .ok (.iload_n 3, 1) := by decide +kernel
theorem dX4_bitsOf_94 : decode cX4_bitsOf 94 = .ok (.ifCond .eq 9, 3) := by decide +kernel
theorem dX4_bitsOf_97 : decode cX4_bitsOf 97 = .ok (.ldc2_w 31, 3) := by decide +kernel
theorem dX4_bitsOf_100 : decode cX4_bitsOf 100 = .ok (.goto 6, 3) := by decide +kernel
theorem dX4_bitsOf_103 : decode cX4_bitsOf 103 = .ok (.ldc2_w 33, 3) := by decide +kernel
theorem dX4_bitsOf_106 : decode cX4_bitsOf 106 = .ok (.iload 4, 2) := by decide +kernel
theorem dX4_bitsOf_108 : decode cX4_bitsOf 108 = .ok (.lshl, 1) := by decide +kernel
theorem dX4_bitsOf_109 : decode cX4_bitsOf 109 = .ok (.ladd, 1) := by decide +kernel
theorem dX4_bitsOf_110 : decode cX4_bitsOf 110 = .ok (.lreturn, 1) := by decide +kernel
theorem dX4_bitsOf_111 : decode cX4_bitsOf 111 = .ok (.aload_n 0, 1) := by decide +kernel
theorem dX4_bitsOf_112 : decode cX4_bitsOf 112 = .ok (.dload 7, 2) := by decide +kernel
theorem dX4_bitsOf_114 : decode cX4_bitsOf 114 = .ok (.iload_n 3, 1) := by decide +kernel
theorem dX4_bitsOf_115 : decode cX4_bitsOf 115 = .ok (.invokevirtual 35, 3) := by decide +kernel
theorem dX4_bitsOf_118 : decode cX4_bitsOf 118 = .ok (.istore 11, 2) := by decide +kernel
theorem dX4_bitsOf_120 : decode cX4_bitsOf 120 = .ok (.lload 9, 2) := by decide +kernel
theorem dX4_bitsOf_122 : decode cX4_bitsOf 122 = .ok (.iload 11, 2) := by decide +kernel
theorem dX4_bitsOf_124 : decode cX4_bitsOf 124 = .ok (.iload 5, 2) := by decide +kernel
theorem dX4_bitsOf_126 : decode cX4_bitsOf 126 = .ok (.isub, 1) := by decide +kernel
theorem dX4_bitsOf_127 : decode cX4_bitsOf 127 = .ok (.i2l, 1) := by decide +kernel
theorem dX4_bitsOf_128 : decode cX4_bitsOf 128 = .ok (.iload 4, 2) := by decide +kernel
theorem dX4_bitsOf_130 : decode cX4_bitsOf 130 = .ok (.lshl, 1) := by decide +kernel
theorem dX4_bitsOf_131 : decode cX4_bitsOf 131 = .ok (.ladd, 1) := by decide +kernel
theorem dX4_bitsOf_132 : decode cX4_bitsOf 132 = .ok (.aload_n 0, 1) := by decide +kernel
theorem dX4_bitsOf_133 : decode cX4_bitsOf 133 = .ok (.dload 7, 2) := by decide +kernel
theorem dX4_bitsOf_135 : decode cX4_bitsOf 135 = .ok (.iload 11, 2) := by decide +kernel
theorem dX4_bitsOf_137 : decode cX4_bitsOf 137 = .ok (.ineg, 1) := by decide +kernel
theorem dX4_bitsOf_138 : decode cX4_bitsOf 138 = .ok (.invokevirtual 39, 3) := by decide +kernel
theorem dX4_bitsOf_141 : decode cX4_bitsOf 141 = .ok (.d2l, 1) := by decide +kernel
theorem dX4_bitsOf_142 : decode cX4_bitsOf 142 = .ok (.ladd, 1) := by decide +kernel
theorem dX4_bitsOf_143 : decode cX4_bitsOf 143 = .ok (.lreturn, 1) := by decide +kernel
theorem dX5_init_0 : decode cX5_init 0 = .ok (.aload_n 0, 1) := by decide +kernel
theorem dX5_init_1 : decode cX5_init 1 = .ok (.invokespecial 1, 3) := by decide +kernel
theorem dX5_init_4 : decode cX5_init 4 = .ok (.aload_n 0, 1) := by decide +kernel
theorem dX5_init_5 : decode cX5_init 5 = .ok (.bipush 13, 2) := by decide +kernel
theorem dX5_init_7 : decode cX5_init 7 = .ok (.anewarray 9, 3) := by decide +kernel
theorem dX5_init_10 : decode cX5_init 10 = .ok (.putfield 11, 3) := by decide +kernel
theorem dX5_init_13 : decode cX5_init 13 = .ok (.iconst 0, 1) := by decide +kernel
theorem dX5_init_14 : decode cX5_init 14 = .ok (.istore_n 1, 1) := by decide +kernel
theorem dX5_init_15 : decode cX5_init 15 = .ok (.iload_n 1, 1) := by decide +kernel
theorem dX5_init_16 : decode cX5_init 16 = .ok (.bipush 12, 2) := by decide +kernel
theorem dX5_init_18 : decode cX5_init 18 = .ok (.if_icmp .gt 22, 3) := by decide +kernel
theorem dX5_init_21 : decode cX5_init 21 = .ok (.aload_n 0, 1) := by decide +kernel
theorem dX5_init_22 : decode cX5_init 22 = .ok (.getfield 11, 3) := by decide +kernel
theorem dX5_init_25 : decode cX5_init 25 = .ok (.iload_n 1, 1) := by decide +kernel
theorem dX5_init_26 : decode cX5_init 26 = .ok (.new 9, 3) := by decide +kernel
theorem dX5_init_29 : decode cX5_init 29 = .ok (.dup, 1) := by decide +kernel
theorem dX5_init_30 : decode cX5_init 30 = .ok (.invokespecial 15, 3) := by decide +kernel
theorem dX5_init_33 : decode cX5_init 33 = .ok (.aastore, 1) := by decide +kernel
theorem dX5_init_34 : decode cX5_init 34 = .ok (.iinc 1 1, 3) := by decide +kernel
theorem dX5_init_37 : decode cX5_init 37 = .ok (.goto (-22), 3) := by decide +kernel
theorem dX5_init_40 : decode cX5_init 40 = .ok (.aload_n 0, 1) := by decide +kernel
theorem dX5_init_41 : decode cX5_init 41 = .ok (.bipush 10, 2) := by decide +kernel
theorem dX5_init_43 : decode cX5_init 43 = .ok (.anewarray 16, 3) := by decide +kernel
theorem dX5_init_46 : decode cX5_init 46 = .ok (.putfield 18, 3) := by decide +kernel
theorem dX5_init_49 : decode cX5_init 49 = .ok (.aload_n 0, 1) := by decide +kernel
theorem dX5_init_50 : decode cX5_init 50 = .ok (.new 22, 3) := by decide +kernel
theorem dX5_init_53 : decode cX5_init 53 = .ok (.dup, 1) := by decide +kernel
theorem dX5_init_54 : decode cX5_init 54 = .ok (.invokespecial 24, 3) := by decide +kernel
theorem dX5_init_57 : decode cX5_init 57 = .ok (.putfield 25, 3) := by decide +kernel
theorem dX5_init_60 : decode cX5_init 60 = .ok (.aload_n 0, 1) := by decide +kernel
theorem dX5_init_61 : decode cX5_init 61 = .ok (.aconst_null, 1) := by decide +kernel
theorem dX5_init_62 : decode cX5_init 62 = .ok (.putfield 29, 3) := by decide +kernel
theorem dX5_init_65 : decode cX5_init 65 = .ok (.aload_n 0, 1) := by decide +kernel
theorem dX5_init_66 : decode cX5_init 66 = .ok (.iconst 0, 1) := by decide +kernel
theorem dX5_init_67 : decode cX5_init 67 = .ok (.putfield 33, 3) := by decide +kernel
theorem dX5_init_70 : decode cX5_init 70 = .ok (.aload_n 0, 1) := by decide +kernel
theorem dX5_init_71 : decode cX5_init 71 = .ok (.iconst 0, 1) := by decide +kernel
theorem dX5_init_72 : decode cX5_init 72 = .ok (.putfield 37, 3) := by decide +kernel
theorem dX5_init_75 : decode cX5_init 75 = .ok (.aload_n 0, 1) := by decide +kernel
theorem dX5_init_76 : decode cX5_init 76 = .ok (.iconst 0, 1) := by decide +kernel
theorem dX5_init_77 : decode cX5_init 77 = .ok (.putfield 40, 3) := by decide +kernel
theorem dX5_init_80 : decode cX5_init 80 = .ok (.aload_n 0, 1) := by decide +kernel
theorem dX5_init_81 : decode cX5_init 81 = .ok (.iconst 0, 1) := by decide +kernel
theorem dX5_init_82 : decode cX5_init 82 = .ok (.putfield 43, 3) := by decide +kernel
theorem dX5_init_85 : decode cX5_init 85 = .ok (.return_, 1) := by decide +kernel
theorem dX5_set_0 : decode cX5_set 0 = .ok (.aload_n 0, 1) := by decide +kernel
theorem dX5_set_1 : decode cX5_set 1 = .ok (.iload_n 1, 1) := by decide +kernel
theorem dX5_set_2 : decode cX5_set 2 = .ok (.iload_n 2, 1) := by decide +kernel
theorem dX5_set_3 : decode cX5_set 3 = .ok (.invokevirtual 46, 3) := by decide +kernel
theorem dX5_set_6 : decode cX5_set 6 = .ok (.ifCond .eq 11, 3) := by decide +kernel
theorem dX5_set_9 : decode cX5_set 9 = .ok (.iload 4, 2) := by decide +kernel
theorem dX5_set_11 : decode cX5_set 11 = .ok (.invokestatic 50, 3) := by decide +kernel
theorem dX5_set_14 : decode cX5_set 14 = .ok (.ifCond .ne 5, 3) := by decide +kernel
theorem dX5_set_17 : decode cX5_set 17 = .ok (.iconst 0, 1) := by decide +kernel
theorem dX5_set_18 : decode cX5_set 18 = .ok (.ireturn, 1) := by decide +kernel
theorem dX5_set_19 : decode cX5_set 19 = .ok (.aload_n 0, 1) := by decide +kernel
theorem dX5_set_20 : decode cX5_set 20 = .ok (.iload_n 1, 1) := by decide +kernel
theorem dX5_set_21 : decode cX5_set 21 = .ok (.invokevirtual 54, 3) := by decide +kernel
theorem dX5_set_24 : decode cX5_set 24 = .ok (.iload_n 2, 1) := by decide +kernel
theorem dX5_set_25 : decode cX5_set 25 = .ok (.aload_n 0, 1) := by decide +kernel
theorem dX5_set_26 : decode cX5_set 26 = .ok (.getfield 25, 3) := by decide +kernel
theorem dX5_set_29 : decode cX5_set 29 = .ok (.getfield 58, 3) := by decide +kernel
theorem dX5_set_32 : decode cX5_set 32 = .ok (.iload_n 3, 1) := by decide +kernel
theorem dX5_set_33 : decode cX5_set 33 = .ok (.i2d, 1) := by decide +kernel
theorem dX5_set_34 : decode cX5_set 34 = .ok (.iload 4, 2) := by decide +kernel
theorem dX5_set_36 : decode cX5_set 36 = .ok (.invokevirtual 62, 3) := by decide +kernel
theorem dX5_set_39 : decode cX5_set 39 = .ok (.invokevirtual 68, 3) := by decide +kernel
theorem dX5_set_42 : decode cX5_set 42 = .ok (.iconst 1, 1) := by decide +kernel
theorem dX5_set_43 : decode cX5_set 43 = .ok (.ireturn, 1) := by decide +kernel
theorem dX5_special_0 : decode cX5_special 0 = .ok (.aload_n 0, 1) := by decide +kernel
theorem dX5_special_1 : decode cX5_special 1 = .ok (.iload_n 1, 1) := by decide +kernel
theorem dX5_special_2 : decode cX5_special 2 = .ok (.iload_n 2, 1) := by decide +kernel
theorem dX5_special_3 : decode cX5_special 3 = .ok (.invokevirtual 46, 3) := by decide +kernel
theorem dX5_special_6 : decode cX5_special 6 = .ok (.ifCond .eq 10, 3) := by decide +kernel
theorem dX5_special_9 : decode cX5_special 9 = .ok (.iload_n 3, 1) := by decide +kernel
theorem dX5_special_10 : decode cX5_special 10 = .ok (.invokestatic 72, 3) := by decide +kernel
theorem dX5_special_13 : decode cX5_special 13 = .ok (.ifCond .ne 5, 3) := by decide +kernel
theorem dX5_special_16 : decode cX5_special 16 = .ok (.iconst 0, 1) := by decide +kernel
theorem dX5_special_17 : decode cX5_special 17 = .ok (.ireturn, 1) := by decide +kernel
theorem dX5_special_18 : decode cX5_special 18 = .ok (.aload_n 0, 1) := by decide +kernel
theorem dX5_special_19 : decode cX5_special 19 = .ok (.iload_n 1, 1) := by decide +kernel
theorem dX5_special_20 : decode cX5_special 20 = .ok (.invokevirtual 54, 3) := by decide +kernel
theorem dX5_special_23 : decode cX5_special 23 = .ok (.iload_n 2, 1) := by decide +kernel
theorem dX5_special_24 : decode cX5_special 24 = .ok (.iload_n 3, 1) := by decide +kernel
theorem dX5_special_25 : decode cX5_special 25 = .ok (.invokestatic 75, 3) := by decide +kernel
theorem dX5_special_28 : decode cX5_special 28 = .ok (.iconst 1, 1) := by decide +kernel
theorem dX5_special_29 : decode cX5_special 29 = .ok (.ireturn, 1) := by decide +kernel
theorem dX5_constant_0 : decode cX5_constant 0 = .ok (.iload_n 1, 1) := by decide +kernel
theorem dX5_constant_1 : decode cX5_constant 1 = .ok (.invokestatic 79, 3) := by decide +kernel
theorem dX5_constant_4 : decode cX5_constant 4 = .ok (.ifCond .eq 17, 3) := by decide +kernel
theorem dX5_constant_7 : decode cX5_constant 7 = .ok (.iload_n 3, 1) := by decide +kernel
theorem dX5_constant_8 : decode cX5_constant 8 = .ok (.invokestatic 50, 3) := by decide +kernel
theorem dX5_constant_11 : decode cX5_constant 11 = .ok (.ifCond .eq 10, 3) := by decide +kernel
theorem dX5_constant_14 : decode cX5_constant 14 = .ok (.aload_n 0, 1) := by decide +kernel
theorem dX5_constant_15 : decode cX5_constant 15 = .ok (.invokevirtual 82, 3) := by decide +kernel
theorem dX5_constant_18 : decode cX5_constant 18 = .ok (.ifCond .eq 5, 3) := by decide +kernel
theorem dX5_constant_21 : decode cX5_constant 21 = .ok (.iconst 0, 1) := by decide +kernel
theorem dX5_constant_22 : decode cX5_constant 22 = .ok (.ireturn, 1) := by decide +kernel
theorem dX5_constant_23 : decode cX5_constant 23 = .ok (.aload_n 0, 1) := by decide +kernel
theorem dX5_constant_24 : decode cX5_constant 24 = .ok (.bipush 12, 2) := by decide +kernel
theorem dX5_constant_26 : decode cX5_constant 26 = .ok (.invokevirtual 54, 3) := by decide +kernel
theorem dX5_constant_29 : decode cX5_constant 29 = .ok (.iload_n 1, 1) := by decide +kernel
theorem dX5_constant_30 : decode cX5_constant 30 = .ok (.aload_n 0, 1) := by decide +kernel
theorem dX5_constant_31 : decode cX5_constant 31 = .ok (.getfield 25, 3) := by decide +kernel
theorem dX5_constant_34 : decode cX5_constant 34 = .ok (.getfield 58, 3) := by decide +kernel
theorem dX5_constant_37 : decode cX5_constant 37 = .ok (.iload_n 2, 1) := by decide +kernel
theorem dX5_constant_38 : decode cX5_constant 38 = .ok (.i2d, 1) := by decide +kernel
theorem dX5_constant_39 : decode cX5_constant 39 = .ok (.iload_n 3, 1) := by decide +kernel
theorem dX5_constant_40 : decode cX5_constant 40 = .ok (.invokevirtual 62, 3) := by decide +kernel
theorem dX5_constant_43 : decode cX5_constant 43 = .ok (.invokevirtual 68, 3) := by decide +kernel
theorem dX5_constant_46 : decode cX5_constant 46 = .ok (.iconst 1, 1) := by decide +kernel
theorem dX5_constant_47 : decode cX5_constant 47 = .ok (.ireturn, 1) := by decide +kernel
theorem dX5_constantSpecial_0 : decode cX5_constantSpecial 0 = .ok (.iload_n 1, 1) := by decide +kernel
theorem dX5_constantSpecial_1 : decode cX5_constantSpecial 1 = .ok (.invokestatic 79, 3) := by decide +kernel
theorem dX5_constantSpecial_4 : decode cX5_constantSpecial 4 = .ok (.ifCond .eq 17, 3) := by decide +kernel
theorem dX5_constantSpecial_7 : decode cX5_constantSpecial 7 = .ok (.iload_n 2, 1) := by decide +kernel
theorem dX5_constantSpecial_8 : decode cX5_constantSpecial 8 = .ok (.invokestatic 72, 3) := by decide +kernel
theorem dX5_constantSpecial_11 : decode cX5_constantSpecial 11 = .ok (.ifCond .eq 10, 3) := by decide +kernel
theorem dX5_constantSpecial_14 : decode cX5_constantSpecial 14 = .ok (.aload_n 0, 1) := by decide +kernel
theorem dX5_constantSpecial_15 : decode cX5_constantSpecial 15 = .ok (.invokevirtual 82, 3) := by decide +kernel
theorem dX5_constantSpecial_18 : decode cX5_constantSpecial 18 = .ok (.ifCond .eq 5, 3) := by decide +kernel
theorem dX5_constantSpecial_21 : decode cX5_constantSpecial 21 = .ok (.iconst 0, 1) := by decide +kernel
theorem dX5_constantSpecial_22 : decode cX5_constantSpecial 22 = .ok (.ireturn, 1) := by decide +kernel
theorem dX5_constantSpecial_23 : decode cX5_constantSpecial 23 = .ok (.aload_n 0, 1) := by decide +kernel
theorem dX5_constantSpecial_24 : decode cX5_constantSpecial 24 = .ok (.bipush 12, 2) := by decide +kernel
theorem dX5_constantSpecial_26 : decode cX5_constantSpecial 26 = .ok (.invokevirtual 54, 3) := by decide +kernel
theorem dX5_constantSpecial_29 : decode cX5_constantSpecial 29 = .ok (.iload_n 1, 1) := by decide +kernel
theorem dX5_constantSpecial_30 : decode cX5_constantSpecial 30 = .ok (.iload_n 2, 1) := by decide +kernel
theorem dX5_constantSpecial_31 : decode cX5_constantSpecial 31 = .ok (.invokestatic 75, 3) := by decide +kernel
theorem dX5_constantSpecial_34 : decode cX5_constantSpecial 34 = .ok (.iconst 1, 1) := by decide +kernel
theorem dX5_constantSpecial_35 : decode cX5_constantSpecial 35 = .ok (.ireturn, 1) := by decide +kernel
theorem dX5_formula_0 : decode cX5_formula 0 = .ok (.iload_n 1, 1) := by decide +kernel
theorem dX5_formula_1 : decode cX5_formula 1 = .ok (.invokestatic 86, 3) := by decide +kernel
theorem dX5_formula_4 : decode cX5_formula 4 = .ok (.ifCond .eq 28, 3) := by decide +kernel
theorem dX5_formula_7 : decode cX5_formula 7 = .ok (.iload_n 2, 1) := by decide +kernel
theorem dX5_formula_8 : decode cX5_formula 8 = .ok (.ifCond .lt 24, 3) := by decide +kernel
theorem dX5_formula_11 : decode cX5_formula 11 = .ok (.iload_n 2, 1) := by decide +kernel
theorem dX5_formula_12 : decode cX5_formula 12 = .ok (.bipush 26, 2) := by decide +kernel
theorem dX5_formula_14 : decode cX5_formula 14 = .ok (.if_icmp .gt 18, 3) := by decide +kernel
theorem dX5_formula_17 : decode cX5_formula 17 = .ok (.iload 5, 2) := by decide +kernel
theorem dX5_formula_19 : decode cX5_formula 19 = .ok (.invokestatic 89, 3) := by decide +kernel
theorem dX5_formula_22 : decode cX5_formula 22 = .ok (.ifCond .eq 10, 3) := by decide +kernel
theorem dX5_formula_25 : decode cX5_formula 25 = .ok (.aload_n 0, 1) := by decide +kernel
theorem dX5_formula_26 : decode cX5_formula 26 = .ok (.invokevirtual 82, 3) := by decide +kernel
theorem dX5_formula_29 : decode cX5_formula 29 = .ok (.ifCond .eq 5, 3) := by decide +kernel
theorem dX5_formula_32 : decode cX5_formula 32 = .ok (.iconst 0, 1) := by decide +kernel
theorem dX5_formula_33 : decode cX5_formula 33 = .ok (.ireturn, 1) := by decide +kernel
theorem dX5_formula_34 : decode cX5_formula 34 = .ok (.iload_n 3, 1) := by decide +kernel
theorem dX5_formula_35 : decode cX5_formula 35 = .ok (.ifCond .lt 30, 3) := by decide +kernel
theorem dX5_formula_38 : decode cX5_formula 38 = .ok (.iload_n 3, 1) := by decide +kernel
theorem dX5_formula_39 : decode cX5_formula 39 = .ok (.iload_n 1, 1) := by decide +kernel
theorem dX5_formula_40 : decode cX5_formula 40 = .ok (.if_icmp .ge 25, 3) := by decide +kernel
theorem dX5_formula_43 : decode cX5_formula 43 = .ok (.iload 4, 2) := by decide +kernel
theorem dX5_formula_45 : decode cX5_formula 45 = .ok (.ifCond .lt 20, 3) := by decide +kernel
theorem dX5_formula_48 : decode cX5_formula 48 = .ok (.iload 4, 2) := by decide +kernel
theorem dX5_formula_50 : decode cX5_formula 50 = .ok (.iload_n 1, 1) := by decide +kernel
theorem dX5_formula_51 : decode cX5_formula 51 = .ok (.if_icmp .lt 16, 3) := by decide +kernel
theorem dX5_formula_54 : decode cX5_formula 54 = .ok (.iload 4, 2) := by decide +kernel
theorem dX5_formula_56 : decode cX5_formula 56 = .ok (.bipush 16, 2) := by decide +kernel
theorem dX5_formula_58 : decode cX5_formula 58 = .ok (.isub, 1) := by decide +kernel
theorem dX5_formula_59 : decode cX5_formula 59 = .ok (.invokestatic 79, 3) := by decide +kernel
theorem dX5_formula_62 : decode cX5_formula 62 = .ok (.ifCond .ne 5, 3) := by decide +kernel
theorem dX5_formula_65 : decode cX5_formula 65 = .ok (.iconst 0, 1) := by decide +kernel
theorem dX5_formula_66 : decode cX5_formula 66 = .ok (.ireturn, 1) := by decide +kernel
theorem dX5_formula_67 : decode cX5_formula 67 = .ok (.aload_n 0, 1) := by decide +kernel
theorem dX5_formula_68 : decode cX5_formula 68 = .ok (.iload_n 1, 1) := by decide +kernel
theorem dX5_formula_69 : decode cX5_formula 69 = .ok (.invokevirtual 54, 3) := by decide +kernel
theorem dX5_formula_72 : decode cX5_formula 72 = .ok (.astore 6, 2) := by decide +kernel
theorem dX5_formula_74 : decode cX5_formula 74 = .ok (.aload 6, 2) := by decide +kernel
theorem dX5_formula_76 : decode cX5_formula 76 = .ok (.iload_n 2, 1) := by decide +kernel
theorem dX5_formula_77 : decode cX5_formula 77 = .ok (.putfield 92, 3) := by decide +kernel
theorem dX5_formula_80 : decode cX5_formula 80 = .ok (.aload 6, 2) := by decide +kernel
theorem dX5_formula_82 : decode cX5_formula 82 = .ok (.iload_n 3, 1) := by decide +kernel
theorem dX5_formula_83 : decode cX5_formula 83 = .ok (.putfield 95, 3) := by decide +kernel
theorem dX5_formula_86 : decode cX5_formula 86 = .ok (.aload 6, 2) := by decide +kernel
theorem dX5_formula_88 : decode cX5_formula 88 = .ok (.iload 4, 2) := by decide +kernel
theorem dX5_formula_90 : decode cX5_formula 90 = .ok (.putfield 98, 3) := by decide +kernel
theorem dX5_formula_93 : decode cX5_formula 93 = .ok (.aload 6, 2) := by decide +kernel
theorem dX5_formula_95 : decode cX5_formula 95 = .ok (.iload 5, 2) := by decide +kernel
theorem dX5_formula_97 : decode cX5_formula 97 = .ok (.putfield 101, 3) := by decide +kernel
theorem dX5_formula_100 : decode cX5_formula 100 = .ok (.iconst 1, 1) := by decide +kernel
theorem dX5_formula_101 : decode cX5_formula 101 = .ok (.ireturn, 1) := by decide +kernel
theorem dX5_input_0 : decode cX5_input 0 = .ok (.iload_n 1, 1) := by decide +kernel
theorem dX5_input_1 : decode cX5_input 1 = .ok (.invokestatic 86, 3) := by decide +kernel
theorem dX5_input_4 : decode cX5_input 4 = .ok (.ifCond .eq 22, 3) := by decide +kernel
theorem dX5_input_7 : decode cX5_input 7 = .ok (.aload_n 0, 1) := by decide +kernel
theorem dX5_input_8 : decode cX5_input 8 = .ok (.getfield 11, 3) := by decide +kernel
theorem dX5_input_11 : decode cX5_input 11 = .ok (.iload_n 1, 1) := by decide +kernel
theorem dX5_input_12 : decode cX5_input 12 = .ok (.aaload, 1) := by decide +kernel
theorem dX5_input_13 : decode cX5_input 13 = .ok (.invokevirtual 104, 3) := by decide +kernel
theorem dX5_input_16 : decode cX5_input 16 = .ok (.ifCond .eq 10, 3) := by decide +kernel
theorem dX5_input_19 : decode cX5_input 19 = .ok (.aload_n 0, 1) := by decide +kernel
theorem dX5_input_20 : decode cX5_input 20 = .ok (.invokevirtual 82, 3) := by decide +kernel
theorem dX5_input_23 : decode cX5_input 23 = .ok (.ifCond .eq 5, 3) := by decide +kernel
theorem dX5_input_26 : decode cX5_input 26 = .ok (.iconst 0, 1) := by decide +kernel
theorem dX5_input_27 : decode cX5_input 27 = .ok (.ireturn, 1) := by decide +kernel
theorem dX5_input_28 : decode cX5_input 28 = .ok (.aload_n 0, 1) := by decide +kernel
theorem dX5_input_29 : decode cX5_input 29 = .ok (.invokevirtual 107, 3) := by decide +kernel
theorem dX5_input_32 : decode cX5_input 32 = .ok (.aload_n 0, 1) := by decide +kernel
theorem dX5_input_33 : decode cX5_input 33 = .ok (.iload_n 1, 1) := by decide +kernel
theorem dX5_input_34 : decode cX5_input 34 = .ok (.invokevirtual 54, 3) := by decide +kernel
theorem dX5_input_37 : decode cX5_input 37 = .ok (.iconst (-1), 1) := by decide +kernel
theorem dX5_input_38 : decode cX5_input 38 = .ok (.putfield 92, 3) := by decide +kernel
theorem dX5_input_41 : decode cX5_input 41 = .ok (.iconst 1, 1) := by decide +kernel
theorem dX5_input_42 : decode cX5_input 42 = .ok (.ireturn, 1) := by decide +kernel
theorem dX5_width_0 : decode cX5_width 0 = .ok (.iload_n 1, 1) := by decide +kernel
theorem dX5_width_1 : decode cX5_width 1 = .ok (.invokestatic 86, 3) := by decide +kernel
theorem dX5_width_4 : decode cX5_width 4 = .ok (.ifCond .eq 23, 3) := by decide +kernel
theorem dX5_width_7 : decode cX5_width 7 = .ok (.aload_n 0, 1) := by decide +kernel
theorem dX5_width_8 : decode cX5_width 8 = .ok (.getfield 11, 3) := by decide +kernel
theorem dX5_width_11 : decode cX5_width 11 = .ok (.iload_n 1, 1) := by decide +kernel
theorem dX5_width_12 : decode cX5_width 12 = .ok (.aaload, 1) := by decide +kernel
theorem dX5_width_13 : decode cX5_width 13 = .ok (.getfield 110, 3) := by decide +kernel
theorem dX5_width_16 : decode cX5_width 16 = .ok (.iload_n 2, 1) := by decide +kernel
theorem dX5_width_17 : decode cX5_width 17 = .ok (.if_icmp .eq 10, 3) := by decide +kernel
theorem dX5_width_20 : decode cX5_width 20 = .ok (.aload_n 0, 1) := by decide +kernel
theorem dX5_width_21 : decode cX5_width 21 = .ok (.invokevirtual 82, 3) := by decide +kernel
theorem dX5_width_24 : decode cX5_width 24 = .ok (.ifCond .eq 5, 3) := by decide +kernel
theorem dX5_width_27 : decode cX5_width 27 = .ok (.iconst 0, 1) := by decide +kernel
theorem dX5_width_28 : decode cX5_width 28 = .ok (.ireturn, 1) := by decide +kernel
theorem dX5_width_29 : decode cX5_width 29 = .ok (.aload_n 0, 1) := by decide +kernel
theorem dX5_width_30 : decode cX5_width 30 = .ok (.iload_n 1, 1) := by decide +kernel
theorem dX5_width_31 : decode cX5_width 31 = .ok (.invokevirtual 54, 3) := by decide +kernel
theorem dX5_width_34 : decode cX5_width 34 = .ok (.iload_n 2, 1) := by decide +kernel
theorem dX5_width_35 : decode cX5_width 35 = .ok (.invokevirtual 114, 3) := by decide +kernel
theorem dX5_width_38 : decode cX5_width 38 = .ok (.iconst 1, 1) := by decide +kernel
theorem dX5_width_39 : decode cX5_width 39 = .ok (.ireturn, 1) := by decide +kernel
theorem dX5_back_0 : decode cX5_back 0 = .ok (.aload_n 0, 1) := by decide +kernel
theorem dX5_back_1 : decode cX5_back 1 = .ok (.getfield 29, 3) := by decide +kernel
theorem dX5_back_4 : decode cX5_back 4 = .ok (.astore_n 1, 1) := by decide +kernel
theorem dX5_back_5 : decode cX5_back 5 = .ok (.aload_n 1, 1) := by decide +kernel
theorem dX5_back_6 : decode cX5_back 6 = .ok (.ifnonnull 5, 3) := by decide +kernel
theorem dX5_back_9 : decode cX5_back 9 = .ok (.iconst (-1), 1) := by decide +kernel
theorem dX5_back_10 : decode cX5_back 10 = .ok (.ireturn, 1) := by decide +kernel
theorem dX5_back_11 : decode cX5_back 11 = .ok (.aload_n 0, 1) := by decide +kernel
theorem dX5_back_12 : decode cX5_back 12 = .ok (.getfield 11, 3) := by decide +kernel
theorem dX5_back_15 : decode cX5_back 15 = .ok (.aload_n 1, 1) := by decide +kernel
theorem dX5_back_16 : decode cX5_back 16 = .ok (.getfield 118, 3) := by decide +kernel
theorem dX5_back_19 : decode cX5_back 19 = .ok (.aload_n 1, 1) := by decide +kernel
theorem dX5_back_20 : decode cX5_back 20 = .ok (.getfield 123, 3) := by decide +kernel
theorem dX5_back_23 : decode cX5_back 23 = .ok (.aastore, 1) := by decide +kernel
theorem dX5_back_24 : decode cX5_back 24 = .ok (.aload_n 0, 1) := by decide +kernel
theorem dX5_back_25 : decode cX5_back 25 = .ok (.dup, 1) := by decide +kernel
theorem dX5_back_26 : decode cX5_back 26 = .ok (.getfield 43, 3) := by decide +kernel
theorem dX5_back_29 : decode cX5_back 29 = .ok (.iconst 1, 1) := by decide +kernel
theorem dX5_back_30 : decode cX5_back 30 = .ok (.aload_n 1, 1) := by decide +kernel
theorem dX5_back_31 : decode cX5_back 31 = .ok (.getfield 118, 3) := by decide +kernel
theorem dX5_back_34 : decode cX5_back 34 = .ok (.ishl, 1) := by decide +kernel
theorem dX5_back_35 : decode cX5_back 35 = .ok (.ior, 1) := by decide +kernel
theorem dX5_back_36 : decode cX5_back 36 = .ok (.putfield 43, 3) := by decide +kernel
theorem dX5_back_39 : decode cX5_back 39 = .ok (.aload_n 0, 1) := by decide +kernel
theorem dX5_back_40 : decode cX5_back 40 = .ok (.aload_n 1, 1) := by decide +kernel
theorem dX5_back_41 : decode cX5_back 41 = .ok (.getfield 127, 3) := by decide +kernel
theorem dX5_back_44 : decode cX5_back 44 = .ok (.putfield 29, 3) := by decide +kernel
theorem dX5_back_47 : decode cX5_back 47 = .ok (.aload_n 0, 1) := by decide +kernel
theorem dX5_back_48 : decode cX5_back 48 = .ok (.dup, 1) := by decide +kernel
theorem dX5_back_49 : decode cX5_back 49 = .ok (.getfield 33, 3) := by decide +kernel
theorem dX5_back_52 : decode cX5_back 52 = .ok (.iconst 1, 1) := by decide +kernel
theorem dX5_back_53 : decode cX5_back 53 = .ok (.isub, 1) := by decide +kernel
theorem dX5_back_54 : decode cX5_back 54 = .ok (.putfield 33, 3) := by decide +kernel
theorem dX5_back_57 : decode cX5_back 57 = .ok (.aload_n 0, 1) := by decide +kernel
theorem dX5_back_58 : decode cX5_back 58 = .ok (.getfield 33, 3) := by decide +kernel
theorem dX5_back_61 : decode cX5_back 61 = .ok (.ireturn, 1) := by decide +kernel
theorem dX5_alarm_0 : decode cX5_alarm 0 = .ok (.iload_n 1, 1) := by decide +kernel
theorem dX5_alarm_1 : decode cX5_alarm 1 = .ok (.invokestatic 86, 3) := by decide +kernel
theorem dX5_alarm_4 : decode cX5_alarm 4 = .ok (.ifCond .eq 19, 3) := by decide +kernel
theorem dX5_alarm_7 : decode cX5_alarm 7 = .ok (.iload_n 2, 1) := by decide +kernel
theorem dX5_alarm_8 : decode cX5_alarm 8 = .ok (.invokestatic 89, 3) := by decide +kernel
theorem dX5_alarm_11 : decode cX5_alarm 11 = .ok (.ifCond .eq 12, 3) := by decide +kernel
theorem dX5_alarm_14 : decode cX5_alarm 14 = .ok (.aload_n 0, 1) := by decide +kernel
theorem dX5_alarm_15 : decode cX5_alarm 15 = .ok (.getfield 37, 3) := by decide +kernel
theorem dX5_alarm_18 : decode cX5_alarm 18 = .ok (.bipush 10, 2) := by decide +kernel
theorem dX5_alarm_20 : decode cX5_alarm 20 = .ok (.if_icmp .lt 5, 3) := by decide +kernel
theorem dX5_alarm_23 : decode cX5_alarm 23 = .ok (.iconst (-1), 1) := by decide +kernel
theorem dX5_alarm_24 : decode cX5_alarm 24 = .ok (.ireturn, 1) := by decide +kernel
theorem dX5_alarm_25 : decode cX5_alarm 25 = .ok (.iload_n 3, 1) := by decide +kernel
theorem dX5_alarm_26 : decode cX5_alarm 26 = .ok (.invokestatic 86, 3) := by decide +kernel
theorem dX5_alarm_29 : decode cX5_alarm 29 = .ok (.ifCond .ne 15, 3) := by decide +kernel
theorem dX5_alarm_32 : decode cX5_alarm 32 = .ok (.iload_n 3, 1) := by decide +kernel
theorem dX5_alarm_33 : decode cX5_alarm 33 = .ok (.bipush 16, 2) := by decide +kernel
theorem dX5_alarm_35 : decode cX5_alarm 35 = .ok (.isub, 1) := by decide +kernel
theorem dX5_alarm_36 : decode cX5_alarm 36 = .ok (.invokestatic 79, 3) := by decide +kernel
theorem dX5_alarm_39 : decode cX5_alarm 39 = .ok (.ifCond .ne 5, 3) := by decide +kernel
theorem dX5_alarm_42 : decode cX5_alarm 42 = .ok (.iconst (-1), 1) := by decide +kernel
theorem dX5_alarm_43 : decode cX5_alarm 43 = .ok (.ireturn, 1) := by decide +kernel
theorem dX5_alarm_44 : decode cX5_alarm 44 = .ok (.aload_n 0, 1) := by decide +kernel
theorem dX5_alarm_45 : decode cX5_alarm 45 = .ok (.getfield 18, 3) := by decide +kernel
theorem dX5_alarm_48 : decode cX5_alarm 48 = .ok (.aload_n 0, 1) := by decide +kernel
theorem dX5_alarm_49 : decode cX5_alarm 49 = .ok (.getfield 37, 3) := by decide +kernel
theorem dX5_alarm_52 : decode cX5_alarm 52 = .ok (.new 16, 3) := by decide +kernel
theorem dX5_alarm_55 : decode cX5_alarm 55 = .ok (.dup, 1) := by decide +kernel
theorem dX5_alarm_56 : decode cX5_alarm 56 = .ok (.iload_n 1, 1) := by decide +kernel
theorem dX5_alarm_57 : decode cX5_alarm 57 = .ok (.iload_n 2, 1) := by decide +kernel
theorem dX5_alarm_58 : decode cX5_alarm 58 = .ok (.iload_n 3, 1) := by decide +kernel
theorem dX5_alarm_59 : decode cX5_alarm 59 = .ok (.invokespecial 130, 3) := by decide +kernel
theorem dX5_alarm_62 : decode cX5_alarm 62 = .ok (.aastore, 1) := by decide +kernel
theorem dX5_alarm_63 : decode cX5_alarm 63 = .ok (.aload_n 0, 1) := by decide +kernel
theorem dX5_alarm_64 : decode cX5_alarm 64 = .ok (.dup, 1) := by decide +kernel
theorem dX5_alarm_65 : decode cX5_alarm 65 = .ok (.getfield 37, 3) := by decide +kernel
theorem dX5_alarm_68 : decode cX5_alarm 68 = .ok (.iconst 1, 1) := by decide +kernel
theorem dX5_alarm_69 : decode cX5_alarm 69 = .ok (.iadd, 1) := by decide +kernel
theorem dX5_alarm_70 : decode cX5_alarm 70 = .ok (.putfield 37, 3) := by decide +kernel
theorem dX5_alarm_73 : decode cX5_alarm 73 = .ok (.aload_n 0, 1) := by decide +kernel
theorem dX5_alarm_74 : decode cX5_alarm 74 = .ok (.getfield 37, 3) := by decide +kernel
theorem dX5_alarm_77 : decode cX5_alarm 77 = .ok (.iconst 1, 1) := by decide +kernel
theorem dX5_alarm_78 : decode cX5_alarm 78 = .ok (.isub, 1) := by decide +kernel
theorem dX5_alarm_79 : decode cX5_alarm 79 = .ok (.ireturn, 1) := by decide +kernel
theorem dX5_ring_0 : decode cX5_ring 0 = .ok (.aload_n 0, 1) := by decide +kernel
theorem dX5_ring_1 : decode cX5_ring 1 = .ok (.invokevirtual 107, 3) := by decide +kernel
theorem dX5_ring_4 : decode cX5_ring 4 = .ok (.aload_n 0, 1) := by decide +kernel
theorem dX5_ring_5 : decode cX5_ring 5 = .ok (.dup, 1) := by decide +kernel
theorem dX5_ring_6 : decode cX5_ring 6 = .ok (.getfield 40, 3) := by decide +kernel
theorem dX5_ring_9 : decode cX5_ring 9 = .ok (.iconst 1, 1) := by decide +kernel
theorem dX5_ring_10 : decode cX5_ring 10 = .ok (.iadd, 1) := by decide +kernel
theorem dX5_ring_11 : decode cX5_ring 11 = .ok (.putfield 40, 3) := by decide +kernel
theorem dX5_ring_14 : decode cX5_ring 14 = .ok (.iconst 0, 1) := by decide +kernel
theorem dX5_ring_15 : decode cX5_ring 15 = .ok (.istore_n 1, 1) := by decide +kernel
theorem dX5_ring_16 : decode cX5_ring 16 = .ok (.iconst 0, 1) := by decide +kernel
theorem dX5_ring_17 : decode cX5_ring 17 = .ok (.istore_n 2, 1) := by decide +kernel
theorem dX5_ring_18 : decode cX5_ring 18 = .ok (.iload_n 2, 1) := by decide +kernel
theorem dX5_ring_19 : decode cX5_ring 19 = .ok (.aload_n 0, 1) := by decide +kernel
theorem dX5_ring_20 : decode cX5_ring 20 = .ok (.getfield 37, 3) := by decide +kernel
theorem dX5_ring_23 : decode cX5_ring 23 = .ok (.if_icmp .ge 43, 3) := by decide +kernel
theorem dX5_ring_26 : decode cX5_ring 26 = .ok (.aload_n 0, 1) := by decide +kernel
theorem dX5_ring_27 : decode cX5_ring 27 = .ok (.getfield 18, 3) := by decide +kernel
theorem dX5_ring_30 : decode cX5_ring 30 = .ok (.iload_n 2, 1) := by decide +kernel
theorem dX5_ring_31 : decode cX5_ring 31 = .ok (.aaload, 1) := by decide +kernel
theorem dX5_ring_32 : decode cX5_ring 32 = .ok (.astore_n 3, 1) := by decide +kernel
theorem dX5_ring_33 : decode cX5_ring 33 = .ok (.aload_n 3, 1) := by decide +kernel
theorem dX5_ring_34 : decode cX5_ring 34 = .ok (.ifnull 26, 3) := by decide +kernel
theorem dX5_ring_37 : decode cX5_ring 37 = .ok (.iload_n 1, 1) := by decide +kernel
theorem dX5_ring_38 : decode cX5_ring 38 = .ok (.aload_n 3, 1) := by decide +kernel
theorem dX5_ring_39 : decode cX5_ring 39 = .ok (.aload_n 0, 1) := by decide +kernel
theorem dX5_ring_40 : decode cX5_ring 40 = .ok (.aload_n 3, 1) := by decide +kernel
theorem dX5_ring_41 : decode cX5_ring 41 = .ok (.getfield 133, 3) := by decide +kernel
theorem dX5_ring_44 : decode cX5_ring 44 = .ok (.aload_n 3, 1) := by decide +kernel
theorem dX5_ring_45 : decode cX5_ring 45 = .ok (.getfield 136, 3) := by decide +kernel
theorem dX5_ring_48 : decode cX5_ring 48 = .ok (.aload_n 3, 1) := by decide +kernel
theorem dX5_ring_49 : decode cX5_ring 49 = .ok (.getfield 137, 3) := by decide +kernel
theorem dX5_ring_52 : decode cX5_ring 52 = .ok (.invokevirtual 138, 3) := by decide +kernel
theorem dX5_ring_55 : decode cX5_ring 55 = .ok (.invokevirtual 142, 3) := by decide +kernel
theorem dX5_ring_58 : decode cX5_ring 58 = .ok (.iadd, 1) := by decide +kernel
theorem dX5_ring_59 : decode cX5_ring 59 = .ok (.istore_n 1, 1) := by decide +kernel
theorem dX5_ring_60 : decode cX5_ring 60 = .ok (.iinc 2 1, 3) := by decide +kernel
theorem dX5_ring_63 : decode cX5_ring 63 = .ok (.goto (-45), 3) := by decide +kernel
theorem dX5_ring_66 : decode cX5_ring 66 = .ok (.iload_n 1, 1) := by decide +kernel
theorem dX5_ring_67 : decode cX5_ring 67 = .ok (.ireturn, 1) := by decide +kernel
theorem dX5_reading_0 : decode cX5_reading 0 = .ok (.aload_n 0, 1) := by decide +kernel
theorem dX5_reading_1 : decode cX5_reading 1 = .ok (.invokevirtual 107, 3) := by decide +kernel
theorem dX5_reading_4 : decode cX5_reading 4 = .ok (.aload_n 0, 1) := by decide +kernel
theorem dX5_reading_5 : decode cX5_reading 5 = .ok (.iload_n 1, 1) := by decide +kernel
theorem dX5_reading_6 : decode cX5_reading 6 = .ok (.iload_n 2, 1) := by decide +kernel
theorem dX5_reading_7 : decode cX5_reading 7 = .ok (.invokevirtual 146, 3) := by decide +kernel
theorem dX5_reading_10 : decode cX5_reading 10 = .ok (.ifCond .eq 17, 3) := by decide +kernel
theorem dX5_reading_13 : decode cX5_reading 13 = .ok (.aload_n 0, 1) := by decide +kernel
theorem dX5_reading_14 : decode cX5_reading 14 = .ok (.getfield 11, 3) := by decide +kernel
theorem dX5_reading_17 : decode cX5_reading 17 = .ok (.iload_n 1, 1) := by decide +kernel
theorem dX5_reading_18 : decode cX5_reading 18 = .ok (.aaload, 1) := by decide +kernel
theorem dX5_reading_19 : decode cX5_reading 19 = .ok (.getfield 149, 3) := by decide +kernel
theorem dX5_reading_22 : decode cX5_reading 22 = .ok (.iload_n 2, 1) := by decide +kernel
theorem dX5_reading_23 : decode cX5_reading 23 = .ok (.daload, 1) := by decide +kernel
theorem dX5_reading_24 : decode cX5_reading 24 = .ok (.goto 4, 3) := by decide +kernel
theorem dX5_reading_27 : decode cX5_reading 27 = .ok (.dconst 0, 1) := by decide +kernel
theorem dX5_reading_28 : decode cX5_reading 28 = .ok (.dreturn, 1) := by decide +kernel
theorem dX5_isBlank_0 : decode cX5_isBlank 0 = .ok (.aload_n 0, 1) := by decide +kernel
theorem dX5_isBlank_1 : decode cX5_isBlank 1 = .ok (.invokevirtual 107, 3) := by decide +kernel
theorem dX5_isBlank_4 : decode cX5_isBlank 4 = .ok (.iload_n 1, 1) := by decide +kernel
theorem dX5_isBlank_5 : decode cX5_isBlank 5 = .ok (.invokestatic 86, 3) := by decide +kernel
theorem dX5_isBlank_8 : decode cX5_isBlank 8 = .ok (.ifCond .eq 27, 3) := by decide +kernel
theorem dX5_isBlank_11 : decode cX5_isBlank 11 = .ok (.iload_n 2, 1) := by decide +kernel
theorem dX5_isBlank_12 : decode cX5_isBlank 12 = .ok (.invokestatic 153, 3) := by decide +kernel
theorem dX5_isBlank_15 : decode cX5_isBlank 15 = .ok (.ifCond .eq 20, 3) := by decide +kernel
theorem dX5_isBlank_18 : decode cX5_isBlank 18 = .ok (.aload_n 0, 1) := by decide +kernel
theorem dX5_isBlank_19 : decode cX5_isBlank 19 = .ok (.getfield 11, 3) := by decide +kernel
theorem dX5_isBlank_22 : decode cX5_isBlank 22 = .ok (.iload_n 1, 1) := by decide +kernel
theorem dX5_isBlank_23 : decode cX5_isBlank 23 = .ok (.aaload, 1) := by decide +kernel
theorem dX5_isBlank_24 : decode cX5_isBlank 24 = .ok (.iload_n 2, 1) := by decide +kernel
theorem dX5_isBlank_25 : decode cX5_isBlank 25 = .ok (.invokevirtual 156, 3) := by decide +kernel
theorem dX5_isBlank_28 : decode cX5_isBlank 28 = .ok (.ifCond .eq 7, 3) := by decide +kernel
theorem dX5_isBlank_31 : decode cX5_isBlank 31 = .ok (.iconst 1, 1) := by decide +kernel
theorem dX5_isBlank_32 : decode cX5_isBlank 32 = .ok (.goto 4, 3) := by decide +kernel
theorem dX5_isBlank_35 : decode cX5_isBlank 35 = .ok (.iconst 0, 1) := by decide +kernel
theorem dX5_isBlank_36 : decode cX5_isBlank 36 = .ok (.ireturn, 1) := by decide +kernel
theorem dX5_isMinus_0 : decode cX5_isMinus 0 = .ok (.aload_n 0, 1) := by decide +kernel
theorem dX5_isMinus_1 : decode cX5_isMinus 1 = .ok (.invokevirtual 107, 3) := by decide +kernel
theorem dX5_isMinus_4 : decode cX5_isMinus 4 = .ok (.aload_n 0, 1) := by decide +kernel
theorem dX5_isMinus_5 : decode cX5_isMinus 5 = .ok (.iload_n 1, 1) := by decide +kernel
theorem dX5_isMinus_6 : decode cX5_isMinus 6 = .ok (.iload_n 2, 1) := by decide +kernel
theorem dX5_isMinus_7 : decode cX5_isMinus 7 = .ok (.invokevirtual 146, 3) := by decide +kernel
theorem dX5_isMinus_10 : decode cX5_isMinus 10 = .ok (.ifCond .eq 24, 3) := by decide +kernel
theorem dX5_isMinus_13 : decode cX5_isMinus 13 = .ok (.aload_n 0, 1) := by decide +kernel
theorem dX5_isMinus_14 : decode cX5_isMinus 14 = .ok (.getfield 11, 3) := by decide +kernel
theorem dX5_isMinus_17 : decode cX5_isMinus 17 = .ok (.iload_n 1, 1) := by decide +kernel
theorem dX5_isMinus_18 : decode cX5_isMinus 18 = .ok (.aaload, 1) := by decide +kernel
theorem dX5_isMinus_19 : decode cX5_isMinus 19 = .ok (.getfield 149, 3) := by decide +kernel
theorem dX5_isMinus_22 : decode cX5_isMinus 22 = .ok (.iload_n 2, 1) := by decide +kernel
theorem dX5_isMinus_23 : decode cX5_isMinus 23 = .ok (.daload, 1) := by decide +kernel
theorem dX5_isMinus_24 : decode cX5_isMinus 24 = .ok (.invokestatic 159, 3) := by decide +kernel
theorem dX5_isMinus_27 : decode cX5_isMinus 27 = .ok (.ifCond .eq 7, 3) := by decide +kernel
theorem dX5_isMinus_30 : decode cX5_isMinus 30 = .ok (.iconst 1, 1) := by decide +kernel
theorem dX5_isMinus_31 : decode cX5_isMinus 31 = .ok (.goto 4, 3) := by decide +kernel
theorem dX5_isMinus_34 : decode cX5_isMinus 34 = .ok (.iconst 0, 1) := by decide +kernel
theorem dX5_isMinus_35 : decode cX5_isMinus 35 = .ok (.ireturn, 1) := by decide +kernel
theorem dX5_bits_0 : decode cX5_bits 0 = .ok (.aload_n 0, 1) := by decide +kernel
theorem dX5_bits_1 : decode cX5_bits 1 = .ok (.invokevirtual 107, 3) := by decide +kernel
theorem dX5_bits_4 : decode cX5_bits 4 = .ok (.aload_n 0, 1) := by decide +kernel
theorem dX5_bits_5 : decode cX5_bits 5 = .ok (.iload_n 1, 1) := by decide +kernel
theorem dX5_bits_6 : decode cX5_bits 6 = .ok (.iload_n 2, 1) := by decide +kernel
theorem dX5_bits_7 : decode cX5_bits 7 = .ok (.invokevirtual 146, 3) := by decide +kernel
theorem dX5_bits_10 : decode cX5_bits 10 = .ok (.ifCond .ne 5, 3) := by decide +kernel
theorem dX5_bits_13 : decode cX5_bits 13 = .ok (.lconst 0, 1) := by decide +kernel
theorem dX5_bits_14 : decode cX5_bits 14 = .ok (.lreturn, 1) := by decide +kernel
theorem dX5_bits_15 : decode cX5_bits 15 = .ok (.aload_n 0, 1) := by decide +kernel
theorem dX5_bits_16 : decode cX5_bits 16 = .ok (.getfield 11, 3) := by decide +kernel
theorem dX5_bits_19 : decode cX5_bits 19 = .ok (.iload_n 1, 1) := by decide +kernel
theorem dX5_bits_20 : decode cX5_bits 20 = .ok (.aaload, 1) := by decide +kernel
theorem dX5_bits_21 : decode cX5_bits 21 = .ok (.astore_n 3, 1) := by decide +kernel
theorem dX5_bits_22 : decode cX5_bits 22 = .ok (.aload_n 0, 1) := by decide +kernel
theorem dX5_bits_23 : decode cX5_bits 23 = .ok (.getfield 25, 3) := by decide +kernel
theorem dX5_bits_26 : decode cX5_bits 26 = .ok (.getfield 58, 3) := by decide +kernel
theorem dX5_bits_29 : decode cX5_bits 29 = .ok (.aload_n 3, 1) := by decide +kernel
theorem dX5_bits_30 : decode cX5_bits 30 = .ok (.getfield 149, 3) := by decide +kernel
theorem dX5_bits_33 : decode cX5_bits 33 = .ok (.iload_n 2, 1) := by decide +kernel
theorem dX5_bits_34 : decode cX5_bits 34 = .ok (.daload, 1) := by decide +kernel
theorem dX5_bits_35 : decode cX5_bits 35 = .ok (.aload_n 3, 1) := by decide +kernel
theorem dX5_bits_36 : decode cX5_bits 36 = .ok (.getfield 110, 3) := by decide +kernel
theorem dX5_bits_39 : decode cX5_bits 39 = .ok (.invokevirtual 163, 3) := by decide +kernel
theorem dX5_bits_42 : decode cX5_bits 42 = .ok (.lreturn, 1) := by decide +kernel
theorem dX5_compared_0 : decode cX5_compared 0 = .ok (.iload_n 1, 1) := by decide +kernel
theorem dX5_compared_1 : decode cX5_compared 1 = .ok (.invokestatic 86, 3) := by decide +kernel
theorem dX5_compared_4 : decode cX5_compared 4 = .ok (.ifCond .eq 17, 3) := by decide +kernel
theorem dX5_compared_7 : decode cX5_compared 7 = .ok (.iload_n 2, 1) := by decide +kernel
theorem dX5_compared_8 : decode cX5_compared 8 = .ok (.invokestatic 89, 3) := by decide +kernel
theorem dX5_compared_11 : decode cX5_compared 11 = .ok (.ifCond .eq 10, 3) := by decide +kernel
theorem dX5_compared_14 : decode cX5_compared 14 = .ok (.iload_n 3, 1) := by decide +kernel
theorem dX5_compared_15 : decode cX5_compared 15 = .ok (.invokestatic 86, 3) := by decide +kernel
theorem dX5_compared_18 : decode cX5_compared 18 = .ok (.ifCond .ne 5, 3) := by decide +kernel
theorem dX5_compared_21 : decode cX5_compared 21 = .ok (.iconst (-1), 1) := by decide +kernel
theorem dX5_compared_22 : decode cX5_compared 22 = .ok (.ireturn, 1) := by decide +kernel
theorem dX5_compared_23 : decode cX5_compared 23 = .ok (.aload_n 0, 1) := by decide +kernel
theorem dX5_compared_24 : decode cX5_compared 24 = .ok (.invokevirtual 107, 3) := by decide +kernel
theorem dX5_compared_27 : decode cX5_compared 27 = .ok (.aload_n 0, 1) := by decide +kernel
theorem dX5_compared_28 : decode cX5_compared 28 = .ok (.iload_n 1, 1) := by decide +kernel
theorem dX5_compared_29 : decode cX5_compared 29 = .ok (.iload_n 2, 1) := by decide +kernel
theorem dX5_compared_30 : decode cX5_compared 30 = .ok (.iload_n 3, 1) := by decide +kernel
theorem dX5_compared_31 : decode cX5_compared 31 = .ok (.invokevirtual 138, 3) := by decide +kernel
theorem dX5_compared_34 : decode cX5_compared 34 = .ok (.invokestatic 167, 3) := by decide +kernel
theorem dX5_compared_37 : decode cX5_compared 37 = .ok (.ireturn, 1) := by decide +kernel
theorem dX5_alarmed_0 : decode cX5_alarmed 0 = .ok (.iload_n 1, 1) := by decide +kernel
theorem dX5_alarmed_1 : decode cX5_alarmed 1 = .ok (.ifCond .lt 11, 3) := by decide +kernel
theorem dX5_alarmed_4 : decode cX5_alarmed 4 = .ok (.iload_n 1, 1) := by decide +kernel
theorem dX5_alarmed_5 : decode cX5_alarmed 5 = .ok (.aload_n 0, 1) := by decide +kernel
theorem dX5_alarmed_6 : decode cX5_alarmed 6 = .ok (.getfield 37, 3) := by decide +kernel
theorem dX5_alarmed_9 : decode cX5_alarmed 9 = .ok (.if_icmp .lt 5, 3) := by decide +kernel
theorem dX5_alarmed_12 : decode cX5_alarmed 12 = .ok (.iconst (-1), 1) := by decide +kernel
theorem dX5_alarmed_13 : decode cX5_alarmed 13 = .ok (.ireturn, 1) := by decide +kernel
theorem dX5_alarmed_14 : decode cX5_alarmed 14 = .ok (.aload_n 0, 1) := by decide +kernel
theorem dX5_alarmed_15 : decode cX5_alarmed 15 = .ok (.getfield 18, 3) := by decide +kernel
theorem dX5_alarmed_18 : decode cX5_alarmed 18 = .ok (.iload_n 1, 1) := by decide +kernel
theorem dX5_alarmed_19 : decode cX5_alarmed 19 = .ok (.aaload, 1) := by decide +kernel
theorem dX5_alarmed_20 : decode cX5_alarmed 20 = .ok (.astore_n 3, 1) := by decide +kernel
theorem dX5_alarmed_21 : decode cX5_alarmed 21 = .ok (.aload_n 3, 1) := by decide +kernel
theorem dX5_alarmed_22 : decode cX5_alarmed 22 = .ok (.ifnonnull 7, 3) := by decide +kernel
theorem dX5_alarmed_25 : decode cX5_alarmed 25 = .ok (.iconst (-1), 1) := by decide +kernel
theorem dX5_alarmed_26 : decode cX5_alarmed 26 = .ok (.goto 8, 3) := by decide +kernel
theorem dX5_alarmed_29 : decode cX5_alarmed 29 = .ok (.aload_n 3, 1) := by decide +kernel
theorem dX5_alarmed_30 : decode cX5_alarmed 30 = .ok (.iload_n 2, 1) := by decide +kernel
theorem dX5_alarmed_31 : decode cX5_alarmed 31 = .ok (.invokevirtual 172, 3) := by decide +kernel
theorem dX5_alarmed_34 : decode cX5_alarmed 34 = .ok (.ireturn, 1) := by decide +kernel
theorem dX5_told_0 : decode cX5_told 0 = .ok (.iload_n 1, 1) := by decide +kernel
theorem dX5_told_1 : decode cX5_told 1 = .ok (.bipush 12, 2) := by decide +kernel
theorem dX5_told_3 : decode cX5_told 3 = .ok (.if_icmp .ne 9, 3) := by decide +kernel
theorem dX5_told_6 : decode cX5_told 6 = .ok (.aload_n 0, 1) := by decide +kernel
theorem dX5_told_7 : decode cX5_told 7 = .ok (.iload_n 2, 1) := by decide +kernel
theorem dX5_told_8 : decode cX5_told 8 = .ok (.invokevirtual 175, 3) := by decide +kernel
theorem dX5_told_11 : decode cX5_told 11 = .ok (.ireturn, 1) := by decide +kernel
theorem dX5_told_12 : decode cX5_told 12 = .ok (.aload_n 0, 1) := by decide +kernel
theorem dX5_told_13 : decode cX5_told 13 = .ok (.invokevirtual 107, 3) := by decide +kernel
theorem dX5_told_16 : decode cX5_told 16 = .ok (.iload_n 1, 1) := by decide +kernel
theorem dX5_told_17 : decode cX5_told 17 = .ok (.invokestatic 86, 3) := by decide +kernel
theorem dX5_told_20 : decode cX5_told 20 = .ok (.ifCond .eq 16, 3) := by decide +kernel
theorem dX5_told_23 : decode cX5_told 23 = .ok (.aload_n 0, 1) := by decide +kernel
theorem dX5_told_24 : decode cX5_told 24 = .ok (.getfield 11, 3) := by decide +kernel
theorem dX5_told_27 : decode cX5_told 27 = .ok (.iload_n 1, 1) := by decide +kernel
theorem dX5_told_28 : decode cX5_told 28 = .ok (.aaload, 1) := by decide +kernel
theorem dX5_told_29 : decode cX5_told 29 = .ok (.iload_n 2, 1) := by decide +kernel
theorem dX5_told_30 : decode cX5_told 30 = .ok (.invokestatic 178, 3) := by decide +kernel
theorem dX5_told_33 : decode cX5_told 33 = .ok (.goto 4, 3) := by decide +kernel
theorem dX5_told_36 : decode cX5_told 36 = .ok (.iconst (-1), 1) := by decide +kernel
theorem dX5_told_37 : decode cX5_told 37 = .ok (.ireturn, 1) := by decide +kernel
theorem dX5_toldOfBook_0 : decode cX5_toldOfBook 0 = .ok (.iload_n 1, 1) := by decide +kernel
theorem dX5_toldOfBook_1 : decode cX5_toldOfBook 1 = .ok (.tableswitch 42 0 2 #[27, 32, 37], 27) := by decide +kernel
theorem dX5_toldOfBook_28 : decode cX5_toldOfBook 28 = .ok (.aload_n 0, 1) := by decide +kernel
theorem dX5_toldOfBook_29 : decode cX5_toldOfBook 29 = .ok (.getfield 33, 3) := by decide +kernel
theorem dX5_toldOfBook_32 : decode cX5_toldOfBook 32 = .ok (.ireturn, 1) := by decide +kernel
theorem dX5_toldOfBook_33 : decode cX5_toldOfBook 33 = .ok (.aload_n 0, 1) := by decide +kernel
theorem dX5_toldOfBook_34 : decode cX5_toldOfBook 34 = .ok (.getfield 37, 3) := by decide +kernel
theorem dX5_toldOfBook_37 : decode cX5_toldOfBook 37 = .ok (.ireturn, 1) := by decide +kernel
theorem dX5_toldOfBook_38 : decode cX5_toldOfBook 38 = .ok (.aload_n 0, 1) := by decide +kernel
theorem dX5_toldOfBook_39 : decode cX5_toldOfBook 39 = .ok (.getfield 40, 3) := by decide +kernel
theorem dX5_toldOfBook_42 : decode cX5_toldOfBook 42 = .ok (.ireturn, 1) := by decide +kernel
theorem dX5_toldOfBook_43 : decode cX5_toldOfBook 43 = .ok (.iconst (-1), 1) := by decide +kernel
theorem dX5_toldOfBook_44 : decode cX5_toldOfBook 44 = .ok (.ireturn, 1) := by decide +kernel
theorem dX5_toldOfColumn_0 : decode cX5_toldOfColumn 0 = .ok (.iload_n 1, 1) := by decide +kernel
theorem dX5_toldOfColumn_1 : decode cX5_toldOfColumn 1 = .ok (.tableswitch 70 0 3 #[31, 44, 57, 65], 31) := by decide +kernel
theorem dX5_toldOfColumn_32 : decode cX5_toldOfColumn 32 = .ok (.aload_n 0, 1) := by decide +kernel
theorem dX5_toldOfColumn_33 : decode cX5_toldOfColumn 33 = .ok (.invokevirtual 104, 3) := by decide +kernel
theorem dX5_toldOfColumn_36 : decode cX5_toldOfColumn 36 = .ok (.ifCond .eq 7, 3) := by decide +kernel
theorem dX5_toldOfColumn_39 : decode cX5_toldOfColumn 39 = .ok (.iconst 1, 1) := by decide +kernel
theorem dX5_toldOfColumn_40 : decode cX5_toldOfColumn 40 = .ok (.goto 4, 3) := by decide +kernel
theorem dX5_toldOfColumn_43 : decode cX5_toldOfColumn 43 = .ok (.iconst 0, 1) := by decide +kernel
theorem dX5_toldOfColumn_44 : decode cX5_toldOfColumn 44 = .ok (.ireturn, 1) := by decide +kernel
theorem dX5_toldOfColumn_45 : decode cX5_toldOfColumn 45 = .ok (.aload_n 0, 1) := by decide +kernel
theorem dX5_toldOfColumn_46 : decode cX5_toldOfColumn 46 = .ok (.getfield 110, 3) := by decide +kernel
theorem dX5_toldOfColumn_49 : decode cX5_toldOfColumn 49 = .ok (.ifCond .eq 7, 3) := by decide +kernel
theorem dX5_toldOfColumn_52 : decode cX5_toldOfColumn 52 = .ok (.iconst 1, 1) := by decide +kernel
theorem dX5_toldOfColumn_53 : decode cX5_toldOfColumn 53 = .ok (.goto 4, 3) := by decide +kernel
theorem dX5_toldOfColumn_56 : decode cX5_toldOfColumn 56 = .ok (.iconst 0, 1) := by decide +kernel
theorem dX5_toldOfColumn_57 : decode cX5_toldOfColumn 57 = .ok (.ireturn, 1) := by decide +kernel
theorem dX5_toldOfColumn_58 : decode cX5_toldOfColumn 58 = .ok (.aload_n 0, 1) := by decide +kernel
theorem dX5_toldOfColumn_59 : decode cX5_toldOfColumn 59 = .ok (.getfield 182, 3) := by decide +kernel
theorem dX5_toldOfColumn_62 : decode cX5_toldOfColumn 62 = .ok (.invokestatic 167, 3) := by decide +kernel
theorem dX5_toldOfColumn_65 : decode cX5_toldOfColumn 65 = .ok (.ireturn, 1) := by decide +kernel
theorem dX5_toldOfColumn_66 : decode cX5_toldOfColumn 66 = .ok (.aload_n 0, 1) := by decide +kernel
theorem dX5_toldOfColumn_67 : decode cX5_toldOfColumn 67 = .ok (.getfield 92, 3) := by decide +kernel
theorem dX5_toldOfColumn_70 : decode cX5_toldOfColumn 70 = .ok (.ireturn, 1) := by decide +kernel
theorem dX5_toldOfColumn_71 : decode cX5_toldOfColumn 71 = .ok (.iconst (-1), 1) := by decide +kernel
theorem dX5_toldOfColumn_72 : decode cX5_toldOfColumn 72 = .ok (.ireturn, 1) := by decide +kernel
theorem dX5_isColumn_0 : decode cX5_isColumn 0 = .ok (.iload_n 0, 1) := by decide +kernel
theorem dX5_isColumn_1 : decode cX5_isColumn 1 = .ok (.ifCond .lt 13, 3) := by decide +kernel
theorem dX5_isColumn_4 : decode cX5_isColumn 4 = .ok (.iload_n 0, 1) := by decide +kernel
theorem dX5_isColumn_5 : decode cX5_isColumn 5 = .ok (.bipush 12, 2) := by decide +kernel
theorem dX5_isColumn_7 : decode cX5_isColumn 7 = .ok (.if_icmp .ge 7, 3) := by decide +kernel
theorem dX5_isColumn_10 : decode cX5_isColumn 10 = .ok (.iconst 1, 1) := by decide +kernel
theorem dX5_isColumn_11 : decode cX5_isColumn 11 = .ok (.goto 4, 3) := by decide +kernel
theorem dX5_isColumn_14 : decode cX5_isColumn 14 = .ok (.iconst 0, 1) := by decide +kernel
theorem dX5_isColumn_15 : decode cX5_isColumn 15 = .ok (.ireturn, 1) := by decide +kernel
theorem dX5_isPlace_0 : decode cX5_isPlace 0 = .ok (.iload_n 0, 1) := by decide +kernel
theorem dX5_isPlace_1 : decode cX5_isPlace 1 = .ok (.ifCond .lt 13, 3) := by decide +kernel
theorem dX5_isPlace_4 : decode cX5_isPlace 4 = .ok (.iload_n 0, 1) := by decide +kernel
theorem dX5_isPlace_5 : decode cX5_isPlace 5 = .ok (.bipush 16, 2) := by decide +kernel
theorem dX5_isPlace_7 : decode cX5_isPlace 7 = .ok (.if_icmp .ge 7, 3) := by decide +kernel
theorem dX5_isPlace_10 : decode cX5_isPlace 10 = .ok (.iconst 1, 1) := by decide +kernel
theorem dX5_isPlace_11 : decode cX5_isPlace 11 = .ok (.goto 4, 3) := by decide +kernel
theorem dX5_isPlace_14 : decode cX5_isPlace 14 = .ok (.iconst 0, 1) := by decide +kernel
theorem dX5_isPlace_15 : decode cX5_isPlace 15 = .ok (.ireturn, 1) := by decide +kernel
theorem dX5_isConstant_0 : decode cX5_isConstant 0 = .ok (.iload_n 0, 1) := by decide +kernel
theorem dX5_isConstant_1 : decode cX5_isConstant 1 = .ok (.ifCond .lt 13, 3) := by decide +kernel
theorem dX5_isConstant_4 : decode cX5_isConstant 4 = .ok (.iload_n 0, 1) := by decide +kernel
theorem dX5_isConstant_5 : decode cX5_isConstant 5 = .ok (.bipush 8, 2) := by decide +kernel
theorem dX5_isConstant_7 : decode cX5_isConstant 7 = .ok (.if_icmp .ge 7, 3) := by decide +kernel
theorem dX5_isConstant_10 : decode cX5_isConstant 10 = .ok (.iconst 1, 1) := by decide +kernel
theorem dX5_isConstant_11 : decode cX5_isConstant 11 = .ok (.goto 4, 3) := by decide +kernel
theorem dX5_isConstant_14 : decode cX5_isConstant 14 = .ok (.iconst 0, 1) := by decide +kernel
theorem dX5_isConstant_15 : decode cX5_isConstant 15 = .ok (.ireturn, 1) := by decide +kernel
theorem dX5_isComparison_0 : decode cX5_isComparison 0 = .ok (.iload_n 0, 1) := by decide +kernel
theorem dX5_isComparison_1 : decode cX5_isComparison 1 = .ok (.ifCond .lt 13, 3) := by decide +kernel
theorem dX5_isComparison_4 : decode cX5_isComparison 4 = .ok (.iload_n 0, 1) := by decide +kernel
theorem dX5_isComparison_5 : decode cX5_isComparison 5 = .ok (.bipush 12, 2) := by decide +kernel
theorem dX5_isComparison_7 : decode cX5_isComparison 7 = .ok (.if_icmp .ge 7, 3) := by decide +kernel
theorem dX5_isComparison_10 : decode cX5_isComparison 10 = .ok (.iconst 1, 1) := by decide +kernel
theorem dX5_isComparison_11 : decode cX5_isComparison 11 = .ok (.goto 4, 3) := by decide +kernel
theorem dX5_isComparison_14 : decode cX5_isComparison 14 = .ok (.iconst 0, 1) := by decide +kernel
theorem dX5_isComparison_15 : decode cX5_isComparison 15 = .ok (.ireturn, 1) := by decide +kernel
theorem dX5_isExponent_0 : decode cX5_isExponent 0 = .ok (.iload_n 0, 1) := by decide +kernel
theorem dX5_isExponent_1 : decode cX5_isExponent 1 = .ok (.sipush (-1000), 3) := by decide +kernel
theorem dX5_isExponent_4 : decode cX5_isExponent 4 = .ok (.if_icmp .lt 14, 3) := by decide +kernel
theorem dX5_isExponent_7 : decode cX5_isExponent 7 = .ok (.iload_n 0, 1) := by decide +kernel
theorem dX5_isExponent_8 : decode cX5_isExponent 8 = .ok (.sipush 900, 3) := by decide +kernel
theorem dX5_isExponent_11 : decode cX5_isExponent 11 = .ok (.if_icmp .gt 7, 3) := by decide +kernel
theorem dX5_isExponent_14 : decode cX5_isExponent 14 = .ok (.iconst 1, 1) := by decide +kernel
theorem dX5_isExponent_15 : decode cX5_isExponent 15 = .ok (.goto 4, 3) := by decide +kernel
theorem dX5_isExponent_18 : decode cX5_isExponent 18 = .ok (.iconst 0, 1) := by decide +kernel
theorem dX5_isExponent_19 : decode cX5_isExponent 19 = .ok (.ireturn, 1) := by decide +kernel
theorem dX5_isSpecial_0 : decode cX5_isSpecial 0 = .ok (.iload_n 0, 1) := by decide +kernel
theorem dX5_isSpecial_1 : decode cX5_isSpecial 1 = .ok (.ifCond .lt 12, 3) := by decide +kernel
theorem dX5_isSpecial_4 : decode cX5_isSpecial 4 = .ok (.iload_n 0, 1) := by decide +kernel
theorem dX5_isSpecial_5 : decode cX5_isSpecial 5 = .ok (.iconst 5, 1) := by decide +kernel
theorem dX5_isSpecial_6 : decode cX5_isSpecial 6 = .ok (.if_icmp .gt 7, 3) := by decide +kernel
theorem dX5_isSpecial_9 : decode cX5_isSpecial 9 = .ok (.iconst 1, 1) := by decide +kernel
theorem dX5_isSpecial_10 : decode cX5_isSpecial 10 = .ok (.goto 4, 3) := by decide +kernel
theorem dX5_isSpecial_13 : decode cX5_isSpecial 13 = .ok (.iconst 0, 1) := by decide +kernel
theorem dX5_isSpecial_14 : decode cX5_isSpecial 14 = .ok (.ireturn, 1) := by decide +kernel
theorem dX5_isFull_0 : decode cX5_isFull 0 = .ok (.aload_n 0, 1) := by decide +kernel
theorem dX5_isFull_1 : decode cX5_isFull 1 = .ok (.getfield 33, 3) := by decide +kernel
theorem dX5_isFull_4 : decode cX5_isFull 4 = .ok (.sipush 512, 3) := by decide +kernel
theorem dX5_isFull_7 : decode cX5_isFull 7 = .ok (.if_icmp .lt 7, 3) := by decide +kernel
theorem dX5_isFull_10 : decode cX5_isFull 10 = .ok (.iconst 1, 1) := by decide +kernel
theorem dX5_isFull_11 : decode cX5_isFull 11 = .ok (.goto 4, 3) := by decide +kernel
theorem dX5_isFull_14 : decode cX5_isFull 14 = .ok (.iconst 0, 1) := by decide +kernel
theorem dX5_isFull_15 : decode cX5_isFull 15 = .ok (.ireturn, 1) := by decide +kernel
theorem dX5_takesReading_0 : decode cX5_takesReading 0 = .ok (.iload_n 1, 1) := by decide +kernel
theorem dX5_takesReading_1 : decode cX5_takesReading 1 = .ok (.invokestatic 86, 3) := by decide +kernel
theorem dX5_takesReading_4 : decode cX5_takesReading 4 = .ok (.ifCond .eq 33, 3) := by decide +kernel
theorem dX5_takesReading_7 : decode cX5_takesReading 7 = .ok (.iload_n 2, 1) := by decide +kernel
theorem dX5_takesReading_8 : decode cX5_takesReading 8 = .ok (.invokestatic 153, 3) := by decide +kernel
theorem dX5_takesReading_11 : decode cX5_takesReading 11 = .ok (.ifCond .eq 26, 3) := by decide +kernel
theorem dX5_takesReading_14 : decode cX5_takesReading 14 = .ok (.aload_n 0, 1) := by decide +kernel
theorem dX5_takesReading_15 : decode cX5_takesReading 15 = .ok (.getfield 11, 3) := by decide +kernel
theorem dX5_takesReading_18 : decode cX5_takesReading 18 = .ok (.iload_n 1, 1) := by decide +kernel
theorem dX5_takesReading_19 : decode cX5_takesReading 19 = .ok (.aaload, 1) := by decide +kernel
theorem dX5_takesReading_20 : decode cX5_takesReading 20 = .ok (.invokevirtual 104, 3) := by decide +kernel
theorem dX5_takesReading_23 : decode cX5_takesReading 23 = .ok (.ifCond .ne 14, 3) := by decide +kernel
theorem dX5_takesReading_26 : decode cX5_takesReading 26 = .ok (.aload_n 0, 1) := by decide +kernel
theorem dX5_takesReading_27 : decode cX5_takesReading 27 = .ok (.invokevirtual 82, 3) := by decide +kernel
theorem dX5_takesReading_30 : decode cX5_takesReading 30 = .ok (.ifCond .ne 7, 3) := by decide +kernel
theorem dX5_takesReading_33 : decode cX5_takesReading 33 = .ok (.iconst 1, 1) := by decide +kernel
theorem dX5_takesReading_34 : decode cX5_takesReading 34 = .ok (.goto 4, 3) := by decide +kernel
theorem dX5_takesReading_37 : decode cX5_takesReading 37 = .ok (.iconst 0, 1) := by decide +kernel
theorem dX5_takesReading_38 : decode cX5_takesReading 38 = .ok (.ireturn, 1) := by decide +kernel
theorem dX5_isNumber_0 : decode cX5_isNumber 0 = .ok (.iload_n 1, 1) := by decide +kernel
theorem dX5_isNumber_1 : decode cX5_isNumber 1 = .ok (.invokestatic 86, 3) := by decide +kernel
theorem dX5_isNumber_4 : decode cX5_isNumber 4 = .ok (.ifCond .eq 27, 3) := by decide +kernel
theorem dX5_isNumber_7 : decode cX5_isNumber 7 = .ok (.iload_n 2, 1) := by decide +kernel
theorem dX5_isNumber_8 : decode cX5_isNumber 8 = .ok (.invokestatic 153, 3) := by decide +kernel
theorem dX5_isNumber_11 : decode cX5_isNumber 11 = .ok (.ifCond .eq 20, 3) := by decide +kernel
theorem dX5_isNumber_14 : decode cX5_isNumber 14 = .ok (.aload_n 0, 1) := by decide +kernel
theorem dX5_isNumber_15 : decode cX5_isNumber 15 = .ok (.getfield 11, 3) := by decide +kernel
theorem dX5_isNumber_18 : decode cX5_isNumber 18 = .ok (.iload_n 1, 1) := by decide +kernel
theorem dX5_isNumber_19 : decode cX5_isNumber 19 = .ok (.aaload, 1) := by decide +kernel
theorem dX5_isNumber_20 : decode cX5_isNumber 20 = .ok (.iload_n 2, 1) := by decide +kernel
theorem dX5_isNumber_21 : decode cX5_isNumber 21 = .ok (.invokevirtual 156, 3) := by decide +kernel
theorem dX5_isNumber_24 : decode cX5_isNumber 24 = .ok (.ifCond .ne 7, 3) := by decide +kernel
theorem dX5_isNumber_27 : decode cX5_isNumber 27 = .ok (.iconst 1, 1) := by decide +kernel
theorem dX5_isNumber_28 : decode cX5_isNumber 28 = .ok (.goto 4, 3) := by decide +kernel
theorem dX5_isNumber_31 : decode cX5_isNumber 31 = .ok (.iconst 0, 1) := by decide +kernel
theorem dX5_isNumber_32 : decode cX5_isNumber 32 = .ok (.ireturn, 1) := by decide +kernel
theorem dX5_changed_0 : decode cX5_changed 0 = .ok (.aload_n 0, 1) := by decide +kernel
theorem dX5_changed_1 : decode cX5_changed 1 = .ok (.getfield 11, 3) := by decide +kernel
theorem dX5_changed_4 : decode cX5_changed 4 = .ok (.iload_n 1, 1) := by decide +kernel
theorem dX5_changed_5 : decode cX5_changed 5 = .ok (.aaload, 1) := by decide +kernel
theorem dX5_changed_6 : decode cX5_changed 6 = .ok (.astore_n 2, 1) := by decide +kernel
theorem dX5_changed_7 : decode cX5_changed 7 = .ok (.aload_n 0, 1) := by decide +kernel
theorem dX5_changed_8 : decode cX5_changed 8 = .ok (.new 119, 3) := by decide +kernel
theorem dX5_changed_11 : decode cX5_changed 11 = .ok (.dup, 1) := by decide +kernel
theorem dX5_changed_12 : decode cX5_changed 12 = .ok (.iload_n 1, 1) := by decide +kernel
theorem dX5_changed_13 : decode cX5_changed 13 = .ok (.aload_n 2, 1) := by decide +kernel
theorem dX5_changed_14 : decode cX5_changed 14 = .ok (.aload_n 0, 1) := by decide +kernel
theorem dX5_changed_15 : decode cX5_changed 15 = .ok (.getfield 29, 3) := by decide +kernel
theorem dX5_changed_18 : decode cX5_changed 18 = .ok (.invokespecial 185, 3) := by decide +kernel
theorem dX5_changed_21 : decode cX5_changed 21 = .ok (.putfield 29, 3) := by decide +kernel
theorem dX5_changed_24 : decode cX5_changed 24 = .ok (.aload_n 0, 1) := by decide +kernel
theorem dX5_changed_25 : decode cX5_changed 25 = .ok (.dup, 1) := by decide +kernel
theorem dX5_changed_26 : decode cX5_changed 26 = .ok (.getfield 33, 3) := by decide +kernel
theorem dX5_changed_29 : decode cX5_changed 29 = .ok (.iconst 1, 1) := by decide +kernel
theorem dX5_changed_30 : decode cX5_changed 30 = .ok (.iadd, 1) := by decide +kernel
theorem dX5_changed_31 : decode cX5_changed 31 = .ok (.putfield 33, 3) := by decide +kernel
theorem dX5_changed_34 : decode cX5_changed 34 = .ok (.aload_n 2, 1) := by decide +kernel
theorem dX5_changed_35 : decode cX5_changed 35 = .ok (.invokevirtual 188, 3) := by decide +kernel
theorem dX5_changed_38 : decode cX5_changed 38 = .ok (.astore_n 3, 1) := by decide +kernel
theorem dX5_changed_39 : decode cX5_changed 39 = .ok (.aload_n 0, 1) := by decide +kernel
theorem dX5_changed_40 : decode cX5_changed 40 = .ok (.getfield 11, 3) := by decide +kernel
theorem dX5_changed_43 : decode cX5_changed 43 = .ok (.iload_n 1, 1) := by decide +kernel
theorem dX5_changed_44 : decode cX5_changed 44 = .ok (.aload_n 3, 1) := by decide +kernel
theorem dX5_changed_45 : decode cX5_changed 45 = .ok (.aastore, 1) := by decide +kernel
theorem dX5_changed_46 : decode cX5_changed 46 = .ok (.aload_n 0, 1) := by decide +kernel
theorem dX5_changed_47 : decode cX5_changed 47 = .ok (.dup, 1) := by decide +kernel
theorem dX5_changed_48 : decode cX5_changed 48 = .ok (.getfield 43, 3) := by decide +kernel
theorem dX5_changed_51 : decode cX5_changed 51 = .ok (.iconst 1, 1) := by decide +kernel
theorem dX5_changed_52 : decode cX5_changed 52 = .ok (.iload_n 1, 1) := by decide +kernel
theorem dX5_changed_53 : decode cX5_changed 53 = .ok (.ishl, 1) := by decide +kernel
theorem dX5_changed_54 : decode cX5_changed 54 = .ok (.ior, 1) := by decide +kernel
theorem dX5_changed_55 : decode cX5_changed 55 = .ok (.putfield 43, 3) := by decide +kernel
theorem dX5_changed_58 : decode cX5_changed 58 = .ok (.aload_n 3, 1) := by decide +kernel
theorem dX5_changed_59 : decode cX5_changed 59 = .ok (.areturn, 1) := by decide +kernel
theorem dX5_putSpecial_0 : decode cX5_putSpecial 0 = .ok (.ldc2_w 192, 3) := by decide +kernel
theorem dX5_putSpecial_3 : decode cX5_putSpecial 3 = .ok (.dstore_n 3, 1) := by decide +kernel
theorem dX5_putSpecial_4 : decode cX5_putSpecial 4 = .ok (.iload_n 2, 1) := by decide +kernel
theorem dX5_putSpecial_5 : decode cX5_putSpecial 5 = .ok (.tableswitch 113 1 5 #[35, 44, 54, 65, 89], 35) := by decide +kernel
theorem dX5_putSpecial_40 : decode cX5_putSpecial 40 = .ok (.aload_n 0, 1) := by decide +kernel
theorem dX5_putSpecial_41 : decode cX5_putSpecial 41 = .ok (.iload_n 1, 1) := by decide +kernel
theorem dX5_putSpecial_42 : decode cX5_putSpecial 42 = .ok (.dload_n 3, 1) := by decide +kernel
theorem dX5_putSpecial_43 : decode cX5_putSpecial 43 = .ok (.invokevirtual 68, 3) := by decide +kernel
theorem dX5_putSpecial_46 : decode cX5_putSpecial 46 = .ok (.goto 77, 3) := by decide +kernel
theorem dX5_putSpecial_49 : decode cX5_putSpecial 49 = .ok (.aload_n 0, 1) := by decide +kernel
theorem dX5_putSpecial_50 : decode cX5_putSpecial 50 = .ok (.iload_n 1, 1) := by decide +kernel
theorem dX5_putSpecial_51 : decode cX5_putSpecial 51 = .ok (.dload_n 3, 1) := by decide +kernel
theorem dX5_putSpecial_52 : decode cX5_putSpecial 52 = .ok (.dneg, 1) := by decide +kernel
theorem dX5_putSpecial_53 : decode cX5_putSpecial 53 = .ok (.invokevirtual 68, 3) := by decide +kernel
theorem dX5_putSpecial_56 : decode cX5_putSpecial 56 = .ok (.goto 67, 3) := by decide +kernel
theorem dX5_putSpecial_59 : decode cX5_putSpecial 59 = .ok (.aload_n 0, 1) := by decide +kernel
theorem dX5_putSpecial_60 : decode cX5_putSpecial 60 = .ok (.iload_n 1, 1) := by decide +kernel
theorem dX5_putSpecial_61 : decode cX5_putSpecial 61 = .ok (.ldc2_w 194, 3) := by decide +kernel
theorem dX5_putSpecial_64 : decode cX5_putSpecial 64 = .ok (.invokevirtual 68, 3) := by decide +kernel
theorem dX5_putSpecial_67 : decode cX5_putSpecial 67 = .ok (.goto 56, 3) := by decide +kernel
theorem dX5_putSpecial_70 : decode cX5_putSpecial 70 = .ok (.aload_n 0, 1) := by decide +kernel
theorem dX5_putSpecial_71 : decode cX5_putSpecial 71 = .ok (.iload_n 1, 1) := by decide +kernel
theorem dX5_putSpecial_72 : decode cX5_putSpecial 72 = .ok (.aload_n 0, 1) := by decide +kernel
theorem dX5_putSpecial_73 : decode cX5_putSpecial 73 = .ok (.getfield 110, 3) := by decide +kernel
theorem dX5_putSpecial_76 : decode cX5_putSpecial 76 = .ok (.ifCond .eq 9, 3) := by decide +kernel
theorem dX5_putSpecial_79 : decode cX5_putSpecial 79 = .ok (.ldc2_w 196, 3) := by decide +kernel
theorem dX5_putSpecial_82 : decode cX5_putSpecial 82 = .ok (.goto 6, 3) := by decide +kernel
theorem dX5_putSpecial_85 : decode cX5_putSpecial 85 = .ok (.ldc2_w 198, 3) := by decide +kernel
theorem dX5_putSpecial_88 : decode cX5_putSpecial 88 = .ok (.invokevirtual 68, 3) := by decide +kernel
theorem dX5_putSpecial_91 : decode cX5_putSpecial 91 = .ok (.goto 32, 3) := by decide +kernel
theorem dX5_putSpecial_94 : decode cX5_putSpecial 94 = .ok (.aload_n 0, 1) := by decide +kernel
theorem dX5_putSpecial_95 : decode cX5_putSpecial 95 = .ok (.iload_n 1, 1) := by decide +kernel
theorem dX5_putSpecial_96 : decode cX5_putSpecial 96 = .ok (.aload_n 0, 1) := by decide +kernel
theorem dX5_putSpecial_97 : decode cX5_putSpecial 97 = .ok (.getfield 110, 3) := by decide +kernel
theorem dX5_putSpecial_100 : decode cX5_putSpecial 100 = .ok (.ifCond .eq 9, 3) := by decide +kernel
theorem dX5_putSpecial_103 : decode cX5_putSpecial 103 = .ok (.ldc2_w 200, 3) := by decide +kernel
theorem dX5_putSpecial_106 : decode cX5_putSpecial 106 = .ok (.goto 6, 3) := by decide +kernel
theorem dX5_putSpecial_109 : decode cX5_putSpecial 109 = .ok (.ldc2_w 202, 3) := by decide +kernel
theorem dX5_putSpecial_112 : decode cX5_putSpecial 112 = .ok (.invokevirtual 68, 3) := by decide +kernel
theorem dX5_putSpecial_115 : decode cX5_putSpecial 115 = .ok (.goto 8, 3) := by decide +kernel
theorem dX5_putSpecial_118 : decode cX5_putSpecial 118 = .ok (.aload_n 0, 1) := by decide +kernel
theorem dX5_putSpecial_119 : decode cX5_putSpecial 119 = .ok (.iload_n 1, 1) := by decide +kernel
theorem dX5_putSpecial_120 : decode cX5_putSpecial 120 = .ok (.invokevirtual 204, 3) := by decide +kernel
theorem dX5_putSpecial_123 : decode cX5_putSpecial 123 = .ok (.return_, 1) := by decide +kernel
theorem dX5_settle_0 : decode cX5_settle 0 = .ok (.aload_n 0, 1) := by decide +kernel
theorem dX5_settle_1 : decode cX5_settle 1 = .ok (.getfield 43, 3) := by decide +kernel
theorem dX5_settle_4 : decode cX5_settle 4 = .ok (.ifCond .ne 4, 3) := by decide +kernel
theorem dX5_settle_7 : decode cX5_settle 7 = .ok (.return_, 1) := by decide +kernel
theorem dX5_settle_8 : decode cX5_settle 8 = .ok (.iconst 0, 1) := by decide +kernel
theorem dX5_settle_9 : decode cX5_settle 9 = .ok (.istore_n 1, 1) := by decide +kernel
theorem dX5_settle_10 : decode cX5_settle 10 = .ok (.iload_n 1, 1) := by decide +kernel
theorem dX5_settle_11 : decode cX5_settle 11 = .ok (.bipush 12, 2) := by decide +kernel
theorem dX5_settle_13 : decode cX5_settle 13 = .ok (.if_icmp .ge 59, 3) := by decide +kernel
theorem dX5_settle_16 : decode cX5_settle 16 = .ok (.aload_n 0, 1) := by decide +kernel
theorem dX5_settle_17 : decode cX5_settle 17 = .ok (.getfield 11, 3) := by decide +kernel
theorem dX5_settle_20 : decode cX5_settle 20 = .ok (.iload_n 1, 1) := by decide +kernel
theorem dX5_settle_21 : decode cX5_settle 21 = .ok (.aaload, 1) := by decide +kernel
theorem dX5_settle_22 : decode cX5_settle 22 = .ok (.astore_n 2, 1) := by decide +kernel
theorem dX5_settle_23 : decode cX5_settle 23 = .ok (.aload_n 2, 1) := by decide +kernel
theorem dX5_settle_24 : decode cX5_settle 24 = .ok (.invokevirtual 104, 3) := by decide +kernel
theorem dX5_settle_27 : decode cX5_settle 27 = .ok (.ifCond .eq 39, 3) := by decide +kernel
theorem dX5_settle_30 : decode cX5_settle 30 = .ok (.aload_n 2, 1) := by decide +kernel
theorem dX5_settle_31 : decode cX5_settle 31 = .ok (.aload_n 0, 1) := by decide +kernel
theorem dX5_settle_32 : decode cX5_settle 32 = .ok (.getfield 43, 3) := by decide +kernel
theorem dX5_settle_35 : decode cX5_settle 35 = .ok (.iload_n 1, 1) := by decide +kernel
theorem dX5_settle_36 : decode cX5_settle 36 = .ok (.invokevirtual 208, 3) := by decide +kernel
theorem dX5_settle_39 : decode cX5_settle 39 = .ok (.ifCond .eq 27, 3) := by decide +kernel
theorem dX5_settle_42 : decode cX5_settle 42 = .ok (.aload_n 0, 1) := by decide +kernel
theorem dX5_settle_43 : decode cX5_settle 43 = .ok (.getfield 25, 3) := by decide +kernel
theorem dX5_settle_46 : decode cX5_settle 46 = .ok (.aload_n 2, 1) := by decide +kernel
theorem dX5_settle_47 : decode cX5_settle 47 = .ok (.aload_n 0, 1) := by decide +kernel
theorem dX5_settle_48 : decode cX5_settle 48 = .ok (.getfield 11, 3) := by decide +kernel
theorem dX5_settle_51 : decode cX5_settle 51 = .ok (.invokevirtual 211, 3) := by decide +kernel
theorem dX5_settle_54 : decode cX5_settle 54 = .ok (.aload_n 0, 1) := by decide +kernel
theorem dX5_settle_55 : decode cX5_settle 55 = .ok (.dup, 1) := by decide +kernel
theorem dX5_settle_56 : decode cX5_settle 56 = .ok (.getfield 43, 3) := by decide +kernel
theorem dX5_settle_59 : decode cX5_settle 59 = .ok (.iconst 1, 1) := by decide +kernel
theorem dX5_settle_60 : decode cX5_settle 60 = .ok (.iload_n 1, 1) := by decide +kernel
theorem dX5_settle_61 : decode cX5_settle 61 = .ok (.ishl, 1) := by decide +kernel
theorem dX5_settle_62 : decode cX5_settle 62 = .ok (.ior, 1) := by decide +kernel
theorem dX5_settle_63 : decode cX5_settle 63 = .ok (.putfield 43, 3) := by decide +kernel
theorem dX5_settle_66 : decode cX5_settle 66 = .ok (.iinc 1 1, 3) := by decide +kernel
theorem dX5_settle_69 : decode cX5_settle 69 = .ok (.goto (-59), 3) := by decide +kernel
theorem dX5_settle_72 : decode cX5_settle 72 = .ok (.aload_n 0, 1) := by decide +kernel
theorem dX5_settle_73 : decode cX5_settle 73 = .ok (.iconst 0, 1) := by decide +kernel
theorem dX5_settle_74 : decode cX5_settle 74 = .ok (.putfield 43, 3) := by decide +kernel
theorem dX5_settle_77 : decode cX5_settle 77 = .ok (.return_, 1) := by decide +kernel
theorem dX5_placesWhere_0 : decode cX5_placesWhere 0 = .ok (.iload_n 3, 1) := by decide +kernel
theorem dX5_placesWhere_1 : decode cX5_placesWhere 1 = .ok (.bipush 16, 2) := by decide +kernel
theorem dX5_placesWhere_3 : decode cX5_placesWhere 3 = .ok (.if_icmp .lt 7, 3) := by decide +kernel
theorem dX5_placesWhere_6 : decode cX5_placesWhere 6 = .ok (.iconst 1, 1) := by decide +kernel
theorem dX5_placesWhere_7 : decode cX5_placesWhere 7 = .ok (.goto 4, 3) := by decide +kernel
theorem dX5_placesWhere_10 : decode cX5_placesWhere 10 = .ok (.iconst 0, 1) := by decide +kernel
theorem dX5_placesWhere_11 : decode cX5_placesWhere 11 = .ok (.istore 4, 2) := by decide +kernel
theorem dX5_placesWhere_13 : decode cX5_placesWhere 13 = .ok (.aload_n 0, 1) := by decide +kernel
theorem dX5_placesWhere_14 : decode cX5_placesWhere 14 = .ok (.getfield 11, 3) := by decide +kernel
theorem dX5_placesWhere_17 : decode cX5_placesWhere 17 = .ok (.iload_n 1, 1) := by decide +kernel
theorem dX5_placesWhere_18 : decode cX5_placesWhere 18 = .ok (.aaload, 1) := by decide +kernel
theorem dX5_placesWhere_19 : decode cX5_placesWhere 19 = .ok (.astore 5, 2) := by decide +kernel
theorem dX5_placesWhere_21 : decode cX5_placesWhere 21 = .ok (.iload 4, 2) := by decide +kernel
theorem dX5_placesWhere_23 : decode cX5_placesWhere 23 = .ok (.ifCond .eq 13, 3) := by decide +kernel
theorem dX5_placesWhere_26 : decode cX5_placesWhere 26 = .ok (.aload_n 0, 1) := by decide +kernel
theorem dX5_placesWhere_27 : decode cX5_placesWhere 27 = .ok (.getfield 11, 3) := by decide +kernel
theorem dX5_placesWhere_30 : decode cX5_placesWhere 30 = .ok (.bipush 12, 2) := by decide +kernel
theorem dX5_placesWhere_32 : decode cX5_placesWhere 32 = .ok (.aaload, 1) := by decide +kernel
theorem dX5_placesWhere_33 : decode cX5_placesWhere 33 = .ok (.goto 9, 3) := by decide +kernel
theorem dX5_placesWhere_36 : decode cX5_placesWhere 36 = .ok (.aload_n 0, 1) := by decide +kernel
theorem dX5_placesWhere_37 : decode cX5_placesWhere 37 = .ok (.getfield 11, 3) := by decide +kernel
theorem dX5_placesWhere_40 : decode cX5_placesWhere 40 = .ok (.iload_n 3, 1) := by decide +kernel
theorem dX5_placesWhere_41 : decode cX5_placesWhere 41 = .ok (.aaload, 1) := by decide +kernel
theorem dX5_placesWhere_42 : decode cX5_placesWhere 42 = .ok (.astore 6, 2) := by decide +kernel
theorem dX5_placesWhere_44 : decode cX5_placesWhere 44 = .ok (.iconst 0, 1) := by decide +kernel
theorem dX5_placesWhere_45 : decode cX5_placesWhere 45 = .ok (.istore 7, 2) := by decide +kernel
theorem dX5_placesWhere_47 : decode cX5_placesWhere 47 = .ok (.iconst 0, 1) := by decide +kernel
theorem dX5_placesWhere_48 : decode cX5_placesWhere 48 = .ok (.istore 8, 2) := by decide +kernel
theorem dX5_placesWhere_50 : decode cX5_placesWhere 50 = .ok (.iload 8, 2) := by decide +kernel
theorem dX5_placesWhere_52 : decode cX5_placesWhere 52 = .ok (.bipush 16, 2) := by decide +kernel
theorem dX5_placesWhere_54 : decode cX5_placesWhere 54 = .ok (.if_icmp .ge 45, 3) := by decide +kernel
theorem dX5_placesWhere_57 : decode cX5_placesWhere 57 = .ok (.iload_n 2, 1) := by decide +kernel
theorem dX5_placesWhere_58 : decode cX5_placesWhere 58 = .ok (.aload 5, 2) := by decide +kernel
theorem dX5_placesWhere_60 : decode cX5_placesWhere 60 = .ok (.iload 8, 2) := by decide +kernel
theorem dX5_placesWhere_62 : decode cX5_placesWhere 62 = .ok (.aload 6, 2) := by decide +kernel
theorem dX5_placesWhere_64 : decode cX5_placesWhere 64 = .ok (.iload 4, 2) := by decide +kernel
theorem dX5_placesWhere_66 : decode cX5_placesWhere 66 = .ok (.ifCond .eq 10, 3) := by decide +kernel
theorem dX5_placesWhere_69 : decode cX5_placesWhere 69 = .ok (.iload_n 3, 1) := by decide +kernel
theorem dX5_placesWhere_70 : decode cX5_placesWhere 70 = .ok (.bipush 16, 2) := by decide +kernel
theorem dX5_placesWhere_72 : decode cX5_placesWhere 72 = .ok (.isub, 1) := by decide +kernel
theorem dX5_placesWhere_73 : decode cX5_placesWhere 73 = .ok (.goto 5, 3) := by decide +kernel
theorem dX5_placesWhere_76 : decode cX5_placesWhere 76 = .ok (.iload 8, 2) := by decide +kernel
theorem dX5_placesWhere_78 : decode cX5_placesWhere 78 = .ok (.invokestatic 215, 3) := by decide +kernel
theorem dX5_placesWhere_81 : decode cX5_placesWhere 81 = .ok (.ifCond .eq 12, 3) := by decide +kernel
theorem dX5_placesWhere_84 : decode cX5_placesWhere 84 = .ok (.iload 7, 2) := by decide +kernel
theorem dX5_placesWhere_86 : decode cX5_placesWhere 86 = .ok (.iconst 1, 1) := by decide +kernel
theorem dX5_placesWhere_87 : decode cX5_placesWhere 87 = .ok (.iload 8, 2) := by decide +kernel
theorem dX5_placesWhere_89 : decode cX5_placesWhere 89 = .ok (.ishl, 1) := by decide +kernel
theorem dX5_placesWhere_90 : decode cX5_placesWhere 90 = .ok (.ior, 1) := by decide +kernel
theorem dX5_placesWhere_91 : decode cX5_placesWhere 91 = .ok (.istore 7, 2) := by decide +kernel
theorem dX5_placesWhere_93 : decode cX5_placesWhere 93 = .ok (.iinc 8 1, 3) := by decide +kernel
theorem dX5_placesWhere_96 : decode cX5_placesWhere 96 = .ok (.goto (-46), 3) := by decide +kernel
theorem dX5_placesWhere_99 : decode cX5_placesWhere 99 = .ok (.iload 7, 2) := by decide +kernel
theorem dX5_placesWhere_101 : decode cX5_placesWhere 101 = .ok (.ireturn, 1) := by decide +kernel
theorem dX5_isSo_0 : decode cX5_isSo 0 = .ok (.iload_n 0, 1) := by decide +kernel
theorem dX5_isSo_1 : decode cX5_isSo 1 = .ok (.bipush 6, 2) := by decide +kernel
theorem dX5_isSo_3 : decode cX5_isSo 3 = .ok (.if_icmp .lt 7, 3) := by decide +kernel
theorem dX5_isSo_6 : decode cX5_isSo 6 = .ok (.iconst 1, 1) := by decide +kernel
theorem dX5_isSo_7 : decode cX5_isSo 7 = .ok (.goto 4, 3) := by decide +kernel
theorem dX5_isSo_10 : decode cX5_isSo 10 = .ok (.iconst 0, 1) := by decide +kernel
theorem dX5_isSo_11 : decode cX5_isSo 11 = .ok (.istore 5, 2) := by decide +kernel
theorem dX5_isSo_13 : decode cX5_isSo 13 = .ok (.iload 5, 2) := by decide +kernel
theorem dX5_isSo_15 : decode cX5_isSo 15 = .ok (.ifCond .eq 10, 3) := by decide +kernel
theorem dX5_isSo_18 : decode cX5_isSo 18 = .ok (.iload_n 0, 1) := by decide +kernel
theorem dX5_isSo_19 : decode cX5_isSo 19 = .ok (.bipush 6, 2) := by decide +kernel
theorem dX5_isSo_21 : decode cX5_isSo 21 = .ok (.isub, 1) := by decide +kernel
theorem dX5_isSo_22 : decode cX5_isSo 22 = .ok (.goto 4, 3) := by decide +kernel
theorem dX5_isSo_25 : decode cX5_isSo 25 = .ok (.iload_n 0, 1) := by decide +kernel
theorem dX5_isSo_26 : decode cX5_isSo 26 = .ok (.istore 6, 2) := by decide +kernel
theorem dX5_isSo_28 : decode cX5_isSo 28 = .ok (.aload_n 1, 1) := by decide +kernel
theorem dX5_isSo_29 : decode cX5_isSo 29 = .ok (.iload_n 2, 1) := by decide +kernel
theorem dX5_isSo_30 : decode cX5_isSo 30 = .ok (.invokevirtual 156, 3) := by decide +kernel
theorem dX5_isSo_33 : decode cX5_isSo 33 = .ok (.ifCond .ne 12, 3) := by decide +kernel
theorem dX5_isSo_36 : decode cX5_isSo 36 = .ok (.aload_n 3, 1) := by decide +kernel
theorem dX5_isSo_37 : decode cX5_isSo 37 = .ok (.iload 4, 2) := by decide +kernel
theorem dX5_isSo_39 : decode cX5_isSo 39 = .ok (.invokevirtual 156, 3) := by decide +kernel
theorem dX5_isSo_42 : decode cX5_isSo 42 = .ok (.ifCond .eq 19, 3) := by decide +kernel
theorem dX5_isSo_45 : decode cX5_isSo 45 = .ok (.iload 6, 2) := by decide +kernel
theorem dX5_isSo_47 : decode cX5_isSo 47 = .ok (.iconst 5, 1) := by decide +kernel
theorem dX5_isSo_48 : decode cX5_isSo 48 = .ok (.if_icmp .ne 7, 3) := by decide +kernel
theorem dX5_isSo_51 : decode cX5_isSo 51 = .ok (.iconst 1, 1) := by decide +kernel
theorem dX5_isSo_52 : decode cX5_isSo 52 = .ok (.goto 4, 3) := by decide +kernel
theorem dX5_isSo_55 : decode cX5_isSo 55 = .ok (.iconst 0, 1) := by decide +kernel
theorem dX5_isSo_56 : decode cX5_isSo 56 = .ok (.istore 7, 2) := by decide +kernel
theorem dX5_isSo_58 : decode cX5_isSo 58 = .ok (.goto 23, 3) := by decide +kernel
theorem dX5_isSo_61 : decode cX5_isSo 61 = .ok (.iload 6, 2) := by decide +kernel
theorem dX5_isSo_63 : decode cX5_isSo 63 = .ok (.aload_n 1, 1) := by decide +kernel
theorem dX5_isSo_64 : decode cX5_isSo 64 = .ok (.getfield 149, 3) := by decide +kernel
theorem dX5_isSo_67 : decode cX5_isSo 67 = .ok (.iload_n 2, 1) := by decide +kernel
theorem dX5_isSo_68 : decode cX5_isSo 68 = .ok (.daload, 1) := by decide +kernel
theorem dX5_isSo_69 : decode cX5_isSo 69 = .ok (.aload_n 3, 1) := by decide +kernel
theorem dX5_isSo_70 : decode cX5_isSo 70 = .ok (.getfield 149, 3) := by decide +kernel
theorem dX5_isSo_73 : decode cX5_isSo 73 = .ok (.iload 4, 2) := by decide +kernel
theorem dX5_isSo_75 : decode cX5_isSo 75 = .ok (.daload, 1) := by decide +kernel
theorem dX5_isSo_76 : decode cX5_isSo 76 = .ok (.invokestatic 219, 3) := by decide +kernel
theorem dX5_isSo_79 : decode cX5_isSo 79 = .ok (.istore 7, 2) := by decide +kernel
theorem dX5_isSo_81 : decode cX5_isSo 81 = .ok (.iload 7, 2) := by decide +kernel
theorem dX5_isSo_83 : decode cX5_isSo 83 = .ok (.iload 5, 2) := by decide +kernel
theorem dX5_isSo_85 : decode cX5_isSo 85 = .ok (.if_icmp .eq 7, 3) := by decide +kernel
theorem dX5_isSo_88 : decode cX5_isSo 88 = .ok (.iconst 1, 1) := by decide +kernel
theorem dX5_isSo_89 : decode cX5_isSo 89 = .ok (.goto 4, 3) := by decide +kernel
theorem dX5_isSo_92 : decode cX5_isSo 92 = .ok (.iconst 0, 1) := by decide +kernel
theorem dX5_isSo_93 : decode cX5_isSo 93 = .ok (.ireturn, 1) := by decide +kernel
theorem dX5_isSoOfNumbers_0 : decode cX5_isSoOfNumbers 0 = .ok (.iload_n 0, 1) := by decide +kernel
theorem dX5_isSoOfNumbers_1 : decode cX5_isSoOfNumbers 1 = .ok (.tableswitch 95 0 4 #[35, 47, 59, 71, 83], 35) := by decide +kernel
theorem dX5_isSoOfNumbers_36 : decode cX5_isSoOfNumbers 36 = .ok (.dload_n 1, 1) := by decide +kernel
theorem dX5_isSoOfNumbers_37 : decode cX5_isSoOfNumbers 37 = .ok (.dload_n 3, 1) := by decide +kernel
theorem dX5_isSoOfNumbers_38 : decode cX5_isSoOfNumbers 38 = .ok (.dcmp .g, 1) := by decide +kernel
theorem dX5_isSoOfNumbers_39 : decode cX5_isSoOfNumbers 39 = .ok (.ifCond .ge 7, 3) := by decide +kernel
theorem dX5_isSoOfNumbers_42 : decode cX5_isSoOfNumbers 42 = .ok (.iconst 1, 1) := by decide +kernel
theorem dX5_isSoOfNumbers_43 : decode cX5_isSoOfNumbers 43 = .ok (.goto 4, 3) := by decide +kernel
theorem dX5_isSoOfNumbers_46 : decode cX5_isSoOfNumbers 46 = .ok (.iconst 0, 1) := by decide +kernel
theorem dX5_isSoOfNumbers_47 : decode cX5_isSoOfNumbers 47 = .ok (.ireturn, 1) := by decide +kernel
theorem dX5_isSoOfNumbers_48 : decode cX5_isSoOfNumbers 48 = .ok (.dload_n 1, 1) := by decide +kernel
theorem dX5_isSoOfNumbers_49 : decode cX5_isSoOfNumbers 49 = .ok (.dload_n 3, 1) := by decide +kernel
theorem dX5_isSoOfNumbers_50 : decode cX5_isSoOfNumbers 50 = .ok (.dcmp .g, 1) := by decide +kernel
theorem dX5_isSoOfNumbers_51 : decode cX5_isSoOfNumbers 51 = .ok (.ifCond .gt 7, 3) := by decide +kernel
theorem dX5_isSoOfNumbers_54 : decode cX5_isSoOfNumbers 54 = .ok (.iconst 1, 1) := by decide +kernel
theorem dX5_isSoOfNumbers_55 : decode cX5_isSoOfNumbers 55 = .ok (.goto 4, 3) := by decide +kernel
theorem dX5_isSoOfNumbers_58 : decode cX5_isSoOfNumbers 58 = .ok (.iconst 0, 1) := by decide +kernel
theorem dX5_isSoOfNumbers_59 : decode cX5_isSoOfNumbers 59 = .ok (.ireturn, 1) := by decide +kernel
theorem dX5_isSoOfNumbers_60 : decode cX5_isSoOfNumbers 60 = .ok (.dload_n 1, 1) := by decide +kernel
theorem dX5_isSoOfNumbers_61 : decode cX5_isSoOfNumbers 61 = .ok (.dload_n 3, 1) := by decide +kernel
theorem dX5_isSoOfNumbers_62 : decode cX5_isSoOfNumbers 62 = .ok (.dcmp .l, 1) := by decide +kernel
theorem dX5_isSoOfNumbers_63 : decode cX5_isSoOfNumbers 63 = .ok (.ifCond .le 7, 3) := by decide +kernel
theorem dX5_isSoOfNumbers_66 : decode cX5_isSoOfNumbers 66 = .ok (.iconst 1, 1) := by decide +kernel
theorem dX5_isSoOfNumbers_67 : decode cX5_isSoOfNumbers 67 = .ok (.goto 4, 3) := by decide +kernel
theorem dX5_isSoOfNumbers_70 : decode cX5_isSoOfNumbers 70 = .ok (.iconst 0, 1) := by decide +kernel
theorem dX5_isSoOfNumbers_71 : decode cX5_isSoOfNumbers 71 = .ok (.ireturn, 1) := by decide +kernel
theorem dX5_isSoOfNumbers_72 : decode cX5_isSoOfNumbers 72 = .ok (.dload_n 1, 1) := by decide +kernel
theorem dX5_isSoOfNumbers_73 : decode cX5_isSoOfNumbers 73 = .ok (.dload_n 3, 1) := by decide +kernel
theorem dX5_isSoOfNumbers_74 : decode cX5_isSoOfNumbers 74 = .ok (.dcmp .l, 1) := by decide +kernel
theorem dX5_isSoOfNumbers_75 : decode cX5_isSoOfNumbers 75 = .ok (.ifCond .lt 7, 3) := by decide +kernel
theorem dX5_isSoOfNumbers_78 : decode cX5_isSoOfNumbers 78 = .ok (.iconst 1, 1) := by decide +kernel
theorem dX5_isSoOfNumbers_79 : decode cX5_isSoOfNumbers 79 = .ok (.goto 4, 3) := by decide +kernel
theorem dX5_isSoOfNumbers_82 : decode cX5_isSoOfNumbers 82 = .ok (.iconst 0, 1) := by decide +kernel
theorem dX5_isSoOfNumbers_83 : decode cX5_isSoOfNumbers 83 = .ok (.ireturn, 1) := by decide +kernel
theorem dX5_isSoOfNumbers_84 : decode cX5_isSoOfNumbers 84 = .ok (.dload_n 1, 1) := by decide +kernel
theorem dX5_isSoOfNumbers_85 : decode cX5_isSoOfNumbers 85 = .ok (.dload_n 3, 1) := by decide +kernel
theorem dX5_isSoOfNumbers_86 : decode cX5_isSoOfNumbers 86 = .ok (.dcmp .l, 1) := by decide +kernel
theorem dX5_isSoOfNumbers_87 : decode cX5_isSoOfNumbers 87 = .ok (.ifCond .ne 7, 3) := by decide +kernel
theorem dX5_isSoOfNumbers_90 : decode cX5_isSoOfNumbers 90 = .ok (.iconst 1, 1) := by decide +kernel
theorem dX5_isSoOfNumbers_91 : decode cX5_isSoOfNumbers 91 = .ok (.goto 4, 3) := by decide +kernel
theorem dX5_isSoOfNumbers_94 : decode cX5_isSoOfNumbers 94 = .ok (.iconst 0, 1) := by decide +kernel
theorem dX5_isSoOfNumbers_95 : decode cX5_isSoOfNumbers 95 = .ok (.ireturn, 1) := by decide +kernel
theorem dX5_isSoOfNumbers_96 : decode cX5_isSoOfNumbers 96 = .ok (.dload_n 1, 1) := by decide +kernel
theorem dX5_isSoOfNumbers_97 : decode cX5_isSoOfNumbers 97 = .ok (.dload_n 3, 1) := by decide +kernel
theorem dX5_isSoOfNumbers_98 : decode cX5_isSoOfNumbers 98 = .ok (.dcmp .l, 1) := by decide +kernel
theorem dX5_isSoOfNumbers_99 : decode cX5_isSoOfNumbers 99 = .ok (.ifCond .eq 7, 3) := by decide +kernel
theorem dX5_isSoOfNumbers_102 : decode cX5_isSoOfNumbers 102 = .ok (.iconst 1, 1) := by decide +kernel
theorem dX5_isSoOfNumbers_103 : decode cX5_isSoOfNumbers 103 = .ok (.goto 4, 3) := by decide +kernel
theorem dX5_isSoOfNumbers_106 : decode cX5_isSoOfNumbers 106 = .ok (.iconst 0, 1) := by decide +kernel
theorem dX5_isSoOfNumbers_107 : decode cX5_isSoOfNumbers 107 = .ok (.ireturn, 1) := by decide +kernel
theorem dX5_hasMinus_0 : decode cX5_hasMinus 0 = .ok (.dload_n 0, 1) := by decide +kernel
theorem dX5_hasMinus_1 : decode cX5_hasMinus 1 = .ok (.dconst 0, 1) := by decide +kernel
theorem dX5_hasMinus_2 : decode cX5_hasMinus 2 = .ok (.dcmp .g, 1) := by decide +kernel
theorem dX5_hasMinus_3 : decode cX5_hasMinus 3 = .ok (.ifCond .lt 17, 3) := by decide +kernel
theorem dX5_hasMinus_6 : decode cX5_hasMinus 6 = .ok (.dload_n 0, 1) := by decide +kernel
theorem dX5_hasMinus_7 : decode cX5_hasMinus 7 = .ok (.dconst 0, 1) := by decide +kernel
theorem dX5_hasMinus_8 : decode cX5_hasMinus 8 = .ok (.dcmp .l, 1) := by decide +kernel
theorem dX5_hasMinus_9 : decode cX5_hasMinus 9 = .ok (.ifCond .ne 15, 3) := by decide +kernel
theorem dX5_hasMinus_12 : decode cX5_hasMinus 12 = .ok (.dconst 1, 1) := by decide +kernel
theorem dX5_hasMinus_13 : decode cX5_hasMinus 13 = .ok (.dload_n 0, 1) := by decide +kernel
theorem dX5_hasMinus_14 : decode cX5_hasMinus 14 = .ok (.ddiv, 1) := by decide +kernel
theorem dX5_hasMinus_15 : decode cX5_hasMinus 15 = .ok (.dconst 0, 1) := by decide +kernel
theorem dX5_hasMinus_16 : decode cX5_hasMinus 16 = .ok (.dcmp .g, 1) := by decide +kernel
theorem dX5_hasMinus_17 : decode cX5_hasMinus 17 = .ok (.ifCond .ge 7, 3) := by decide +kernel
theorem dX5_hasMinus_20 : decode cX5_hasMinus 20 = .ok (.iconst 1, 1) := by decide +kernel
theorem dX5_hasMinus_21 : decode cX5_hasMinus 21 = .ok (.goto 4, 3) := by decide +kernel
theorem dX5_hasMinus_24 : decode cX5_hasMinus 24 = .ok (.iconst 0, 1) := by decide +kernel
theorem dX5_hasMinus_25 : decode cX5_hasMinus 25 = .ok (.ireturn, 1) := by decide +kernel
theorem dX5_isInfinite_0 : decode cX5_isInfinite 0 = .ok (.dload_n 0, 1) := by decide +kernel
theorem dX5_isInfinite_1 : decode cX5_isInfinite 1 = .ok (.ldc2_w 198, 3) := by decide +kernel
theorem dX5_isInfinite_4 : decode cX5_isInfinite 4 = .ok (.dcmp .l, 1) := by decide +kernel
theorem dX5_isInfinite_5 : decode cX5_isInfinite 5 = .ok (.ifCond .gt 11, 3) := by decide +kernel
theorem dX5_isInfinite_8 : decode cX5_isInfinite 8 = .ok (.dload_n 0, 1) := by decide +kernel
theorem dX5_isInfinite_9 : decode cX5_isInfinite 9 = .ok (.ldc2_w 223, 3) := by decide +kernel
theorem dX5_isInfinite_12 : decode cX5_isInfinite 12 = .ok (.dcmp .g, 1) := by decide +kernel
theorem dX5_isInfinite_13 : decode cX5_isInfinite 13 = .ok (.ifCond .ge 7, 3) := by decide +kernel
theorem dX5_isInfinite_16 : decode cX5_isInfinite 16 = .ok (.iconst 1, 1) := by decide +kernel
theorem dX5_isInfinite_17 : decode cX5_isInfinite 17 = .ok (.goto 4, 3) := by decide +kernel
theorem dX5_isInfinite_20 : decode cX5_isInfinite 20 = .ok (.iconst 0, 1) := by decide +kernel
theorem dX5_isInfinite_21 : decode cX5_isInfinite 21 = .ok (.ireturn, 1) := by decide +kernel
theorem dJ6_bitCount_0f7a4_0 : decode cJ6_bitCount_0f7a4 0 = .ok (.iload_n 0, 1) := by decide +kernel
theorem dJ6_bitCount_0f7a4_1 : decode cJ6_bitCount_0f7a4 1 = .ok (.iload_n 0, 1) := by decide +kernel
theorem dJ6_bitCount_0f7a4_2 : decode cJ6_bitCount_0f7a4 2 = .ok (.iconst 1, 1) := by decide +kernel
theorem dJ6_bitCount_0f7a4_3 : decode cJ6_bitCount_0f7a4 3 = .ok (.iushr, 1) := by decide +kernel
theorem dJ6_bitCount_0f7a4_4 : decode cJ6_bitCount_0f7a4 4 = .ok (.ldc_w 265, 3) := by decide +kernel
theorem dJ6_bitCount_0f7a4_7 : decode cJ6_bitCount_0f7a4 7 = .ok (.iand, 1) := by decide +kernel
theorem dJ6_bitCount_0f7a4_8 : decode cJ6_bitCount_0f7a4 8 = .ok (.isub, 1) := by decide +kernel
theorem dJ6_bitCount_0f7a4_9 : decode cJ6_bitCount_0f7a4 9 = .ok (.istore_n 0, 1) := by decide +kernel
theorem dJ6_bitCount_0f7a4_10 : decode cJ6_bitCount_0f7a4 10 = .ok (.iload_n 0, 1) := by decide +kernel
theorem dJ6_bitCount_0f7a4_11 : decode cJ6_bitCount_0f7a4 11 = .ok (.ldc_w 266, 3) := by decide +kernel
theorem dJ6_bitCount_0f7a4_14 : decode cJ6_bitCount_0f7a4 14 = .ok (.iand, 1) := by decide +kernel
theorem dJ6_bitCount_0f7a4_15 : decode cJ6_bitCount_0f7a4 15 = .ok (.iload_n 0, 1) := by decide +kernel
theorem dJ6_bitCount_0f7a4_16 : decode cJ6_bitCount_0f7a4 16 = .ok (.iconst 2, 1) := by decide +kernel
theorem dJ6_bitCount_0f7a4_17 : decode cJ6_bitCount_0f7a4 17 = .ok (.iushr, 1) := by decide +kernel
theorem dJ6_bitCount_0f7a4_18 : decode cJ6_bitCount_0f7a4 18 = .ok (.ldc_w 266, 3) := by decide +kernel
theorem dJ6_bitCount_0f7a4_21 : decode cJ6_bitCount_0f7a4 21 = .ok (.iand, 1) := by decide +kernel
theorem dJ6_bitCount_0f7a4_22 : decode cJ6_bitCount_0f7a4 22 = .ok (.iadd, 1) := by decide +kernel
theorem dJ6_bitCount_0f7a4_23 : decode cJ6_bitCount_0f7a4 23 = .ok (.istore_n 0, 1) := by decide +kernel
theorem dJ6_bitCount_0f7a4_24 : decode cJ6_bitCount_0f7a4 24 = .ok (.iload_n 0, 1) := by decide +kernel
theorem dJ6_bitCount_0f7a4_25 : decode cJ6_bitCount_0f7a4 25 = .ok (.iload_n 0, 1) := by decide +kernel
theorem dJ6_bitCount_0f7a4_26 : decode cJ6_bitCount_0f7a4 26 = .ok (.iconst 4, 1) := by decide +kernel
theorem dJ6_bitCount_0f7a4_27 : decode cJ6_bitCount_0f7a4 27 = .ok (.iushr, 1) := by decide +kernel
theorem dJ6_bitCount_0f7a4_28 : decode cJ6_bitCount_0f7a4 28 = .ok (.iadd, 1) := by decide +kernel
theorem dJ6_bitCount_0f7a4_29 : decode cJ6_bitCount_0f7a4 29 = .ok (.ldc_w 267, 3) := by decide +kernel
theorem dJ6_bitCount_0f7a4_32 : decode cJ6_bitCount_0f7a4 32 = .ok (.iand, 1) := by decide +kernel
theorem dJ6_bitCount_0f7a4_33 : decode cJ6_bitCount_0f7a4 33 = .ok (.istore_n 0, 1) := by decide +kernel
theorem dJ6_bitCount_0f7a4_34 : decode cJ6_bitCount_0f7a4 34 = .ok (.iload_n 0, 1) := by decide +kernel
theorem dJ6_bitCount_0f7a4_35 : decode cJ6_bitCount_0f7a4 35 = .ok (.iload_n 0, 1) := by decide +kernel
theorem dJ6_bitCount_0f7a4_36 : decode cJ6_bitCount_0f7a4 36 = .ok (.bipush 8, 2) := by decide +kernel
theorem dJ6_bitCount_0f7a4_38 : decode cJ6_bitCount_0f7a4 38 = .ok (.iushr, 1) := by decide +kernel
theorem dJ6_bitCount_0f7a4_39 : decode cJ6_bitCount_0f7a4 39 = .ok (.iadd, 1) := by decide +kernel
theorem dJ6_bitCount_0f7a4_40 : decode cJ6_bitCount_0f7a4 40 = .ok (.istore_n 0, 1) := by decide +kernel
theorem dJ6_bitCount_0f7a4_41 : decode cJ6_bitCount_0f7a4 41 = .ok (.iload_n 0, 1) := by decide +kernel
theorem dJ6_bitCount_0f7a4_42 : decode cJ6_bitCount_0f7a4 42 = .ok (.iload_n 0, 1) := by decide +kernel
theorem dJ6_bitCount_0f7a4_43 : decode cJ6_bitCount_0f7a4 43 = .ok (.bipush 16, 2) := by decide +kernel
theorem dJ6_bitCount_0f7a4_45 : decode cJ6_bitCount_0f7a4 45 = .ok (.iushr, 1) := by decide +kernel
theorem dJ6_bitCount_0f7a4_46 : decode cJ6_bitCount_0f7a4 46 = .ok (.iadd, 1) := by decide +kernel
theorem dJ6_bitCount_0f7a4_47 : decode cJ6_bitCount_0f7a4 47 = .ok (.istore_n 0, 1) := by decide +kernel
theorem dJ6_bitCount_0f7a4_48 : decode cJ6_bitCount_0f7a4 48 = .ok (.iload_n 0, 1) := by decide +kernel
theorem dJ6_bitCount_0f7a4_49 : decode cJ6_bitCount_0f7a4 49 = .ok (.bipush 63, 2) := by decide +kernel
theorem dJ6_bitCount_0f7a4_51 : decode cJ6_bitCount_0f7a4 51 = .ok (.iand, 1) := by decide +kernel
theorem dJ6_bitCount_0f7a4_52 : decode cJ6_bitCount_0f7a4 52 = .ok (.ireturn, 1) := by decide +kernel
