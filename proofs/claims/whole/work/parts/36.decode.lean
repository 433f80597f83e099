theorem dX6_move_46 : decode cX6_move 46 = .ok (.iaload, 1) := by decide +kernel
theorem dX6_move_47 : decode cX6_move 47 = .ok (.iastore, 1) := by decide +kernel
theorem dX6_move_48 : decode cX6_move 48 = .ok (.aload_n 0, 1) := by decide +kernel
theorem dX6_move_49 : decode cX6_move 49 = .ok (.getfield 92, 3) := by decide +kernel
theorem dX6_move_52 : decode cX6_move 52 = .ok (.iload_n 2, 1) := by decide +kernel
theorem dX6_move_53 : decode cX6_move 53 = .ok (.aload_n 0, 1) := by decide +kernel
theorem dX6_move_54 : decode cX6_move 54 = .ok (.getfield 92, 3) := by decide +kernel
theorem dX6_move_57 : decode cX6_move 57 = .ok (.iload_n 1, 1) := by decide +kernel
theorem dX6_move_58 : decode cX6_move 58 = .ok (.iaload, 1) := by decide +kernel
theorem dX6_move_59 : decode cX6_move 59 = .ok (.iastore, 1) := by decide +kernel
theorem dX6_move_60 : decode cX6_move 60 = .ok (.aload_n 0, 1) := by decide +kernel
theorem dX6_move_61 : decode cX6_move 61 = .ok (.getfield 95, 3) := by decide +kernel
theorem dX6_move_64 : decode cX6_move 64 = .ok (.iload_n 2, 1) := by decide +kernel
theorem dX6_move_65 : decode cX6_move 65 = .ok (.aload_n 0, 1) := by decide +kernel
theorem dX6_move_66 : decode cX6_move 66 = .ok (.getfield 95, 3) := by decide +kernel
theorem dX6_move_69 : decode cX6_move 69 = .ok (.iload_n 1, 1) := by decide +kernel
theorem dX6_move_70 : decode cX6_move 70 = .ok (.iaload, 1) := by decide +kernel
theorem dX6_move_71 : decode cX6_move 71 = .ok (.iastore, 1) := by decide +kernel
theorem dX6_move_72 : decode cX6_move 72 = .ok (.aload_n 0, 1) := by decide +kernel
theorem dX6_move_73 : decode cX6_move 73 = .ok (.getfield 98, 3) := by decide +kernel
theorem dX6_move_76 : decode cX6_move 76 = .ok (.iload_n 2, 1) := by decide +kernel
theorem dX6_move_77 : decode cX6_move 77 = .ok (.aload_n 0, 1) := by decide +kernel
theorem dX6_move_78 : decode cX6_move 78 = .ok (.getfield 98, 3) := by decide +kernel
theorem dX6_move_81 : decode cX6_move 81 = .ok (.iload_n 1, 1) := by decide +kernel
theorem dX6_move_82 : decode cX6_move 82 = .ok (.iaload, 1) := by decide +kernel
theorem dX6_move_83 : decode cX6_move 83 = .ok (.iastore, 1) := by decide +kernel
theorem dX6_move_84 : decode cX6_move 84 = .ok (.return_, 1) := by decide +kernel
theorem dX6_twice_0 : decode cX6_twice 0 = .ok (.iload_n 1, 1) := by decide +kernel
theorem dX6_twice_1 : decode cX6_twice 1 = .ok (.aload_n 0, 1) := by decide +kernel
theorem dX6_twice_2 : decode cX6_twice 2 = .ok (.getfield 109, 3) := by decide +kernel
theorem dX6_twice_5 : decode cX6_twice 5 = .ok (.invokestatic 120, 3) := by decide +kernel
theorem dX6_twice_8 : decode cX6_twice 8 = .ok (.ifCond .eq 17, 3) := by decide +kernel
theorem dX6_twice_11 : decode cX6_twice 11 = .ok (.aload_n 0, 1) := by decide +kernel
theorem dX6_twice_12 : decode cX6_twice 12 = .ok (.getfield 13, 3) := by decide +kernel
theorem dX6_twice_15 : decode cX6_twice 15 = .ok (.aload_n 0, 1) := by decide +kernel
theorem dX6_twice_16 : decode cX6_twice 16 = .ok (.getfield 89, 3) := by decide +kernel
theorem dX6_twice_19 : decode cX6_twice 19 = .ok (.iload_n 1, 1) := by decide +kernel
theorem dX6_twice_20 : decode cX6_twice 20 = .ok (.iaload, 1) := by decide +kernel
theorem dX6_twice_21 : decode cX6_twice 21 = .ok (.baload, 1) := by decide +kernel
theorem dX6_twice_22 : decode cX6_twice 22 = .ok (.ifCond .eq 5, 3) := by decide +kernel
theorem dX6_twice_25 : decode cX6_twice 25 = .ok (.iconst (-1), 1) := by decide +kernel
theorem dX6_twice_26 : decode cX6_twice 26 = .ok (.ireturn, 1) := by decide +kernel
theorem dX6_twice_27 : decode cX6_twice 27 = .ok (.aload_n 0, 1) := by decide +kernel
theorem dX6_twice_28 : decode cX6_twice 28 = .ok (.iload_n 1, 1) := by decide +kernel
theorem dX6_twice_29 : decode cX6_twice 29 = .ok (.invokevirtual 158, 3) := by decide +kernel
theorem dX6_twice_32 : decode cX6_twice 32 = .ok (.aload_n 0, 1) := by decide +kernel
theorem dX6_twice_33 : decode cX6_twice 33 = .ok (.getfield 109, 3) := by decide +kernel
theorem dX6_twice_36 : decode cX6_twice 36 = .ok (.ireturn, 1) := by decide +kernel
theorem dX6_up_0 : decode cX6_up 0 = .ok (.iload_n 1, 1) := by decide +kernel
theorem dX6_up_1 : decode cX6_up 1 = .ok (.aload_n 0, 1) := by decide +kernel
theorem dX6_up_2 : decode cX6_up 2 = .ok (.getfield 101, 3) := by decide +kernel
theorem dX6_up_5 : decode cX6_up 5 = .ok (.invokestatic 120, 3) := by decide +kernel
theorem dX6_up_8 : decode cX6_up 8 = .ok (.ifCond .ne 5, 3) := by decide +kernel
theorem dX6_up_11 : decode cX6_up 11 = .ok (.iconst 0, 1) := by decide +kernel
theorem dX6_up_12 : decode cX6_up 12 = .ok (.ireturn, 1) := by decide +kernel
theorem dX6_up_13 : decode cX6_up 13 = .ok (.aload_n 0, 1) := by decide +kernel
theorem dX6_up_14 : decode cX6_up 14 = .ok (.getfield 13, 3) := by decide +kernel
theorem dX6_up_17 : decode cX6_up 17 = .ok (.iload_n 1, 1) := by decide +kernel
theorem dX6_up_18 : decode cX6_up 18 = .ok (.iload_n 2, 1) := by decide +kernel
theorem dX6_up_19 : decode cX6_up 19 = .ok (.ifCond .ne 7, 3) := by decide +kernel
theorem dX6_up_22 : decode cX6_up 22 = .ok (.iconst 1, 1) := by decide +kernel
theorem dX6_up_23 : decode cX6_up 23 = .ok (.goto 4, 3) := by decide +kernel
theorem dX6_up_26 : decode cX6_up 26 = .ok (.iconst 0, 1) := by decide +kernel
theorem dX6_up_27 : decode cX6_up 27 = .ok (.bastore, 1) := by decide +kernel
theorem dX6_up_28 : decode cX6_up 28 = .ok (.iconst 1, 1) := by decide +kernel
theorem dX6_up_29 : decode cX6_up 29 = .ok (.ireturn, 1) := by decide +kernel
theorem dX6_flight_0 : decode cX6_flight 0 = .ok (.iload_n 1, 1) := by decide +kernel
theorem dX6_flight_1 : decode cX6_flight 1 = .ok (.aload_n 0, 1) := by decide +kernel
theorem dX6_flight_2 : decode cX6_flight 2 = .ok (.getfield 109, 3) := by decide +kernel
theorem dX6_flight_5 : decode cX6_flight 5 = .ok (.invokestatic 120, 3) := by decide +kernel
theorem dX6_flight_8 : decode cX6_flight 8 = .ok (.ifCond .eq 11, 3) := by decide +kernel
theorem dX6_flight_11 : decode cX6_flight 11 = .ok (.iload_n 2, 1) := by decide +kernel
theorem dX6_flight_12 : decode cX6_flight 12 = .ok (.iconst 5, 1) := by decide +kernel
theorem dX6_flight_13 : decode cX6_flight 13 = .ok (.invokestatic 120, 3) := by decide +kernel
theorem dX6_flight_16 : decode cX6_flight 16 = .ok (.ifCond .ne 5, 3) := by decide +kernel
theorem dX6_flight_19 : decode cX6_flight 19 = .ok (.iconst (-1), 1) := by decide +kernel
theorem dX6_flight_20 : decode cX6_flight 20 = .ok (.ireturn, 1) := by decide +kernel
theorem dX6_flight_21 : decode cX6_flight 21 = .ok (.iload_n 2, 1) := by decide +kernel
theorem dX6_flight_22 : decode cX6_flight 22 = .ok (.ifCond .ne 12, 3) := by decide +kernel
theorem dX6_flight_25 : decode cX6_flight 25 = .ok (.aload_n 0, 1) := by decide +kernel
theorem dX6_flight_26 : decode cX6_flight 26 = .ok (.getfield 80, 3) := by decide +kernel
theorem dX6_flight_29 : decode cX6_flight 29 = .ok (.iload_n 1, 1) := by decide +kernel
theorem dX6_flight_30 : decode cX6_flight 30 = .ok (.iaload, 1) := by decide +kernel
theorem dX6_flight_31 : decode cX6_flight 31 = .ok (.goto 51, 3) := by decide +kernel
theorem dX6_flight_34 : decode cX6_flight 34 = .ok (.iload_n 2, 1) := by decide +kernel
theorem dX6_flight_35 : decode cX6_flight 35 = .ok (.iconst 1, 1) := by decide +kernel
theorem dX6_flight_36 : decode cX6_flight 36 = .ok (.if_icmp .ne 12, 3) := by decide +kernel
theorem dX6_flight_39 : decode cX6_flight 39 = .ok (.aload_n 0, 1) := by decide +kernel
theorem dX6_flight_40 : decode cX6_flight 40 = .ok (.getfield 83, 3) := by decide +kernel
theorem dX6_flight_43 : decode cX6_flight 43 = .ok (.iload_n 1, 1) := by decide +kernel
theorem dX6_flight_44 : decode cX6_flight 44 = .ok (.iaload, 1) := by decide +kernel
theorem dX6_flight_45 : decode cX6_flight 45 = .ok (.goto 37, 3) := by decide +kernel
theorem dX6_flight_48 : decode cX6_flight 48 = .ok (.iload_n 2, 1) := by decide +kernel
theorem dX6_flight_49 : decode cX6_flight 49 = .ok (.iconst 2, 1) := by decide +kernel
theorem dX6_flight_50 : decode cX6_flight 50 = .ok (.if_icmp .ne 12, 3) := by decide +kernel
theorem dX6_flight_53 : decode cX6_flight 53 = .ok (.aload_n 0, 1) := by decide +kernel
theorem dX6_flight_54 : decode cX6_flight 54 = .ok (.getfield 86, 3) := by decide +kernel
theorem dX6_flight_57 : decode cX6_flight 57 = .ok (.iload_n 1, 1) := by decide +kernel
theorem dX6_flight_58 : decode cX6_flight 58 = .ok (.iaload, 1) := by decide +kernel
theorem dX6_flight_59 : decode cX6_flight 59 = .ok (.goto 23, 3) := by decide +kernel
theorem dX6_flight_62 : decode cX6_flight 62 = .ok (.iload_n 2, 1) := by decide +kernel
theorem dX6_flight_63 : decode cX6_flight 63 = .ok (.iconst 3, 1) := by decide +kernel
theorem dX6_flight_64 : decode cX6_flight 64 = .ok (.if_icmp .ne 12, 3) := by decide +kernel
theorem dX6_flight_67 : decode cX6_flight 67 = .ok (.aload_n 0, 1) := by decide +kernel
theorem dX6_flight_68 : decode cX6_flight 68 = .ok (.getfield 89, 3) := by decide +kernel
theorem dX6_flight_71 : decode cX6_flight 71 = .ok (.iload_n 1, 1) := by decide +kernel
theorem dX6_flight_72 : decode cX6_flight 72 = .ok (.iaload, 1) := by decide +kernel
theorem dX6_flight_73 : decode cX6_flight 73 = .ok (.goto 9, 3) := by decide +kernel
theorem dX6_flight_76 : decode cX6_flight 76 = .ok (.aload_n 0, 1) := by decide +kernel
theorem dX6_flight_77 : decode cX6_flight 77 = .ok (.getfield 92, 3) := by decide +kernel
theorem dX6_flight_80 : decode cX6_flight 80 = .ok (.iload_n 1, 1) := by decide +kernel
theorem dX6_flight_81 : decode cX6_flight 81 = .ok (.iaload, 1) := by decide +kernel
theorem dX6_flight_82 : decode cX6_flight 82 = .ok (.ireturn, 1) := by decide +kernel
theorem dX6_flying_0 : decode cX6_flying 0 = .ok (.aload_n 0, 1) := by decide +kernel
theorem dX6_flying_1 : decode cX6_flying 1 = .ok (.getfield 109, 3) := by decide +kernel
theorem dX6_flying_4 : decode cX6_flying 4 = .ok (.ireturn, 1) := by decide +kernel
theorem dX6_taken_0 : decode cX6_taken 0 = .ok (.iload_n 1, 1) := by decide +kernel
theorem dX6_taken_1 : decode cX6_taken 1 = .ok (.aload_n 0, 1) := by decide +kernel
theorem dX6_taken_2 : decode cX6_taken 2 = .ok (.getfield 101, 3) := by decide +kernel
theorem dX6_taken_5 : decode cX6_taken 5 = .ok (.invokestatic 120, 3) := by decide +kernel
theorem dX6_taken_8 : decode cX6_taken 8 = .ok (.ifCond .eq 29, 3) := by decide +kernel
theorem dX6_taken_11 : decode cX6_taken 11 = .ok (.iload_n 2, 1) := by decide +kernel
theorem dX6_taken_12 : decode cX6_taken 12 = .ok (.aload_n 0, 1) := by decide +kernel
theorem dX6_taken_13 : decode cX6_taken 13 = .ok (.getfield 74, 3) := by decide +kernel
theorem dX6_taken_16 : decode cX6_taken 16 = .ok (.iload_n 1, 1) := by decide +kernel
theorem dX6_taken_17 : decode cX6_taken 17 = .ok (.iaload, 1) := by decide +kernel
theorem dX6_taken_18 : decode cX6_taken 18 = .ok (.invokestatic 120, 3) := by decide +kernel
theorem dX6_taken_21 : decode cX6_taken 21 = .ok (.ifCond .eq 16, 3) := by decide +kernel
theorem dX6_taken_24 : decode cX6_taken 24 = .ok (.aload_n 0, 1) := by decide +kernel
theorem dX6_taken_25 : decode cX6_taken 25 = .ok (.getfield 77, 3) := by decide +kernel
theorem dX6_taken_28 : decode cX6_taken 28 = .ok (.iload_n 1, 1) := by decide +kernel
theorem dX6_taken_29 : decode cX6_taken 29 = .ok (.iload_n 2, 1) := by decide +kernel
theorem dX6_taken_30 : decode cX6_taken 30 = .ok (.invokestatic 105, 3) := by decide +kernel
theorem dX6_taken_33 : decode cX6_taken 33 = .ok (.iaload, 1) := by decide +kernel
theorem dX6_taken_34 : decode cX6_taken 34 = .ok (.goto 4, 3) := by decide +kernel
theorem dX6_taken_37 : decode cX6_taken 37 = .ok (.iconst (-1), 1) := by decide +kernel
theorem dX6_taken_38 : decode cX6_taken 38 = .ok (.ireturn, 1) := by decide +kernel
theorem dX6_answer_0 : decode cX6_answer 0 = .ok (.iload_n 1, 1) := by decide +kernel
theorem dX6_answer_1 : decode cX6_answer 1 = .ok (.aload_n 0, 1) := by decide +kernel
theorem dX6_answer_2 : decode cX6_answer 2 = .ok (.getfield 124, 3) := by decide +kernel
theorem dX6_answer_5 : decode cX6_answer 5 = .ok (.invokestatic 120, 3) := by decide +kernel
theorem dX6_answer_8 : decode cX6_answer 8 = .ok (.ifCond .eq 21, 3) := by decide +kernel
theorem dX6_answer_11 : decode cX6_answer 11 = .ok (.aload_n 0, 1) := by decide +kernel
theorem dX6_answer_12 : decode cX6_answer 12 = .ok (.getfield 38, 3) := by decide +kernel
theorem dX6_answer_15 : decode cX6_answer 15 = .ok (.iload_n 1, 1) := by decide +kernel
theorem dX6_answer_16 : decode cX6_answer 16 = .ok (.baload, 1) := by decide +kernel
theorem dX6_answer_17 : decode cX6_answer 17 = .ok (.ifCond .eq 12, 3) := by decide +kernel
theorem dX6_answer_20 : decode cX6_answer 20 = .ok (.aload_n 0, 1) := by decide +kernel
theorem dX6_answer_21 : decode cX6_answer 21 = .ok (.getfield 41, 3) := by decide +kernel
theorem dX6_answer_24 : decode cX6_answer 24 = .ok (.iload_n 1, 1) := by decide +kernel
theorem dX6_answer_25 : decode cX6_answer 25 = .ok (.iaload, 1) := by decide +kernel
theorem dX6_answer_26 : decode cX6_answer 26 = .ok (.goto 5, 3) := by decide +kernel
theorem dX6_answer_29 : decode cX6_answer 29 = .ok (.bipush (-2), 2) := by decide +kernel
theorem dX6_answer_31 : decode cX6_answer 31 = .ok (.ireturn, 1) := by decide +kernel
theorem dX6_answered_0 : decode cX6_answered 0 = .ok (.iload_n 1, 1) := by decide +kernel
theorem dX6_answered_1 : decode cX6_answered 1 = .ok (.aload_n 0, 1) := by decide +kernel
theorem dX6_answered_2 : decode cX6_answered 2 = .ok (.getfield 124, 3) := by decide +kernel
theorem dX6_answered_5 : decode cX6_answered 5 = .ok (.invokestatic 120, 3) := by decide +kernel
theorem dX6_answered_8 : decode cX6_answered 8 = .ok (.ifCond .eq 16, 3) := by decide +kernel
theorem dX6_answered_11 : decode cX6_answered 11 = .ok (.aload_n 0, 1) := by decide +kernel
theorem dX6_answered_12 : decode cX6_answered 12 = .ok (.getfield 38, 3) := by decide +kernel
theorem dX6_answered_15 : decode cX6_answered 15 = .ok (.iload_n 1, 1) := by decide +kernel
theorem dX6_answered_16 : decode cX6_answered 16 = .ok (.baload, 1) := by decide +kernel
theorem dX6_answered_17 : decode cX6_answered 17 = .ok (.ifCond .eq 7, 3) := by decide +kernel
theorem dX6_answered_20 : decode cX6_answered 20 = .ok (.iconst 1, 1) := by decide +kernel
theorem dX6_answered_21 : decode cX6_answered 21 = .ok (.goto 4, 3) := by decide +kernel
theorem dX6_answered_24 : decode cX6_answered 24 = .ok (.iconst 0, 1) := by decide +kernel
theorem dX6_answered_25 : decode cX6_answered 25 = .ok (.ireturn, 1) := by decide +kernel
theorem dX6_time_0 : decode cX6_time 0 = .ok (.iload_n 1, 1) := by decide +kernel
theorem dX6_time_1 : decode cX6_time 1 = .ok (.aload_n 0, 1) := by decide +kernel
theorem dX6_time_2 : decode cX6_time 2 = .ok (.getfield 124, 3) := by decide +kernel
theorem dX6_time_5 : decode cX6_time 5 = .ok (.invokestatic 120, 3) := by decide +kernel
theorem dX6_time_8 : decode cX6_time 8 = .ok (.ifCond .eq 22, 3) := by decide +kernel
theorem dX6_time_11 : decode cX6_time 11 = .ok (.iload_n 2, 1) := by decide +kernel
theorem dX6_time_12 : decode cX6_time 12 = .ok (.aload_n 0, 1) := by decide +kernel
theorem dX6_time_13 : decode cX6_time 13 = .ok (.getfield 101, 3) := by decide +kernel
theorem dX6_time_16 : decode cX6_time 16 = .ok (.invokestatic 120, 3) := by decide +kernel
theorem dX6_time_19 : decode cX6_time 19 = .ok (.ifCond .eq 11, 3) := by decide +kernel
theorem dX6_time_22 : decode cX6_time 22 = .ok (.iload_n 3, 1) := by decide +kernel
theorem dX6_time_23 : decode cX6_time 23 = .ok (.iconst 3, 1) := by decide +kernel
theorem dX6_time_24 : decode cX6_time 24 = .ok (.invokestatic 120, 3) := by decide +kernel
theorem dX6_time_27 : decode cX6_time 27 = .ok (.ifCond .ne 5, 3) := by decide +kernel
theorem dX6_time_30 : decode cX6_time 30 = .ok (.iconst (-1), 1) := by decide +kernel
theorem dX6_time_31 : decode cX6_time 31 = .ok (.ireturn, 1) := by decide +kernel
theorem dX6_time_32 : decode cX6_time 32 = .ok (.iload_n 3, 1) := by decide +kernel
theorem dX6_time_33 : decode cX6_time 33 = .ok (.iconst 2, 1) := by decide +kernel
theorem dX6_time_34 : decode cX6_time 34 = .ok (.if_icmp .ne 22, 3) := by decide +kernel
theorem dX6_time_37 : decode cX6_time 37 = .ok (.aload_n 0, 1) := by decide +kernel
theorem dX6_time_38 : decode cX6_time 38 = .ok (.getfield 59, 3) := by decide +kernel
theorem dX6_time_41 : decode cX6_time 41 = .ok (.iload_n 2, 1) := by decide +kernel
theorem dX6_time_42 : decode cX6_time 42 = .ok (.iload_n 1, 1) := by decide +kernel
theorem dX6_time_43 : decode cX6_time 43 = .ok (.invokestatic 105, 3) := by decide +kernel
theorem dX6_time_46 : decode cX6_time 46 = .ok (.baload, 1) := by decide +kernel
theorem dX6_time_47 : decode cX6_time 47 = .ok (.ifCond .eq 7, 3) := by decide +kernel
theorem dX6_time_50 : decode cX6_time 50 = .ok (.iconst 1, 1) := by decide +kernel
theorem dX6_time_51 : decode cX6_time 51 = .ok (.goto 4, 3) := by decide +kernel
theorem dX6_time_54 : decode cX6_time 54 = .ok (.iconst 0, 1) := by decide +kernel
theorem dX6_time_55 : decode cX6_time 55 = .ok (.ireturn, 1) := by decide +kernel
theorem dX6_time_56 : decode cX6_time 56 = .ok (.iload_n 3, 1) := by decide +kernel
theorem dX6_time_57 : decode cX6_time 57 = .ok (.ifCond .ne 17, 3) := by decide +kernel
theorem dX6_time_60 : decode cX6_time 60 = .ok (.aload_n 0, 1) := by decide +kernel
theorem dX6_time_61 : decode cX6_time 61 = .ok (.getfield 62, 3) := by decide +kernel
theorem dX6_time_64 : decode cX6_time 64 = .ok (.iload_n 2, 1) := by decide +kernel
theorem dX6_time_65 : decode cX6_time 65 = .ok (.iload_n 1, 1) := by decide +kernel
theorem dX6_time_66 : decode cX6_time 66 = .ok (.iload_n 2, 1) := by decide +kernel
theorem dX6_time_67 : decode cX6_time 67 = .ok (.invokestatic 131, 3) := by decide +kernel
theorem dX6_time_70 : decode cX6_time 70 = .ok (.iaload, 1) := by decide +kernel
theorem dX6_time_71 : decode cX6_time 71 = .ok (.goto 13, 3) := by decide +kernel
theorem dX6_time_74 : decode cX6_time 74 = .ok (.aload_n 0, 1) := by decide +kernel
theorem dX6_time_75 : decode cX6_time 75 = .ok (.getfield 50, 3) := by decide +kernel
theorem dX6_time_78 : decode cX6_time 78 = .ok (.iload_n 2, 1) := by decide +kernel
theorem dX6_time_79 : decode cX6_time 79 = .ok (.iload_n 1, 1) := by decide +kernel
theorem dX6_time_80 : decode cX6_time 80 = .ok (.invokestatic 105, 3) := by decide +kernel
theorem dX6_time_83 : decode cX6_time 83 = .ok (.iaload, 1) := by decide +kernel
theorem dX6_time_84 : decode cX6_time 84 = .ok (.istore 4, 2) := by decide +kernel
theorem dX6_time_86 : decode cX6_time 86 = .ok (.iload 4, 2) := by decide +kernel
theorem dX6_time_88 : decode cX6_time 88 = .ok (.ifCond .ne 7, 3) := by decide +kernel
theorem dX6_time_91 : decode cX6_time 91 = .ok (.iconst (-1), 1) := by decide +kernel
theorem dX6_time_92 : decode cX6_time 92 = .ok (.goto 5, 3) := by decide +kernel
theorem dX6_time_95 : decode cX6_time 95 = .ok (.iload 4, 2) := by decide +kernel
theorem dX6_time_97 : decode cX6_time 97 = .ok (.ireturn, 1) := by decide +kernel
theorem dX6_value_0 : decode cX6_value 0 = .ok (.iload_n 1, 1) := by decide +kernel
theorem dX6_value_1 : decode cX6_value 1 = .ok (.bipush 16, 2) := by decide +kernel
theorem dX6_value_3 : decode cX6_value 3 = .ok (.invokestatic 120, 3) := by decide +kernel
theorem dX6_value_6 : decode cX6_value 6 = .ok (.ifCond .eq 12, 3) := by decide +kernel
theorem dX6_value_9 : decode cX6_value 9 = .ok (.aload_n 0, 1) := by decide +kernel
theorem dX6_value_10 : decode cX6_value 10 = .ok (.getfield 17, 3) := by decide +kernel
theorem dX6_value_13 : decode cX6_value 13 = .ok (.iload_n 1, 1) := by decide +kernel
theorem dX6_value_14 : decode cX6_value 14 = .ok (.iaload, 1) := by decide +kernel
theorem dX6_value_15 : decode cX6_value 15 = .ok (.goto 4, 3) := by decide +kernel
theorem dX6_value_18 : decode cX6_value 18 = .ok (.iconst (-1), 1) := by decide +kernel
theorem dX6_value_19 : decode cX6_value 19 = .ok (.ireturn, 1) := by decide +kernel
theorem dX6_clock_0 : decode cX6_clock 0 = .ok (.iload_n 1, 1) := by decide +kernel
theorem dX6_clock_1 : decode cX6_clock 1 = .ok (.aload_n 0, 1) := by decide +kernel
theorem dX6_clock_2 : decode cX6_clock 2 = .ok (.getfield 101, 3) := by decide +kernel
theorem dX6_clock_5 : decode cX6_clock 5 = .ok (.invokestatic 120, 3) := by decide +kernel
theorem dX6_clock_8 : decode cX6_clock 8 = .ok (.ifCond .eq 12, 3) := by decide +kernel
theorem dX6_clock_11 : decode cX6_clock 11 = .ok (.aload_n 0, 1) := by decide +kernel
theorem dX6_clock_12 : decode cX6_clock 12 = .ok (.getfield 7, 3) := by decide +kernel
theorem dX6_clock_15 : decode cX6_clock 15 = .ok (.iload_n 1, 1) := by decide +kernel
theorem dX6_clock_16 : decode cX6_clock 16 = .ok (.iaload, 1) := by decide +kernel
theorem dX6_clock_17 : decode cX6_clock 17 = .ok (.goto 4, 3) := by decide +kernel
theorem dX6_clock_20 : decode cX6_clock 20 = .ok (.iconst (-1), 1) := by decide +kernel
theorem dX6_clock_21 : decode cX6_clock 21 = .ok (.ireturn, 1) := by decide +kernel
theorem dX6_seen_0 : decode cX6_seen 0 = .ok (.iload_n 1, 1) := by decide +kernel
theorem dX6_seen_1 : decode cX6_seen 1 = .ok (.iconst 4, 1) := by decide +kernel
theorem dX6_seen_2 : decode cX6_seen 2 = .ok (.invokestatic 120, 3) := by decide +kernel
theorem dX6_seen_5 : decode cX6_seen 5 = .ok (.ifCond .eq 12, 3) := by decide +kernel
theorem dX6_seen_8 : decode cX6_seen 8 = .ok (.aload_n 0, 1) := by decide +kernel
theorem dX6_seen_9 : decode cX6_seen 9 = .ok (.getfield 44, 3) := by decide +kernel
theorem dX6_seen_12 : decode cX6_seen 12 = .ok (.iload_n 1, 1) := by decide +kernel
theorem dX6_seen_13 : decode cX6_seen 13 = .ok (.iaload, 1) := by decide +kernel
theorem dX6_seen_14 : decode cX6_seen 14 = .ok (.goto 4, 3) := by decide +kernel
theorem dX6_seen_17 : decode cX6_seen 17 = .ok (.iconst (-1), 1) := by decide +kernel
theorem dX6_seen_18 : decode cX6_seen 18 = .ok (.ireturn, 1) := by decide +kernel
theorem dX6_agree_0 : decode cX6_agree 0 = .ok (.iconst 1, 1) := by decide +kernel
theorem dX6_agree_1 : decode cX6_agree 1 = .ok (.istore_n 1, 1) := by decide +kernel
theorem dX6_agree_2 : decode cX6_agree 2 = .ok (.iconst 0, 1) := by decide +kernel
theorem dX6_agree_3 : decode cX6_agree 3 = .ok (.istore_n 2, 1) := by decide +kernel
theorem dX6_agree_4 : decode cX6_agree 4 = .ok (.iload_n 2, 1) := by decide +kernel
theorem dX6_agree_5 : decode cX6_agree 5 = .ok (.aload_n 0, 1) := by decide +kernel
theorem dX6_agree_6 : decode cX6_agree 6 = .ok (.getfield 101, 3) := by decide +kernel
theorem dX6_agree_9 : decode cX6_agree 9 = .ok (.if_icmp .ge 120, 3) := by decide +kernel
theorem dX6_agree_12 : decode cX6_agree 12 = .ok (.iconst 1, 1) := by decide +kernel
theorem dX6_agree_13 : decode cX6_agree 13 = .ok (.istore_n 3, 1) := by decide +kernel
theorem dX6_agree_14 : decode cX6_agree 14 = .ok (.iload_n 3, 1) := by decide +kernel
theorem dX6_agree_15 : decode cX6_agree 15 = .ok (.aload_n 0, 1) := by decide +kernel
theorem dX6_agree_16 : decode cX6_agree 16 = .ok (.getfield 74, 3) := by decide +kernel
theorem dX6_agree_19 : decode cX6_agree 19 = .ok (.iload_n 2, 1) := by decide +kernel
theorem dX6_agree_20 : decode cX6_agree 20 = .ok (.iaload, 1) := by decide +kernel
theorem dX6_agree_21 : decode cX6_agree 21 = .ok (.if_icmp .ge 102, 3) := by decide +kernel
theorem dX6_agree_24 : decode cX6_agree 24 = .ok (.aload_n 0, 1) := by decide +kernel
theorem dX6_agree_25 : decode cX6_agree 25 = .ok (.getfield 77, 3) := by decide +kernel
theorem dX6_agree_28 : decode cX6_agree 28 = .ok (.iload_n 2, 1) := by decide +kernel
theorem dX6_agree_29 : decode cX6_agree 29 = .ok (.iload_n 3, 1) := by decide +kernel
theorem dX6_agree_30 : decode cX6_agree 30 = .ok (.invokestatic 105, 3) := by decide +kernel
theorem dX6_agree_33 : decode cX6_agree 33 = .ok (.iaload, 1) := by decide +kernel
theorem dX6_agree_34 : decode cX6_agree 34 = .ok (.istore 4, 2) := by decide +kernel
theorem dX6_agree_36 : decode cX6_agree 36 = .ok (.aload_n 0, 1) := by decide +kernel
theorem dX6_agree_37 : decode cX6_agree 37 = .ok (.getfield 77, 3) := by decide +kernel
theorem dX6_agree_40 : decode cX6_agree 40 = .ok (.iload_n 2, 1) := by decide +kernel
theorem dX6_agree_41 : decode cX6_agree 41 = .ok (.iload_n 3, 1) := by decide +kernel
theorem dX6_agree_42 : decode cX6_agree 42 = .ok (.iconst 1, 1) := by decide +kernel
theorem dX6_agree_43 : decode cX6_agree 43 = .ok (.isub, 1) := by decide +kernel
theorem dX6_agree_44 : decode cX6_agree 44 = .ok (.invokestatic 105, 3) := by decide +kernel
theorem dX6_agree_47 : decode cX6_agree 47 = .ok (.iaload, 1) := by decide +kernel
theorem dX6_agree_48 : decode cX6_agree 48 = .ok (.istore 5, 2) := by decide +kernel
theorem dX6_agree_50 : decode cX6_agree 50 = .ok (.iload_n 1, 1) := by decide +kernel
theorem dX6_agree_51 : decode cX6_agree 51 = .ok (.ifCond .eq 64, 3) := by decide +kernel
theorem dX6_agree_54 : decode cX6_agree 54 = .ok (.aload_n 0, 1) := by decide +kernel
theorem dX6_agree_55 : decode cX6_agree 55 = .ok (.getfield 50, 3) := by decide +kernel
theorem dX6_agree_58 : decode cX6_agree 58 = .ok (.iload_n 2, 1) := by decide +kernel
theorem dX6_agree_59 : decode cX6_agree 59 = .ok (.iload 5, 2) := by decide +kernel
theorem dX6_agree_61 : decode cX6_agree 61 = .ok (.invokestatic 105, 3) := by decide +kernel
theorem dX6_agree_64 : decode cX6_agree 64 = .ok (.iaload, 1) := by decide +kernel
theorem dX6_agree_65 : decode cX6_agree 65 = .ok (.aload_n 0, 1) := by decide +kernel
theorem dX6_agree_66 : decode cX6_agree 66 = .ok (.getfield 50, 3) := by decide +kernel
theorem dX6_agree_69 : decode cX6_agree 69 = .ok (.iload_n 2, 1) := by decide +kernel
theorem dX6_agree_70 : decode cX6_agree 70 = .ok (.iload 4, 2) := by decide +kernel
theorem dX6_agree_72 : decode cX6_agree 72 = .ok (.invokestatic 105, 3) := by decide +kernel
theorem dX6_agree_75 : decode cX6_agree 75 = .ok (.iaload, 1) := by decide +kernel
theorem dX6_agree_76 : decode cX6_agree 76 = .ok (.if_icmp .lt 35, 3) := by decide +kernel
theorem dX6_agree_79 : decode cX6_agree 79 = .ok (.aload_n 0, 1) := by decide +kernel
theorem dX6_agree_80 : decode cX6_agree 80 = .ok (.getfield 50, 3) := by decide +kernel
theorem dX6_agree_83 : decode cX6_agree 83 = .ok (.iload_n 2, 1) := by decide +kernel
theorem dX6_agree_84 : decode cX6_agree 84 = .ok (.iload 5, 2) := by decide +kernel
theorem dX6_agree_86 : decode cX6_agree 86 = .ok (.invokestatic 105, 3) := by decide +kernel
theorem dX6_agree_89 : decode cX6_agree 89 = .ok (.iaload, 1) := by decide +kernel
theorem dX6_agree_90 : decode cX6_agree 90 = .ok (.aload_n 0, 1) := by decide +kernel
theorem dX6_agree_91 : decode cX6_agree 91 = .ok (.getfield 50, 3) := by decide +kernel
theorem dX6_agree_94 : decode cX6_agree 94 = .ok (.iload_n 2, 1) := by decide +kernel
theorem dX6_agree_95 : decode cX6_agree 95 = .ok (.iload 4, 2) := by decide +kernel
theorem dX6_agree_97 : decode cX6_agree 97 = .ok (.invokestatic 105, 3) := by decide +kernel
theorem dX6_agree_100 : decode cX6_agree 100 = .ok (.iaload, 1) := by decide +kernel
theorem dX6_agree_101 : decode cX6_agree 101 = .ok (.if_icmp .ne 14, 3) := by decide +kernel
theorem dX6_agree_104 : decode cX6_agree 104 = .ok (.iload 5, 2) := by decide +kernel
theorem dX6_agree_106 : decode cX6_agree 106 = .ok (.iload 4, 2) := by decide +kernel
theorem dX6_agree_108 : decode cX6_agree 108 = .ok (.if_icmp .ge 7, 3) := by decide +kernel
theorem dX6_agree_111 : decode cX6_agree 111 = .ok (.iconst 1, 1) := by decide +kernel
theorem dX6_agree_112 : decode cX6_agree 112 = .ok (.goto 4, 3) := by decide +kernel
theorem dX6_agree_115 : decode cX6_agree 115 = .ok (.iconst 0, 1) := by decide +kernel
theorem dX6_agree_116 : decode cX6_agree 116 = .ok (.istore_n 1, 1) := by decide +kernel
theorem dX6_agree_117 : decode cX6_agree 117 = .ok (.iinc 3 1, 3) := by decide +kernel
theorem dX6_agree_120 : decode cX6_agree 120 = .ok (.goto (-106), 3) := by decide +kernel
theorem dX6_agree_123 : decode cX6_agree 123 = .ok (.iinc 2 1, 3) := by decide +kernel
theorem dX6_agree_126 : decode cX6_agree 126 = .ok (.goto (-122), 3) := by decide +kernel
theorem dX6_agree_129 : decode cX6_agree 129 = .ok (.iload_n 1, 1) := by decide +kernel
theorem dX6_agree_130 : decode cX6_agree 130 = .ok (.ireturn, 1) := by decide +kernel
theorem dX6_doneCount_0 : decode cX6_doneCount 0 = .ok (.iconst 0, 1) := by decide +kernel
theorem dX6_doneCount_1 : decode cX6_doneCount 1 = .ok (.istore_n 1, 1) := by decide +kernel
theorem dX6_doneCount_2 : decode cX6_doneCount 2 = .ok (.iconst 0, 1) := by decide +kernel
theorem dX6_doneCount_3 : decode cX6_doneCount 3 = .ok (.istore_n 2, 1) := by decide +kernel
theorem dX6_doneCount_4 : decode cX6_doneCount 4 = .ok (.iload_n 2, 1) := by decide +kernel
theorem dX6_doneCount_5 : decode cX6_doneCount 5 = .ok (.aload_n 0, 1) := by decide +kernel
theorem dX6_doneCount_6 : decode cX6_doneCount 6 = .ok (.getfield 124, 3) := by decide +kernel
theorem dX6_doneCount_9 : decode cX6_doneCount 9 = .ok (.if_icmp .ge 75, 3) := by decide +kernel
theorem dX6_doneCount_12 : decode cX6_doneCount 12 = .ok (.iconst 1, 1) := by decide +kernel
theorem dX6_doneCount_13 : decode cX6_doneCount 13 = .ok (.istore_n 3, 1) := by decide +kernel
theorem dX6_doneCount_14 : decode cX6_doneCount 14 = .ok (.iconst 0, 1) := by decide +kernel
theorem dX6_doneCount_15 : decode cX6_doneCount 15 = .ok (.istore 4, 2) := by decide +kernel
theorem dX6_doneCount_17 : decode cX6_doneCount 17 = .ok (.iload 4, 2) := by decide +kernel
theorem dX6_doneCount_19 : decode cX6_doneCount 19 = .ok (.aload_n 0, 1) := by decide +kernel
theorem dX6_doneCount_20 : decode cX6_doneCount 20 = .ok (.getfield 101, 3) := by decide +kernel
theorem dX6_doneCount_23 : decode cX6_doneCount 23 = .ok (.if_icmp .ge 43, 3) := by decide +kernel
theorem dX6_doneCount_26 : decode cX6_doneCount 26 = .ok (.iload_n 3, 1) := by decide +kernel
theorem dX6_doneCount_27 : decode cX6_doneCount 27 = .ok (.ifCond .eq 31, 3) := by decide +kernel
theorem dX6_doneCount_30 : decode cX6_doneCount 30 = .ok (.aload_n 0, 1) := by decide +kernel
theorem dX6_doneCount_31 : decode cX6_doneCount 31 = .ok (.iload 4, 2) := by decide +kernel
theorem dX6_doneCount_33 : decode cX6_doneCount 33 = .ok (.iload_n 2, 1) := by decide +kernel
theorem dX6_doneCount_34 : decode cX6_doneCount 34 = .ok (.invokevirtual 112, 3) := by decide +kernel
theorem dX6_doneCount_37 : decode cX6_doneCount 37 = .ok (.ifCond .eq 17, 3) := by decide +kernel
theorem dX6_doneCount_40 : decode cX6_doneCount 40 = .ok (.aload_n 0, 1) := by decide +kernel
theorem dX6_doneCount_41 : decode cX6_doneCount 41 = .ok (.getfield 59, 3) := by decide +kernel
theorem dX6_doneCount_44 : decode cX6_doneCount 44 = .ok (.iload 4, 2) := by decide +kernel
theorem dX6_doneCount_46 : decode cX6_doneCount 46 = .ok (.iload_n 2, 1) := by decide +kernel
theorem dX6_doneCount_47 : decode cX6_doneCount 47 = .ok (.invokestatic 105, 3) := by decide +kernel
theorem dX6_doneCount_50 : decode cX6_doneCount 50 = .ok (.baload, 1) := by decide +kernel
theorem dX6_doneCount_51 : decode cX6_doneCount 51 = .ok (.ifCond .eq 7, 3) := by decide +kernel
theorem dX6_doneCount_54 : decode cX6_doneCount 54 = .ok (.iconst 1, 1) := by decide +kernel
theorem dX6_doneCount_55 : decode cX6_doneCount 55 = .ok (.goto 4, 3) := by decide +kernel
theorem dX6_doneCount_58 : decode cX6_doneCount 58 = .ok (.iconst 0, 1) := by decide +kernel
theorem dX6_doneCount_59 : decode cX6_doneCount 59 = .ok (.istore_n 3, 1) := by decide +kernel
theorem dX6_doneCount_60 : decode cX6_doneCount 60 = .ok (.iinc 4 1, 3) := by decide +kernel
theorem dX6_doneCount_63 : decode cX6_doneCount 63 = .ok (.goto (-46), 3) := by decide +kernel
theorem dX6_doneCount_66 : decode cX6_doneCount 66 = .ok (.iload_n 1, 1) := by decide +kernel
theorem dX6_doneCount_67 : decode cX6_doneCount 67 = .ok (.iload_n 3, 1) := by decide +kernel
theorem dX6_doneCount_68 : decode cX6_doneCount 68 = .ok (.ifCond .eq 7, 3) := by decide +kernel
theorem dX6_doneCount_71 : decode cX6_doneCount 71 = .ok (.iconst 1, 1) := by decide +kernel
theorem dX6_doneCount_72 : decode cX6_doneCount 72 = .ok (.goto 4, 3) := by decide +kernel
theorem dX6_doneCount_75 : decode cX6_doneCount 75 = .ok (.iconst 0, 1) := by decide +kernel
theorem dX6_doneCount_76 : decode cX6_doneCount 76 = .ok (.iadd, 1) := by decide +kernel
theorem dX6_doneCount_77 : decode cX6_doneCount 77 = .ok (.istore_n 1, 1) := by decide +kernel
theorem dX6_doneCount_78 : decode cX6_doneCount 78 = .ok (.iinc 2 1, 3) := by decide +kernel
theorem dX6_doneCount_81 : decode cX6_doneCount 81 = .ok (.goto (-77), 3) := by decide +kernel
theorem dX6_doneCount_84 : decode cX6_doneCount 84 = .ok (.iload_n 1, 1) := by decide +kernel
theorem dX6_doneCount_85 : decode cX6_doneCount 85 = .ok (.ireturn, 1) := by decide +kernel
theorem dX6_count_0 : decode cX6_count 0 = .ok (.iconst 0, 1) := by decide +kernel
theorem dX6_count_1 : decode cX6_count 1 = .ok (.istore_n 2, 1) := by decide +kernel
theorem dX6_count_2 : decode cX6_count 2 = .ok (.iconst 0, 1) := by decide +kernel
theorem dX6_count_3 : decode cX6_count 3 = .ok (.istore_n 3, 1) := by decide +kernel
theorem dX6_count_4 : decode cX6_count 4 = .ok (.iload_n 3, 1) := by decide +kernel
theorem dX6_count_5 : decode cX6_count 5 = .ok (.aload_n 0, 1) := by decide +kernel
theorem dX6_count_6 : decode cX6_count 6 = .ok (.getfield 124, 3) := by decide +kernel
theorem dX6_count_9 : decode cX6_count 9 = .ok (.if_icmp .ge 26, 3) := by decide +kernel
theorem dX6_count_12 : decode cX6_count 12 = .ok (.iload_n 2, 1) := by decide +kernel
theorem dX6_count_13 : decode cX6_count 13 = .ok (.aload_n 0, 1) := by decide +kernel
theorem dX6_count_14 : decode cX6_count 14 = .ok (.getfield 38, 3) := by decide +kernel
theorem dX6_count_17 : decode cX6_count 17 = .ok (.iload_n 3, 1) := by decide +kernel
theorem dX6_count_18 : decode cX6_count 18 = .ok (.baload, 1) := by decide +kernel
theorem dX6_count_19 : decode cX6_count 19 = .ok (.ifCond .eq 7, 3) := by decide +kernel
theorem dX6_count_22 : decode cX6_count 22 = .ok (.iconst 1, 1) := by decide +kernel
theorem dX6_count_23 : decode cX6_count 23 = .ok (.goto 4, 3) := by decide +kernel
theorem dX6_count_26 : decode cX6_count 26 = .ok (.iconst 0, 1) := by decide +kernel
theorem dX6_count_27 : decode cX6_count 27 = .ok (.iadd, 1) := by decide +kernel
theorem dX6_count_28 : decode cX6_count 28 = .ok (.istore_n 2, 1) := by decide +kernel
theorem dX6_count_29 : decode cX6_count 29 = .ok (.iinc 3 1, 3) := by decide +kernel
theorem dX6_count_32 : decode cX6_count 32 = .ok (.goto (-28), 3) := by decide +kernel
theorem dX6_count_35 : decode cX6_count 35 = .ok (.iload_n 1, 1) := by decide +kernel
theorem dX6_count_36 : decode cX6_count 36 = .ok (.ifCond .ne 10, 3) := by decide +kernel
theorem dX6_count_39 : decode cX6_count 39 = .ok (.aload_n 0, 1) := by decide +kernel
theorem dX6_count_40 : decode cX6_count 40 = .ok (.getfield 101, 3) := by decide +kernel
theorem dX6_count_43 : decode cX6_count 43 = .ok (.goto 49, 3) := by decide +kernel
theorem dX6_count_46 : decode cX6_count 46 = .ok (.iload_n 1, 1) := by decide +kernel
theorem dX6_count_47 : decode cX6_count 47 = .ok (.iconst 1, 1) := by decide +kernel
theorem dX6_count_48 : decode cX6_count 48 = .ok (.if_icmp .ne 10, 3) := by decide +kernel
theorem dX6_count_51 : decode cX6_count 51 = .ok (.aload_n 0, 1) := by decide +kernel
theorem dX6_count_52 : decode cX6_count 52 = .ok (.getfield 124, 3) := by decide +kernel
theorem dX6_count_55 : decode cX6_count 55 = .ok (.goto 37, 3) := by decide +kernel
theorem dX6_count_58 : decode cX6_count 58 = .ok (.iload_n 1, 1) := by decide +kernel
theorem dX6_count_59 : decode cX6_count 59 = .ok (.iconst 2, 1) := by decide +kernel
theorem dX6_count_60 : decode cX6_count 60 = .ok (.if_icmp .ne 10, 3) := by decide +kernel
theorem dX6_count_63 : decode cX6_count 63 = .ok (.aload_n 0, 1) := by decide +kernel
theorem dX6_count_64 : decode cX6_count 64 = .ok (.getfield 139, 3) := by decide +kernel
theorem dX6_count_67 : decode cX6_count 67 = .ok (.goto 25, 3) := by decide +kernel
theorem dX6_count_70 : decode cX6_count 70 = .ok (.iload_n 1, 1) := by decide +kernel
theorem dX6_count_71 : decode cX6_count 71 = .ok (.iconst 3, 1) := by decide +kernel
theorem dX6_count_72 : decode cX6_count 72 = .ok (.if_icmp .ne 7, 3) := by decide +kernel
theorem dX6_count_75 : decode cX6_count 75 = .ok (.iload_n 2, 1) := by decide +kernel
theorem dX6_count_76 : decode cX6_count 76 = .ok (.goto 16, 3) := by decide +kernel
theorem dX6_count_79 : decode cX6_count 79 = .ok (.iload_n 1, 1) := by decide +kernel
theorem dX6_count_80 : decode cX6_count 80 = .ok (.iconst 4, 1) := by decide +kernel
theorem dX6_count_81 : decode cX6_count 81 = .ok (.if_icmp .ne 10, 3) := by decide +kernel
theorem dX6_count_84 : decode cX6_count 84 = .ok (.aload_n 0, 1) := by decide +kernel
theorem dX6_count_85 : decode cX6_count 85 = .ok (.invokevirtual 162, 3) := by decide +kernel
theorem dX6_count_88 : decode cX6_count 88 = .ok (.goto 4, 3) := by decide +kernel
theorem dX6_count_91 : decode cX6_count 91 = .ok (.iconst (-1), 1) := by decide +kernel
theorem dX6_count_92 : decode cX6_count 92 = .ok (.ireturn, 1) := by decide +kernel
theorem dJ6_compare_7cf53_0 : decode cJ6_compare_7cf53 0 = .ok (.iload_n 0, 1) := by decide +kernel
theorem dJ6_compare_7cf53_1 : decode cJ6_compare_7cf53 1 = .ok (.iload_n 1, 1) := by decide +kernel
theorem dJ6_compare_7cf53_2 : decode cJ6_compare_7cf53 2 = .ok (.if_icmp .ge 7, 3) := by decide +kernel
theorem dJ6_compare_7cf53_5 : decode cJ6_compare_7cf53 5 = .ok (.iconst (-1), 1) := by decide +kernel
theorem dJ6_compare_7cf53_6 : decode cJ6_compare_7cf53 6 = .ok (.goto 13, 3) := by decide +kernel
theorem dJ6_compare_7cf53_9 : decode cJ6_compare_7cf53 9 = .ok (.iload_n 0, 1) := by decide +kernel
theorem dJ6_compare_7cf53_10 : decode cJ6_compare_7cf53 10 = .ok (.iload_n 1, 1) := by decide +kernel
theorem dJ6_compare_7cf53_11 : decode cJ6_compare_7cf53 11 = .ok (.if_icmp .ne 7, 3) := by decide +kernel
theorem dJ6_compare_7cf53_14 : decode cJ6_compare_7cf53 14 = .ok (.iconst 0, 1) := by decide +kernel
theorem dJ6_compare_7cf53_15 : decode cJ6_compare_7cf53 15 = .ok (.goto 4, 3) := by decide +kernel
theorem dJ6_compare_7cf53_18 : decode cJ6_compare_7cf53 18 = .ok (.iconst 1, 1) := by decide +kernel
theorem dJ6_compare_7cf53_19 : decode cJ6_compare_7cf53 19 = .ok (.ireturn, 1) := by decide +kernel
theorem dJ9_max_7cf53_0 : decode cJ9_max_7cf53 0 = .ok (.iload_n 0, 1) := by decide +kernel
theorem dJ9_max_7cf53_1 : decode cJ9_max_7cf53 1 = .ok (.iload_n 1, 1) := by decide +kernel
theorem dJ9_max_7cf53_2 : decode cJ9_max_7cf53 2 = .ok (.if_icmp .lt 7, 3) := by decide +kernel
theorem dJ9_max_7cf53_5 : decode cJ9_max_7cf53 5 = .ok (.iload_n 0, 1) := by decide +kernel
theorem dJ9_max_7cf53_6 : decode cJ9_max_7cf53 6 = .ok (.goto 4, 3) := by decide +kernel
theorem dJ9_max_7cf53_9 : decode cJ9_max_7cf53 9 = .ok (.iload_n 1, 1) := by decide +kernel
theorem dJ9_max_7cf53_10 : decode cJ9_max_7cf53 10 = .ok (.ireturn, 1) := by decide +kernel
theorem dJ9_min_7cf53_0 : decode cJ9_min_7cf53 0 = .ok (.iload_n 0, 1) := by decide +kernel
theorem dJ9_min_7cf53_1 : decode cJ9_min_7cf53 1 = .ok (.iload_n 1, 1) := by decide +kernel
theorem dJ9_min_7cf53_2 : decode cJ9_min_7cf53 2 = .ok (.if_icmp .gt 7, 3) := by decide +kernel
theorem dJ9_min_7cf53_5 : decode cJ9_min_7cf53 5 = .ok (.iload_n 0, 1) := by decide +kernel
