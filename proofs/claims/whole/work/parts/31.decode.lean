theorem dX5_init_66 : decode cX5_init 66 = .ok (.iload_n 2, 1) := by decide +kernel
theorem dX5_init_67 : decode cX5_init 67 = .ok (.anewarray 44, 3) := by decide +kernel
theorem dX5_init_70 : decode cX5_init 70 = .ok (.putfield 46, 3) := by decide +kernel
theorem dX5_init_73 : decode cX5_init 73 = .ok (.iconst 0, 1) := by decide +kernel
theorem dX5_init_74 : decode cX5_init 74 = .ok (.istore_n 3, 1) := by decide +kernel
theorem dX5_init_75 : decode cX5_init 75 = .ok (.iload_n 3, 1) := by decide +kernel
theorem dX5_init_76 : decode cX5_init 76 = .ok (.iload_n 2, 1) := by decide +kernel
theorem dX5_init_77 : decode cX5_init 77 = .ok (.if_icmp .ge 23, 3) := by decide +kernel
theorem dX5_init_80 : decode cX5_init 80 = .ok (.aload_n 0, 1) := by decide +kernel
theorem dX5_init_81 : decode cX5_init 81 = .ok (.getfield 46, 3) := by decide +kernel
theorem dX5_init_84 : decode cX5_init 84 = .ok (.iload_n 3, 1) := by decide +kernel
theorem dX5_init_85 : decode cX5_init 85 = .ok (.new 44, 3) := by decide +kernel
theorem dX5_init_88 : decode cX5_init 88 = .ok (.dup, 1) := by decide +kernel
theorem dX5_init_89 : decode cX5_init 89 = .ok (.iload_n 3, 1) := by decide +kernel
theorem dX5_init_90 : decode cX5_init 90 = .ok (.invokespecial 50, 3) := by decide +kernel
theorem dX5_init_93 : decode cX5_init 93 = .ok (.aastore, 1) := by decide +kernel
theorem dX5_init_94 : decode cX5_init 94 = .ok (.iinc 3 1, 3) := by decide +kernel
theorem dX5_init_97 : decode cX5_init 97 = .ok (.goto (-22), 3) := by decide +kernel
theorem dX5_init_100 : decode cX5_init 100 = .ok (.aload_n 0, 1) := by decide +kernel
theorem dX5_init_101 : decode cX5_init 101 = .ok (.getfield 9, 3) := by decide +kernel
theorem dX5_init_104 : decode cX5_init 104 = .ok (.bipush 100, 2) := by decide +kernel
theorem dX5_init_106 : decode cX5_init 106 = .ok (.invokestatic 53, 3) := by decide +kernel
theorem dX5_init_109 : decode cX5_init 109 = .ok (.return_, 1) := by decide +kernel
theorem dX5_send_0 : decode cX5_send 0 = .ok (.aload_n 0, 1) := by decide +kernel
theorem dX5_send_1 : decode cX5_send 1 = .ok (.getfield 59, 3) := by decide +kernel
theorem dX5_send_4 : decode cX5_send 4 = .ok (.bipush 40, 2) := by decide +kernel
theorem dX5_send_6 : decode cX5_send 6 = .ok (.if_icmp .ge 16, 3) := by decide +kernel
theorem dX5_send_9 : decode cX5_send 9 = .ok (.iload_n 1, 1) := by decide +kernel
theorem dX5_send_10 : decode cX5_send 10 = .ok (.iload_n 2, 1) := by decide +kernel
theorem dX5_send_11 : decode cX5_send 11 = .ok (.iload_n 3, 1) := by decide +kernel
theorem dX5_send_12 : decode cX5_send 12 = .ok (.iload 4, 2) := by decide +kernel
theorem dX5_send_14 : decode cX5_send 14 = .ok (.iload 5, 2) := by decide +kernel
theorem dX5_send_16 : decode cX5_send 16 = .ok (.invokestatic 63, 3) := by decide +kernel
theorem dX5_send_19 : decode cX5_send 19 = .ok (.ifCond .ne 5, 3) := by decide +kernel
theorem dX5_send_22 : decode cX5_send 22 = .ok (.iconst (-1), 1) := by decide +kernel
theorem dX5_send_23 : decode cX5_send 23 = .ok (.ireturn, 1) := by decide +kernel
theorem dX5_send_24 : decode cX5_send 24 = .ok (.new 16, 3) := by decide +kernel
theorem dX5_send_27 : decode cX5_send 27 = .ok (.dup, 1) := by decide +kernel
theorem dX5_send_28 : decode cX5_send 28 = .ok (.aload_n 0, 1) := by decide +kernel
theorem dX5_send_29 : decode cX5_send 29 = .ok (.getfield 59, 3) := by decide +kernel
theorem dX5_send_32 : decode cX5_send 32 = .ok (.iload_n 1, 1) := by decide +kernel
theorem dX5_send_33 : decode cX5_send 33 = .ok (.iload_n 2, 1) := by decide +kernel
theorem dX5_send_34 : decode cX5_send 34 = .ok (.iload_n 3, 1) := by decide +kernel
theorem dX5_send_35 : decode cX5_send 35 = .ok (.iload 4, 2) := by decide +kernel
theorem dX5_send_37 : decode cX5_send 37 = .ok (.iload 5, 2) := by decide +kernel
theorem dX5_send_39 : decode cX5_send 39 = .ok (.invokespecial 67, 3) := by decide +kernel
theorem dX5_send_42 : decode cX5_send 42 = .ok (.astore 6, 2) := by decide +kernel
theorem dX5_send_44 : decode cX5_send 44 = .ok (.aload 6, 2) := by decide +kernel
theorem dX5_send_46 : decode cX5_send 46 = .ok (.aload_n 0, 1) := by decide +kernel
theorem dX5_send_47 : decode cX5_send 47 = .ok (.getfield 13, 3) := by decide +kernel
theorem dX5_send_50 : decode cX5_send 50 = .ok (.iload_n 1, 1) := by decide +kernel
theorem dX5_send_51 : decode cX5_send 51 = .ok (.iaload, 1) := by decide +kernel
theorem dX5_send_52 : decode cX5_send 52 = .ok (.putfield 70, 3) := by decide +kernel
theorem dX5_send_55 : decode cX5_send 55 = .ok (.aload 6, 2) := by decide +kernel
theorem dX5_send_57 : decode cX5_send 57 = .ok (.aload_n 0, 1) := by decide +kernel
theorem dX5_send_58 : decode cX5_send 58 = .ok (.iload_n 1, 1) := by decide +kernel
theorem dX5_send_59 : decode cX5_send 59 = .ok (.invokevirtual 73, 3) := by decide +kernel
theorem dX5_send_62 : decode cX5_send 62 = .ok (.putfield 77, 3) := by decide +kernel
theorem dX5_send_65 : decode cX5_send 65 = .ok (.aload_n 0, 1) := by decide +kernel
theorem dX5_send_66 : decode cX5_send 66 = .ok (.getfield 18, 3) := by decide +kernel
theorem dX5_send_69 : decode cX5_send 69 = .ok (.aload_n 0, 1) := by decide +kernel
theorem dX5_send_70 : decode cX5_send 70 = .ok (.getfield 59, 3) := by decide +kernel
theorem dX5_send_73 : decode cX5_send 73 = .ok (.aload 6, 2) := by decide +kernel
theorem dX5_send_75 : decode cX5_send 75 = .ok (.aastore, 1) := by decide +kernel
theorem dX5_send_76 : decode cX5_send 76 = .ok (.aload_n 0, 1) := by decide +kernel
theorem dX5_send_77 : decode cX5_send 77 = .ok (.dup, 1) := by decide +kernel
theorem dX5_send_78 : decode cX5_send 78 = .ok (.getfield 59, 3) := by decide +kernel
theorem dX5_send_81 : decode cX5_send 81 = .ok (.iconst 1, 1) := by decide +kernel
theorem dX5_send_82 : decode cX5_send 82 = .ok (.iadd, 1) := by decide +kernel
theorem dX5_send_83 : decode cX5_send 83 = .ok (.putfield 59, 3) := by decide +kernel
theorem dX5_send_86 : decode cX5_send 86 = .ok (.aload_n 0, 1) := by decide +kernel
theorem dX5_send_87 : decode cX5_send 87 = .ok (.aload 6, 2) := by decide +kernel
theorem dX5_send_89 : decode cX5_send 89 = .ok (.invokevirtual 81, 3) := by decide +kernel
theorem dX5_send_92 : decode cX5_send 92 = .ok (.aload 6, 2) := by decide +kernel
theorem dX5_send_94 : decode cX5_send 94 = .ok (.getfield 85, 3) := by decide +kernel
theorem dX5_send_97 : decode cX5_send 97 = .ok (.ireturn, 1) := by decide +kernel
theorem dX5_bring_0 : decode cX5_bring 0 = .ok (.aload_n 0, 1) := by decide +kernel
theorem dX5_bring_1 : decode cX5_bring 1 = .ok (.iload_n 1, 1) := by decide +kernel
theorem dX5_bring_2 : decode cX5_bring 2 = .ok (.iconst 0, 1) := by decide +kernel
theorem dX5_bring_3 : decode cX5_bring 3 = .ok (.invokevirtual 88, 3) := by decide +kernel
theorem dX5_bring_6 : decode cX5_bring 6 = .ok (.ireturn, 1) := by decide +kernel
theorem dX5_twice_0 : decode cX5_twice 0 = .ok (.aload_n 0, 1) := by decide +kernel
theorem dX5_twice_1 : decode cX5_twice 1 = .ok (.iload_n 1, 1) := by decide +kernel
theorem dX5_twice_2 : decode cX5_twice 2 = .ok (.iconst 1, 1) := by decide +kernel
theorem dX5_twice_3 : decode cX5_twice 3 = .ok (.invokevirtual 88, 3) := by decide +kernel
theorem dX5_twice_6 : decode cX5_twice 6 = .ok (.ireturn, 1) := by decide +kernel
theorem dX5_up_0 : decode cX5_up 0 = .ok (.aload_n 0, 1) := by decide +kernel
theorem dX5_up_1 : decode cX5_up 1 = .ok (.iload_n 1, 1) := by decide +kernel
theorem dX5_up_2 : decode cX5_up 2 = .ok (.invokevirtual 92, 3) := by decide +kernel
theorem dX5_up_5 : decode cX5_up 5 = .ok (.ifCond .ne 5, 3) := by decide +kernel
theorem dX5_up_8 : decode cX5_up 8 = .ok (.iconst 0, 1) := by decide +kernel
theorem dX5_up_9 : decode cX5_up 9 = .ok (.ireturn, 1) := by decide +kernel
theorem dX5_up_10 : decode cX5_up 10 = .ok (.aload_n 0, 1) := by decide +kernel
theorem dX5_up_11 : decode cX5_up 11 = .ok (.getfield 46, 3) := by decide +kernel
theorem dX5_up_14 : decode cX5_up 14 = .ok (.iload_n 1, 1) := by decide +kernel
theorem dX5_up_15 : decode cX5_up 15 = .ok (.aaload, 1) := by decide +kernel
theorem dX5_up_16 : decode cX5_up 16 = .ok (.iload_n 2, 1) := by decide +kernel
theorem dX5_up_17 : decode cX5_up 17 = .ok (.putfield 96, 3) := by decide +kernel
theorem dX5_up_20 : decode cX5_up 20 = .ok (.iconst 1, 1) := by decide +kernel
theorem dX5_up_21 : decode cX5_up 21 = .ok (.ireturn, 1) := by decide +kernel
theorem dX5_flight_0 : decode cX5_flight 0 = .ok (.aload_n 0, 1) := by decide +kernel
theorem dX5_flight_1 : decode cX5_flight 1 = .ok (.getfield 25, 3) := by decide +kernel
theorem dX5_flight_4 : decode cX5_flight 4 = .ok (.iload_n 1, 1) := by decide +kernel
theorem dX5_flight_5 : decode cX5_flight 5 = .ok (.invokevirtual 100, 3) := by decide +kernel
theorem dX5_flight_8 : decode cX5_flight 8 = .ok (.ifCond .ne 5, 3) := by decide +kernel
theorem dX5_flight_11 : decode cX5_flight 11 = .ok (.iconst (-1), 1) := by decide +kernel
theorem dX5_flight_12 : decode cX5_flight 12 = .ok (.ireturn, 1) := by decide +kernel
theorem dX5_flight_13 : decode cX5_flight 13 = .ok (.aload_n 0, 1) := by decide +kernel
theorem dX5_flight_14 : decode cX5_flight 14 = .ok (.getfield 25, 3) := by decide +kernel
theorem dX5_flight_17 : decode cX5_flight 17 = .ok (.getfield 103, 3) := by decide +kernel
theorem dX5_flight_20 : decode cX5_flight 20 = .ok (.iload_n 1, 1) := by decide +kernel
theorem dX5_flight_21 : decode cX5_flight 21 = .ok (.aaload, 1) := by decide +kernel
theorem dX5_flight_22 : decode cX5_flight 22 = .ok (.astore_n 3, 1) := by decide +kernel
theorem dX5_flight_23 : decode cX5_flight 23 = .ok (.iload_n 2, 1) := by decide +kernel
theorem dX5_flight_24 : decode cX5_flight 24 = .ok (.tableswitch 82 0 4 #[36, 41, 52, 57, 65], 36) := by decide +kernel
theorem dX5_flight_60 : decode cX5_flight 60 = .ok (.aload_n 3, 1) := by decide +kernel
theorem dX5_flight_61 : decode cX5_flight 61 = .ok (.getfield 107, 3) := by decide +kernel
theorem dX5_flight_64 : decode cX5_flight 64 = .ok (.ireturn, 1) := by decide +kernel
theorem dX5_flight_65 : decode cX5_flight 65 = .ok (.aload_n 3, 1) := by decide +kernel
theorem dX5_flight_66 : decode cX5_flight 66 = .ok (.getfield 112, 3) := by decide +kernel
theorem dX5_flight_69 : decode cX5_flight 69 = .ok (.getfield 116, 3) := by decide +kernel
theorem dX5_flight_72 : decode cX5_flight 72 = .ok (.getfield 85, 3) := by decide +kernel
theorem dX5_flight_75 : decode cX5_flight 75 = .ok (.ireturn, 1) := by decide +kernel
theorem dX5_flight_76 : decode cX5_flight 76 = .ok (.aload_n 3, 1) := by decide +kernel
theorem dX5_flight_77 : decode cX5_flight 77 = .ok (.getfield 122, 3) := by decide +kernel
theorem dX5_flight_80 : decode cX5_flight 80 = .ok (.ireturn, 1) := by decide +kernel
theorem dX5_flight_81 : decode cX5_flight 81 = .ok (.aload_n 3, 1) := by decide +kernel
theorem dX5_flight_82 : decode cX5_flight 82 = .ok (.getfield 112, 3) := by decide +kernel
theorem dX5_flight_85 : decode cX5_flight 85 = .ok (.getfield 125, 3) := by decide +kernel
theorem dX5_flight_88 : decode cX5_flight 88 = .ok (.ireturn, 1) := by decide +kernel
theorem dX5_flight_89 : decode cX5_flight 89 = .ok (.aload_n 3, 1) := by decide +kernel
theorem dX5_flight_90 : decode cX5_flight 90 = .ok (.getfield 107, 3) := by decide +kernel
theorem dX5_flight_93 : decode cX5_flight 93 = .ok (.iconst 1, 1) := by decide +kernel
theorem dX5_flight_94 : decode cX5_flight 94 = .ok (.if_icmp .ne 10, 3) := by decide +kernel
theorem dX5_flight_97 : decode cX5_flight 97 = .ok (.aload_n 3, 1) := by decide +kernel
theorem dX5_flight_98 : decode cX5_flight 98 = .ok (.getfield 128, 3) := by decide +kernel
theorem dX5_flight_101 : decode cX5_flight 101 = .ok (.goto 4, 3) := by decide +kernel
theorem dX5_flight_104 : decode cX5_flight 104 = .ok (.iconst (-1), 1) := by decide +kernel
theorem dX5_flight_105 : decode cX5_flight 105 = .ok (.ireturn, 1) := by decide +kernel
theorem dX5_flight_106 : decode cX5_flight 106 = .ok (.iconst (-1), 1) := by decide +kernel
theorem dX5_flight_107 : decode cX5_flight 107 = .ok (.ireturn, 1) := by decide +kernel
theorem dX5_flying_0 : decode cX5_flying 0 = .ok (.aload_n 0, 1) := by decide +kernel
theorem dX5_flying_1 : decode cX5_flying 1 = .ok (.getfield 25, 3) := by decide +kernel
theorem dX5_flying_4 : decode cX5_flying 4 = .ok (.getfield 131, 3) := by decide +kernel
theorem dX5_flying_7 : decode cX5_flying 7 = .ok (.ireturn, 1) := by decide +kernel
theorem dX5_taken_0 : decode cX5_taken 0 = .ok (.aload_n 0, 1) := by decide +kernel
theorem dX5_taken_1 : decode cX5_taken 1 = .ok (.iload_n 1, 1) := by decide +kernel
theorem dX5_taken_2 : decode cX5_taken 2 = .ok (.invokevirtual 92, 3) := by decide +kernel
theorem dX5_taken_5 : decode cX5_taken 5 = .ok (.ifCond .eq 20, 3) := by decide +kernel
theorem dX5_taken_8 : decode cX5_taken 8 = .ok (.iload_n 2, 1) := by decide +kernel
theorem dX5_taken_9 : decode cX5_taken 9 = .ok (.ifCond .lt 16, 3) := by decide +kernel
theorem dX5_taken_12 : decode cX5_taken 12 = .ok (.iload_n 2, 1) := by decide +kernel
theorem dX5_taken_13 : decode cX5_taken 13 = .ok (.aload_n 0, 1) := by decide +kernel
theorem dX5_taken_14 : decode cX5_taken 14 = .ok (.getfield 46, 3) := by decide +kernel
theorem dX5_taken_17 : decode cX5_taken 17 = .ok (.iload_n 1, 1) := by decide +kernel
theorem dX5_taken_18 : decode cX5_taken 18 = .ok (.aaload, 1) := by decide +kernel
theorem dX5_taken_19 : decode cX5_taken 19 = .ok (.getfield 134, 3) := by decide +kernel
theorem dX5_taken_22 : decode cX5_taken 22 = .ok (.if_icmp .lt 5, 3) := by decide +kernel
theorem dX5_taken_25 : decode cX5_taken 25 = .ok (.iconst (-1), 1) := by decide +kernel
theorem dX5_taken_26 : decode cX5_taken 26 = .ok (.ireturn, 1) := by decide +kernel
theorem dX5_taken_27 : decode cX5_taken 27 = .ok (.aload_n 0, 1) := by decide +kernel
theorem dX5_taken_28 : decode cX5_taken 28 = .ok (.getfield 46, 3) := by decide +kernel
theorem dX5_taken_31 : decode cX5_taken 31 = .ok (.iload_n 1, 1) := by decide +kernel
theorem dX5_taken_32 : decode cX5_taken 32 = .ok (.aaload, 1) := by decide +kernel
theorem dX5_taken_33 : decode cX5_taken 33 = .ok (.getfield 137, 3) := by decide +kernel
theorem dX5_taken_36 : decode cX5_taken 36 = .ok (.iload_n 2, 1) := by decide +kernel
theorem dX5_taken_37 : decode cX5_taken 37 = .ok (.aaload, 1) := by decide +kernel
theorem dX5_taken_38 : decode cX5_taken 38 = .ok (.getfield 116, 3) := by decide +kernel
theorem dX5_taken_41 : decode cX5_taken 41 = .ok (.getfield 85, 3) := by decide +kernel
theorem dX5_taken_44 : decode cX5_taken 44 = .ok (.ireturn, 1) := by decide +kernel
theorem dX5_answer_0 : decode cX5_answer 0 = .ok (.aload_n 0, 1) := by decide +kernel
theorem dX5_answer_1 : decode cX5_answer 1 = .ok (.iload_n 1, 1) := by decide +kernel
theorem dX5_answer_2 : decode cX5_answer 2 = .ok (.invokevirtual 141, 3) := by decide +kernel
theorem dX5_answer_5 : decode cX5_answer 5 = .ok (.ifCond .eq 15, 3) := by decide +kernel
theorem dX5_answer_8 : decode cX5_answer 8 = .ok (.aload_n 0, 1) := by decide +kernel
theorem dX5_answer_9 : decode cX5_answer 9 = .ok (.getfield 18, 3) := by decide +kernel
theorem dX5_answer_12 : decode cX5_answer 12 = .ok (.iload_n 1, 1) := by decide +kernel
theorem dX5_answer_13 : decode cX5_answer 13 = .ok (.aaload, 1) := by decide +kernel
theorem dX5_answer_14 : decode cX5_answer 14 = .ok (.getfield 144, 3) := by decide +kernel
theorem dX5_answer_17 : decode cX5_answer 17 = .ok (.goto 5, 3) := by decide +kernel
theorem dX5_answer_20 : decode cX5_answer 20 = .ok (.bipush (-2), 2) := by decide +kernel
theorem dX5_answer_22 : decode cX5_answer 22 = .ok (.ireturn, 1) := by decide +kernel
theorem dX5_answered_0 : decode cX5_answered 0 = .ok (.aload_n 0, 1) := by decide +kernel
theorem dX5_answered_1 : decode cX5_answered 1 = .ok (.iload_n 1, 1) := by decide +kernel
theorem dX5_answered_2 : decode cX5_answered 2 = .ok (.invokevirtual 147, 3) := by decide +kernel
theorem dX5_answered_5 : decode cX5_answered 5 = .ok (.ifCond .eq 19, 3) := by decide +kernel
theorem dX5_answered_8 : decode cX5_answered 8 = .ok (.aload_n 0, 1) := by decide +kernel
theorem dX5_answered_9 : decode cX5_answered 9 = .ok (.getfield 18, 3) := by decide +kernel
theorem dX5_answered_12 : decode cX5_answered 12 = .ok (.iload_n 1, 1) := by decide +kernel
theorem dX5_answered_13 : decode cX5_answered 13 = .ok (.aaload, 1) := by decide +kernel
theorem dX5_answered_14 : decode cX5_answered 14 = .ok (.getfield 150, 3) := by decide +kernel
theorem dX5_answered_17 : decode cX5_answered 17 = .ok (.ifCond .eq 7, 3) := by decide +kernel
theorem dX5_answered_20 : decode cX5_answered 20 = .ok (.iconst 1, 1) := by decide +kernel
theorem dX5_answered_21 : decode cX5_answered 21 = .ok (.goto 4, 3) := by decide +kernel
theorem dX5_answered_24 : decode cX5_answered 24 = .ok (.iconst 0, 1) := by decide +kernel
theorem dX5_answered_25 : decode cX5_answered 25 = .ok (.ireturn, 1) := by decide +kernel
theorem dX5_time_0 : decode cX5_time 0 = .ok (.aload_n 0, 1) := by decide +kernel
theorem dX5_time_1 : decode cX5_time 1 = .ok (.iload_n 1, 1) := by decide +kernel
theorem dX5_time_2 : decode cX5_time 2 = .ok (.invokevirtual 147, 3) := by decide +kernel
theorem dX5_time_5 : decode cX5_time 5 = .ok (.ifCond .eq 11, 3) := by decide +kernel
theorem dX5_time_8 : decode cX5_time 8 = .ok (.aload_n 0, 1) := by decide +kernel
theorem dX5_time_9 : decode cX5_time 9 = .ok (.iload_n 2, 1) := by decide +kernel
theorem dX5_time_10 : decode cX5_time 10 = .ok (.invokevirtual 92, 3) := by decide +kernel
theorem dX5_time_13 : decode cX5_time 13 = .ok (.ifCond .ne 5, 3) := by decide +kernel
theorem dX5_time_16 : decode cX5_time 16 = .ok (.iconst (-1), 1) := by decide +kernel
theorem dX5_time_17 : decode cX5_time 17 = .ok (.ireturn, 1) := by decide +kernel
theorem dX5_time_18 : decode cX5_time 18 = .ok (.aload_n 0, 1) := by decide +kernel
theorem dX5_time_19 : decode cX5_time 19 = .ok (.getfield 46, 3) := by decide +kernel
theorem dX5_time_22 : decode cX5_time 22 = .ok (.iload_n 2, 1) := by decide +kernel
theorem dX5_time_23 : decode cX5_time 23 = .ok (.aaload, 1) := by decide +kernel
theorem dX5_time_24 : decode cX5_time 24 = .ok (.getfield 153, 3) := by decide +kernel
theorem dX5_time_27 : decode cX5_time 27 = .ok (.iload_n 1, 1) := by decide +kernel
theorem dX5_time_28 : decode cX5_time 28 = .ok (.aaload, 1) := by decide +kernel
theorem dX5_time_29 : decode cX5_time 29 = .ok (.astore 4, 2) := by decide +kernel
theorem dX5_time_31 : decode cX5_time 31 = .ok (.iload_n 3, 1) := by decide +kernel
theorem dX5_time_32 : decode cX5_time 32 = .ok (.tableswitch 77 0 2 #[28, 43, 58], 28) := by decide +kernel
theorem dX5_time_60 : decode cX5_time 60 = .ok (.aload 4, 2) := by decide +kernel
theorem dX5_time_62 : decode cX5_time 62 = .ok (.ifnull 11, 3) := by decide +kernel
theorem dX5_time_65 : decode cX5_time 65 = .ok (.aload 4, 2) := by decide +kernel
theorem dX5_time_67 : decode cX5_time 67 = .ok (.getfield 156, 3) := by decide +kernel
theorem dX5_time_70 : decode cX5_time 70 = .ok (.goto 4, 3) := by decide +kernel
theorem dX5_time_73 : decode cX5_time 73 = .ok (.iconst (-1), 1) := by decide +kernel
theorem dX5_time_74 : decode cX5_time 74 = .ok (.ireturn, 1) := by decide +kernel
theorem dX5_time_75 : decode cX5_time 75 = .ok (.aload 4, 2) := by decide +kernel
theorem dX5_time_77 : decode cX5_time 77 = .ok (.ifnull 11, 3) := by decide +kernel
theorem dX5_time_80 : decode cX5_time 80 = .ok (.aload 4, 2) := by decide +kernel
theorem dX5_time_82 : decode cX5_time 82 = .ok (.getfield 159, 3) := by decide +kernel
theorem dX5_time_85 : decode cX5_time 85 = .ok (.goto 4, 3) := by decide +kernel
theorem dX5_time_88 : decode cX5_time 88 = .ok (.iconst (-1), 1) := by decide +kernel
theorem dX5_time_89 : decode cX5_time 89 = .ok (.ireturn, 1) := by decide +kernel
theorem dX5_time_90 : decode cX5_time 90 = .ok (.aload 4, 2) := by decide +kernel
theorem dX5_time_92 : decode cX5_time 92 = .ok (.ifnull 15, 3) := by decide +kernel
theorem dX5_time_95 : decode cX5_time 95 = .ok (.aload 4, 2) := by decide +kernel
theorem dX5_time_97 : decode cX5_time 97 = .ok (.getfield 162, 3) := by decide +kernel
theorem dX5_time_100 : decode cX5_time 100 = .ok (.ifCond .eq 7, 3) := by decide +kernel
theorem dX5_time_103 : decode cX5_time 103 = .ok (.iconst 1, 1) := by decide +kernel
theorem dX5_time_104 : decode cX5_time 104 = .ok (.goto 4, 3) := by decide +kernel
theorem dX5_time_107 : decode cX5_time 107 = .ok (.iconst 0, 1) := by decide +kernel
theorem dX5_time_108 : decode cX5_time 108 = .ok (.ireturn, 1) := by decide +kernel
theorem dX5_time_109 : decode cX5_time 109 = .ok (.iconst (-1), 1) := by decide +kernel
theorem dX5_time_110 : decode cX5_time 110 = .ok (.ireturn, 1) := by decide +kernel
theorem dX5_value_0 : decode cX5_value 0 = .ok (.iload_n 1, 1) := by decide +kernel
theorem dX5_value_1 : decode cX5_value 1 = .ok (.invokestatic 165, 3) := by decide +kernel
theorem dX5_value_4 : decode cX5_value 4 = .ok (.ifCond .eq 12, 3) := by decide +kernel
theorem dX5_value_7 : decode cX5_value 7 = .ok (.aload_n 0, 1) := by decide +kernel
theorem dX5_value_8 : decode cX5_value 8 = .ok (.getfield 9, 3) := by decide +kernel
theorem dX5_value_11 : decode cX5_value 11 = .ok (.iload_n 1, 1) := by decide +kernel
theorem dX5_value_12 : decode cX5_value 12 = .ok (.iaload, 1) := by decide +kernel
theorem dX5_value_13 : decode cX5_value 13 = .ok (.goto 4, 3) := by decide +kernel
theorem dX5_value_16 : decode cX5_value 16 = .ok (.iconst (-1), 1) := by decide +kernel
theorem dX5_value_17 : decode cX5_value 17 = .ok (.ireturn, 1) := by decide +kernel
theorem dX5_clock_0 : decode cX5_clock 0 = .ok (.aload_n 0, 1) := by decide +kernel
theorem dX5_clock_1 : decode cX5_clock 1 = .ok (.iload_n 1, 1) := by decide +kernel
theorem dX5_clock_2 : decode cX5_clock 2 = .ok (.invokevirtual 92, 3) := by decide +kernel
theorem dX5_clock_5 : decode cX5_clock 5 = .ok (.ifCond .eq 15, 3) := by decide +kernel
theorem dX5_clock_8 : decode cX5_clock 8 = .ok (.aload_n 0, 1) := by decide +kernel
theorem dX5_clock_9 : decode cX5_clock 9 = .ok (.getfield 46, 3) := by decide +kernel
theorem dX5_clock_12 : decode cX5_clock 12 = .ok (.iload_n 1, 1) := by decide +kernel
theorem dX5_clock_13 : decode cX5_clock 13 = .ok (.aaload, 1) := by decide +kernel
theorem dX5_clock_14 : decode cX5_clock 14 = .ok (.getfield 168, 3) := by decide +kernel
theorem dX5_clock_17 : decode cX5_clock 17 = .ok (.goto 4, 3) := by decide +kernel
theorem dX5_clock_20 : decode cX5_clock 20 = .ok (.iconst (-1), 1) := by decide +kernel
theorem dX5_clock_21 : decode cX5_clock 21 = .ok (.ireturn, 1) := by decide +kernel
theorem dX5_seen_0 : decode cX5_seen 0 = .ok (.iload_n 1, 1) := by decide +kernel
theorem dX5_seen_1 : decode cX5_seen 1 = .ok (.invokestatic 171, 3) := by decide +kernel
theorem dX5_seen_4 : decode cX5_seen 4 = .ok (.ifCond .eq 12, 3) := by decide +kernel
theorem dX5_seen_7 : decode cX5_seen 7 = .ok (.aload_n 0, 1) := by decide +kernel
theorem dX5_seen_8 : decode cX5_seen 8 = .ok (.getfield 13, 3) := by decide +kernel
theorem dX5_seen_11 : decode cX5_seen 11 = .ok (.iload_n 1, 1) := by decide +kernel
theorem dX5_seen_12 : decode cX5_seen 12 = .ok (.iaload, 1) := by decide +kernel
theorem dX5_seen_13 : decode cX5_seen 13 = .ok (.goto 4, 3) := by decide +kernel
theorem dX5_seen_16 : decode cX5_seen 16 = .ok (.iconst (-1), 1) := by decide +kernel
theorem dX5_seen_17 : decode cX5_seen 17 = .ok (.ireturn, 1) := by decide +kernel
theorem dX5_agree_0 : decode cX5_agree 0 = .ok (.aload_n 0, 1) := by decide +kernel
theorem dX5_agree_1 : decode cX5_agree 1 = .ok (.invokevirtual 174, 3) := by decide +kernel
theorem dX5_agree_4 : decode cX5_agree 4 = .ok (.ifCond .eq 21, 3) := by decide +kernel
theorem dX5_agree_7 : decode cX5_agree 7 = .ok (.aload_n 0, 1) := by decide +kernel
theorem dX5_agree_8 : decode cX5_agree 8 = .ok (.invokevirtual 178, 3) := by decide +kernel
theorem dX5_agree_11 : decode cX5_agree 11 = .ok (.ifCond .eq 14, 3) := by decide +kernel
theorem dX5_agree_14 : decode cX5_agree 14 = .ok (.aload_n 0, 1) := by decide +kernel
theorem dX5_agree_15 : decode cX5_agree 15 = .ok (.invokevirtual 181, 3) := by decide +kernel
theorem dX5_agree_18 : decode cX5_agree 18 = .ok (.ifCond .eq 7, 3) := by decide +kernel
theorem dX5_agree_21 : decode cX5_agree 21 = .ok (.iconst 1, 1) := by decide +kernel
theorem dX5_agree_22 : decode cX5_agree 22 = .ok (.goto 4, 3) := by decide +kernel
theorem dX5_agree_25 : decode cX5_agree 25 = .ok (.iconst 0, 1) := by decide +kernel
theorem dX5_agree_26 : decode cX5_agree 26 = .ok (.ireturn, 1) := by decide +kernel
theorem dX5_count_0 : decode cX5_count 0 = .ok (.iload_n 1, 1) := by decide +kernel
theorem dX5_count_1 : decode cX5_count 1 = .ok (.tableswitch 61 0 4 #[35, 41, 46, 51, 56], 35) := by decide +kernel
theorem dX5_count_36 : decode cX5_count 36 = .ok (.aload_n 0, 1) := by decide +kernel
theorem dX5_count_37 : decode cX5_count 37 = .ok (.getfield 46, 3) := by decide +kernel
theorem dX5_count_40 : decode cX5_count 40 = .ok (.arraylength, 1) := by decide +kernel
theorem dX5_count_41 : decode cX5_count 41 = .ok (.ireturn, 1) := by decide +kernel
theorem dX5_count_42 : decode cX5_count 42 = .ok (.aload_n 0, 1) := by decide +kernel
theorem dX5_count_43 : decode cX5_count 43 = .ok (.getfield 59, 3) := by decide +kernel
theorem dX5_count_46 : decode cX5_count 46 = .ok (.ireturn, 1) := by decide +kernel
theorem dX5_count_47 : decode cX5_count 47 = .ok (.aload_n 0, 1) := by decide +kernel
theorem dX5_count_48 : decode cX5_count 48 = .ok (.getfield 184, 3) := by decide +kernel
theorem dX5_count_51 : decode cX5_count 51 = .ok (.ireturn, 1) := by decide +kernel
theorem dX5_count_52 : decode cX5_count 52 = .ok (.aload_n 0, 1) := by decide +kernel
theorem dX5_count_53 : decode cX5_count 53 = .ok (.invokevirtual 187, 3) := by decide +kernel
theorem dX5_count_56 : decode cX5_count 56 = .ok (.ireturn, 1) := by decide +kernel
theorem dX5_count_57 : decode cX5_count 57 = .ok (.aload_n 0, 1) := by decide +kernel
theorem dX5_count_58 : decode cX5_count 58 = .ok (.invokevirtual 191, 3) := by decide +kernel
theorem dX5_count_61 : decode cX5_count 61 = .ok (.ireturn, 1) := by decide +kernel
theorem dX5_count_62 : decode cX5_count 62 = .ok (.iconst (-1), 1) := by decide +kernel
theorem dX5_count_63 : decode cX5_count 63 = .ok (.ireturn, 1) := by decide +kernel
theorem dX5_isGroup_0 : decode cX5_isGroup 0 = .ok (.iload_n 1, 1) := by decide +kernel
theorem dX5_isGroup_1 : decode cX5_isGroup 1 = .ok (.ifCond .lt 16, 3) := by decide +kernel
theorem dX5_isGroup_4 : decode cX5_isGroup 4 = .ok (.iload_n 1, 1) := by decide +kernel
theorem dX5_isGroup_5 : decode cX5_isGroup 5 = .ok (.aload_n 0, 1) := by decide +kernel
theorem dX5_isGroup_6 : decode cX5_isGroup 6 = .ok (.getfield 46, 3) := by decide +kernel
theorem dX5_isGroup_9 : decode cX5_isGroup 9 = .ok (.arraylength, 1) := by decide +kernel
theorem dX5_isGroup_10 : decode cX5_isGroup 10 = .ok (.if_icmp .ge 7, 3) := by decide +kernel
theorem dX5_isGroup_13 : decode cX5_isGroup 13 = .ok (.iconst 1, 1) := by decide +kernel
theorem dX5_isGroup_14 : decode cX5_isGroup 14 = .ok (.goto 4, 3) := by decide +kernel
theorem dX5_isGroup_17 : decode cX5_isGroup 17 = .ok (.iconst 0, 1) := by decide +kernel
theorem dX5_isGroup_18 : decode cX5_isGroup 18 = .ok (.ireturn, 1) := by decide +kernel
theorem dX5_hasOrder_0 : decode cX5_hasOrder 0 = .ok (.iload_n 1, 1) := by decide +kernel
theorem dX5_hasOrder_1 : decode cX5_hasOrder 1 = .ok (.ifCond .lt 15, 3) := by decide +kernel
theorem dX5_hasOrder_4 : decode cX5_hasOrder 4 = .ok (.iload_n 1, 1) := by decide +kernel
theorem dX5_hasOrder_5 : decode cX5_hasOrder 5 = .ok (.aload_n 0, 1) := by decide +kernel
theorem dX5_hasOrder_6 : decode cX5_hasOrder 6 = .ok (.getfield 59, 3) := by decide +kernel
theorem dX5_hasOrder_9 : decode cX5_hasOrder 9 = .ok (.if_icmp .ge 7, 3) := by decide +kernel
theorem dX5_hasOrder_12 : decode cX5_hasOrder 12 = .ok (.iconst 1, 1) := by decide +kernel
theorem dX5_hasOrder_13 : decode cX5_hasOrder 13 = .ok (.goto 4, 3) := by decide +kernel
theorem dX5_hasOrder_16 : decode cX5_hasOrder 16 = .ok (.iconst 0, 1) := by decide +kernel
theorem dX5_hasOrder_17 : decode cX5_hasOrder 17 = .ok (.ireturn, 1) := by decide +kernel
theorem dX5_isClient_0 : decode cX5_isClient 0 = .ok (.iload_n 0, 1) := by decide +kernel
theorem dX5_isClient_1 : decode cX5_isClient 1 = .ok (.ifCond .lt 12, 3) := by decide +kernel
theorem dX5_isClient_4 : decode cX5_isClient 4 = .ok (.iload_n 0, 1) := by decide +kernel
theorem dX5_isClient_5 : decode cX5_isClient 5 = .ok (.iconst 4, 1) := by decide +kernel
theorem dX5_isClient_6 : decode cX5_isClient 6 = .ok (.if_icmp .ge 7, 3) := by decide +kernel
theorem dX5_isClient_9 : decode cX5_isClient 9 = .ok (.iconst 1, 1) := by decide +kernel
theorem dX5_isClient_10 : decode cX5_isClient 10 = .ok (.goto 4, 3) := by decide +kernel
theorem dX5_isClient_13 : decode cX5_isClient 13 = .ok (.iconst 0, 1) := by decide +kernel
theorem dX5_isClient_14 : decode cX5_isClient 14 = .ok (.ireturn, 1) := by decide +kernel
theorem dX5_isKey_0 : decode cX5_isKey 0 = .ok (.iload_n 0, 1) := by decide +kernel
theorem dX5_isKey_1 : decode cX5_isKey 1 = .ok (.ifCond .lt 13, 3) := by decide +kernel
theorem dX5_isKey_4 : decode cX5_isKey 4 = .ok (.iload_n 0, 1) := by decide +kernel
theorem dX5_isKey_5 : decode cX5_isKey 5 = .ok (.bipush 16, 2) := by decide +kernel
theorem dX5_isKey_7 : decode cX5_isKey 7 = .ok (.if_icmp .ge 7, 3) := by decide +kernel
theorem dX5_isKey_10 : decode cX5_isKey 10 = .ok (.iconst 1, 1) := by decide +kernel
theorem dX5_isKey_11 : decode cX5_isKey 11 = .ok (.goto 4, 3) := by decide +kernel
theorem dX5_isKey_14 : decode cX5_isKey 14 = .ok (.iconst 0, 1) := by decide +kernel
theorem dX5_isKey_15 : decode cX5_isKey 15 = .ok (.ireturn, 1) := by decide +kernel
theorem dX5_isOrder_0 : decode cX5_isOrder 0 = .ok (.iload_n 0, 1) := by decide +kernel
theorem dX5_isOrder_1 : decode cX5_isOrder 1 = .ok (.invokestatic 171, 3) := by decide +kernel
theorem dX5_isOrder_4 : decode cX5_isOrder 4 = .ok (.ifCond .eq 42, 3) := by decide +kernel
theorem dX5_isOrder_7 : decode cX5_isOrder 7 = .ok (.iload_n 1, 1) := by decide +kernel
theorem dX5_isOrder_8 : decode cX5_isOrder 8 = .ok (.ifCond .lt 38, 3) := by decide +kernel
theorem dX5_isOrder_11 : decode cX5_isOrder 11 = .ok (.iload_n 1, 1) := by decide +kernel
theorem dX5_isOrder_12 : decode cX5_isOrder 12 = .ok (.iconst 3, 1) := by decide +kernel
theorem dX5_isOrder_13 : decode cX5_isOrder 13 = .ok (.if_icmp .gt 33, 3) := by decide +kernel
theorem dX5_isOrder_16 : decode cX5_isOrder 16 = .ok (.iload_n 2, 1) := by decide +kernel
theorem dX5_isOrder_17 : decode cX5_isOrder 17 = .ok (.invokestatic 165, 3) := by decide +kernel
theorem dX5_isOrder_20 : decode cX5_isOrder 20 = .ok (.ifCond .eq 26, 3) := by decide +kernel
theorem dX5_isOrder_23 : decode cX5_isOrder 23 = .ok (.iload_n 3, 1) := by decide +kernel
theorem dX5_isOrder_24 : decode cX5_isOrder 24 = .ok (.invokestatic 165, 3) := by decide +kernel
theorem dX5_isOrder_27 : decode cX5_isOrder 27 = .ok (.ifCond .eq 19, 3) := by decide +kernel
theorem dX5_isOrder_30 : decode cX5_isOrder 30 = .ok (.iload 4, 2) := by decide +kernel
theorem dX5_isOrder_32 : decode cX5_isOrder 32 = .ok (.ifCond .lt 14, 3) := by decide +kernel
theorem dX5_isOrder_35 : decode cX5_isOrder 35 = .ok (.iload 4, 2) := by decide +kernel
theorem dX5_isOrder_37 : decode cX5_isOrder 37 = .ok (.ldc 194, 2) := by decide +kernel
theorem dX5_isOrder_39 : decode cX5_isOrder 39 = .ok (.if_icmp .gt 7, 3) := by decide +kernel
theorem dX5_isOrder_42 : decode cX5_isOrder 42 = .ok (.iconst 1, 1) := by decide +kernel
theorem dX5_isOrder_43 : decode cX5_isOrder 43 = .ok (.goto 4, 3) := by decide +kernel
theorem dX5_isOrder_46 : decode cX5_isOrder 46 = .ok (.iconst 0, 1) := by decide +kernel
theorem dX5_isOrder_47 : decode cX5_isOrder 47 = .ok (.ireturn, 1) := by decide +kernel
theorem dX5_keeperOf_0 : decode cX5_keeperOf 0 = .ok (.aload_n 0, 1) := by decide +kernel
theorem dX5_keeperOf_1 : decode cX5_keeperOf 1 = .ok (.getfield 46, 3) := by decide +kernel
theorem dX5_keeperOf_4 : decode cX5_keeperOf 4 = .ok (.iload_n 1, 1) := by decide +kernel
theorem dX5_keeperOf_5 : decode cX5_keeperOf 5 = .ok (.aload_n 0, 1) := by decide +kernel
theorem dX5_keeperOf_6 : decode cX5_keeperOf 6 = .ok (.getfield 46, 3) := by decide +kernel
theorem dX5_keeperOf_9 : decode cX5_keeperOf 9 = .ok (.arraylength, 1) := by decide +kernel
theorem dX5_keeperOf_10 : decode cX5_keeperOf 10 = .ok (.irem, 1) := by decide +kernel
theorem dX5_keeperOf_11 : decode cX5_keeperOf 11 = .ok (.aaload, 1) := by decide +kernel
theorem dX5_keeperOf_12 : decode cX5_keeperOf 12 = .ok (.areturn, 1) := by decide +kernel
theorem dX5_answeredOrdersOf_0 : decode cX5_answeredOrdersOf 0 = .ok (.lconst 0, 1) := by decide +kernel
theorem dX5_answeredOrdersOf_1 : decode cX5_answeredOrdersOf 1 = .ok (.lstore_n 2, 1) := by decide +kernel
theorem dX5_answeredOrdersOf_2 : decode cX5_answeredOrdersOf 2 = .ok (.iconst 0, 1) := by decide +kernel
theorem dX5_answeredOrdersOf_3 : decode cX5_answeredOrdersOf 3 = .ok (.istore 4, 2) := by decide +kernel
theorem dX5_answeredOrdersOf_5 : decode cX5_answeredOrdersOf 5 = .ok (.iload 4, 2) := by decide +kernel
theorem dX5_answeredOrdersOf_7 : decode cX5_answeredOrdersOf 7 = .ok (.aload_n 0, 1) := by decide +kernel
theorem dX5_answeredOrdersOf_8 : decode cX5_answeredOrdersOf 8 = .ok (.getfield 59, 3) := by decide +kernel
theorem dX5_answeredOrdersOf_11 : decode cX5_answeredOrdersOf 11 = .ok (.if_icmp .ge 43, 3) := by decide +kernel
theorem dX5_answeredOrdersOf_14 : decode cX5_answeredOrdersOf 14 = .ok (.aload_n 0, 1) := by decide +kernel
theorem dX5_answeredOrdersOf_15 : decode cX5_answeredOrdersOf 15 = .ok (.getfield 18, 3) := by decide +kernel
theorem dX5_answeredOrdersOf_18 : decode cX5_answeredOrdersOf 18 = .ok (.iload 4, 2) := by decide +kernel
theorem dX5_answeredOrdersOf_20 : decode cX5_answeredOrdersOf 20 = .ok (.aaload, 1) := by decide +kernel
theorem dX5_answeredOrdersOf_21 : decode cX5_answeredOrdersOf 21 = .ok (.getfield 195, 3) := by decide +kernel
theorem dX5_answeredOrdersOf_24 : decode cX5_answeredOrdersOf 24 = .ok (.iload_n 1, 1) := by decide +kernel
theorem dX5_answeredOrdersOf_25 : decode cX5_answeredOrdersOf 25 = .ok (.if_icmp .ne 23, 3) := by decide +kernel
theorem dX5_answeredOrdersOf_28 : decode cX5_answeredOrdersOf 28 = .ok (.aload_n 0, 1) := by decide +kernel
theorem dX5_answeredOrdersOf_29 : decode cX5_answeredOrdersOf 29 = .ok (.getfield 18, 3) := by decide +kernel
theorem dX5_answeredOrdersOf_32 : decode cX5_answeredOrdersOf 32 = .ok (.iload 4, 2) := by decide +kernel
theorem dX5_answeredOrdersOf_34 : decode cX5_answeredOrdersOf 34 = .ok (.aaload, 1) := by decide +kernel
theorem dX5_answeredOrdersOf_35 : decode cX5_answeredOrdersOf 35 = .ok (.getfield 150, 3) := by decide +kernel
theorem dX5_answeredOrdersOf_38 : decode cX5_answeredOrdersOf 38 = .ok (.ifCond .eq 10, 3) := by decide +kernel
theorem dX5_answeredOrdersOf_41 : decode cX5_answeredOrdersOf 41 = .ok (.lload_n 2, 1) := by decide +kernel
theorem dX5_answeredOrdersOf_42 : decode cX5_answeredOrdersOf 42 = .ok (.lconst 1, 1) := by decide +kernel
theorem dX5_answeredOrdersOf_43 : decode cX5_answeredOrdersOf 43 = .ok (.iload 4, 2) := by decide +kernel
theorem dX5_answeredOrdersOf_45 : decode cX5_answeredOrdersOf 45 = .ok (.lshl, 1) := by decide +kernel
theorem dX5_answeredOrdersOf_46 : decode cX5_answeredOrdersOf 46 = .ok (.lor, 1) := by decide +kernel
theorem dX5_answeredOrdersOf_47 : decode cX5_answeredOrdersOf 47 = .ok (.lstore_n 2, 1) := by decide +kernel
theorem dX5_answeredOrdersOf_48 : decode cX5_answeredOrdersOf 48 = .ok (.iinc 4 1, 3) := by decide +kernel
theorem dX5_answeredOrdersOf_51 : decode cX5_answeredOrdersOf 51 = .ok (.goto (-46), 3) := by decide +kernel
theorem dX5_answeredOrdersOf_54 : decode cX5_answeredOrdersOf 54 = .ok (.lload_n 2, 1) := by decide +kernel
theorem dX5_answeredOrdersOf_55 : decode cX5_answeredOrdersOf 55 = .ok (.lreturn, 1) := by decide +kernel
theorem dX5_putStarts_0 : decode cX5_putStarts 0 = .ok (.aload_n 0, 1) := by decide +kernel
theorem dX5_putStarts_1 : decode cX5_putStarts 1 = .ok (.aload_n 1, 1) := by decide +kernel
theorem dX5_putStarts_2 : decode cX5_putStarts 2 = .ok (.getfield 198, 3) := by decide +kernel
theorem dX5_putStarts_5 : decode cX5_putStarts 5 = .ok (.invokevirtual 201, 3) := by decide +kernel
theorem dX5_putStarts_8 : decode cX5_putStarts 8 = .ok (.astore_n 2, 1) := by decide +kernel
theorem dX5_putStarts_9 : decode cX5_putStarts 9 = .ok (.aload_n 0, 1) := by decide +kernel
theorem dX5_putStarts_10 : decode cX5_putStarts 10 = .ok (.aload_n 1, 1) := by decide +kernel
theorem dX5_putStarts_11 : decode cX5_putStarts 11 = .ok (.getfield 205, 3) := by decide +kernel
theorem dX5_putStarts_14 : decode cX5_putStarts 14 = .ok (.invokevirtual 201, 3) := by decide +kernel
theorem dX5_putStarts_17 : decode cX5_putStarts 17 = .ok (.astore_n 3, 1) := by decide +kernel
theorem dX5_putStarts_18 : decode cX5_putStarts 18 = .ok (.aload_n 2, 1) := by decide +kernel
theorem dX5_putStarts_19 : decode cX5_putStarts 19 = .ok (.getfield 208, 3) := by decide +kernel
theorem dX5_putStarts_22 : decode cX5_putStarts 22 = .ok (.aload_n 3, 1) := by decide +kernel
theorem dX5_putStarts_23 : decode cX5_putStarts 23 = .ok (.getfield 208, 3) := by decide +kernel
theorem dX5_putStarts_26 : decode cX5_putStarts 26 = .ok (.if_icmp .gt 7, 3) := by decide +kernel
theorem dX5_putStarts_29 : decode cX5_putStarts 29 = .ok (.iconst 1, 1) := by decide +kernel
theorem dX5_putStarts_30 : decode cX5_putStarts 30 = .ok (.goto 4, 3) := by decide +kernel
theorem dX5_putStarts_33 : decode cX5_putStarts 33 = .ok (.iconst 0, 1) := by decide +kernel
theorem dX5_putStarts_34 : decode cX5_putStarts 34 = .ok (.istore 4, 2) := by decide +kernel
theorem dX5_putStarts_36 : decode cX5_putStarts 36 = .ok (.iload 4, 2) := by decide +kernel
theorem dX5_putStarts_38 : decode cX5_putStarts 38 = .ok (.ifCond .eq 7, 3) := by decide +kernel
theorem dX5_putStarts_41 : decode cX5_putStarts 41 = .ok (.aload_n 2, 1) := by decide +kernel
theorem dX5_putStarts_42 : decode cX5_putStarts 42 = .ok (.goto 4, 3) := by decide +kernel
theorem dX5_putStarts_45 : decode cX5_putStarts 45 = .ok (.aload_n 3, 1) := by decide +kernel
theorem dX5_putStarts_46 : decode cX5_putStarts 46 = .ok (.aload_n 1, 1) := by decide +kernel
theorem dX5_putStarts_47 : decode cX5_putStarts 47 = .ok (.invokevirtual 209, 3) := by decide +kernel
theorem dX5_putStarts_50 : decode cX5_putStarts 50 = .ok (.astore 5, 2) := by decide +kernel
theorem dX5_putStarts_52 : decode cX5_putStarts 52 = .ok (.aload_n 0, 1) := by decide +kernel
theorem dX5_putStarts_53 : decode cX5_putStarts 53 = .ok (.getfield 25, 3) := by decide +kernel
theorem dX5_putStarts_56 : decode cX5_putStarts 56 = .ok (.new 108, 3) := by decide +kernel
theorem dX5_putStarts_59 : decode cX5_putStarts 59 = .ok (.dup, 1) := by decide +kernel
theorem dX5_putStarts_60 : decode cX5_putStarts 60 = .ok (.iconst 0, 1) := by decide +kernel
theorem dX5_putStarts_61 : decode cX5_putStarts 61 = .ok (.iconst (-1), 1) := by decide +kernel
theorem dX5_putStarts_62 : decode cX5_putStarts 62 = .ok (.aload 5, 2) := by decide +kernel
theorem dX5_putStarts_64 : decode cX5_putStarts 64 = .ok (.iconst 0, 1) := by decide +kernel
theorem dX5_putStarts_65 : decode cX5_putStarts 65 = .ok (.invokespecial 213, 3) := by decide +kernel
theorem dX5_putStarts_68 : decode cX5_putStarts 68 = .ok (.invokevirtual 216, 3) := by decide +kernel
theorem dX5_putStarts_71 : decode cX5_putStarts 71 = .ok (.aload_n 2, 1) := by decide +kernel
theorem dX5_putStarts_72 : decode cX5_putStarts 72 = .ok (.aload_n 3, 1) := by decide +kernel
theorem dX5_putStarts_73 : decode cX5_putStarts 73 = .ok (.if_acmp .ne 4, 3) := by decide +kernel
theorem dX5_putStarts_76 : decode cX5_putStarts 76 = .ok (.return_, 1) := by decide +kernel
theorem dX5_putStarts_77 : decode cX5_putStarts 77 = .ok (.iload 4, 2) := by decide +kernel
