theorem dX5_putStarts_79 : decode cX5_putStarts 79 = .ok (.ifCond .eq 7, 3) := by decide +kernel
theorem dX5_putStarts_82 : decode cX5_putStarts 82 = .ok (.aload_n 3, 1) := by decide +kernel
theorem dX5_putStarts_83 : decode cX5_putStarts 83 = .ok (.goto 4, 3) := by decide +kernel
theorem dX5_putStarts_86 : decode cX5_putStarts 86 = .ok (.aload_n 2, 1) := by decide +kernel
theorem dX5_putStarts_87 : decode cX5_putStarts 87 = .ok (.aload_n 1, 1) := by decide +kernel
theorem dX5_putStarts_88 : decode cX5_putStarts 88 = .ok (.invokevirtual 209, 3) := by decide +kernel
theorem dX5_putStarts_91 : decode cX5_putStarts 91 = .ok (.astore 6, 2) := by decide +kernel
theorem dX5_putStarts_93 : decode cX5_putStarts 93 = .ok (.aload_n 0, 1) := by decide +kernel
theorem dX5_putStarts_94 : decode cX5_putStarts 94 = .ok (.getfield 25, 3) := by decide +kernel
theorem dX5_putStarts_97 : decode cX5_putStarts 97 = .ok (.new 108, 3) := by decide +kernel
theorem dX5_putStarts_100 : decode cX5_putStarts 100 = .ok (.dup, 1) := by decide +kernel
theorem dX5_putStarts_101 : decode cX5_putStarts 101 = .ok (.iconst 0, 1) := by decide +kernel
theorem dX5_putStarts_102 : decode cX5_putStarts 102 = .ok (.iconst (-1), 1) := by decide +kernel
theorem dX5_putStarts_103 : decode cX5_putStarts 103 = .ok (.aload 6, 2) := by decide +kernel
theorem dX5_putStarts_105 : decode cX5_putStarts 105 = .ok (.iconst 0, 1) := by decide +kernel
theorem dX5_putStarts_106 : decode cX5_putStarts 106 = .ok (.invokespecial 213, 3) := by decide +kernel
theorem dX5_putStarts_109 : decode cX5_putStarts 109 = .ok (.invokevirtual 216, 3) := by decide +kernel
theorem dX5_putStarts_112 : decode cX5_putStarts 112 = .ok (.aload 5, 2) := by decide +kernel
theorem dX5_putStarts_114 : decode cX5_putStarts 114 = .ok (.aload 6, 2) := by decide +kernel
theorem dX5_putStarts_116 : decode cX5_putStarts 116 = .ok (.putfield 220, 3) := by decide +kernel
theorem dX5_putStarts_119 : decode cX5_putStarts 119 = .ok (.aload 6, 2) := by decide +kernel
theorem dX5_putStarts_121 : decode cX5_putStarts 121 = .ok (.aload 5, 2) := by decide +kernel
theorem dX5_putStarts_123 : decode cX5_putStarts 123 = .ok (.putfield 220, 3) := by decide +kernel
theorem dX5_putStarts_126 : decode cX5_putStarts 126 = .ok (.return_, 1) := by decide +kernel
theorem dX5_deliver_0 : decode cX5_deliver 0 = .ok (.aload_n 0, 1) := by decide +kernel
theorem dX5_deliver_1 : decode cX5_deliver 1 = .ok (.getfield 25, 3) := by decide +kernel
theorem dX5_deliver_4 : decode cX5_deliver 4 = .ok (.iload_n 1, 1) := by decide +kernel
theorem dX5_deliver_5 : decode cX5_deliver 5 = .ok (.invokevirtual 100, 3) := by decide +kernel
theorem dX5_deliver_8 : decode cX5_deliver 8 = .ok (.ifCond .ne 5, 3) := by decide +kernel
theorem dX5_deliver_11 : decode cX5_deliver 11 = .ok (.iconst (-1), 1) := by decide +kernel
theorem dX5_deliver_12 : decode cX5_deliver 12 = .ok (.ireturn, 1) := by decide +kernel
theorem dX5_deliver_13 : decode cX5_deliver 13 = .ok (.aload_n 0, 1) := by decide +kernel
theorem dX5_deliver_14 : decode cX5_deliver 14 = .ok (.getfield 25, 3) := by decide +kernel
theorem dX5_deliver_17 : decode cX5_deliver 17 = .ok (.getfield 103, 3) := by decide +kernel
theorem dX5_deliver_20 : decode cX5_deliver 20 = .ok (.iload_n 1, 1) := by decide +kernel
theorem dX5_deliver_21 : decode cX5_deliver 21 = .ok (.aaload, 1) := by decide +kernel
theorem dX5_deliver_22 : decode cX5_deliver 22 = .ok (.astore_n 3, 1) := by decide +kernel
theorem dX5_deliver_23 : decode cX5_deliver 23 = .ok (.aload_n 0, 1) := by decide +kernel
theorem dX5_deliver_24 : decode cX5_deliver 24 = .ok (.getfield 46, 3) := by decide +kernel
theorem dX5_deliver_27 : decode cX5_deliver 27 = .ok (.aload_n 3, 1) := by decide +kernel
theorem dX5_deliver_28 : decode cX5_deliver 28 = .ok (.getfield 112, 3) := by decide +kernel
theorem dX5_deliver_31 : decode cX5_deliver 31 = .ok (.getfield 125, 3) := by decide +kernel
theorem dX5_deliver_34 : decode cX5_deliver 34 = .ok (.aaload, 1) := by decide +kernel
theorem dX5_deliver_35 : decode cX5_deliver 35 = .ok (.astore 4, 2) := by decide +kernel
theorem dX5_deliver_37 : decode cX5_deliver 37 = .ok (.aload 4, 2) := by decide +kernel
theorem dX5_deliver_39 : decode cX5_deliver 39 = .ok (.getfield 96, 3) := by decide +kernel
theorem dX5_deliver_42 : decode cX5_deliver 42 = .ok (.ifCond .ne 5, 3) := by decide +kernel
theorem dX5_deliver_45 : decode cX5_deliver 45 = .ok (.iconst (-1), 1) := by decide +kernel
theorem dX5_deliver_46 : decode cX5_deliver 46 = .ok (.ireturn, 1) := by decide +kernel
theorem dX5_deliver_47 : decode cX5_deliver 47 = .ok (.iload_n 2, 1) := by decide +kernel
theorem dX5_deliver_48 : decode cX5_deliver 48 = .ok (.ifCond .ne 11, 3) := by decide +kernel
theorem dX5_deliver_51 : decode cX5_deliver 51 = .ok (.aload_n 0, 1) := by decide +kernel
theorem dX5_deliver_52 : decode cX5_deliver 52 = .ok (.getfield 25, 3) := by decide +kernel
theorem dX5_deliver_55 : decode cX5_deliver 55 = .ok (.iload_n 1, 1) := by decide +kernel
theorem dX5_deliver_56 : decode cX5_deliver 56 = .ok (.invokevirtual 223, 3) := by decide +kernel
theorem dX5_deliver_59 : decode cX5_deliver 59 = .ok (.aload_n 0, 1) := by decide +kernel
theorem dX5_deliver_60 : decode cX5_deliver 60 = .ok (.dup, 1) := by decide +kernel
theorem dX5_deliver_61 : decode cX5_deliver 61 = .ok (.getfield 184, 3) := by decide +kernel
theorem dX5_deliver_64 : decode cX5_deliver 64 = .ok (.iconst 1, 1) := by decide +kernel
theorem dX5_deliver_65 : decode cX5_deliver 65 = .ok (.iadd, 1) := by decide +kernel
theorem dX5_deliver_66 : decode cX5_deliver 66 = .ok (.putfield 184, 3) := by decide +kernel
theorem dX5_deliver_69 : decode cX5_deliver 69 = .ok (.aload_n 0, 1) := by decide +kernel
theorem dX5_deliver_70 : decode cX5_deliver 70 = .ok (.aload 4, 2) := by decide +kernel
theorem dX5_deliver_72 : decode cX5_deliver 72 = .ok (.aload_n 3, 1) := by decide +kernel
theorem dX5_deliver_73 : decode cX5_deliver 73 = .ok (.invokevirtual 226, 3) := by decide +kernel
theorem dX5_deliver_76 : decode cX5_deliver 76 = .ok (.aload 4, 2) := by decide +kernel
theorem dX5_deliver_78 : decode cX5_deliver 78 = .ok (.invokevirtual 230, 3) := by decide +kernel
theorem dX5_deliver_81 : decode cX5_deliver 81 = .ok (.aload 4, 2) := by decide +kernel
theorem dX5_deliver_83 : decode cX5_deliver 83 = .ok (.invokevirtual 233, 3) := by decide +kernel
theorem dX5_deliver_86 : decode cX5_deliver 86 = .ok (.aload_n 0, 1) := by decide +kernel
theorem dX5_deliver_87 : decode cX5_deliver 87 = .ok (.aload 4, 2) := by decide +kernel
theorem dX5_deliver_89 : decode cX5_deliver 89 = .ok (.invokevirtual 236, 3) := by decide +kernel
theorem dX5_deliver_92 : decode cX5_deliver 92 = .ok (.aload_n 0, 1) := by decide +kernel
theorem dX5_deliver_93 : decode cX5_deliver 93 = .ok (.getfield 25, 3) := by decide +kernel
theorem dX5_deliver_96 : decode cX5_deliver 96 = .ok (.getfield 131, 3) := by decide +kernel
theorem dX5_deliver_99 : decode cX5_deliver 99 = .ok (.ireturn, 1) := by decide +kernel
theorem dX5_receive_0 : decode cX5_receive 0 = .ok (.aload_n 2, 1) := by decide +kernel
theorem dX5_receive_1 : decode cX5_receive 1 = .ok (.getfield 112, 3) := by decide +kernel
theorem dX5_receive_4 : decode cX5_receive 4 = .ok (.astore_n 3, 1) := by decide +kernel
theorem dX5_receive_5 : decode cX5_receive 5 = .ok (.aload_n 2, 1) := by decide +kernel
theorem dX5_receive_6 : decode cX5_receive 6 = .ok (.getfield 107, 3) := by decide +kernel
theorem dX5_receive_9 : decode cX5_receive 9 = .ok (.iconst 1, 1) := by decide +kernel
theorem dX5_receive_10 : decode cX5_receive 10 = .ok (.if_icmp .ne 14, 3) := by decide +kernel
theorem dX5_receive_13 : decode cX5_receive 13 = .ok (.aload_n 3, 1) := by decide +kernel
theorem dX5_receive_14 : decode cX5_receive 14 = .ok (.aload_n 2, 1) := by decide +kernel
theorem dX5_receive_15 : decode cX5_receive 15 = .ok (.getfield 128, 3) := by decide +kernel
theorem dX5_receive_18 : decode cX5_receive 18 = .ok (.putfield 240, 3) := by decide +kernel
theorem dX5_receive_21 : decode cX5_receive 21 = .ok (.goto 74, 3) := by decide +kernel
theorem dX5_receive_24 : decode cX5_receive 24 = .ok (.aload_n 2, 1) := by decide +kernel
theorem dX5_receive_25 : decode cX5_receive 25 = .ok (.getfield 107, 3) := by decide +kernel
theorem dX5_receive_28 : decode cX5_receive 28 = .ok (.iconst 2, 1) := by decide +kernel
theorem dX5_receive_29 : decode cX5_receive 29 = .ok (.if_icmp .ne 19, 3) := by decide +kernel
theorem dX5_receive_32 : decode cX5_receive 32 = .ok (.aload_n 3, 1) := by decide +kernel
theorem dX5_receive_33 : decode cX5_receive 33 = .ok (.aload_n 2, 1) := by decide +kernel
theorem dX5_receive_34 : decode cX5_receive 34 = .ok (.getfield 128, 3) := by decide +kernel
theorem dX5_receive_37 : decode cX5_receive 37 = .ok (.putfield 243, 3) := by decide +kernel
theorem dX5_receive_40 : decode cX5_receive 40 = .ok (.aload_n 3, 1) := by decide +kernel
theorem dX5_receive_41 : decode cX5_receive 41 = .ok (.iconst 1, 1) := by decide +kernel
theorem dX5_receive_42 : decode cX5_receive 42 = .ok (.putfield 246, 3) := by decide +kernel
theorem dX5_receive_45 : decode cX5_receive 45 = .ok (.goto 50, 3) := by decide +kernel
theorem dX5_receive_48 : decode cX5_receive 48 = .ok (.aload_n 3, 1) := by decide +kernel
theorem dX5_receive_49 : decode cX5_receive 49 = .ok (.getfield 156, 3) := by decide +kernel
theorem dX5_receive_52 : decode cX5_receive 52 = .ok (.iconst (-1), 1) := by decide +kernel
theorem dX5_receive_53 : decode cX5_receive 53 = .ok (.if_icmp .ne 42, 3) := by decide +kernel
theorem dX5_receive_56 : decode cX5_receive 56 = .ok (.aload_n 1, 1) := by decide +kernel
theorem dX5_receive_57 : decode cX5_receive 57 = .ok (.aload_n 3, 1) := by decide +kernel
theorem dX5_receive_58 : decode cX5_receive 58 = .ok (.invokevirtual 249, 3) := by decide +kernel
theorem dX5_receive_61 : decode cX5_receive 61 = .ok (.aload_n 3, 1) := by decide +kernel
theorem dX5_receive_62 : decode cX5_receive 62 = .ok (.getfield 220, 3) := by decide +kernel
theorem dX5_receive_65 : decode cX5_receive 65 = .ok (.ifnull 30, 3) := by decide +kernel
theorem dX5_receive_68 : decode cX5_receive 68 = .ok (.aload_n 0, 1) := by decide +kernel
theorem dX5_receive_69 : decode cX5_receive 69 = .ok (.getfield 25, 3) := by decide +kernel
theorem dX5_receive_72 : decode cX5_receive 72 = .ok (.new 108, 3) := by decide +kernel
theorem dX5_receive_75 : decode cX5_receive 75 = .ok (.dup, 1) := by decide +kernel
theorem dX5_receive_76 : decode cX5_receive 76 = .ok (.iconst 1, 1) := by decide +kernel
theorem dX5_receive_77 : decode cX5_receive 77 = .ok (.aload_n 3, 1) := by decide +kernel
theorem dX5_receive_78 : decode cX5_receive 78 = .ok (.getfield 125, 3) := by decide +kernel
theorem dX5_receive_81 : decode cX5_receive 81 = .ok (.aload_n 3, 1) := by decide +kernel
theorem dX5_receive_82 : decode cX5_receive 82 = .ok (.getfield 220, 3) := by decide +kernel
theorem dX5_receive_85 : decode cX5_receive 85 = .ok (.aload_n 3, 1) := by decide +kernel
theorem dX5_receive_86 : decode cX5_receive 86 = .ok (.getfield 156, 3) := by decide +kernel
theorem dX5_receive_89 : decode cX5_receive 89 = .ok (.invokespecial 213, 3) := by decide +kernel
theorem dX5_receive_92 : decode cX5_receive 92 = .ok (.invokevirtual 216, 3) := by decide +kernel
theorem dX5_receive_95 : decode cX5_receive 95 = .ok (.return_, 1) := by decide +kernel
theorem dX5_workOutAll_0 : decode cX5_workOutAll 0 = .ok (.aload_n 1, 1) := by decide +kernel
theorem dX5_workOutAll_1 : decode cX5_workOutAll 1 = .ok (.getfield 253, 3) := by decide +kernel
theorem dX5_workOutAll_4 : decode cX5_workOutAll 4 = .ok (.istore_n 2, 1) := by decide +kernel
theorem dX5_workOutAll_5 : decode cX5_workOutAll 5 = .ok (.iload_n 2, 1) := by decide +kernel
theorem dX5_workOutAll_6 : decode cX5_workOutAll 6 = .ok (.aload_n 1, 1) := by decide +kernel
theorem dX5_workOutAll_7 : decode cX5_workOutAll 7 = .ok (.getfield 134, 3) := by decide +kernel
theorem dX5_workOutAll_10 : decode cX5_workOutAll 10 = .ok (.if_icmp .ge 48, 3) := by decide +kernel
theorem dX5_workOutAll_13 : decode cX5_workOutAll 13 = .ok (.aload_n 1, 1) := by decide +kernel
theorem dX5_workOutAll_14 : decode cX5_workOutAll 14 = .ok (.getfield 137, 3) := by decide +kernel
theorem dX5_workOutAll_17 : decode cX5_workOutAll 17 = .ok (.iload_n 2, 1) := by decide +kernel
theorem dX5_workOutAll_18 : decode cX5_workOutAll 18 = .ok (.aaload, 1) := by decide +kernel
theorem dX5_workOutAll_19 : decode cX5_workOutAll 19 = .ok (.astore_n 3, 1) := by decide +kernel
theorem dX5_workOutAll_20 : decode cX5_workOutAll 20 = .ok (.aload_n 0, 1) := by decide +kernel
theorem dX5_workOutAll_21 : decode cX5_workOutAll 21 = .ok (.aload_n 3, 1) := by decide +kernel
theorem dX5_workOutAll_22 : decode cX5_workOutAll 22 = .ok (.invokevirtual 256, 3) := by decide +kernel
theorem dX5_workOutAll_25 : decode cX5_workOutAll 25 = .ok (.aload_n 3, 1) := by decide +kernel
theorem dX5_workOutAll_26 : decode cX5_workOutAll 26 = .ok (.getfield 220, 3) := by decide +kernel
theorem dX5_workOutAll_29 : decode cX5_workOutAll 29 = .ok (.ifnull 11, 3) := by decide +kernel
theorem dX5_workOutAll_32 : decode cX5_workOutAll 32 = .ok (.aload_n 3, 1) := by decide +kernel
theorem dX5_workOutAll_33 : decode cX5_workOutAll 33 = .ok (.getfield 246, 3) := by decide +kernel
theorem dX5_workOutAll_36 : decode cX5_workOutAll 36 = .ok (.ifCond .ne 4, 3) := by decide +kernel
theorem dX5_workOutAll_39 : decode cX5_workOutAll 39 = .ok (.return_, 1) := by decide +kernel
theorem dX5_workOutAll_40 : decode cX5_workOutAll 40 = .ok (.aload_n 0, 1) := by decide +kernel
theorem dX5_workOutAll_41 : decode cX5_workOutAll 41 = .ok (.aload_n 3, 1) := by decide +kernel
theorem dX5_workOutAll_42 : decode cX5_workOutAll 42 = .ok (.invokevirtual 259, 3) := by decide +kernel
theorem dX5_workOutAll_45 : decode cX5_workOutAll 45 = .ok (.aload_n 1, 1) := by decide +kernel
theorem dX5_workOutAll_46 : decode cX5_workOutAll 46 = .ok (.iload_n 2, 1) := by decide +kernel
theorem dX5_workOutAll_47 : decode cX5_workOutAll 47 = .ok (.iconst 1, 1) := by decide +kernel
theorem dX5_workOutAll_48 : decode cX5_workOutAll 48 = .ok (.iadd, 1) := by decide +kernel
theorem dX5_workOutAll_49 : decode cX5_workOutAll 49 = .ok (.putfield 253, 3) := by decide +kernel
theorem dX5_workOutAll_52 : decode cX5_workOutAll 52 = .ok (.iinc 2 1, 3) := by decide +kernel
theorem dX5_workOutAll_55 : decode cX5_workOutAll 55 = .ok (.goto (-50), 3) := by decide +kernel
theorem dX5_workOutAll_58 : decode cX5_workOutAll 58 = .ok (.return_, 1) := by decide +kernel
theorem dX5_putValues_0 : decode cX5_putValues 0 = .ok (.aload_n 1, 1) := by decide +kernel
theorem dX5_putValues_1 : decode cX5_putValues 1 = .ok (.getfield 220, 3) := by decide +kernel
theorem dX5_putValues_4 : decode cX5_putValues 4 = .ok (.ifnull 10, 3) := by decide +kernel
theorem dX5_putValues_7 : decode cX5_putValues 7 = .ok (.aload_n 1, 1) := by decide +kernel
theorem dX5_putValues_8 : decode cX5_putValues 8 = .ok (.getfield 262, 3) := by decide +kernel
theorem dX5_putValues_11 : decode cX5_putValues 11 = .ok (.ifCond .eq 4, 3) := by decide +kernel
theorem dX5_putValues_14 : decode cX5_putValues 14 = .ok (.return_, 1) := by decide +kernel
theorem dX5_putValues_15 : decode cX5_putValues 15 = .ok (.aload_n 1, 1) := by decide +kernel
theorem dX5_putValues_16 : decode cX5_putValues 16 = .ok (.getfield 116, 3) := by decide +kernel
theorem dX5_putValues_19 : decode cX5_putValues 19 = .ok (.astore_n 2, 1) := by decide +kernel
theorem dX5_putValues_20 : decode cX5_putValues 20 = .ok (.aload_n 0, 1) := by decide +kernel
theorem dX5_putValues_21 : decode cX5_putValues 21 = .ok (.aload_n 2, 1) := by decide +kernel
theorem dX5_putValues_22 : decode cX5_putValues 22 = .ok (.getfield 198, 3) := by decide +kernel
theorem dX5_putValues_25 : decode cX5_putValues 25 = .ok (.invokevirtual 201, 3) := by decide +kernel
theorem dX5_putValues_28 : decode cX5_putValues 28 = .ok (.getfield 208, 3) := by decide +kernel
theorem dX5_putValues_31 : decode cX5_putValues 31 = .ok (.aload_n 1, 1) := by decide +kernel
theorem dX5_putValues_32 : decode cX5_putValues 32 = .ok (.getfield 125, 3) := by decide +kernel
theorem dX5_putValues_35 : decode cX5_putValues 35 = .ok (.if_icmp .ne 10, 3) := by decide +kernel
theorem dX5_putValues_38 : decode cX5_putValues 38 = .ok (.aload_n 2, 1) := by decide +kernel
theorem dX5_putValues_39 : decode cX5_putValues 39 = .ok (.getfield 198, 3) := by decide +kernel
theorem dX5_putValues_42 : decode cX5_putValues 42 = .ok (.goto 7, 3) := by decide +kernel
theorem dX5_putValues_45 : decode cX5_putValues 45 = .ok (.aload_n 2, 1) := by decide +kernel
theorem dX5_putValues_46 : decode cX5_putValues 46 = .ok (.getfield 205, 3) := by decide +kernel
theorem dX5_putValues_49 : decode cX5_putValues 49 = .ok (.istore_n 3, 1) := by decide +kernel
theorem dX5_putValues_50 : decode cX5_putValues 50 = .ok (.aload_n 0, 1) := by decide +kernel
theorem dX5_putValues_51 : decode cX5_putValues 51 = .ok (.getfield 25, 3) := by decide +kernel
theorem dX5_putValues_54 : decode cX5_putValues 54 = .ok (.new 108, 3) := by decide +kernel
theorem dX5_putValues_57 : decode cX5_putValues 57 = .ok (.dup, 1) := by decide +kernel
theorem dX5_putValues_58 : decode cX5_putValues 58 = .ok (.iconst 2, 1) := by decide +kernel
theorem dX5_putValues_59 : decode cX5_putValues 59 = .ok (.aload_n 1, 1) := by decide +kernel
theorem dX5_putValues_60 : decode cX5_putValues 60 = .ok (.getfield 125, 3) := by decide +kernel
theorem dX5_putValues_63 : decode cX5_putValues 63 = .ok (.aload_n 1, 1) := by decide +kernel
theorem dX5_putValues_64 : decode cX5_putValues 64 = .ok (.getfield 220, 3) := by decide +kernel
theorem dX5_putValues_67 : decode cX5_putValues 67 = .ok (.aload_n 0, 1) := by decide +kernel
theorem dX5_putValues_68 : decode cX5_putValues 68 = .ok (.getfield 9, 3) := by decide +kernel
theorem dX5_putValues_71 : decode cX5_putValues 71 = .ok (.iload_n 3, 1) := by decide +kernel
theorem dX5_putValues_72 : decode cX5_putValues 72 = .ok (.iaload, 1) := by decide +kernel
theorem dX5_putValues_73 : decode cX5_putValues 73 = .ok (.invokespecial 213, 3) := by decide +kernel
theorem dX5_putValues_76 : decode cX5_putValues 76 = .ok (.invokevirtual 216, 3) := by decide +kernel
theorem dX5_putValues_79 : decode cX5_putValues 79 = .ok (.aload_n 1, 1) := by decide +kernel
theorem dX5_putValues_80 : decode cX5_putValues 80 = .ok (.iconst 1, 1) := by decide +kernel
theorem dX5_putValues_81 : decode cX5_putValues 81 = .ok (.putfield 262, 3) := by decide +kernel
theorem dX5_putValues_84 : decode cX5_putValues 84 = .ok (.return_, 1) := by decide +kernel
theorem dX5_workOut_0 : decode cX5_workOut 0 = .ok (.aload_n 1, 1) := by decide +kernel
theorem dX5_workOut_1 : decode cX5_workOut 1 = .ok (.getfield 116, 3) := by decide +kernel
theorem dX5_workOut_4 : decode cX5_workOut 4 = .ok (.astore_n 2, 1) := by decide +kernel
theorem dX5_workOut_5 : decode cX5_workOut 5 = .ok (.aload_n 0, 1) := by decide +kernel
theorem dX5_workOut_6 : decode cX5_workOut 6 = .ok (.aload_n 2, 1) := by decide +kernel
theorem dX5_workOut_7 : decode cX5_workOut 7 = .ok (.getfield 198, 3) := by decide +kernel
theorem dX5_workOut_10 : decode cX5_workOut 10 = .ok (.invokevirtual 201, 3) := by decide +kernel
theorem dX5_workOut_13 : decode cX5_workOut 13 = .ok (.getfield 208, 3) := by decide +kernel
theorem dX5_workOut_16 : decode cX5_workOut 16 = .ok (.aload_n 1, 1) := by decide +kernel
theorem dX5_workOut_17 : decode cX5_workOut 17 = .ok (.getfield 125, 3) := by decide +kernel
theorem dX5_workOut_20 : decode cX5_workOut 20 = .ok (.if_icmp .ne 7, 3) := by decide +kernel
theorem dX5_workOut_23 : decode cX5_workOut 23 = .ok (.iconst 1, 1) := by decide +kernel
theorem dX5_workOut_24 : decode cX5_workOut 24 = .ok (.goto 4, 3) := by decide +kernel
theorem dX5_workOut_27 : decode cX5_workOut 27 = .ok (.iconst 0, 1) := by decide +kernel
theorem dX5_workOut_28 : decode cX5_workOut 28 = .ok (.istore_n 3, 1) := by decide +kernel
theorem dX5_workOut_29 : decode cX5_workOut 29 = .ok (.aload_n 0, 1) := by decide +kernel
theorem dX5_workOut_30 : decode cX5_workOut 30 = .ok (.aload_n 2, 1) := by decide +kernel
theorem dX5_workOut_31 : decode cX5_workOut 31 = .ok (.getfield 205, 3) := by decide +kernel
theorem dX5_workOut_34 : decode cX5_workOut 34 = .ok (.invokevirtual 201, 3) := by decide +kernel
theorem dX5_workOut_37 : decode cX5_workOut 37 = .ok (.getfield 208, 3) := by decide +kernel
theorem dX5_workOut_40 : decode cX5_workOut 40 = .ok (.aload_n 1, 1) := by decide +kernel
theorem dX5_workOut_41 : decode cX5_workOut 41 = .ok (.getfield 125, 3) := by decide +kernel
theorem dX5_workOut_44 : decode cX5_workOut 44 = .ok (.if_icmp .ne 7, 3) := by decide +kernel
theorem dX5_workOut_47 : decode cX5_workOut 47 = .ok (.iconst 1, 1) := by decide +kernel
theorem dX5_workOut_48 : decode cX5_workOut 48 = .ok (.goto 4, 3) := by decide +kernel
theorem dX5_workOut_51 : decode cX5_workOut 51 = .ok (.iconst 0, 1) := by decide +kernel
theorem dX5_workOut_52 : decode cX5_workOut 52 = .ok (.istore 4, 2) := by decide +kernel
theorem dX5_workOut_54 : decode cX5_workOut 54 = .ok (.iload_n 3, 1) := by decide +kernel
theorem dX5_workOut_55 : decode cX5_workOut 55 = .ok (.ifCond .eq 15, 3) := by decide +kernel
theorem dX5_workOut_58 : decode cX5_workOut 58 = .ok (.aload_n 0, 1) := by decide +kernel
theorem dX5_workOut_59 : decode cX5_workOut 59 = .ok (.getfield 9, 3) := by decide +kernel
theorem dX5_workOut_62 : decode cX5_workOut 62 = .ok (.aload_n 2, 1) := by decide +kernel
theorem dX5_workOut_63 : decode cX5_workOut 63 = .ok (.getfield 198, 3) := by decide +kernel
theorem dX5_workOut_66 : decode cX5_workOut 66 = .ok (.iaload, 1) := by decide +kernel
theorem dX5_workOut_67 : decode cX5_workOut 67 = .ok (.goto 7, 3) := by decide +kernel
theorem dX5_workOut_70 : decode cX5_workOut 70 = .ok (.aload_n 1, 1) := by decide +kernel
theorem dX5_workOut_71 : decode cX5_workOut 71 = .ok (.getfield 243, 3) := by decide +kernel
theorem dX5_workOut_74 : decode cX5_workOut 74 = .ok (.istore 5, 2) := by decide +kernel
theorem dX5_workOut_76 : decode cX5_workOut 76 = .ok (.iload 4, 2) := by decide +kernel
theorem dX5_workOut_78 : decode cX5_workOut 78 = .ok (.ifCond .eq 15, 3) := by decide +kernel
theorem dX5_workOut_81 : decode cX5_workOut 81 = .ok (.aload_n 0, 1) := by decide +kernel
theorem dX5_workOut_82 : decode cX5_workOut 82 = .ok (.getfield 9, 3) := by decide +kernel
theorem dX5_workOut_85 : decode cX5_workOut 85 = .ok (.aload_n 2, 1) := by decide +kernel
theorem dX5_workOut_86 : decode cX5_workOut 86 = .ok (.getfield 205, 3) := by decide +kernel
theorem dX5_workOut_89 : decode cX5_workOut 89 = .ok (.iaload, 1) := by decide +kernel
theorem dX5_workOut_90 : decode cX5_workOut 90 = .ok (.goto 7, 3) := by decide +kernel
theorem dX5_workOut_93 : decode cX5_workOut 93 = .ok (.aload_n 1, 1) := by decide +kernel
theorem dX5_workOut_94 : decode cX5_workOut 94 = .ok (.getfield 243, 3) := by decide +kernel
theorem dX5_workOut_97 : decode cX5_workOut 97 = .ok (.istore 6, 2) := by decide +kernel
theorem dX5_workOut_99 : decode cX5_workOut 99 = .ok (.iload 4, 2) := by decide +kernel
theorem dX5_workOut_101 : decode cX5_workOut 101 = .ok (.ifCond .eq 20, 3) := by decide +kernel
theorem dX5_workOut_104 : decode cX5_workOut 104 = .ok (.aload_n 0, 1) := by decide +kernel
theorem dX5_workOut_105 : decode cX5_workOut 105 = .ok (.getfield 9, 3) := by decide +kernel
theorem dX5_workOut_108 : decode cX5_workOut 108 = .ok (.aload_n 2, 1) := by decide +kernel
theorem dX5_workOut_109 : decode cX5_workOut 109 = .ok (.getfield 205, 3) := by decide +kernel
theorem dX5_workOut_112 : decode cX5_workOut 112 = .ok (.aload_n 2, 1) := by decide +kernel
theorem dX5_workOut_113 : decode cX5_workOut 113 = .ok (.iload 5, 2) := by decide +kernel
theorem dX5_workOut_115 : decode cX5_workOut 115 = .ok (.iload 6, 2) := by decide +kernel
theorem dX5_workOut_117 : decode cX5_workOut 117 = .ok (.invokevirtual 265, 3) := by decide +kernel
theorem dX5_workOut_120 : decode cX5_workOut 120 = .ok (.iastore, 1) := by decide +kernel
theorem dX5_workOut_121 : decode cX5_workOut 121 = .ok (.iload_n 3, 1) := by decide +kernel
theorem dX5_workOut_122 : decode cX5_workOut 122 = .ok (.ifCond .eq 20, 3) := by decide +kernel
theorem dX5_workOut_125 : decode cX5_workOut 125 = .ok (.aload_n 0, 1) := by decide +kernel
theorem dX5_workOut_126 : decode cX5_workOut 126 = .ok (.getfield 9, 3) := by decide +kernel
theorem dX5_workOut_129 : decode cX5_workOut 129 = .ok (.aload_n 2, 1) := by decide +kernel
theorem dX5_workOut_130 : decode cX5_workOut 130 = .ok (.getfield 198, 3) := by decide +kernel
theorem dX5_workOut_133 : decode cX5_workOut 133 = .ok (.aload_n 2, 1) := by decide +kernel
theorem dX5_workOut_134 : decode cX5_workOut 134 = .ok (.iload 5, 2) := by decide +kernel
theorem dX5_workOut_136 : decode cX5_workOut 136 = .ok (.iload 6, 2) := by decide +kernel
theorem dX5_workOut_138 : decode cX5_workOut 138 = .ok (.invokevirtual 268, 3) := by decide +kernel
theorem dX5_workOut_141 : decode cX5_workOut 141 = .ok (.iastore, 1) := by decide +kernel
theorem dX5_workOut_142 : decode cX5_workOut 142 = .ok (.aload_n 1, 1) := by decide +kernel
theorem dX5_workOut_143 : decode cX5_workOut 143 = .ok (.iconst 1, 1) := by decide +kernel
theorem dX5_workOut_144 : decode cX5_workOut 144 = .ok (.putfield 162, 3) := by decide +kernel
theorem dX5_workOut_147 : decode cX5_workOut 147 = .ok (.aload_n 2, 1) := by decide +kernel
theorem dX5_workOut_148 : decode cX5_workOut 148 = .ok (.getfield 150, 3) := by decide +kernel
theorem dX5_workOut_151 : decode cX5_workOut 151 = .ok (.ifCond .ne 45, 3) := by decide +kernel
theorem dX5_workOut_154 : decode cX5_workOut 154 = .ok (.aload_n 2, 1) := by decide +kernel
theorem dX5_workOut_155 : decode cX5_workOut 155 = .ok (.iconst 1, 1) := by decide +kernel
theorem dX5_workOut_156 : decode cX5_workOut 156 = .ok (.putfield 150, 3) := by decide +kernel
theorem dX5_workOut_159 : decode cX5_workOut 159 = .ok (.aload_n 2, 1) := by decide +kernel
theorem dX5_workOut_160 : decode cX5_workOut 160 = .ok (.aload_n 2, 1) := by decide +kernel
theorem dX5_workOut_161 : decode cX5_workOut 161 = .ok (.iload 5, 2) := by decide +kernel
theorem dX5_workOut_163 : decode cX5_workOut 163 = .ok (.iload 6, 2) := by decide +kernel
theorem dX5_workOut_165 : decode cX5_workOut 165 = .ok (.invokevirtual 271, 3) := by decide +kernel
theorem dX5_workOut_168 : decode cX5_workOut 168 = .ok (.putfield 144, 3) := by decide +kernel
theorem dX5_workOut_171 : decode cX5_workOut 171 = .ok (.aload_n 0, 1) := by decide +kernel
theorem dX5_workOut_172 : decode cX5_workOut 172 = .ok (.getfield 13, 3) := by decide +kernel
theorem dX5_workOut_175 : decode cX5_workOut 175 = .ok (.aload_n 2, 1) := by decide +kernel
theorem dX5_workOut_176 : decode cX5_workOut 176 = .ok (.getfield 195, 3) := by decide +kernel
theorem dX5_workOut_179 : decode cX5_workOut 179 = .ok (.aload_n 0, 1) := by decide +kernel
theorem dX5_workOut_180 : decode cX5_workOut 180 = .ok (.getfield 13, 3) := by decide +kernel
theorem dX5_workOut_183 : decode cX5_workOut 183 = .ok (.aload_n 2, 1) := by decide +kernel
theorem dX5_workOut_184 : decode cX5_workOut 184 = .ok (.getfield 195, 3) := by decide +kernel
theorem dX5_workOut_187 : decode cX5_workOut 187 = .ok (.iaload, 1) := by decide +kernel
theorem dX5_workOut_188 : decode cX5_workOut 188 = .ok (.aload_n 1, 1) := by decide +kernel
theorem dX5_workOut_189 : decode cX5_workOut 189 = .ok (.getfield 159, 3) := by decide +kernel
theorem dX5_workOut_192 : decode cX5_workOut 192 = .ok (.invokestatic 41, 3) := by decide +kernel
theorem dX5_workOut_195 : decode cX5_workOut 195 = .ok (.iastore, 1) := by decide +kernel
theorem dX5_workOut_196 : decode cX5_workOut 196 = .ok (.return_, 1) := by decide +kernel
theorem dX5_countAnswered_0 : decode cX5_countAnswered 0 = .ok (.iconst 0, 1) := by decide +kernel
theorem dX5_countAnswered_1 : decode cX5_countAnswered 1 = .ok (.istore_n 1, 1) := by decide +kernel
theorem dX5_countAnswered_2 : decode cX5_countAnswered 2 = .ok (.iconst 0, 1) := by decide +kernel
theorem dX5_countAnswered_3 : decode cX5_countAnswered 3 = .ok (.istore_n 2, 1) := by decide +kernel
theorem dX5_countAnswered_4 : decode cX5_countAnswered 4 = .ok (.iload_n 2, 1) := by decide +kernel
theorem dX5_countAnswered_5 : decode cX5_countAnswered 5 = .ok (.aload_n 0, 1) := by decide +kernel
theorem dX5_countAnswered_6 : decode cX5_countAnswered 6 = .ok (.getfield 59, 3) := by decide +kernel
theorem dX5_countAnswered_9 : decode cX5_countAnswered 9 = .ok (.if_icmp .ge 24, 3) := by decide +kernel
theorem dX5_countAnswered_12 : decode cX5_countAnswered 12 = .ok (.aload_n 0, 1) := by decide +kernel
theorem dX5_countAnswered_13 : decode cX5_countAnswered 13 = .ok (.getfield 18, 3) := by decide +kernel
theorem dX5_countAnswered_16 : decode cX5_countAnswered 16 = .ok (.iload_n 2, 1) := by decide +kernel
theorem dX5_countAnswered_17 : decode cX5_countAnswered 17 = .ok (.aaload, 1) := by decide +kernel
theorem dX5_countAnswered_18 : decode cX5_countAnswered 18 = .ok (.getfield 150, 3) := by decide +kernel
theorem dX5_countAnswered_21 : decode cX5_countAnswered 21 = .ok (.ifCond .eq 6, 3) := by decide +kernel
theorem dX5_countAnswered_24 : decode cX5_countAnswered 24 = .ok (.iinc 1 1, 3) := by decide +kernel
theorem dX5_countAnswered_27 : decode cX5_countAnswered 27 = .ok (.iinc 2 1, 3) := by decide +kernel
theorem dX5_countAnswered_30 : decode cX5_countAnswered 30 = .ok (.goto (-26), 3) := by decide +kernel
theorem dX5_countAnswered_33 : decode cX5_countAnswered 33 = .ok (.iload_n 1, 1) := by decide +kernel
theorem dX5_countAnswered_34 : decode cX5_countAnswered 34 = .ok (.ireturn, 1) := by decide +kernel
theorem dX5_countWorkedOutByAll_0 : decode cX5_countWorkedOutByAll 0 = .ok (.iconst 0, 1) := by decide +kernel
theorem dX5_countWorkedOutByAll_1 : decode cX5_countWorkedOutByAll 1 = .ok (.istore_n 1, 1) := by decide +kernel
theorem dX5_countWorkedOutByAll_2 : decode cX5_countWorkedOutByAll 2 = .ok (.iconst 0, 1) := by decide +kernel
theorem dX5_countWorkedOutByAll_3 : decode cX5_countWorkedOutByAll 3 = .ok (.istore_n 2, 1) := by decide +kernel
theorem dX5_countWorkedOutByAll_4 : decode cX5_countWorkedOutByAll 4 = .ok (.iload_n 2, 1) := by decide +kernel
theorem dX5_countWorkedOutByAll_5 : decode cX5_countWorkedOutByAll 5 = .ok (.aload_n 0, 1) := by decide +kernel
theorem dX5_countWorkedOutByAll_6 : decode cX5_countWorkedOutByAll 6 = .ok (.getfield 59, 3) := by decide +kernel
theorem dX5_countWorkedOutByAll_9 : decode cX5_countWorkedOutByAll 9 = .ok (.if_icmp .ge 56, 3) := by decide +kernel
theorem dX5_countWorkedOutByAll_12 : decode cX5_countWorkedOutByAll 12 = .ok (.aload_n 0, 1) := by decide +kernel
theorem dX5_countWorkedOutByAll_13 : decode cX5_countWorkedOutByAll 13 = .ok (.aload_n 0, 1) := by decide +kernel
theorem dX5_countWorkedOutByAll_14 : decode cX5_countWorkedOutByAll 14 = .ok (.getfield 18, 3) := by decide +kernel
theorem dX5_countWorkedOutByAll_17 : decode cX5_countWorkedOutByAll 17 = .ok (.iload_n 2, 1) := by decide +kernel
theorem dX5_countWorkedOutByAll_18 : decode cX5_countWorkedOutByAll 18 = .ok (.aaload, 1) := by decide +kernel
theorem dX5_countWorkedOutByAll_19 : decode cX5_countWorkedOutByAll 19 = .ok (.aload_n 0, 1) := by decide +kernel
theorem dX5_countWorkedOutByAll_20 : decode cX5_countWorkedOutByAll 20 = .ok (.getfield 18, 3) := by decide +kernel
theorem dX5_countWorkedOutByAll_23 : decode cX5_countWorkedOutByAll 23 = .ok (.iload_n 2, 1) := by decide +kernel
theorem dX5_countWorkedOutByAll_24 : decode cX5_countWorkedOutByAll 24 = .ok (.aaload, 1) := by decide +kernel
theorem dX5_countWorkedOutByAll_25 : decode cX5_countWorkedOutByAll 25 = .ok (.getfield 198, 3) := by decide +kernel
theorem dX5_countWorkedOutByAll_28 : decode cX5_countWorkedOutByAll 28 = .ok (.invokevirtual 274, 3) := by decide +kernel
theorem dX5_countWorkedOutByAll_31 : decode cX5_countWorkedOutByAll 31 = .ok (.ifCond .eq 28, 3) := by decide +kernel
theorem dX5_countWorkedOutByAll_34 : decode cX5_countWorkedOutByAll 34 = .ok (.aload_n 0, 1) := by decide +kernel
theorem dX5_countWorkedOutByAll_35 : decode cX5_countWorkedOutByAll 35 = .ok (.aload_n 0, 1) := by decide +kernel
theorem dX5_countWorkedOutByAll_36 : decode cX5_countWorkedOutByAll 36 = .ok (.getfield 18, 3) := by decide +kernel
theorem dX5_countWorkedOutByAll_39 : decode cX5_countWorkedOutByAll 39 = .ok (.iload_n 2, 1) := by decide +kernel
theorem dX5_countWorkedOutByAll_40 : decode cX5_countWorkedOutByAll 40 = .ok (.aaload, 1) := by decide +kernel
theorem dX5_countWorkedOutByAll_41 : decode cX5_countWorkedOutByAll 41 = .ok (.aload_n 0, 1) := by decide +kernel
theorem dX5_countWorkedOutByAll_42 : decode cX5_countWorkedOutByAll 42 = .ok (.getfield 18, 3) := by decide +kernel
theorem dX5_countWorkedOutByAll_45 : decode cX5_countWorkedOutByAll 45 = .ok (.iload_n 2, 1) := by decide +kernel
theorem dX5_countWorkedOutByAll_46 : decode cX5_countWorkedOutByAll 46 = .ok (.aaload, 1) := by decide +kernel
theorem dX5_countWorkedOutByAll_47 : decode cX5_countWorkedOutByAll 47 = .ok (.getfield 205, 3) := by decide +kernel
theorem dX5_countWorkedOutByAll_50 : decode cX5_countWorkedOutByAll 50 = .ok (.invokevirtual 274, 3) := by decide +kernel
theorem dX5_countWorkedOutByAll_53 : decode cX5_countWorkedOutByAll 53 = .ok (.ifCond .eq 6, 3) := by decide +kernel
theorem dX5_countWorkedOutByAll_56 : decode cX5_countWorkedOutByAll 56 = .ok (.iinc 1 1, 3) := by decide +kernel
theorem dX5_countWorkedOutByAll_59 : decode cX5_countWorkedOutByAll 59 = .ok (.iinc 2 1, 3) := by decide +kernel
theorem dX5_countWorkedOutByAll_62 : decode cX5_countWorkedOutByAll 62 = .ok (.goto (-58), 3) := by decide +kernel
theorem dX5_countWorkedOutByAll_65 : decode cX5_countWorkedOutByAll 65 = .ok (.iload_n 1, 1) := by decide +kernel
theorem dX5_countWorkedOutByAll_66 : decode cX5_countWorkedOutByAll 66 = .ok (.ireturn, 1) := by decide +kernel
theorem dX5_isWorkedOutAt_0 : decode cX5_isWorkedOutAt 0 = .ok (.aload_n 0, 1) := by decide +kernel
theorem dX5_isWorkedOutAt_1 : decode cX5_isWorkedOutAt 1 = .ok (.iload_n 2, 1) := by decide +kernel
theorem dX5_isWorkedOutAt_2 : decode cX5_isWorkedOutAt 2 = .ok (.invokevirtual 201, 3) := by decide +kernel
theorem dX5_isWorkedOutAt_5 : decode cX5_isWorkedOutAt 5 = .ok (.getfield 153, 3) := by decide +kernel
theorem dX5_isWorkedOutAt_8 : decode cX5_isWorkedOutAt 8 = .ok (.aload_n 1, 1) := by decide +kernel
theorem dX5_isWorkedOutAt_9 : decode cX5_isWorkedOutAt 9 = .ok (.getfield 85, 3) := by decide +kernel
theorem dX5_isWorkedOutAt_12 : decode cX5_isWorkedOutAt 12 = .ok (.aaload, 1) := by decide +kernel
theorem dX5_isWorkedOutAt_13 : decode cX5_isWorkedOutAt 13 = .ok (.astore_n 3, 1) := by decide +kernel
theorem dX5_isWorkedOutAt_14 : decode cX5_isWorkedOutAt 14 = .ok (.aload_n 3, 1) := by decide +kernel
theorem dX5_isWorkedOutAt_15 : decode cX5_isWorkedOutAt 15 = .ok (.ifnull 14, 3) := by decide +kernel
theorem dX5_isWorkedOutAt_18 : decode cX5_isWorkedOutAt 18 = .ok (.aload_n 3, 1) := by decide +kernel
theorem dX5_isWorkedOutAt_19 : decode cX5_isWorkedOutAt 19 = .ok (.getfield 162, 3) := by decide +kernel
theorem dX5_isWorkedOutAt_22 : decode cX5_isWorkedOutAt 22 = .ok (.ifCond .eq 7, 3) := by decide +kernel
theorem dX5_isWorkedOutAt_25 : decode cX5_isWorkedOutAt 25 = .ok (.iconst 1, 1) := by decide +kernel
theorem dX5_isWorkedOutAt_26 : decode cX5_isWorkedOutAt 26 = .ok (.goto 4, 3) := by decide +kernel
theorem dX5_isWorkedOutAt_29 : decode cX5_isWorkedOutAt 29 = .ok (.iconst 0, 1) := by decide +kernel
theorem dX5_isWorkedOutAt_30 : decode cX5_isWorkedOutAt 30 = .ok (.ireturn, 1) := by decide +kernel
theorem dX5_groupsTookInOrder_0 : decode cX5_groupsTookInOrder 0 = .ok (.iconst 0, 1) := by decide +kernel
theorem dX5_groupsTookInOrder_1 : decode cX5_groupsTookInOrder 1 = .ok (.istore_n 1, 1) := by decide +kernel
theorem dX5_groupsTookInOrder_2 : decode cX5_groupsTookInOrder 2 = .ok (.iload_n 1, 1) := by decide +kernel
theorem dX5_groupsTookInOrder_3 : decode cX5_groupsTookInOrder 3 = .ok (.aload_n 0, 1) := by decide +kernel
theorem dX5_groupsTookInOrder_4 : decode cX5_groupsTookInOrder 4 = .ok (.getfield 46, 3) := by decide +kernel
theorem dX5_groupsTookInOrder_7 : decode cX5_groupsTookInOrder 7 = .ok (.arraylength, 1) := by decide +kernel
theorem dX5_groupsTookInOrder_8 : decode cX5_groupsTookInOrder 8 = .ok (.if_icmp .ge 63, 3) := by decide +kernel
theorem dX5_groupsTookInOrder_11 : decode cX5_groupsTookInOrder 11 = .ok (.aload_n 0, 1) := by decide +kernel
theorem dX5_groupsTookInOrder_12 : decode cX5_groupsTookInOrder 12 = .ok (.getfield 46, 3) := by decide +kernel
theorem dX5_groupsTookInOrder_15 : decode cX5_groupsTookInOrder 15 = .ok (.iload_n 1, 1) := by decide +kernel
theorem dX5_groupsTookInOrder_16 : decode cX5_groupsTookInOrder 16 = .ok (.aaload, 1) := by decide +kernel
theorem dX5_groupsTookInOrder_17 : decode cX5_groupsTookInOrder 17 = .ok (.getfield 137, 3) := by decide +kernel
theorem dX5_groupsTookInOrder_20 : decode cX5_groupsTookInOrder 20 = .ok (.astore_n 2, 1) := by decide +kernel
theorem dX5_groupsTookInOrder_21 : decode cX5_groupsTookInOrder 21 = .ok (.iconst 1, 1) := by decide +kernel
theorem dX5_groupsTookInOrder_22 : decode cX5_groupsTookInOrder 22 = .ok (.istore_n 3, 1) := by decide +kernel
theorem dX5_groupsTookInOrder_23 : decode cX5_groupsTookInOrder 23 = .ok (.iload_n 3, 1) := by decide +kernel
theorem dX5_groupsTookInOrder_24 : decode cX5_groupsTookInOrder 24 = .ok (.aload_n 0, 1) := by decide +kernel
theorem dX5_groupsTookInOrder_25 : decode cX5_groupsTookInOrder 25 = .ok (.getfield 46, 3) := by decide +kernel
theorem dX5_groupsTookInOrder_28 : decode cX5_groupsTookInOrder 28 = .ok (.iload_n 1, 1) := by decide +kernel
theorem dX5_groupsTookInOrder_29 : decode cX5_groupsTookInOrder 29 = .ok (.aaload, 1) := by decide +kernel
theorem dX5_groupsTookInOrder_30 : decode cX5_groupsTookInOrder 30 = .ok (.getfield 134, 3) := by decide +kernel
theorem dX5_groupsTookInOrder_33 : decode cX5_groupsTookInOrder 33 = .ok (.if_icmp .ge 32, 3) := by decide +kernel
theorem dX5_groupsTookInOrder_36 : decode cX5_groupsTookInOrder 36 = .ok (.aload_n 0, 1) := by decide +kernel
theorem dX5_groupsTookInOrder_37 : decode cX5_groupsTookInOrder 37 = .ok (.aload_n 2, 1) := by decide +kernel
theorem dX5_groupsTookInOrder_38 : decode cX5_groupsTookInOrder 38 = .ok (.iload_n 3, 1) := by decide +kernel
theorem dX5_groupsTookInOrder_39 : decode cX5_groupsTookInOrder 39 = .ok (.aaload, 1) := by decide +kernel
theorem dX5_groupsTookInOrder_40 : decode cX5_groupsTookInOrder 40 = .ok (.getfield 116, 3) := by decide +kernel
theorem dX5_groupsTookInOrder_43 : decode cX5_groupsTookInOrder 43 = .ok (.aload_n 2, 1) := by decide +kernel
theorem dX5_groupsTookInOrder_44 : decode cX5_groupsTookInOrder 44 = .ok (.iload_n 3, 1) := by decide +kernel
theorem dX5_groupsTookInOrder_45 : decode cX5_groupsTookInOrder 45 = .ok (.iconst 1, 1) := by decide +kernel
theorem dX5_groupsTookInOrder_46 : decode cX5_groupsTookInOrder 46 = .ok (.isub, 1) := by decide +kernel
theorem dX5_groupsTookInOrder_47 : decode cX5_groupsTookInOrder 47 = .ok (.aaload, 1) := by decide +kernel
theorem dX5_groupsTookInOrder_48 : decode cX5_groupsTookInOrder 48 = .ok (.getfield 116, 3) := by decide +kernel
theorem dX5_groupsTookInOrder_51 : decode cX5_groupsTookInOrder 51 = .ok (.invokevirtual 278, 3) := by decide +kernel
theorem dX5_groupsTookInOrder_54 : decode cX5_groupsTookInOrder 54 = .ok (.ifCond .ne 5, 3) := by decide +kernel
theorem dX5_groupsTookInOrder_57 : decode cX5_groupsTookInOrder 57 = .ok (.iconst 0, 1) := by decide +kernel
theorem dX5_groupsTookInOrder_58 : decode cX5_groupsTookInOrder 58 = .ok (.ireturn, 1) := by decide +kernel
theorem dX5_groupsTookInOrder_59 : decode cX5_groupsTookInOrder 59 = .ok (.iinc 3 1, 3) := by decide +kernel
theorem dX5_groupsTookInOrder_62 : decode cX5_groupsTookInOrder 62 = .ok (.goto (-39), 3) := by decide +kernel
theorem dX5_groupsTookInOrder_65 : decode cX5_groupsTookInOrder 65 = .ok (.iinc 1 1, 3) := by decide +kernel
theorem dX5_groupsTookInOrder_68 : decode cX5_groupsTookInOrder 68 = .ok (.goto (-66), 3) := by decide +kernel
theorem dX5_groupsTookInOrder_71 : decode cX5_groupsTookInOrder 71 = .ok (.iconst 1, 1) := by decide +kernel
theorem dX5_groupsTookInOrder_72 : decode cX5_groupsTookInOrder 72 = .ok (.ireturn, 1) := by decide +kernel
theorem dX5_clientsWereFollowed_0 : decode cX5_clientsWereFollowed 0 = .ok (.iconst 0, 1) := by decide +kernel
theorem dX5_clientsWereFollowed_1 : decode cX5_clientsWereFollowed 1 = .ok (.istore_n 1, 1) := by decide +kernel
theorem dX5_clientsWereFollowed_2 : decode cX5_clientsWereFollowed 2 = .ok (.iload_n 1, 1) := by decide +kernel
theorem dX5_clientsWereFollowed_3 : decode cX5_clientsWereFollowed 3 = .ok (.aload_n 0, 1) := by decide +kernel
theorem dX5_clientsWereFollowed_4 : decode cX5_clientsWereFollowed 4 = .ok (.getfield 59, 3) := by decide +kernel
theorem dX5_clientsWereFollowed_7 : decode cX5_clientsWereFollowed 7 = .ok (.if_icmp .ge 85, 3) := by decide +kernel
theorem dX5_clientsWereFollowed_10 : decode cX5_clientsWereFollowed 10 = .ok (.iconst 0, 1) := by decide +kernel
theorem dX5_clientsWereFollowed_11 : decode cX5_clientsWereFollowed 11 = .ok (.istore_n 2, 1) := by decide +kernel
theorem dX5_clientsWereFollowed_12 : decode cX5_clientsWereFollowed 12 = .ok (.iload_n 2, 1) := by decide +kernel
theorem dX5_clientsWereFollowed_13 : decode cX5_clientsWereFollowed 13 = .ok (.iload_n 1, 1) := by decide +kernel
theorem dX5_clientsWereFollowed_14 : decode cX5_clientsWereFollowed 14 = .ok (.if_icmp .ge 72, 3) := by decide +kernel
theorem dX5_clientsWereFollowed_17 : decode cX5_clientsWereFollowed 17 = .ok (.aload_n 0, 1) := by decide +kernel
theorem dX5_clientsWereFollowed_18 : decode cX5_clientsWereFollowed 18 = .ok (.getfield 18, 3) := by decide +kernel
theorem dX5_clientsWereFollowed_21 : decode cX5_clientsWereFollowed 21 = .ok (.iload_n 1, 1) := by decide +kernel
theorem dX5_clientsWereFollowed_22 : decode cX5_clientsWereFollowed 22 = .ok (.aaload, 1) := by decide +kernel
theorem dX5_clientsWereFollowed_23 : decode cX5_clientsWereFollowed 23 = .ok (.getfield 77, 3) := by decide +kernel
theorem dX5_clientsWereFollowed_26 : decode cX5_clientsWereFollowed 26 = .ok (.iload_n 2, 1) := by decide +kernel
theorem dX5_clientsWereFollowed_27 : decode cX5_clientsWereFollowed 27 = .ok (.lshr, 1) := by decide +kernel
theorem dX5_clientsWereFollowed_28 : decode cX5_clientsWereFollowed 28 = .ok (.lconst 1, 1) := by decide +kernel
theorem dX5_clientsWereFollowed_29 : decode cX5_clientsWereFollowed 29 = .ok (.land, 1) := by decide +kernel
theorem dX5_clientsWereFollowed_30 : decode cX5_clientsWereFollowed 30 = .ok (.lconst 1, 1) := by decide +kernel
theorem dX5_clientsWereFollowed_31 : decode cX5_clientsWereFollowed 31 = .ok (.lcmp, 1) := by decide +kernel
theorem dX5_clientsWereFollowed_32 : decode cX5_clientsWereFollowed 32 = .ok (.ifCond .ne 7, 3) := by decide +kernel
theorem dX5_clientsWereFollowed_35 : decode cX5_clientsWereFollowed 35 = .ok (.iconst 1, 1) := by decide +kernel
theorem dX5_clientsWereFollowed_36 : decode cX5_clientsWereFollowed 36 = .ok (.goto 4, 3) := by decide +kernel
theorem dX5_clientsWereFollowed_39 : decode cX5_clientsWereFollowed 39 = .ok (.iconst 0, 1) := by decide +kernel
theorem dX5_clientsWereFollowed_40 : decode cX5_clientsWereFollowed 40 = .ok (.istore_n 3, 1) := by decide +kernel
theorem dX5_clientsWereFollowed_41 : decode cX5_clientsWereFollowed 41 = .ok (.iload_n 3, 1) := by decide +kernel
theorem dX5_clientsWereFollowed_42 : decode cX5_clientsWereFollowed 42 = .ok (.ifCond .eq 38, 3) := by decide +kernel
theorem dX5_clientsWereFollowed_45 : decode cX5_clientsWereFollowed 45 = .ok (.aload_n 0, 1) := by decide +kernel
theorem dX5_clientsWereFollowed_46 : decode cX5_clientsWereFollowed 46 = .ok (.aload_n 0, 1) := by decide +kernel
theorem dX5_clientsWereFollowed_47 : decode cX5_clientsWereFollowed 47 = .ok (.getfield 18, 3) := by decide +kernel
theorem dX5_clientsWereFollowed_50 : decode cX5_clientsWereFollowed 50 = .ok (.iload_n 1, 1) := by decide +kernel
theorem dX5_clientsWereFollowed_51 : decode cX5_clientsWereFollowed 51 = .ok (.aaload, 1) := by decide +kernel
