theorem dX5_clientsWereFollowed_52 : decode cX5_clientsWereFollowed 52 = .ok (.invokevirtual 282, 3) := by decide +kernel
theorem dX5_clientsWereFollowed_55 : decode cX5_clientsWereFollowed 55 = .ok (.iconst (-1), 1) := by decide +kernel
theorem dX5_clientsWereFollowed_56 : decode cX5_clientsWereFollowed 56 = .ok (.if_icmp .eq 24, 3) := by decide +kernel
theorem dX5_clientsWereFollowed_59 : decode cX5_clientsWereFollowed 59 = .ok (.aload_n 0, 1) := by decide +kernel
theorem dX5_clientsWereFollowed_60 : decode cX5_clientsWereFollowed 60 = .ok (.aload_n 0, 1) := by decide +kernel
theorem dX5_clientsWereFollowed_61 : decode cX5_clientsWereFollowed 61 = .ok (.getfield 18, 3) := by decide +kernel
theorem dX5_clientsWereFollowed_64 : decode cX5_clientsWereFollowed 64 = .ok (.iload_n 1, 1) := by decide +kernel
theorem dX5_clientsWereFollowed_65 : decode cX5_clientsWereFollowed 65 = .ok (.aaload, 1) := by decide +kernel
theorem dX5_clientsWereFollowed_66 : decode cX5_clientsWereFollowed 66 = .ok (.aload_n 0, 1) := by decide +kernel
theorem dX5_clientsWereFollowed_67 : decode cX5_clientsWereFollowed 67 = .ok (.getfield 18, 3) := by decide +kernel
theorem dX5_clientsWereFollowed_70 : decode cX5_clientsWereFollowed 70 = .ok (.iload_n 2, 1) := by decide +kernel
theorem dX5_clientsWereFollowed_71 : decode cX5_clientsWereFollowed 71 = .ok (.aaload, 1) := by decide +kernel
theorem dX5_clientsWereFollowed_72 : decode cX5_clientsWereFollowed 72 = .ok (.invokevirtual 278, 3) := by decide +kernel
theorem dX5_clientsWereFollowed_75 : decode cX5_clientsWereFollowed 75 = .ok (.ifCond .ne 5, 3) := by decide +kernel
theorem dX5_clientsWereFollowed_78 : decode cX5_clientsWereFollowed 78 = .ok (.iconst 0, 1) := by decide +kernel
theorem dX5_clientsWereFollowed_79 : decode cX5_clientsWereFollowed 79 = .ok (.ireturn, 1) := by decide +kernel
theorem dX5_clientsWereFollowed_80 : decode cX5_clientsWereFollowed 80 = .ok (.iinc 2 1, 3) := by decide +kernel
theorem dX5_clientsWereFollowed_83 : decode cX5_clientsWereFollowed 83 = .ok (.goto (-71), 3) := by decide +kernel
theorem dX5_clientsWereFollowed_86 : decode cX5_clientsWereFollowed 86 = .ok (.iinc 1 1, 3) := by decide +kernel
theorem dX5_clientsWereFollowed_89 : decode cX5_clientsWereFollowed 89 = .ok (.goto (-87), 3) := by decide +kernel
theorem dX5_clientsWereFollowed_92 : decode cX5_clientsWereFollowed 92 = .ok (.iconst 1, 1) := by decide +kernel
theorem dX5_clientsWereFollowed_93 : decode cX5_clientsWereFollowed 93 = .ok (.ireturn, 1) := by decide +kernel
theorem dX5_replayGivesTheSame_0 : decode cX5_replayGivesTheSame 0 = .ok (.aload_n 0, 1) := by decide +kernel
theorem dX5_replayGivesTheSame_1 : decode cX5_replayGivesTheSame 1 = .ok (.getfield 29, 3) := by decide +kernel
theorem dX5_replayGivesTheSame_4 : decode cX5_replayGivesTheSame 4 = .ok (.bipush 100, 2) := by decide +kernel
theorem dX5_replayGivesTheSame_6 : decode cX5_replayGivesTheSame 6 = .ok (.invokestatic 53, 3) := by decide +kernel
theorem dX5_replayGivesTheSame_9 : decode cX5_replayGivesTheSame 9 = .ok (.aload_n 0, 1) := by decide +kernel
theorem dX5_replayGivesTheSame_10 : decode cX5_replayGivesTheSame 10 = .ok (.getfield 32, 3) := by decide +kernel
theorem dX5_replayGivesTheSame_13 : decode cX5_replayGivesTheSame 13 = .ok (.bipush 100, 2) := by decide +kernel
theorem dX5_replayGivesTheSame_15 : decode cX5_replayGivesTheSame 15 = .ok (.invokestatic 53, 3) := by decide +kernel
theorem dX5_replayGivesTheSame_18 : decode cX5_replayGivesTheSame 18 = .ok (.aload_n 0, 1) := by decide +kernel
theorem dX5_replayGivesTheSame_19 : decode cX5_replayGivesTheSame 19 = .ok (.aconst_null, 1) := by decide +kernel
theorem dX5_replayGivesTheSame_20 : decode cX5_replayGivesTheSame 20 = .ok (.invokevirtual 286, 3) := by decide +kernel
theorem dX5_replayGivesTheSame_23 : decode cX5_replayGivesTheSame 23 = .ok (.astore_n 1, 1) := by decide +kernel
theorem dX5_replayGivesTheSame_24 : decode cX5_replayGivesTheSame 24 = .ok (.iconst 0, 1) := by decide +kernel
theorem dX5_replayGivesTheSame_25 : decode cX5_replayGivesTheSame 25 = .ok (.istore_n 2, 1) := by decide +kernel
theorem dX5_replayGivesTheSame_26 : decode cX5_replayGivesTheSame 26 = .ok (.iload_n 2, 1) := by decide +kernel
theorem dX5_replayGivesTheSame_27 : decode cX5_replayGivesTheSame 27 = .ok (.aload_n 0, 1) := by decide +kernel
theorem dX5_replayGivesTheSame_28 : decode cX5_replayGivesTheSame 28 = .ok (.getfield 59, 3) := by decide +kernel
theorem dX5_replayGivesTheSame_31 : decode cX5_replayGivesTheSame 31 = .ok (.if_icmp .ge 29, 3) := by decide +kernel
theorem dX5_replayGivesTheSame_34 : decode cX5_replayGivesTheSame 34 = .ok (.aload_n 1, 1) := by decide +kernel
theorem dX5_replayGivesTheSame_35 : decode cX5_replayGivesTheSame 35 = .ok (.ifnull 25, 3) := by decide +kernel
theorem dX5_replayGivesTheSame_38 : decode cX5_replayGivesTheSame 38 = .ok (.aload_n 0, 1) := by decide +kernel
theorem dX5_replayGivesTheSame_39 : decode cX5_replayGivesTheSame 39 = .ok (.aload_n 1, 1) := by decide +kernel
theorem dX5_replayGivesTheSame_40 : decode cX5_replayGivesTheSame 40 = .ok (.invokevirtual 290, 3) := by decide +kernel
theorem dX5_replayGivesTheSame_43 : decode cX5_replayGivesTheSame 43 = .ok (.ifCond .ne 5, 3) := by decide +kernel
theorem dX5_replayGivesTheSame_46 : decode cX5_replayGivesTheSame 46 = .ok (.iconst 0, 1) := by decide +kernel
theorem dX5_replayGivesTheSame_47 : decode cX5_replayGivesTheSame 47 = .ok (.ireturn, 1) := by decide +kernel
theorem dX5_replayGivesTheSame_48 : decode cX5_replayGivesTheSame 48 = .ok (.aload_n 0, 1) := by decide +kernel
theorem dX5_replayGivesTheSame_49 : decode cX5_replayGivesTheSame 49 = .ok (.aload_n 1, 1) := by decide +kernel
theorem dX5_replayGivesTheSame_50 : decode cX5_replayGivesTheSame 50 = .ok (.invokevirtual 286, 3) := by decide +kernel
theorem dX5_replayGivesTheSame_53 : decode cX5_replayGivesTheSame 53 = .ok (.astore_n 1, 1) := by decide +kernel
theorem dX5_replayGivesTheSame_54 : decode cX5_replayGivesTheSame 54 = .ok (.iinc 2 1, 3) := by decide +kernel
theorem dX5_replayGivesTheSame_57 : decode cX5_replayGivesTheSame 57 = .ok (.goto (-31), 3) := by decide +kernel
theorem dX5_replayGivesTheSame_60 : decode cX5_replayGivesTheSame 60 = .ok (.iconst 0, 1) := by decide +kernel
theorem dX5_replayGivesTheSame_61 : decode cX5_replayGivesTheSame 61 = .ok (.istore_n 2, 1) := by decide +kernel
theorem dX5_replayGivesTheSame_62 : decode cX5_replayGivesTheSame 62 = .ok (.iload_n 2, 1) := by decide +kernel
theorem dX5_replayGivesTheSame_63 : decode cX5_replayGivesTheSame 63 = .ok (.bipush 16, 2) := by decide +kernel
theorem dX5_replayGivesTheSame_65 : decode cX5_replayGivesTheSame 65 = .ok (.if_icmp .ge 26, 3) := by decide +kernel
theorem dX5_replayGivesTheSame_68 : decode cX5_replayGivesTheSame 68 = .ok (.aload_n 0, 1) := by decide +kernel
theorem dX5_replayGivesTheSame_69 : decode cX5_replayGivesTheSame 69 = .ok (.getfield 9, 3) := by decide +kernel
theorem dX5_replayGivesTheSame_72 : decode cX5_replayGivesTheSame 72 = .ok (.iload_n 2, 1) := by decide +kernel
theorem dX5_replayGivesTheSame_73 : decode cX5_replayGivesTheSame 73 = .ok (.iaload, 1) := by decide +kernel
theorem dX5_replayGivesTheSame_74 : decode cX5_replayGivesTheSame 74 = .ok (.aload_n 0, 1) := by decide +kernel
theorem dX5_replayGivesTheSame_75 : decode cX5_replayGivesTheSame 75 = .ok (.getfield 32, 3) := by decide +kernel
theorem dX5_replayGivesTheSame_78 : decode cX5_replayGivesTheSame 78 = .ok (.iload_n 2, 1) := by decide +kernel
theorem dX5_replayGivesTheSame_79 : decode cX5_replayGivesTheSame 79 = .ok (.iaload, 1) := by decide +kernel
theorem dX5_replayGivesTheSame_80 : decode cX5_replayGivesTheSame 80 = .ok (.if_icmp .eq 5, 3) := by decide +kernel
theorem dX5_replayGivesTheSame_83 : decode cX5_replayGivesTheSame 83 = .ok (.iconst 0, 1) := by decide +kernel
theorem dX5_replayGivesTheSame_84 : decode cX5_replayGivesTheSame 84 = .ok (.ireturn, 1) := by decide +kernel
theorem dX5_replayGivesTheSame_85 : decode cX5_replayGivesTheSame 85 = .ok (.iinc 2 1, 3) := by decide +kernel
theorem dX5_replayGivesTheSame_88 : decode cX5_replayGivesTheSame 88 = .ok (.goto (-26), 3) := by decide +kernel
theorem dX5_replayGivesTheSame_91 : decode cX5_replayGivesTheSame 91 = .ok (.iconst 1, 1) := by decide +kernel
theorem dX5_replayGivesTheSame_92 : decode cX5_replayGivesTheSame 92 = .ok (.ireturn, 1) := by decide +kernel
theorem dX5_replayAnswersTheSame_0 : decode cX5_replayAnswersTheSame 0 = .ok (.aload_n 0, 1) := by decide +kernel
theorem dX5_replayAnswersTheSame_1 : decode cX5_replayAnswersTheSame 1 = .ok (.getfield 29, 3) := by decide +kernel
theorem dX5_replayAnswersTheSame_4 : decode cX5_replayAnswersTheSame 4 = .ok (.aload_n 1, 1) := by decide +kernel
theorem dX5_replayAnswersTheSame_5 : decode cX5_replayAnswersTheSame 5 = .ok (.getfield 198, 3) := by decide +kernel
theorem dX5_replayAnswersTheSame_8 : decode cX5_replayAnswersTheSame 8 = .ok (.iaload, 1) := by decide +kernel
theorem dX5_replayAnswersTheSame_9 : decode cX5_replayAnswersTheSame 9 = .ok (.istore_n 2, 1) := by decide +kernel
theorem dX5_replayAnswersTheSame_10 : decode cX5_replayAnswersTheSame 10 = .ok (.aload_n 0, 1) := by decide +kernel
theorem dX5_replayAnswersTheSame_11 : decode cX5_replayAnswersTheSame 11 = .ok (.getfield 29, 3) := by decide +kernel
theorem dX5_replayAnswersTheSame_14 : decode cX5_replayAnswersTheSame 14 = .ok (.aload_n 1, 1) := by decide +kernel
theorem dX5_replayAnswersTheSame_15 : decode cX5_replayAnswersTheSame 15 = .ok (.getfield 205, 3) := by decide +kernel
theorem dX5_replayAnswersTheSame_18 : decode cX5_replayAnswersTheSame 18 = .ok (.iaload, 1) := by decide +kernel
theorem dX5_replayAnswersTheSame_19 : decode cX5_replayAnswersTheSame 19 = .ok (.istore_n 3, 1) := by decide +kernel
theorem dX5_replayAnswersTheSame_20 : decode cX5_replayAnswersTheSame 20 = .ok (.aload_n 0, 1) := by decide +kernel
theorem dX5_replayAnswersTheSame_21 : decode cX5_replayAnswersTheSame 21 = .ok (.getfield 29, 3) := by decide +kernel
theorem dX5_replayAnswersTheSame_24 : decode cX5_replayAnswersTheSame 24 = .ok (.aload_n 1, 1) := by decide +kernel
theorem dX5_replayAnswersTheSame_25 : decode cX5_replayAnswersTheSame 25 = .ok (.getfield 205, 3) := by decide +kernel
theorem dX5_replayAnswersTheSame_28 : decode cX5_replayAnswersTheSame 28 = .ok (.aload_n 1, 1) := by decide +kernel
theorem dX5_replayAnswersTheSame_29 : decode cX5_replayAnswersTheSame 29 = .ok (.iload_n 2, 1) := by decide +kernel
theorem dX5_replayAnswersTheSame_30 : decode cX5_replayAnswersTheSame 30 = .ok (.iload_n 3, 1) := by decide +kernel
theorem dX5_replayAnswersTheSame_31 : decode cX5_replayAnswersTheSame 31 = .ok (.invokevirtual 265, 3) := by decide +kernel
theorem dX5_replayAnswersTheSame_34 : decode cX5_replayAnswersTheSame 34 = .ok (.iastore, 1) := by decide +kernel
theorem dX5_replayAnswersTheSame_35 : decode cX5_replayAnswersTheSame 35 = .ok (.aload_n 0, 1) := by decide +kernel
theorem dX5_replayAnswersTheSame_36 : decode cX5_replayAnswersTheSame 36 = .ok (.getfield 29, 3) := by decide +kernel
theorem dX5_replayAnswersTheSame_39 : decode cX5_replayAnswersTheSame 39 = .ok (.aload_n 1, 1) := by decide +kernel
theorem dX5_replayAnswersTheSame_40 : decode cX5_replayAnswersTheSame 40 = .ok (.getfield 198, 3) := by decide +kernel
theorem dX5_replayAnswersTheSame_43 : decode cX5_replayAnswersTheSame 43 = .ok (.aload_n 1, 1) := by decide +kernel
theorem dX5_replayAnswersTheSame_44 : decode cX5_replayAnswersTheSame 44 = .ok (.iload_n 2, 1) := by decide +kernel
theorem dX5_replayAnswersTheSame_45 : decode cX5_replayAnswersTheSame 45 = .ok (.iload_n 3, 1) := by decide +kernel
theorem dX5_replayAnswersTheSame_46 : decode cX5_replayAnswersTheSame 46 = .ok (.invokevirtual 268, 3) := by decide +kernel
theorem dX5_replayAnswersTheSame_49 : decode cX5_replayAnswersTheSame 49 = .ok (.iastore, 1) := by decide +kernel
theorem dX5_replayAnswersTheSame_50 : decode cX5_replayAnswersTheSame 50 = .ok (.aload_n 0, 1) := by decide +kernel
theorem dX5_replayAnswersTheSame_51 : decode cX5_replayAnswersTheSame 51 = .ok (.aload_n 1, 1) := by decide +kernel
theorem dX5_replayAnswersTheSame_52 : decode cX5_replayAnswersTheSame 52 = .ok (.aload_n 1, 1) := by decide +kernel
theorem dX5_replayAnswersTheSame_53 : decode cX5_replayAnswersTheSame 53 = .ok (.getfield 198, 3) := by decide +kernel
theorem dX5_replayAnswersTheSame_56 : decode cX5_replayAnswersTheSame 56 = .ok (.invokevirtual 274, 3) := by decide +kernel
theorem dX5_replayAnswersTheSame_59 : decode cX5_replayAnswersTheSame 59 = .ok (.ifCond .eq 21, 3) := by decide +kernel
theorem dX5_replayAnswersTheSame_62 : decode cX5_replayAnswersTheSame 62 = .ok (.aload_n 0, 1) := by decide +kernel
theorem dX5_replayAnswersTheSame_63 : decode cX5_replayAnswersTheSame 63 = .ok (.getfield 32, 3) := by decide +kernel
theorem dX5_replayAnswersTheSame_66 : decode cX5_replayAnswersTheSame 66 = .ok (.aload_n 1, 1) := by decide +kernel
theorem dX5_replayAnswersTheSame_67 : decode cX5_replayAnswersTheSame 67 = .ok (.getfield 198, 3) := by decide +kernel
theorem dX5_replayAnswersTheSame_70 : decode cX5_replayAnswersTheSame 70 = .ok (.aload_n 0, 1) := by decide +kernel
theorem dX5_replayAnswersTheSame_71 : decode cX5_replayAnswersTheSame 71 = .ok (.getfield 29, 3) := by decide +kernel
theorem dX5_replayAnswersTheSame_74 : decode cX5_replayAnswersTheSame 74 = .ok (.aload_n 1, 1) := by decide +kernel
theorem dX5_replayAnswersTheSame_75 : decode cX5_replayAnswersTheSame 75 = .ok (.getfield 198, 3) := by decide +kernel
theorem dX5_replayAnswersTheSame_78 : decode cX5_replayAnswersTheSame 78 = .ok (.iaload, 1) := by decide +kernel
theorem dX5_replayAnswersTheSame_79 : decode cX5_replayAnswersTheSame 79 = .ok (.iastore, 1) := by decide +kernel
theorem dX5_replayAnswersTheSame_80 : decode cX5_replayAnswersTheSame 80 = .ok (.aload_n 0, 1) := by decide +kernel
theorem dX5_replayAnswersTheSame_81 : decode cX5_replayAnswersTheSame 81 = .ok (.aload_n 1, 1) := by decide +kernel
theorem dX5_replayAnswersTheSame_82 : decode cX5_replayAnswersTheSame 82 = .ok (.aload_n 1, 1) := by decide +kernel
theorem dX5_replayAnswersTheSame_83 : decode cX5_replayAnswersTheSame 83 = .ok (.getfield 205, 3) := by decide +kernel
theorem dX5_replayAnswersTheSame_86 : decode cX5_replayAnswersTheSame 86 = .ok (.invokevirtual 274, 3) := by decide +kernel
theorem dX5_replayAnswersTheSame_89 : decode cX5_replayAnswersTheSame 89 = .ok (.ifCond .eq 21, 3) := by decide +kernel
theorem dX5_replayAnswersTheSame_92 : decode cX5_replayAnswersTheSame 92 = .ok (.aload_n 0, 1) := by decide +kernel
theorem dX5_replayAnswersTheSame_93 : decode cX5_replayAnswersTheSame 93 = .ok (.getfield 32, 3) := by decide +kernel
theorem dX5_replayAnswersTheSame_96 : decode cX5_replayAnswersTheSame 96 = .ok (.aload_n 1, 1) := by decide +kernel
theorem dX5_replayAnswersTheSame_97 : decode cX5_replayAnswersTheSame 97 = .ok (.getfield 205, 3) := by decide +kernel
theorem dX5_replayAnswersTheSame_100 : decode cX5_replayAnswersTheSame 100 = .ok (.aload_n 0, 1) := by decide +kernel
theorem dX5_replayAnswersTheSame_101 : decode cX5_replayAnswersTheSame 101 = .ok (.getfield 29, 3) := by decide +kernel
theorem dX5_replayAnswersTheSame_104 : decode cX5_replayAnswersTheSame 104 = .ok (.aload_n 1, 1) := by decide +kernel
theorem dX5_replayAnswersTheSame_105 : decode cX5_replayAnswersTheSame 105 = .ok (.getfield 205, 3) := by decide +kernel
theorem dX5_replayAnswersTheSame_108 : decode cX5_replayAnswersTheSame 108 = .ok (.iaload, 1) := by decide +kernel
theorem dX5_replayAnswersTheSame_109 : decode cX5_replayAnswersTheSame 109 = .ok (.iastore, 1) := by decide +kernel
theorem dX5_replayAnswersTheSame_110 : decode cX5_replayAnswersTheSame 110 = .ok (.aload_n 1, 1) := by decide +kernel
theorem dX5_replayAnswersTheSame_111 : decode cX5_replayAnswersTheSame 111 = .ok (.getfield 144, 3) := by decide +kernel
theorem dX5_replayAnswersTheSame_114 : decode cX5_replayAnswersTheSame 114 = .ok (.aload_n 1, 1) := by decide +kernel
theorem dX5_replayAnswersTheSame_115 : decode cX5_replayAnswersTheSame 115 = .ok (.iload_n 2, 1) := by decide +kernel
theorem dX5_replayAnswersTheSame_116 : decode cX5_replayAnswersTheSame 116 = .ok (.iload_n 3, 1) := by decide +kernel
theorem dX5_replayAnswersTheSame_117 : decode cX5_replayAnswersTheSame 117 = .ok (.invokevirtual 271, 3) := by decide +kernel
theorem dX5_replayAnswersTheSame_120 : decode cX5_replayAnswersTheSame 120 = .ok (.if_icmp .ne 7, 3) := by decide +kernel
theorem dX5_replayAnswersTheSame_123 : decode cX5_replayAnswersTheSame 123 = .ok (.iconst 1, 1) := by decide +kernel
theorem dX5_replayAnswersTheSame_124 : decode cX5_replayAnswersTheSame 124 = .ok (.goto 4, 3) := by decide +kernel
theorem dX5_replayAnswersTheSame_127 : decode cX5_replayAnswersTheSame 127 = .ok (.iconst 0, 1) := by decide +kernel
theorem dX5_replayAnswersTheSame_128 : decode cX5_replayAnswersTheSame 128 = .ok (.ireturn, 1) := by decide +kernel
theorem dX5_nextAnswered_0 : decode cX5_nextAnswered 0 = .ok (.aconst_null, 1) := by decide +kernel
theorem dX5_nextAnswered_1 : decode cX5_nextAnswered 1 = .ok (.astore_n 2, 1) := by decide +kernel
theorem dX5_nextAnswered_2 : decode cX5_nextAnswered 2 = .ok (.iconst 0, 1) := by decide +kernel
theorem dX5_nextAnswered_3 : decode cX5_nextAnswered 3 = .ok (.istore_n 3, 1) := by decide +kernel
theorem dX5_nextAnswered_4 : decode cX5_nextAnswered 4 = .ok (.iload_n 3, 1) := by decide +kernel
theorem dX5_nextAnswered_5 : decode cX5_nextAnswered 5 = .ok (.aload_n 0, 1) := by decide +kernel
theorem dX5_nextAnswered_6 : decode cX5_nextAnswered 6 = .ok (.getfield 59, 3) := by decide +kernel
theorem dX5_nextAnswered_9 : decode cX5_nextAnswered 9 = .ok (.if_icmp .ge 68, 3) := by decide +kernel
theorem dX5_nextAnswered_12 : decode cX5_nextAnswered 12 = .ok (.aload_n 0, 1) := by decide +kernel
theorem dX5_nextAnswered_13 : decode cX5_nextAnswered 13 = .ok (.getfield 18, 3) := by decide +kernel
theorem dX5_nextAnswered_16 : decode cX5_nextAnswered 16 = .ok (.iload_n 3, 1) := by decide +kernel
theorem dX5_nextAnswered_17 : decode cX5_nextAnswered 17 = .ok (.aaload, 1) := by decide +kernel
theorem dX5_nextAnswered_18 : decode cX5_nextAnswered 18 = .ok (.astore 4, 2) := by decide +kernel
theorem dX5_nextAnswered_20 : decode cX5_nextAnswered 20 = .ok (.aload 4, 2) := by decide +kernel
theorem dX5_nextAnswered_22 : decode cX5_nextAnswered 22 = .ok (.getfield 150, 3) := by decide +kernel
theorem dX5_nextAnswered_25 : decode cX5_nextAnswered 25 = .ok (.ifCond .eq 21, 3) := by decide +kernel
theorem dX5_nextAnswered_28 : decode cX5_nextAnswered 28 = .ok (.aload_n 1, 1) := by decide +kernel
theorem dX5_nextAnswered_29 : decode cX5_nextAnswered 29 = .ok (.ifnull 13, 3) := by decide +kernel
theorem dX5_nextAnswered_32 : decode cX5_nextAnswered 32 = .ok (.aload_n 0, 1) := by decide +kernel
theorem dX5_nextAnswered_33 : decode cX5_nextAnswered 33 = .ok (.aload 4, 2) := by decide +kernel
theorem dX5_nextAnswered_35 : decode cX5_nextAnswered 35 = .ok (.aload_n 1, 1) := by decide +kernel
theorem dX5_nextAnswered_36 : decode cX5_nextAnswered 36 = .ok (.invokevirtual 278, 3) := by decide +kernel
theorem dX5_nextAnswered_39 : decode cX5_nextAnswered 39 = .ok (.ifCond .eq 7, 3) := by decide +kernel
theorem dX5_nextAnswered_42 : decode cX5_nextAnswered 42 = .ok (.iconst 1, 1) := by decide +kernel
theorem dX5_nextAnswered_43 : decode cX5_nextAnswered 43 = .ok (.goto 4, 3) := by decide +kernel
theorem dX5_nextAnswered_46 : decode cX5_nextAnswered 46 = .ok (.iconst 0, 1) := by decide +kernel
theorem dX5_nextAnswered_47 : decode cX5_nextAnswered 47 = .ok (.istore 5, 2) := by decide +kernel
theorem dX5_nextAnswered_49 : decode cX5_nextAnswered 49 = .ok (.iload 5, 2) := by decide +kernel
theorem dX5_nextAnswered_51 : decode cX5_nextAnswered 51 = .ok (.ifCond .eq 20, 3) := by decide +kernel
theorem dX5_nextAnswered_54 : decode cX5_nextAnswered 54 = .ok (.aload_n 2, 1) := by decide +kernel
theorem dX5_nextAnswered_55 : decode cX5_nextAnswered 55 = .ok (.ifnull 13, 3) := by decide +kernel
theorem dX5_nextAnswered_58 : decode cX5_nextAnswered 58 = .ok (.aload_n 0, 1) := by decide +kernel
theorem dX5_nextAnswered_59 : decode cX5_nextAnswered 59 = .ok (.aload_n 2, 1) := by decide +kernel
theorem dX5_nextAnswered_60 : decode cX5_nextAnswered 60 = .ok (.aload 4, 2) := by decide +kernel
theorem dX5_nextAnswered_62 : decode cX5_nextAnswered 62 = .ok (.invokevirtual 278, 3) := by decide +kernel
theorem dX5_nextAnswered_65 : decode cX5_nextAnswered 65 = .ok (.ifCond .eq 6, 3) := by decide +kernel
theorem dX5_nextAnswered_68 : decode cX5_nextAnswered 68 = .ok (.aload 4, 2) := by decide +kernel
theorem dX5_nextAnswered_70 : decode cX5_nextAnswered 70 = .ok (.astore_n 2, 1) := by decide +kernel
theorem dX5_nextAnswered_71 : decode cX5_nextAnswered 71 = .ok (.iinc 3 1, 3) := by decide +kernel
theorem dX5_nextAnswered_74 : decode cX5_nextAnswered 74 = .ok (.goto (-70), 3) := by decide +kernel
theorem dX5_nextAnswered_77 : decode cX5_nextAnswered 77 = .ok (.aload_n 2, 1) := by decide +kernel
theorem dX5_nextAnswered_78 : decode cX5_nextAnswered 78 = .ok (.areturn, 1) := by decide +kernel
theorem dX5_isBehind_0 : decode cX5_isBehind 0 = .ok (.aload_n 0, 1) := by decide +kernel
theorem dX5_isBehind_1 : decode cX5_isBehind 1 = .ok (.aload_n 1, 1) := by decide +kernel
theorem dX5_isBehind_2 : decode cX5_isBehind 2 = .ok (.invokevirtual 282, 3) := by decide +kernel
theorem dX5_isBehind_5 : decode cX5_isBehind 5 = .ok (.aload_n 0, 1) := by decide +kernel
theorem dX5_isBehind_6 : decode cX5_isBehind 6 = .ok (.aload_n 2, 1) := by decide +kernel
theorem dX5_isBehind_7 : decode cX5_isBehind 7 = .ok (.invokevirtual 282, 3) := by decide +kernel
theorem dX5_isBehind_10 : decode cX5_isBehind 10 = .ok (.invokestatic 294, 3) := by decide +kernel
theorem dX5_isBehind_13 : decode cX5_isBehind 13 = .ok (.istore_n 3, 1) := by decide +kernel
theorem dX5_isBehind_14 : decode cX5_isBehind 14 = .ok (.iload_n 3, 1) := by decide +kernel
theorem dX5_isBehind_15 : decode cX5_isBehind 15 = .ok (.ifCond .gt 18, 3) := by decide +kernel
theorem dX5_isBehind_18 : decode cX5_isBehind 18 = .ok (.iload_n 3, 1) := by decide +kernel
theorem dX5_isBehind_19 : decode cX5_isBehind 19 = .ok (.ifCond .ne 18, 3) := by decide +kernel
theorem dX5_isBehind_22 : decode cX5_isBehind 22 = .ok (.aload_n 1, 1) := by decide +kernel
theorem dX5_isBehind_23 : decode cX5_isBehind 23 = .ok (.getfield 85, 3) := by decide +kernel
theorem dX5_isBehind_26 : decode cX5_isBehind 26 = .ok (.aload_n 2, 1) := by decide +kernel
theorem dX5_isBehind_27 : decode cX5_isBehind 27 = .ok (.getfield 85, 3) := by decide +kernel
theorem dX5_isBehind_30 : decode cX5_isBehind 30 = .ok (.if_icmp .le 7, 3) := by decide +kernel
theorem dX5_isBehind_33 : decode cX5_isBehind 33 = .ok (.iconst 1, 1) := by decide +kernel
theorem dX5_isBehind_34 : decode cX5_isBehind 34 = .ok (.goto 4, 3) := by decide +kernel
theorem dX5_isBehind_37 : decode cX5_isBehind 37 = .ok (.iconst 0, 1) := by decide +kernel
theorem dX5_isBehind_38 : decode cX5_isBehind 38 = .ok (.ireturn, 1) := by decide +kernel
theorem dX5_finalTimeOf_0 : decode cX5_finalTimeOf 0 = .ok (.aload_n 0, 1) := by decide +kernel
theorem dX5_finalTimeOf_1 : decode cX5_finalTimeOf 1 = .ok (.aload_n 1, 1) := by decide +kernel
theorem dX5_finalTimeOf_2 : decode cX5_finalTimeOf 2 = .ok (.getfield 198, 3) := by decide +kernel
theorem dX5_finalTimeOf_5 : decode cX5_finalTimeOf 5 = .ok (.invokevirtual 201, 3) := by decide +kernel
theorem dX5_finalTimeOf_8 : decode cX5_finalTimeOf 8 = .ok (.getfield 153, 3) := by decide +kernel
theorem dX5_finalTimeOf_11 : decode cX5_finalTimeOf 11 = .ok (.aload_n 1, 1) := by decide +kernel
theorem dX5_finalTimeOf_12 : decode cX5_finalTimeOf 12 = .ok (.getfield 85, 3) := by decide +kernel
theorem dX5_finalTimeOf_15 : decode cX5_finalTimeOf 15 = .ok (.aaload, 1) := by decide +kernel
theorem dX5_finalTimeOf_16 : decode cX5_finalTimeOf 16 = .ok (.astore_n 2, 1) := by decide +kernel
theorem dX5_finalTimeOf_17 : decode cX5_finalTimeOf 17 = .ok (.aload_n 0, 1) := by decide +kernel
theorem dX5_finalTimeOf_18 : decode cX5_finalTimeOf 18 = .ok (.aload_n 1, 1) := by decide +kernel
theorem dX5_finalTimeOf_19 : decode cX5_finalTimeOf 19 = .ok (.getfield 205, 3) := by decide +kernel
theorem dX5_finalTimeOf_22 : decode cX5_finalTimeOf 22 = .ok (.invokevirtual 201, 3) := by decide +kernel
theorem dX5_finalTimeOf_25 : decode cX5_finalTimeOf 25 = .ok (.getfield 153, 3) := by decide +kernel
theorem dX5_finalTimeOf_28 : decode cX5_finalTimeOf 28 = .ok (.aload_n 1, 1) := by decide +kernel
theorem dX5_finalTimeOf_29 : decode cX5_finalTimeOf 29 = .ok (.getfield 85, 3) := by decide +kernel
theorem dX5_finalTimeOf_32 : decode cX5_finalTimeOf 32 = .ok (.aaload, 1) := by decide +kernel
theorem dX5_finalTimeOf_33 : decode cX5_finalTimeOf 33 = .ok (.astore_n 3, 1) := by decide +kernel
theorem dX5_finalTimeOf_34 : decode cX5_finalTimeOf 34 = .ok (.aload_n 2, 1) := by decide +kernel
theorem dX5_finalTimeOf_35 : decode cX5_finalTimeOf 35 = .ok (.ifnull 7, 3) := by decide +kernel
theorem dX5_finalTimeOf_38 : decode cX5_finalTimeOf 38 = .ok (.aload_n 3, 1) := by decide +kernel
theorem dX5_finalTimeOf_39 : decode cX5_finalTimeOf 39 = .ok (.ifnonnull 5, 3) := by decide +kernel
theorem dX5_finalTimeOf_42 : decode cX5_finalTimeOf 42 = .ok (.iconst (-1), 1) := by decide +kernel
theorem dX5_finalTimeOf_43 : decode cX5_finalTimeOf 43 = .ok (.ireturn, 1) := by decide +kernel
theorem dX5_finalTimeOf_44 : decode cX5_finalTimeOf 44 = .ok (.aload_n 2, 1) := by decide +kernel
theorem dX5_finalTimeOf_45 : decode cX5_finalTimeOf 45 = .ok (.getfield 159, 3) := by decide +kernel
theorem dX5_finalTimeOf_48 : decode cX5_finalTimeOf 48 = .ok (.iconst (-1), 1) := by decide +kernel
theorem dX5_finalTimeOf_49 : decode cX5_finalTimeOf 49 = .ok (.if_icmp .eq 10, 3) := by decide +kernel
theorem dX5_finalTimeOf_52 : decode cX5_finalTimeOf 52 = .ok (.aload_n 2, 1) := by decide +kernel
theorem dX5_finalTimeOf_53 : decode cX5_finalTimeOf 53 = .ok (.getfield 159, 3) := by decide +kernel
theorem dX5_finalTimeOf_56 : decode cX5_finalTimeOf 56 = .ok (.goto 7, 3) := by decide +kernel
theorem dX5_finalTimeOf_59 : decode cX5_finalTimeOf 59 = .ok (.aload_n 3, 1) := by decide +kernel
theorem dX5_finalTimeOf_60 : decode cX5_finalTimeOf 60 = .ok (.getfield 159, 3) := by decide +kernel
theorem dX5_finalTimeOf_63 : decode cX5_finalTimeOf 63 = .ok (.ireturn, 1) := by decide +kernel
theorem dX6_init_0 : decode cX6_init 0 = .ok (.aload_n 0, 1) := by decide +kernel
theorem dX6_init_1 : decode cX6_init 1 = .ok (.invokespecial 1, 3) := by decide +kernel
theorem dX6_init_4 : decode cX6_init 4 = .ok (.aload_n 0, 1) := by decide +kernel
theorem dX6_init_5 : decode cX6_init 5 = .ok (.iconst 4, 1) := by decide +kernel
theorem dX6_init_6 : decode cX6_init 6 = .ok (.newarray .int, 2) := by decide +kernel
theorem dX6_init_8 : decode cX6_init 8 = .ok (.putfield 7, 3) := by decide +kernel
theorem dX6_init_11 : decode cX6_init 11 = .ok (.aload_n 0, 1) := by decide +kernel
theorem dX6_init_12 : decode cX6_init 12 = .ok (.iconst 4, 1) := by decide +kernel
theorem dX6_init_13 : decode cX6_init 13 = .ok (.newarray .boolean, 2) := by decide +kernel
theorem dX6_init_15 : decode cX6_init 15 = .ok (.putfield 13, 3) := by decide +kernel
theorem dX6_init_18 : decode cX6_init 18 = .ok (.aload_n 0, 1) := by decide +kernel
theorem dX6_init_19 : decode cX6_init 19 = .ok (.bipush 16, 2) := by decide +kernel
theorem dX6_init_21 : decode cX6_init 21 = .ok (.newarray .int, 2) := by decide +kernel
theorem dX6_init_23 : decode cX6_init 23 = .ok (.putfield 17, 3) := by decide +kernel
theorem dX6_init_26 : decode cX6_init 26 = .ok (.aload_n 0, 1) := by decide +kernel
theorem dX6_init_27 : decode cX6_init 27 = .ok (.bipush 40, 2) := by decide +kernel
theorem dX6_init_29 : decode cX6_init 29 = .ok (.newarray .int, 2) := by decide +kernel
theorem dX6_init_31 : decode cX6_init 31 = .ok (.putfield 20, 3) := by decide +kernel
theorem dX6_init_34 : decode cX6_init 34 = .ok (.aload_n 0, 1) := by decide +kernel
theorem dX6_init_35 : decode cX6_init 35 = .ok (.bipush 40, 2) := by decide +kernel
theorem dX6_init_37 : decode cX6_init 37 = .ok (.newarray .int, 2) := by decide +kernel
theorem dX6_init_39 : decode cX6_init 39 = .ok (.putfield 23, 3) := by decide +kernel
theorem dX6_init_42 : decode cX6_init 42 = .ok (.aload_n 0, 1) := by decide +kernel
theorem dX6_init_43 : decode cX6_init 43 = .ok (.bipush 40, 2) := by decide +kernel
theorem dX6_init_45 : decode cX6_init 45 = .ok (.newarray .int, 2) := by decide +kernel
theorem dX6_init_47 : decode cX6_init 47 = .ok (.putfield 26, 3) := by decide +kernel
theorem dX6_init_50 : decode cX6_init 50 = .ok (.aload_n 0, 1) := by decide +kernel
theorem dX6_init_51 : decode cX6_init 51 = .ok (.bipush 40, 2) := by decide +kernel
theorem dX6_init_53 : decode cX6_init 53 = .ok (.newarray .int, 2) := by decide +kernel
theorem dX6_init_55 : decode cX6_init 55 = .ok (.putfield 29, 3) := by decide +kernel
theorem dX6_init_58 : decode cX6_init 58 = .ok (.aload_n 0, 1) := by decide +kernel
theorem dX6_init_59 : decode cX6_init 59 = .ok (.bipush 40, 2) := by decide +kernel
theorem dX6_init_61 : decode cX6_init 61 = .ok (.newarray .int, 2) := by decide +kernel
theorem dX6_init_63 : decode cX6_init 63 = .ok (.putfield 32, 3) := by decide +kernel
theorem dX6_init_66 : decode cX6_init 66 = .ok (.aload_n 0, 1) := by decide +kernel
theorem dX6_init_67 : decode cX6_init 67 = .ok (.bipush 40, 2) := by decide +kernel
theorem dX6_init_69 : decode cX6_init 69 = .ok (.newarray .int, 2) := by decide +kernel
theorem dX6_init_71 : decode cX6_init 71 = .ok (.putfield 35, 3) := by decide +kernel
theorem dX6_init_74 : decode cX6_init 74 = .ok (.aload_n 0, 1) := by decide +kernel
theorem dX6_init_75 : decode cX6_init 75 = .ok (.bipush 40, 2) := by decide +kernel
theorem dX6_init_77 : decode cX6_init 77 = .ok (.newarray .boolean, 2) := by decide +kernel
theorem dX6_init_79 : decode cX6_init 79 = .ok (.putfield 38, 3) := by decide +kernel
theorem dX6_init_82 : decode cX6_init 82 = .ok (.aload_n 0, 1) := by decide +kernel
theorem dX6_init_83 : decode cX6_init 83 = .ok (.bipush 40, 2) := by decide +kernel
theorem dX6_init_85 : decode cX6_init 85 = .ok (.newarray .int, 2) := by decide +kernel
theorem dX6_init_87 : decode cX6_init 87 = .ok (.putfield 41, 3) := by decide +kernel
theorem dX6_init_90 : decode cX6_init 90 = .ok (.aload_n 0, 1) := by decide +kernel
theorem dX6_init_91 : decode cX6_init 91 = .ok (.iconst 4, 1) := by decide +kernel
theorem dX6_init_92 : decode cX6_init 92 = .ok (.newarray .int, 2) := by decide +kernel
theorem dX6_init_94 : decode cX6_init 94 = .ok (.putfield 44, 3) := by decide +kernel
theorem dX6_init_97 : decode cX6_init 97 = .ok (.aload_n 0, 1) := by decide +kernel
theorem dX6_init_98 : decode cX6_init 98 = .ok (.sipush 160, 3) := by decide +kernel
theorem dX6_init_101 : decode cX6_init 101 = .ok (.newarray .boolean, 2) := by decide +kernel
theorem dX6_init_103 : decode cX6_init 103 = .ok (.putfield 47, 3) := by decide +kernel
theorem dX6_init_106 : decode cX6_init 106 = .ok (.aload_n 0, 1) := by decide +kernel
theorem dX6_init_107 : decode cX6_init 107 = .ok (.sipush 160, 3) := by decide +kernel
theorem dX6_init_110 : decode cX6_init 110 = .ok (.newarray .int, 2) := by decide +kernel
theorem dX6_init_112 : decode cX6_init 112 = .ok (.putfield 50, 3) := by decide +kernel
theorem dX6_init_115 : decode cX6_init 115 = .ok (.aload_n 0, 1) := by decide +kernel
theorem dX6_init_116 : decode cX6_init 116 = .ok (.sipush 160, 3) := by decide +kernel
theorem dX6_init_119 : decode cX6_init 119 = .ok (.newarray .boolean, 2) := by decide +kernel
theorem dX6_init_121 : decode cX6_init 121 = .ok (.putfield 53, 3) := by decide +kernel
theorem dX6_init_124 : decode cX6_init 124 = .ok (.aload_n 0, 1) := by decide +kernel
theorem dX6_init_125 : decode cX6_init 125 = .ok (.sipush 160, 3) := by decide +kernel
theorem dX6_init_128 : decode cX6_init 128 = .ok (.newarray .boolean, 2) := by decide +kernel
theorem dX6_init_130 : decode cX6_init 130 = .ok (.putfield 56, 3) := by decide +kernel
theorem dX6_init_133 : decode cX6_init 133 = .ok (.aload_n 0, 1) := by decide +kernel
theorem dX6_init_134 : decode cX6_init 134 = .ok (.sipush 160, 3) := by decide +kernel
theorem dX6_init_137 : decode cX6_init 137 = .ok (.newarray .boolean, 2) := by decide +kernel
theorem dX6_init_139 : decode cX6_init 139 = .ok (.putfield 59, 3) := by decide +kernel
theorem dX6_init_142 : decode cX6_init 142 = .ok (.aload_n 0, 1) := by decide +kernel
theorem dX6_init_143 : decode cX6_init 143 = .ok (.sipush 640, 3) := by decide +kernel
theorem dX6_init_146 : decode cX6_init 146 = .ok (.newarray .int, 2) := by decide +kernel
theorem dX6_init_148 : decode cX6_init 148 = .ok (.putfield 62, 3) := by decide +kernel
theorem dX6_init_151 : decode cX6_init 151 = .ok (.aload_n 0, 1) := by decide +kernel
theorem dX6_init_152 : decode cX6_init 152 = .ok (.sipush 640, 3) := by decide +kernel
theorem dX6_init_155 : decode cX6_init 155 = .ok (.newarray .boolean, 2) := by decide +kernel
theorem dX6_init_157 : decode cX6_init 157 = .ok (.putfield 65, 3) := by decide +kernel
theorem dX6_init_160 : decode cX6_init 160 = .ok (.aload_n 0, 1) := by decide +kernel
theorem dX6_init_161 : decode cX6_init 161 = .ok (.sipush 640, 3) := by decide +kernel
theorem dX6_init_164 : decode cX6_init 164 = .ok (.newarray .int, 2) := by decide +kernel
theorem dX6_init_166 : decode cX6_init 166 = .ok (.putfield 68, 3) := by decide +kernel
theorem dX6_init_169 : decode cX6_init 169 = .ok (.aload_n 0, 1) := by decide +kernel
theorem dX6_init_170 : decode cX6_init 170 = .ok (.sipush 640, 3) := by decide +kernel
theorem dX6_init_173 : decode cX6_init 173 = .ok (.newarray .int, 2) := by decide +kernel
theorem dX6_init_175 : decode cX6_init 175 = .ok (.putfield 71, 3) := by decide +kernel
theorem dX6_init_178 : decode cX6_init 178 = .ok (.aload_n 0, 1) := by decide +kernel
theorem dX6_init_179 : decode cX6_init 179 = .ok (.iconst 4, 1) := by decide +kernel
theorem dX6_init_180 : decode cX6_init 180 = .ok (.newarray .int, 2) := by decide +kernel
theorem dX6_init_182 : decode cX6_init 182 = .ok (.putfield 74, 3) := by decide +kernel
theorem dX6_init_185 : decode cX6_init 185 = .ok (.aload_n 0, 1) := by decide +kernel
theorem dX6_init_186 : decode cX6_init 186 = .ok (.sipush 160, 3) := by decide +kernel
theorem dX6_init_189 : decode cX6_init 189 = .ok (.newarray .int, 2) := by decide +kernel
theorem dX6_init_191 : decode cX6_init 191 = .ok (.putfield 77, 3) := by decide +kernel
theorem dX6_init_194 : decode cX6_init 194 = .ok (.aload_n 0, 1) := by decide +kernel
theorem dX6_init_195 : decode cX6_init 195 = .ok (.sipush 400, 3) := by decide +kernel
theorem dX6_init_198 : decode cX6_init 198 = .ok (.newarray .int, 2) := by decide +kernel
theorem dX6_init_200 : decode cX6_init 200 = .ok (.putfield 80, 3) := by decide +kernel
theorem dX6_init_203 : decode cX6_init 203 = .ok (.aload_n 0, 1) := by decide +kernel
theorem dX6_init_204 : decode cX6_init 204 = .ok (.sipush 400, 3) := by decide +kernel
theorem dX6_init_207 : decode cX6_init 207 = .ok (.newarray .int, 2) := by decide +kernel
theorem dX6_init_209 : decode cX6_init 209 = .ok (.putfield 83, 3) := by decide +kernel
theorem dX6_init_212 : decode cX6_init 212 = .ok (.aload_n 0, 1) := by decide +kernel
theorem dX6_init_213 : decode cX6_init 213 = .ok (.sipush 400, 3) := by decide +kernel
theorem dX6_init_216 : decode cX6_init 216 = .ok (.newarray .int, 2) := by decide +kernel
theorem dX6_init_218 : decode cX6_init 218 = .ok (.putfield 86, 3) := by decide +kernel
theorem dX6_init_221 : decode cX6_init 221 = .ok (.aload_n 0, 1) := by decide +kernel
theorem dX6_init_222 : decode cX6_init 222 = .ok (.sipush 400, 3) := by decide +kernel
theorem dX6_init_225 : decode cX6_init 225 = .ok (.newarray .int, 2) := by decide +kernel
theorem dX6_init_227 : decode cX6_init 227 = .ok (.putfield 89, 3) := by decide +kernel
theorem dX6_init_230 : decode cX6_init 230 = .ok (.aload_n 0, 1) := by decide +kernel
theorem dX6_init_231 : decode cX6_init 231 = .ok (.sipush 400, 3) := by decide +kernel
theorem dX6_init_234 : decode cX6_init 234 = .ok (.newarray .int, 2) := by decide +kernel
theorem dX6_init_236 : decode cX6_init 236 = .ok (.putfield 92, 3) := by decide +kernel
theorem dX6_init_239 : decode cX6_init 239 = .ok (.aload_n 0, 1) := by decide +kernel
theorem dX6_init_240 : decode cX6_init 240 = .ok (.sipush 400, 3) := by decide +kernel
theorem dX6_init_243 : decode cX6_init 243 = .ok (.newarray .int, 2) := by decide +kernel
theorem dX6_init_245 : decode cX6_init 245 = .ok (.putfield 95, 3) := by decide +kernel
theorem dX6_init_248 : decode cX6_init 248 = .ok (.aload_n 0, 1) := by decide +kernel
theorem dX6_init_249 : decode cX6_init 249 = .ok (.sipush 400, 3) := by decide +kernel
theorem dX6_init_252 : decode cX6_init 252 = .ok (.newarray .int, 2) := by decide +kernel
theorem dX6_init_254 : decode cX6_init 254 = .ok (.putfield 98, 3) := by decide +kernel
theorem dX6_init_257 : decode cX6_init 257 = .ok (.aload_n 0, 1) := by decide +kernel
theorem dX6_init_258 : decode cX6_init 258 = .ok (.iload_n 1, 1) := by decide +kernel
theorem dX6_init_259 : decode cX6_init 259 = .ok (.iconst 2, 1) := by decide +kernel
theorem dX6_init_260 : decode cX6_init 260 = .ok (.if_icmp .ge 7, 3) := by decide +kernel
theorem dX6_init_263 : decode cX6_init 263 = .ok (.iconst 2, 1) := by decide +kernel
theorem dX6_init_264 : decode cX6_init 264 = .ok (.goto 13, 3) := by decide +kernel
theorem dX6_init_267 : decode cX6_init 267 = .ok (.iload_n 1, 1) := by decide +kernel
theorem dX6_init_268 : decode cX6_init 268 = .ok (.iconst 4, 1) := by decide +kernel
theorem dX6_init_269 : decode cX6_init 269 = .ok (.if_icmp .le 7, 3) := by decide +kernel
theorem dX6_init_272 : decode cX6_init 272 = .ok (.iconst 4, 1) := by decide +kernel
theorem dX6_init_273 : decode cX6_init 273 = .ok (.goto 4, 3) := by decide +kernel
theorem dX6_init_276 : decode cX6_init 276 = .ok (.iload_n 1, 1) := by decide +kernel
theorem dX6_init_277 : decode cX6_init 277 = .ok (.putfield 101, 3) := by decide +kernel
theorem dX6_init_280 : decode cX6_init 280 = .ok (.iconst 0, 1) := by decide +kernel
theorem dX6_init_281 : decode cX6_init 281 = .ok (.istore_n 2, 1) := by decide +kernel
theorem dX6_init_282 : decode cX6_init 282 = .ok (.iload_n 2, 1) := by decide +kernel
theorem dX6_init_283 : decode cX6_init 283 = .ok (.bipush 16, 2) := by decide +kernel
theorem dX6_init_285 : decode cX6_init 285 = .ok (.if_icmp .ge 17, 3) := by decide +kernel
theorem dX6_init_288 : decode cX6_init 288 = .ok (.aload_n 0, 1) := by decide +kernel
theorem dX6_init_289 : decode cX6_init 289 = .ok (.getfield 17, 3) := by decide +kernel
theorem dX6_init_292 : decode cX6_init 292 = .ok (.iload_n 2, 1) := by decide +kernel
theorem dX6_init_293 : decode cX6_init 293 = .ok (.bipush 100, 2) := by decide +kernel
theorem dX6_init_295 : decode cX6_init 295 = .ok (.iastore, 1) := by decide +kernel
theorem dX6_init_296 : decode cX6_init 296 = .ok (.iinc 2 1, 3) := by decide +kernel
theorem dX6_init_299 : decode cX6_init 299 = .ok (.goto (-17), 3) := by decide +kernel
theorem dX6_init_302 : decode cX6_init 302 = .ok (.return_, 1) := by decide +kernel
theorem dX6_isIn_0 : decode cX6_isIn 0 = .ok (.iload_n 0, 1) := by decide +kernel
theorem dX6_isIn_1 : decode cX6_isIn 1 = .ok (.ifCond .lt 12, 3) := by decide +kernel
theorem dX6_isIn_4 : decode cX6_isIn 4 = .ok (.iload_n 0, 1) := by decide +kernel
theorem dX6_isIn_5 : decode cX6_isIn 5 = .ok (.iload_n 1, 1) := by decide +kernel
theorem dX6_isIn_6 : decode cX6_isIn 6 = .ok (.if_icmp .ge 7, 3) := by decide +kernel
theorem dX6_isIn_9 : decode cX6_isIn 9 = .ok (.iconst 1, 1) := by decide +kernel
theorem dX6_isIn_10 : decode cX6_isIn 10 = .ok (.goto 4, 3) := by decide +kernel
theorem dX6_isIn_13 : decode cX6_isIn 13 = .ok (.iconst 0, 1) := by decide +kernel
theorem dX6_isIn_14 : decode cX6_isIn 14 = .ok (.ireturn, 1) := by decide +kernel
theorem dX6_isOf_0 : decode cX6_isOf 0 = .ok (.aload_n 0, 1) := by decide +kernel
theorem dX6_isOf_1 : decode cX6_isOf 1 = .ok (.getfield 26, 3) := by decide +kernel
theorem dX6_isOf_4 : decode cX6_isOf 4 = .ok (.iload_n 2, 1) := by decide +kernel
theorem dX6_isOf_5 : decode cX6_isOf 5 = .ok (.iaload, 1) := by decide +kernel
theorem dX6_isOf_6 : decode cX6_isOf 6 = .ok (.aload_n 0, 1) := by decide +kernel
theorem dX6_isOf_7 : decode cX6_isOf 7 = .ok (.getfield 101, 3) := by decide +kernel
theorem dX6_isOf_10 : decode cX6_isOf 10 = .ok (.irem, 1) := by decide +kernel
theorem dX6_isOf_11 : decode cX6_isOf 11 = .ok (.iload_n 1, 1) := by decide +kernel
theorem dX6_isOf_12 : decode cX6_isOf 12 = .ok (.if_icmp .eq 27, 3) := by decide +kernel
theorem dX6_isOf_15 : decode cX6_isOf 15 = .ok (.aload_n 0, 1) := by decide +kernel
theorem dX6_isOf_16 : decode cX6_isOf 16 = .ok (.getfield 23, 3) := by decide +kernel
theorem dX6_isOf_19 : decode cX6_isOf 19 = .ok (.iload_n 2, 1) := by decide +kernel
theorem dX6_isOf_20 : decode cX6_isOf 20 = .ok (.iaload, 1) := by decide +kernel
theorem dX6_isOf_21 : decode cX6_isOf 21 = .ok (.ifCond .eq 22, 3) := by decide +kernel
theorem dX6_isOf_24 : decode cX6_isOf 24 = .ok (.aload_n 0, 1) := by decide +kernel
theorem dX6_isOf_25 : decode cX6_isOf 25 = .ok (.getfield 29, 3) := by decide +kernel
theorem dX6_isOf_28 : decode cX6_isOf 28 = .ok (.iload_n 2, 1) := by decide +kernel
theorem dX6_isOf_29 : decode cX6_isOf 29 = .ok (.iaload, 1) := by decide +kernel
theorem dX6_isOf_30 : decode cX6_isOf 30 = .ok (.aload_n 0, 1) := by decide +kernel
theorem dX6_isOf_31 : decode cX6_isOf 31 = .ok (.getfield 101, 3) := by decide +kernel
theorem dX6_isOf_34 : decode cX6_isOf 34 = .ok (.irem, 1) := by decide +kernel
theorem dX6_isOf_35 : decode cX6_isOf 35 = .ok (.iload_n 1, 1) := by decide +kernel
theorem dX6_isOf_36 : decode cX6_isOf 36 = .ok (.if_icmp .ne 7, 3) := by decide +kernel
theorem dX6_isOf_39 : decode cX6_isOf 39 = .ok (.iconst 1, 1) := by decide +kernel
theorem dX6_isOf_40 : decode cX6_isOf 40 = .ok (.goto 4, 3) := by decide +kernel
theorem dX6_isOf_43 : decode cX6_isOf 43 = .ok (.iconst 0, 1) := by decide +kernel
theorem dX6_isOf_44 : decode cX6_isOf 44 = .ok (.ireturn, 1) := by decide +kernel
theorem dX6_at_0 : decode cX6_at 0 = .ok (.bipush 40, 2) := by decide +kernel
theorem dX6_at_2 : decode cX6_at 2 = .ok (.iload_n 0, 1) := by decide +kernel
theorem dX6_at_3 : decode cX6_at 3 = .ok (.imul, 1) := by decide +kernel
theorem dX6_at_4 : decode cX6_at 4 = .ok (.iload_n 1, 1) := by decide +kernel
theorem dX6_at_5 : decode cX6_at 5 = .ok (.iadd, 1) := by decide +kernel
theorem dX6_at_6 : decode cX6_at 6 = .ok (.ireturn, 1) := by decide +kernel
theorem dX6_of_0 : decode cX6_of 0 = .ok (.iconst 4, 1) := by decide +kernel
theorem dX6_of_1 : decode cX6_of 1 = .ok (.iload_n 0, 1) := by decide +kernel
theorem dX6_of_2 : decode cX6_of 2 = .ok (.iload_n 1, 1) := by decide +kernel
theorem dX6_of_3 : decode cX6_of 3 = .ok (.invokestatic 105, 3) := by decide +kernel
theorem dX6_of_6 : decode cX6_of 6 = .ok (.imul, 1) := by decide +kernel
theorem dX6_of_7 : decode cX6_of 7 = .ok (.iload_n 2, 1) := by decide +kernel
theorem dX6_of_8 : decode cX6_of 8 = .ok (.iadd, 1) := by decide +kernel
theorem dX6_of_9 : decode cX6_of 9 = .ok (.ireturn, 1) := by decide +kernel
theorem dX6_put_0 : decode cX6_put 0 = .ok (.aload_n 0, 1) := by decide +kernel
theorem dX6_put_1 : decode cX6_put 1 = .ok (.getfield 80, 3) := by decide +kernel
theorem dX6_put_4 : decode cX6_put 4 = .ok (.aload_n 0, 1) := by decide +kernel
theorem dX6_put_5 : decode cX6_put 5 = .ok (.getfield 109, 3) := by decide +kernel
theorem dX6_put_8 : decode cX6_put 8 = .ok (.iload_n 1, 1) := by decide +kernel
theorem dX6_put_9 : decode cX6_put 9 = .ok (.iastore, 1) := by decide +kernel
theorem dX6_put_10 : decode cX6_put 10 = .ok (.aload_n 0, 1) := by decide +kernel
theorem dX6_put_11 : decode cX6_put 11 = .ok (.getfield 83, 3) := by decide +kernel
