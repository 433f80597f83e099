theorem dX6_put_14 : decode cX6_put 14 = .ok (.aload_n 0, 1) := by decide +kernel
theorem dX6_put_15 : decode cX6_put 15 = .ok (.getfield 109, 3) := by decide +kernel
theorem dX6_put_18 : decode cX6_put 18 = .ok (.iload_n 2, 1) := by decide +kernel
theorem dX6_put_19 : decode cX6_put 19 = .ok (.iastore, 1) := by decide +kernel
theorem dX6_put_20 : decode cX6_put 20 = .ok (.aload_n 0, 1) := by decide +kernel
theorem dX6_put_21 : decode cX6_put 21 = .ok (.getfield 86, 3) := by decide +kernel
theorem dX6_put_24 : decode cX6_put 24 = .ok (.aload_n 0, 1) := by decide +kernel
theorem dX6_put_25 : decode cX6_put 25 = .ok (.getfield 109, 3) := by decide +kernel
theorem dX6_put_28 : decode cX6_put 28 = .ok (.iload_n 3, 1) := by decide +kernel
theorem dX6_put_29 : decode cX6_put 29 = .ok (.iastore, 1) := by decide +kernel
theorem dX6_put_30 : decode cX6_put 30 = .ok (.aload_n 0, 1) := by decide +kernel
theorem dX6_put_31 : decode cX6_put 31 = .ok (.getfield 89, 3) := by decide +kernel
theorem dX6_put_34 : decode cX6_put 34 = .ok (.aload_n 0, 1) := by decide +kernel
theorem dX6_put_35 : decode cX6_put 35 = .ok (.getfield 109, 3) := by decide +kernel
theorem dX6_put_38 : decode cX6_put 38 = .ok (.iload 4, 2) := by decide +kernel
theorem dX6_put_40 : decode cX6_put 40 = .ok (.iastore, 1) := by decide +kernel
theorem dX6_put_41 : decode cX6_put 41 = .ok (.aload_n 0, 1) := by decide +kernel
theorem dX6_put_42 : decode cX6_put 42 = .ok (.getfield 92, 3) := by decide +kernel
theorem dX6_put_45 : decode cX6_put 45 = .ok (.aload_n 0, 1) := by decide +kernel
theorem dX6_put_46 : decode cX6_put 46 = .ok (.getfield 109, 3) := by decide +kernel
theorem dX6_put_49 : decode cX6_put 49 = .ok (.iload 5, 2) := by decide +kernel
theorem dX6_put_51 : decode cX6_put 51 = .ok (.iastore, 1) := by decide +kernel
theorem dX6_put_52 : decode cX6_put 52 = .ok (.aload_n 0, 1) := by decide +kernel
theorem dX6_put_53 : decode cX6_put 53 = .ok (.getfield 95, 3) := by decide +kernel
theorem dX6_put_56 : decode cX6_put 56 = .ok (.aload_n 0, 1) := by decide +kernel
theorem dX6_put_57 : decode cX6_put 57 = .ok (.getfield 109, 3) := by decide +kernel
theorem dX6_put_60 : decode cX6_put 60 = .ok (.aload_n 0, 1) := by decide +kernel
theorem dX6_put_61 : decode cX6_put 61 = .ok (.getfield 17, 3) := by decide +kernel
theorem dX6_put_64 : decode cX6_put 64 = .ok (.aload_n 0, 1) := by decide +kernel
theorem dX6_put_65 : decode cX6_put 65 = .ok (.getfield 26, 3) := by decide +kernel
theorem dX6_put_68 : decode cX6_put 68 = .ok (.iload_n 2, 1) := by decide +kernel
theorem dX6_put_69 : decode cX6_put 69 = .ok (.iaload, 1) := by decide +kernel
theorem dX6_put_70 : decode cX6_put 70 = .ok (.iaload, 1) := by decide +kernel
theorem dX6_put_71 : decode cX6_put 71 = .ok (.iastore, 1) := by decide +kernel
theorem dX6_put_72 : decode cX6_put 72 = .ok (.aload_n 0, 1) := by decide +kernel
theorem dX6_put_73 : decode cX6_put 73 = .ok (.getfield 98, 3) := by decide +kernel
theorem dX6_put_76 : decode cX6_put 76 = .ok (.aload_n 0, 1) := by decide +kernel
theorem dX6_put_77 : decode cX6_put 77 = .ok (.getfield 109, 3) := by decide +kernel
theorem dX6_put_80 : decode cX6_put 80 = .ok (.aload_n 0, 1) := by decide +kernel
theorem dX6_put_81 : decode cX6_put 81 = .ok (.getfield 17, 3) := by decide +kernel
theorem dX6_put_84 : decode cX6_put 84 = .ok (.aload_n 0, 1) := by decide +kernel
theorem dX6_put_85 : decode cX6_put 85 = .ok (.getfield 29, 3) := by decide +kernel
theorem dX6_put_88 : decode cX6_put 88 = .ok (.iload_n 2, 1) := by decide +kernel
theorem dX6_put_89 : decode cX6_put 89 = .ok (.iaload, 1) := by decide +kernel
theorem dX6_put_90 : decode cX6_put 90 = .ok (.iaload, 1) := by decide +kernel
theorem dX6_put_91 : decode cX6_put 91 = .ok (.iastore, 1) := by decide +kernel
theorem dX6_put_92 : decode cX6_put 92 = .ok (.aload_n 0, 1) := by decide +kernel
theorem dX6_put_93 : decode cX6_put 93 = .ok (.dup, 1) := by decide +kernel
theorem dX6_put_94 : decode cX6_put 94 = .ok (.getfield 109, 3) := by decide +kernel
theorem dX6_put_97 : decode cX6_put 97 = .ok (.iconst 1, 1) := by decide +kernel
theorem dX6_put_98 : decode cX6_put 98 = .ok (.iadd, 1) := by decide +kernel
theorem dX6_put_99 : decode cX6_put 99 = .ok (.putfield 109, 3) := by decide +kernel
theorem dX6_put_102 : decode cX6_put 102 = .ok (.return_, 1) := by decide +kernel
theorem dX6_putOthers_0 : decode cX6_putOthers 0 = .ok (.iconst 0, 1) := by decide +kernel
theorem dX6_putOthers_1 : decode cX6_putOthers 1 = .ok (.istore 5, 2) := by decide +kernel
theorem dX6_putOthers_3 : decode cX6_putOthers 3 = .ok (.iload 5, 2) := by decide +kernel
theorem dX6_putOthers_5 : decode cX6_putOthers 5 = .ok (.aload_n 0, 1) := by decide +kernel
theorem dX6_putOthers_6 : decode cX6_putOthers 6 = .ok (.getfield 101, 3) := by decide +kernel
theorem dX6_putOthers_9 : decode cX6_putOthers 9 = .ok (.if_icmp .ge 36, 3) := by decide +kernel
theorem dX6_putOthers_12 : decode cX6_putOthers 12 = .ok (.iload 5, 2) := by decide +kernel
theorem dX6_putOthers_14 : decode cX6_putOthers 14 = .ok (.iload_n 3, 1) := by decide +kernel
theorem dX6_putOthers_15 : decode cX6_putOthers 15 = .ok (.if_icmp .eq 24, 3) := by decide +kernel
theorem dX6_putOthers_18 : decode cX6_putOthers 18 = .ok (.aload_n 0, 1) := by decide +kernel
theorem dX6_putOthers_19 : decode cX6_putOthers 19 = .ok (.iload 5, 2) := by decide +kernel
theorem dX6_putOthers_21 : decode cX6_putOthers 21 = .ok (.iload_n 2, 1) := by decide +kernel
theorem dX6_putOthers_22 : decode cX6_putOthers 22 = .ok (.invokevirtual 112, 3) := by decide +kernel
theorem dX6_putOthers_25 : decode cX6_putOthers 25 = .ok (.ifCond .eq 14, 3) := by decide +kernel
theorem dX6_putOthers_28 : decode cX6_putOthers 28 = .ok (.aload_n 0, 1) := by decide +kernel
theorem dX6_putOthers_29 : decode cX6_putOthers 29 = .ok (.iload_n 1, 1) := by decide +kernel
theorem dX6_putOthers_30 : decode cX6_putOthers 30 = .ok (.iload_n 2, 1) := by decide +kernel
theorem dX6_putOthers_31 : decode cX6_putOthers 31 = .ok (.iload_n 3, 1) := by decide +kernel
theorem dX6_putOthers_32 : decode cX6_putOthers 32 = .ok (.iload 5, 2) := by decide +kernel
theorem dX6_putOthers_34 : decode cX6_putOthers 34 = .ok (.iload 4, 2) := by decide +kernel
theorem dX6_putOthers_36 : decode cX6_putOthers 36 = .ok (.invokevirtual 116, 3) := by decide +kernel
theorem dX6_putOthers_39 : decode cX6_putOthers 39 = .ok (.iinc 5 1, 3) := by decide +kernel
theorem dX6_putOthers_42 : decode cX6_putOthers 42 = .ok (.goto (-39), 3) := by decide +kernel
theorem dX6_putOthers_45 : decode cX6_putOthers 45 = .ok (.return_, 1) := by decide +kernel
theorem dX6_send_0 : decode cX6_send 0 = .ok (.iload_n 1, 1) := by decide +kernel
theorem dX6_send_1 : decode cX6_send 1 = .ok (.iconst 4, 1) := by decide +kernel
theorem dX6_send_2 : decode cX6_send 2 = .ok (.invokestatic 120, 3) := by decide +kernel
theorem dX6_send_5 : decode cX6_send 5 = .ok (.ifCond .eq 51, 3) := by decide +kernel
theorem dX6_send_8 : decode cX6_send 8 = .ok (.iload_n 2, 1) := by decide +kernel
theorem dX6_send_9 : decode cX6_send 9 = .ok (.iconst 4, 1) := by decide +kernel
theorem dX6_send_10 : decode cX6_send 10 = .ok (.invokestatic 120, 3) := by decide +kernel
theorem dX6_send_13 : decode cX6_send 13 = .ok (.ifCond .eq 43, 3) := by decide +kernel
theorem dX6_send_16 : decode cX6_send 16 = .ok (.iload_n 3, 1) := by decide +kernel
theorem dX6_send_17 : decode cX6_send 17 = .ok (.bipush 16, 2) := by decide +kernel
theorem dX6_send_19 : decode cX6_send 19 = .ok (.invokestatic 120, 3) := by decide +kernel
theorem dX6_send_22 : decode cX6_send 22 = .ok (.ifCond .eq 34, 3) := by decide +kernel
theorem dX6_send_25 : decode cX6_send 25 = .ok (.iload 4, 2) := by decide +kernel
theorem dX6_send_27 : decode cX6_send 27 = .ok (.bipush 16, 2) := by decide +kernel
theorem dX6_send_29 : decode cX6_send 29 = .ok (.invokestatic 120, 3) := by decide +kernel
theorem dX6_send_32 : decode cX6_send 32 = .ok (.ifCond .eq 24, 3) := by decide +kernel
theorem dX6_send_35 : decode cX6_send 35 = .ok (.iload 5, 2) := by decide +kernel
theorem dX6_send_37 : decode cX6_send 37 = .ok (.ifCond .lt 19, 3) := by decide +kernel
theorem dX6_send_40 : decode cX6_send 40 = .ok (.iload 5, 2) := by decide +kernel
theorem dX6_send_42 : decode cX6_send 42 = .ok (.ldc 123, 2) := by decide +kernel
theorem dX6_send_44 : decode cX6_send 44 = .ok (.if_icmp .gt 12, 3) := by decide +kernel
theorem dX6_send_47 : decode cX6_send 47 = .ok (.aload_n 0, 1) := by decide +kernel
theorem dX6_send_48 : decode cX6_send 48 = .ok (.getfield 124, 3) := by decide +kernel
theorem dX6_send_51 : decode cX6_send 51 = .ok (.bipush 40, 2) := by decide +kernel
theorem dX6_send_53 : decode cX6_send 53 = .ok (.if_icmp .ne 5, 3) := by decide +kernel
theorem dX6_send_56 : decode cX6_send 56 = .ok (.iconst (-1), 1) := by decide +kernel
theorem dX6_send_57 : decode cX6_send 57 = .ok (.ireturn, 1) := by decide +kernel
theorem dX6_send_58 : decode cX6_send 58 = .ok (.aload_n 0, 1) := by decide +kernel
theorem dX6_send_59 : decode cX6_send 59 = .ok (.getfield 124, 3) := by decide +kernel
theorem dX6_send_62 : decode cX6_send 62 = .ok (.istore 6, 2) := by decide +kernel
theorem dX6_send_64 : decode cX6_send 64 = .ok (.aload_n 0, 1) := by decide +kernel
theorem dX6_send_65 : decode cX6_send 65 = .ok (.dup, 1) := by decide +kernel
theorem dX6_send_66 : decode cX6_send 66 = .ok (.getfield 124, 3) := by decide +kernel
theorem dX6_send_69 : decode cX6_send 69 = .ok (.iconst 1, 1) := by decide +kernel
theorem dX6_send_70 : decode cX6_send 70 = .ok (.iadd, 1) := by decide +kernel
theorem dX6_send_71 : decode cX6_send 71 = .ok (.putfield 124, 3) := by decide +kernel
theorem dX6_send_74 : decode cX6_send 74 = .ok (.aload_n 0, 1) := by decide +kernel
theorem dX6_send_75 : decode cX6_send 75 = .ok (.getfield 20, 3) := by decide +kernel
theorem dX6_send_78 : decode cX6_send 78 = .ok (.iload 6, 2) := by decide +kernel
theorem dX6_send_80 : decode cX6_send 80 = .ok (.iload_n 1, 1) := by decide +kernel
theorem dX6_send_81 : decode cX6_send 81 = .ok (.iastore, 1) := by decide +kernel
theorem dX6_send_82 : decode cX6_send 82 = .ok (.aload_n 0, 1) := by decide +kernel
theorem dX6_send_83 : decode cX6_send 83 = .ok (.getfield 23, 3) := by decide +kernel
theorem dX6_send_86 : decode cX6_send 86 = .ok (.iload 6, 2) := by decide +kernel
theorem dX6_send_88 : decode cX6_send 88 = .ok (.iload_n 2, 1) := by decide +kernel
theorem dX6_send_89 : decode cX6_send 89 = .ok (.iastore, 1) := by decide +kernel
theorem dX6_send_90 : decode cX6_send 90 = .ok (.aload_n 0, 1) := by decide +kernel
theorem dX6_send_91 : decode cX6_send 91 = .ok (.getfield 26, 3) := by decide +kernel
theorem dX6_send_94 : decode cX6_send 94 = .ok (.iload 6, 2) := by decide +kernel
theorem dX6_send_96 : decode cX6_send 96 = .ok (.iload_n 3, 1) := by decide +kernel
theorem dX6_send_97 : decode cX6_send 97 = .ok (.iastore, 1) := by decide +kernel
theorem dX6_send_98 : decode cX6_send 98 = .ok (.aload_n 0, 1) := by decide +kernel
theorem dX6_send_99 : decode cX6_send 99 = .ok (.getfield 29, 3) := by decide +kernel
theorem dX6_send_102 : decode cX6_send 102 = .ok (.iload 6, 2) := by decide +kernel
theorem dX6_send_104 : decode cX6_send 104 = .ok (.iload 4, 2) := by decide +kernel
theorem dX6_send_106 : decode cX6_send 106 = .ok (.iastore, 1) := by decide +kernel
theorem dX6_send_107 : decode cX6_send 107 = .ok (.aload_n 0, 1) := by decide +kernel
theorem dX6_send_108 : decode cX6_send 108 = .ok (.getfield 32, 3) := by decide +kernel
theorem dX6_send_111 : decode cX6_send 111 = .ok (.iload 6, 2) := by decide +kernel
theorem dX6_send_113 : decode cX6_send 113 = .ok (.iload 5, 2) := by decide +kernel
theorem dX6_send_115 : decode cX6_send 115 = .ok (.iastore, 1) := by decide +kernel
theorem dX6_send_116 : decode cX6_send 116 = .ok (.aload_n 0, 1) := by decide +kernel
theorem dX6_send_117 : decode cX6_send 117 = .ok (.getfield 35, 3) := by decide +kernel
theorem dX6_send_120 : decode cX6_send 120 = .ok (.iload 6, 2) := by decide +kernel
theorem dX6_send_122 : decode cX6_send 122 = .ok (.aload_n 0, 1) := by decide +kernel
theorem dX6_send_123 : decode cX6_send 123 = .ok (.getfield 44, 3) := by decide +kernel
theorem dX6_send_126 : decode cX6_send 126 = .ok (.iload_n 1, 1) := by decide +kernel
theorem dX6_send_127 : decode cX6_send 127 = .ok (.iaload, 1) := by decide +kernel
theorem dX6_send_128 : decode cX6_send 128 = .ok (.iastore, 1) := by decide +kernel
theorem dX6_send_129 : decode cX6_send 129 = .ok (.aload_n 0, 1) := by decide +kernel
theorem dX6_send_130 : decode cX6_send 130 = .ok (.iconst 0, 1) := by decide +kernel
theorem dX6_send_131 : decode cX6_send 131 = .ok (.iload 6, 2) := by decide +kernel
theorem dX6_send_133 : decode cX6_send 133 = .ok (.iconst (-1), 1) := by decide +kernel
theorem dX6_send_134 : decode cX6_send 134 = .ok (.iconst (-1), 1) := by decide +kernel
theorem dX6_send_135 : decode cX6_send 135 = .ok (.invokevirtual 127, 3) := by decide +kernel
theorem dX6_send_138 : decode cX6_send 138 = .ok (.iload 6, 2) := by decide +kernel
theorem dX6_send_140 : decode cX6_send 140 = .ok (.ireturn, 1) := by decide +kernel
theorem dX6_comesStart_0 : decode cX6_comesStart 0 = .ok (.aload_n 0, 1) := by decide +kernel
theorem dX6_comesStart_1 : decode cX6_comesStart 1 = .ok (.getfield 47, 3) := by decide +kernel
theorem dX6_comesStart_4 : decode cX6_comesStart 4 = .ok (.iload_n 1, 1) := by decide +kernel
theorem dX6_comesStart_5 : decode cX6_comesStart 5 = .ok (.iload_n 2, 1) := by decide +kernel
theorem dX6_comesStart_6 : decode cX6_comesStart 6 = .ok (.invokestatic 105, 3) := by decide +kernel
theorem dX6_comesStart_9 : decode cX6_comesStart 9 = .ok (.baload, 1) := by decide +kernel
theorem dX6_comesStart_10 : decode cX6_comesStart 10 = .ok (.ifCond .eq 4, 3) := by decide +kernel
theorem dX6_comesStart_13 : decode cX6_comesStart 13 = .ok (.return_, 1) := by decide +kernel
theorem dX6_comesStart_14 : decode cX6_comesStart 14 = .ok (.aload_n 0, 1) := by decide +kernel
theorem dX6_comesStart_15 : decode cX6_comesStart 15 = .ok (.getfield 47, 3) := by decide +kernel
theorem dX6_comesStart_18 : decode cX6_comesStart 18 = .ok (.iload_n 1, 1) := by decide +kernel
theorem dX6_comesStart_19 : decode cX6_comesStart 19 = .ok (.iload_n 2, 1) := by decide +kernel
theorem dX6_comesStart_20 : decode cX6_comesStart 20 = .ok (.invokestatic 105, 3) := by decide +kernel
theorem dX6_comesStart_23 : decode cX6_comesStart 23 = .ok (.iconst 1, 1) := by decide +kernel
theorem dX6_comesStart_24 : decode cX6_comesStart 24 = .ok (.bastore, 1) := by decide +kernel
theorem dX6_comesStart_25 : decode cX6_comesStart 25 = .ok (.aload_n 0, 1) := by decide +kernel
theorem dX6_comesStart_26 : decode cX6_comesStart 26 = .ok (.getfield 7, 3) := by decide +kernel
theorem dX6_comesStart_29 : decode cX6_comesStart 29 = .ok (.iload_n 1, 1) := by decide +kernel
theorem dX6_comesStart_30 : decode cX6_comesStart 30 = .ok (.aload_n 0, 1) := by decide +kernel
theorem dX6_comesStart_31 : decode cX6_comesStart 31 = .ok (.getfield 7, 3) := by decide +kernel
theorem dX6_comesStart_34 : decode cX6_comesStart 34 = .ok (.iload_n 1, 1) := by decide +kernel
theorem dX6_comesStart_35 : decode cX6_comesStart 35 = .ok (.iaload, 1) := by decide +kernel
theorem dX6_comesStart_36 : decode cX6_comesStart 36 = .ok (.aload_n 0, 1) := by decide +kernel
theorem dX6_comesStart_37 : decode cX6_comesStart 37 = .ok (.getfield 35, 3) := by decide +kernel
theorem dX6_comesStart_40 : decode cX6_comesStart 40 = .ok (.iload_n 2, 1) := by decide +kernel
theorem dX6_comesStart_41 : decode cX6_comesStart 41 = .ok (.iaload, 1) := by decide +kernel
theorem dX6_comesStart_42 : decode cX6_comesStart 42 = .ok (.if_icmp .le 12, 3) := by decide +kernel
theorem dX6_comesStart_45 : decode cX6_comesStart 45 = .ok (.aload_n 0, 1) := by decide +kernel
theorem dX6_comesStart_46 : decode cX6_comesStart 46 = .ok (.getfield 7, 3) := by decide +kernel
theorem dX6_comesStart_49 : decode cX6_comesStart 49 = .ok (.iload_n 1, 1) := by decide +kernel
theorem dX6_comesStart_50 : decode cX6_comesStart 50 = .ok (.iaload, 1) := by decide +kernel
theorem dX6_comesStart_51 : decode cX6_comesStart 51 = .ok (.goto 9, 3) := by decide +kernel
theorem dX6_comesStart_54 : decode cX6_comesStart 54 = .ok (.aload_n 0, 1) := by decide +kernel
theorem dX6_comesStart_55 : decode cX6_comesStart 55 = .ok (.getfield 35, 3) := by decide +kernel
theorem dX6_comesStart_58 : decode cX6_comesStart 58 = .ok (.iload_n 2, 1) := by decide +kernel
theorem dX6_comesStart_59 : decode cX6_comesStart 59 = .ok (.iaload, 1) := by decide +kernel
theorem dX6_comesStart_60 : decode cX6_comesStart 60 = .ok (.iconst 1, 1) := by decide +kernel
theorem dX6_comesStart_61 : decode cX6_comesStart 61 = .ok (.iadd, 1) := by decide +kernel
theorem dX6_comesStart_62 : decode cX6_comesStart 62 = .ok (.iastore, 1) := by decide +kernel
theorem dX6_comesStart_63 : decode cX6_comesStart 63 = .ok (.aload_n 0, 1) := by decide +kernel
theorem dX6_comesStart_64 : decode cX6_comesStart 64 = .ok (.getfield 62, 3) := by decide +kernel
theorem dX6_comesStart_67 : decode cX6_comesStart 67 = .ok (.iload_n 1, 1) := by decide +kernel
theorem dX6_comesStart_68 : decode cX6_comesStart 68 = .ok (.iload_n 2, 1) := by decide +kernel
theorem dX6_comesStart_69 : decode cX6_comesStart 69 = .ok (.iload_n 1, 1) := by decide +kernel
theorem dX6_comesStart_70 : decode cX6_comesStart 70 = .ok (.invokestatic 131, 3) := by decide +kernel
theorem dX6_comesStart_73 : decode cX6_comesStart 73 = .ok (.aload_n 0, 1) := by decide +kernel
theorem dX6_comesStart_74 : decode cX6_comesStart 74 = .ok (.getfield 7, 3) := by decide +kernel
theorem dX6_comesStart_77 : decode cX6_comesStart 77 = .ok (.iload_n 1, 1) := by decide +kernel
theorem dX6_comesStart_78 : decode cX6_comesStart 78 = .ok (.iaload, 1) := by decide +kernel
theorem dX6_comesStart_79 : decode cX6_comesStart 79 = .ok (.iastore, 1) := by decide +kernel
theorem dX6_comesStart_80 : decode cX6_comesStart 80 = .ok (.aload_n 0, 1) := by decide +kernel
theorem dX6_comesStart_81 : decode cX6_comesStart 81 = .ok (.iconst 1, 1) := by decide +kernel
theorem dX6_comesStart_82 : decode cX6_comesStart 82 = .ok (.iload_n 2, 1) := by decide +kernel
theorem dX6_comesStart_83 : decode cX6_comesStart 83 = .ok (.iload_n 1, 1) := by decide +kernel
theorem dX6_comesStart_84 : decode cX6_comesStart 84 = .ok (.aload_n 0, 1) := by decide +kernel
theorem dX6_comesStart_85 : decode cX6_comesStart 85 = .ok (.getfield 7, 3) := by decide +kernel
theorem dX6_comesStart_88 : decode cX6_comesStart 88 = .ok (.iload_n 1, 1) := by decide +kernel
theorem dX6_comesStart_89 : decode cX6_comesStart 89 = .ok (.iaload, 1) := by decide +kernel
theorem dX6_comesStart_90 : decode cX6_comesStart 90 = .ok (.invokevirtual 127, 3) := by decide +kernel
theorem dX6_comesStart_93 : decode cX6_comesStart 93 = .ok (.return_, 1) := by decide +kernel
theorem dX6_comes_0 : decode cX6_comes 0 = .ok (.aload_n 0, 1) := by decide +kernel
theorem dX6_comes_1 : decode cX6_comes 1 = .ok (.getfield 89, 3) := by decide +kernel
theorem dX6_comes_4 : decode cX6_comes 4 = .ok (.iload_n 1, 1) := by decide +kernel
theorem dX6_comes_5 : decode cX6_comes 5 = .ok (.iaload, 1) := by decide +kernel
theorem dX6_comes_6 : decode cX6_comes 6 = .ok (.istore_n 2, 1) := by decide +kernel
theorem dX6_comes_7 : decode cX6_comes 7 = .ok (.aload_n 0, 1) := by decide +kernel
theorem dX6_comes_8 : decode cX6_comes 8 = .ok (.getfield 83, 3) := by decide +kernel
theorem dX6_comes_11 : decode cX6_comes 11 = .ok (.iload_n 1, 1) := by decide +kernel
theorem dX6_comes_12 : decode cX6_comes 12 = .ok (.iaload, 1) := by decide +kernel
theorem dX6_comes_13 : decode cX6_comes 13 = .ok (.istore_n 3, 1) := by decide +kernel
theorem dX6_comes_14 : decode cX6_comes 14 = .ok (.aload_n 0, 1) := by decide +kernel
theorem dX6_comes_15 : decode cX6_comes 15 = .ok (.getfield 80, 3) := by decide +kernel
theorem dX6_comes_18 : decode cX6_comes 18 = .ok (.iload_n 1, 1) := by decide +kernel
theorem dX6_comes_19 : decode cX6_comes 19 = .ok (.iaload, 1) := by decide +kernel
theorem dX6_comes_20 : decode cX6_comes 20 = .ok (.ifCond .ne 12, 3) := by decide +kernel
theorem dX6_comes_23 : decode cX6_comes 23 = .ok (.aload_n 0, 1) := by decide +kernel
theorem dX6_comes_24 : decode cX6_comes 24 = .ok (.iload_n 2, 1) := by decide +kernel
theorem dX6_comes_25 : decode cX6_comes 25 = .ok (.iload_n 3, 1) := by decide +kernel
theorem dX6_comes_26 : decode cX6_comes 26 = .ok (.invokevirtual 135, 3) := by decide +kernel
theorem dX6_comes_29 : decode cX6_comes 29 = .ok (.goto 118, 3) := by decide +kernel
theorem dX6_comes_32 : decode cX6_comes 32 = .ok (.aload_n 0, 1) := by decide +kernel
theorem dX6_comes_33 : decode cX6_comes 33 = .ok (.getfield 80, 3) := by decide +kernel
theorem dX6_comes_36 : decode cX6_comes 36 = .ok (.iload_n 1, 1) := by decide +kernel
theorem dX6_comes_37 : decode cX6_comes 37 = .ok (.iaload, 1) := by decide +kernel
theorem dX6_comes_38 : decode cX6_comes 38 = .ok (.iconst 1, 1) := by decide +kernel
theorem dX6_comes_39 : decode cX6_comes 39 = .ok (.if_icmp .ne 28, 3) := by decide +kernel
theorem dX6_comes_42 : decode cX6_comes 42 = .ok (.aload_n 0, 1) := by decide +kernel
theorem dX6_comes_43 : decode cX6_comes 43 = .ok (.getfield 62, 3) := by decide +kernel
theorem dX6_comes_46 : decode cX6_comes 46 = .ok (.iload_n 2, 1) := by decide +kernel
theorem dX6_comes_47 : decode cX6_comes 47 = .ok (.iload_n 3, 1) := by decide +kernel
theorem dX6_comes_48 : decode cX6_comes 48 = .ok (.aload_n 0, 1) := by decide +kernel
theorem dX6_comes_49 : decode cX6_comes 49 = .ok (.getfield 86, 3) := by decide +kernel
theorem dX6_comes_52 : decode cX6_comes 52 = .ok (.iload_n 1, 1) := by decide +kernel
theorem dX6_comes_53 : decode cX6_comes 53 = .ok (.iaload, 1) := by decide +kernel
theorem dX6_comes_54 : decode cX6_comes 54 = .ok (.invokestatic 131, 3) := by decide +kernel
theorem dX6_comes_57 : decode cX6_comes 57 = .ok (.aload_n 0, 1) := by decide +kernel
theorem dX6_comes_58 : decode cX6_comes 58 = .ok (.getfield 92, 3) := by decide +kernel
theorem dX6_comes_61 : decode cX6_comes 61 = .ok (.iload_n 1, 1) := by decide +kernel
theorem dX6_comes_62 : decode cX6_comes 62 = .ok (.iaload, 1) := by decide +kernel
theorem dX6_comes_63 : decode cX6_comes 63 = .ok (.iastore, 1) := by decide +kernel
theorem dX6_comes_64 : decode cX6_comes 64 = .ok (.goto 83, 3) := by decide +kernel
theorem dX6_comes_67 : decode cX6_comes 67 = .ok (.aload_n 0, 1) := by decide +kernel
theorem dX6_comes_68 : decode cX6_comes 68 = .ok (.getfield 65, 3) := by decide +kernel
theorem dX6_comes_71 : decode cX6_comes 71 = .ok (.iload_n 2, 1) := by decide +kernel
theorem dX6_comes_72 : decode cX6_comes 72 = .ok (.iload_n 3, 1) := by decide +kernel
theorem dX6_comes_73 : decode cX6_comes 73 = .ok (.aload_n 0, 1) := by decide +kernel
theorem dX6_comes_74 : decode cX6_comes 74 = .ok (.getfield 86, 3) := by decide +kernel
theorem dX6_comes_77 : decode cX6_comes 77 = .ok (.iload_n 1, 1) := by decide +kernel
theorem dX6_comes_78 : decode cX6_comes 78 = .ok (.iaload, 1) := by decide +kernel
theorem dX6_comes_79 : decode cX6_comes 79 = .ok (.invokestatic 131, 3) := by decide +kernel
theorem dX6_comes_82 : decode cX6_comes 82 = .ok (.baload, 1) := by decide +kernel
theorem dX6_comes_83 : decode cX6_comes 83 = .ok (.ifCond .ne 64, 3) := by decide +kernel
theorem dX6_comes_86 : decode cX6_comes 86 = .ok (.aload_n 0, 1) := by decide +kernel
theorem dX6_comes_87 : decode cX6_comes 87 = .ok (.getfield 65, 3) := by decide +kernel
theorem dX6_comes_90 : decode cX6_comes 90 = .ok (.iload_n 2, 1) := by decide +kernel
theorem dX6_comes_91 : decode cX6_comes 91 = .ok (.iload_n 3, 1) := by decide +kernel
theorem dX6_comes_92 : decode cX6_comes 92 = .ok (.aload_n 0, 1) := by decide +kernel
theorem dX6_comes_93 : decode cX6_comes 93 = .ok (.getfield 86, 3) := by decide +kernel
theorem dX6_comes_96 : decode cX6_comes 96 = .ok (.iload_n 1, 1) := by decide +kernel
theorem dX6_comes_97 : decode cX6_comes 97 = .ok (.iaload, 1) := by decide +kernel
theorem dX6_comes_98 : decode cX6_comes 98 = .ok (.invokestatic 131, 3) := by decide +kernel
theorem dX6_comes_101 : decode cX6_comes 101 = .ok (.iconst 1, 1) := by decide +kernel
theorem dX6_comes_102 : decode cX6_comes 102 = .ok (.bastore, 1) := by decide +kernel
theorem dX6_comes_103 : decode cX6_comes 103 = .ok (.aload_n 0, 1) := by decide +kernel
theorem dX6_comes_104 : decode cX6_comes 104 = .ok (.getfield 68, 3) := by decide +kernel
theorem dX6_comes_107 : decode cX6_comes 107 = .ok (.iload_n 2, 1) := by decide +kernel
theorem dX6_comes_108 : decode cX6_comes 108 = .ok (.iload_n 3, 1) := by decide +kernel
theorem dX6_comes_109 : decode cX6_comes 109 = .ok (.aload_n 0, 1) := by decide +kernel
theorem dX6_comes_110 : decode cX6_comes 110 = .ok (.getfield 86, 3) := by decide +kernel
theorem dX6_comes_113 : decode cX6_comes 113 = .ok (.iload_n 1, 1) := by decide +kernel
theorem dX6_comes_114 : decode cX6_comes 114 = .ok (.iaload, 1) := by decide +kernel
theorem dX6_comes_115 : decode cX6_comes 115 = .ok (.invokestatic 131, 3) := by decide +kernel
theorem dX6_comes_118 : decode cX6_comes 118 = .ok (.aload_n 0, 1) := by decide +kernel
theorem dX6_comes_119 : decode cX6_comes 119 = .ok (.getfield 95, 3) := by decide +kernel
theorem dX6_comes_122 : decode cX6_comes 122 = .ok (.iload_n 1, 1) := by decide +kernel
theorem dX6_comes_123 : decode cX6_comes 123 = .ok (.iaload, 1) := by decide +kernel
theorem dX6_comes_124 : decode cX6_comes 124 = .ok (.iastore, 1) := by decide +kernel
theorem dX6_comes_125 : decode cX6_comes 125 = .ok (.aload_n 0, 1) := by decide +kernel
theorem dX6_comes_126 : decode cX6_comes 126 = .ok (.getfield 71, 3) := by decide +kernel
theorem dX6_comes_129 : decode cX6_comes 129 = .ok (.iload_n 2, 1) := by decide +kernel
theorem dX6_comes_130 : decode cX6_comes 130 = .ok (.iload_n 3, 1) := by decide +kernel
theorem dX6_comes_131 : decode cX6_comes 131 = .ok (.aload_n 0, 1) := by decide +kernel
theorem dX6_comes_132 : decode cX6_comes 132 = .ok (.getfield 86, 3) := by decide +kernel
theorem dX6_comes_135 : decode cX6_comes 135 = .ok (.iload_n 1, 1) := by decide +kernel
theorem dX6_comes_136 : decode cX6_comes 136 = .ok (.iaload, 1) := by decide +kernel
theorem dX6_comes_137 : decode cX6_comes 137 = .ok (.invokestatic 131, 3) := by decide +kernel
theorem dX6_comes_140 : decode cX6_comes 140 = .ok (.aload_n 0, 1) := by decide +kernel
theorem dX6_comes_141 : decode cX6_comes 141 = .ok (.getfield 98, 3) := by decide +kernel
theorem dX6_comes_144 : decode cX6_comes 144 = .ok (.iload_n 1, 1) := by decide +kernel
theorem dX6_comes_145 : decode cX6_comes 145 = .ok (.iaload, 1) := by decide +kernel
theorem dX6_comes_146 : decode cX6_comes 146 = .ok (.iastore, 1) := by decide +kernel
theorem dX6_comes_147 : decode cX6_comes 147 = .ok (.aload_n 0, 1) := by decide +kernel
theorem dX6_comes_148 : decode cX6_comes 148 = .ok (.dup, 1) := by decide +kernel
theorem dX6_comes_149 : decode cX6_comes 149 = .ok (.getfield 139, 3) := by decide +kernel
theorem dX6_comes_152 : decode cX6_comes 152 = .ok (.iconst 1, 1) := by decide +kernel
theorem dX6_comes_153 : decode cX6_comes 153 = .ok (.iadd, 1) := by decide +kernel
theorem dX6_comes_154 : decode cX6_comes 154 = .ok (.putfield 139, 3) := by decide +kernel
theorem dX6_comes_157 : decode cX6_comes 157 = .ok (.iconst 1, 1) := by decide +kernel
theorem dX6_comes_158 : decode cX6_comes 158 = .ok (.istore 4, 2) := by decide +kernel
theorem dX6_comes_160 : decode cX6_comes 160 = .ok (.iload 4, 2) := by decide +kernel
theorem dX6_comes_162 : decode cX6_comes 162 = .ok (.ifCond .eq 37, 3) := by decide +kernel
theorem dX6_comes_165 : decode cX6_comes 165 = .ok (.aload_n 0, 1) := by decide +kernel
theorem dX6_comes_166 : decode cX6_comes 166 = .ok (.iload_n 2, 1) := by decide +kernel
theorem dX6_comes_167 : decode cX6_comes 167 = .ok (.invokevirtual 142, 3) := by decide +kernel
theorem dX6_comes_170 : decode cX6_comes 170 = .ok (.ifCond .ne 19, 3) := by decide +kernel
theorem dX6_comes_173 : decode cX6_comes 173 = .ok (.aload_n 0, 1) := by decide +kernel
theorem dX6_comes_174 : decode cX6_comes 174 = .ok (.iload_n 2, 1) := by decide +kernel
theorem dX6_comes_175 : decode cX6_comes 175 = .ok (.invokevirtual 146, 3) := by decide +kernel
theorem dX6_comes_178 : decode cX6_comes 178 = .ok (.ifCond .ne 11, 3) := by decide +kernel
theorem dX6_comes_181 : decode cX6_comes 181 = .ok (.aload_n 0, 1) := by decide +kernel
theorem dX6_comes_182 : decode cX6_comes 182 = .ok (.iload_n 2, 1) := by decide +kernel
theorem dX6_comes_183 : decode cX6_comes 183 = .ok (.invokevirtual 149, 3) := by decide +kernel
theorem dX6_comes_186 : decode cX6_comes 186 = .ok (.ifCond .eq 7, 3) := by decide +kernel
theorem dX6_comes_189 : decode cX6_comes 189 = .ok (.iconst 1, 1) := by decide +kernel
theorem dX6_comes_190 : decode cX6_comes 190 = .ok (.goto 4, 3) := by decide +kernel
theorem dX6_comes_193 : decode cX6_comes 193 = .ok (.iconst 0, 1) := by decide +kernel
theorem dX6_comes_194 : decode cX6_comes 194 = .ok (.istore 4, 2) := by decide +kernel
theorem dX6_comes_196 : decode cX6_comes 196 = .ok (.goto (-36), 3) := by decide +kernel
theorem dX6_comes_199 : decode cX6_comes 199 = .ok (.return_, 1) := by decide +kernel
theorem dX6_makesFinal_0 : decode cX6_makesFinal 0 = .ok (.iconst 0, 1) := by decide +kernel
theorem dX6_makesFinal_1 : decode cX6_makesFinal 1 = .ok (.istore_n 2, 1) := by decide +kernel
theorem dX6_makesFinal_2 : decode cX6_makesFinal 2 = .ok (.iload_n 2, 1) := by decide +kernel
theorem dX6_makesFinal_3 : decode cX6_makesFinal 3 = .ok (.aload_n 0, 1) := by decide +kernel
theorem dX6_makesFinal_4 : decode cX6_makesFinal 4 = .ok (.getfield 124, 3) := by decide +kernel
theorem dX6_makesFinal_7 : decode cX6_makesFinal 7 = .ok (.if_icmp .ge 156, 3) := by decide +kernel
theorem dX6_makesFinal_10 : decode cX6_makesFinal 10 = .ok (.aload_n 0, 1) := by decide +kernel
theorem dX6_makesFinal_11 : decode cX6_makesFinal 11 = .ok (.getfield 47, 3) := by decide +kernel
theorem dX6_makesFinal_14 : decode cX6_makesFinal 14 = .ok (.iload_n 1, 1) := by decide +kernel
theorem dX6_makesFinal_15 : decode cX6_makesFinal 15 = .ok (.iload_n 2, 1) := by decide +kernel
theorem dX6_makesFinal_16 : decode cX6_makesFinal 16 = .ok (.invokestatic 105, 3) := by decide +kernel
theorem dX6_makesFinal_19 : decode cX6_makesFinal 19 = .ok (.baload, 1) := by decide +kernel
theorem dX6_makesFinal_20 : decode cX6_makesFinal 20 = .ok (.ifCond .eq 137, 3) := by decide +kernel
theorem dX6_makesFinal_23 : decode cX6_makesFinal 23 = .ok (.aload_n 0, 1) := by decide +kernel
theorem dX6_makesFinal_24 : decode cX6_makesFinal 24 = .ok (.getfield 50, 3) := by decide +kernel
theorem dX6_makesFinal_27 : decode cX6_makesFinal 27 = .ok (.iload_n 1, 1) := by decide +kernel
theorem dX6_makesFinal_28 : decode cX6_makesFinal 28 = .ok (.iload_n 2, 1) := by decide +kernel
theorem dX6_makesFinal_29 : decode cX6_makesFinal 29 = .ok (.invokestatic 105, 3) := by decide +kernel
theorem dX6_makesFinal_32 : decode cX6_makesFinal 32 = .ok (.iaload, 1) := by decide +kernel
theorem dX6_makesFinal_33 : decode cX6_makesFinal 33 = .ok (.ifCond .ne 124, 3) := by decide +kernel
theorem dX6_makesFinal_36 : decode cX6_makesFinal 36 = .ok (.iconst 0, 1) := by decide +kernel
theorem dX6_makesFinal_37 : decode cX6_makesFinal 37 = .ok (.istore_n 3, 1) := by decide +kernel
theorem dX6_makesFinal_38 : decode cX6_makesFinal 38 = .ok (.iconst 1, 1) := by decide +kernel
theorem dX6_makesFinal_39 : decode cX6_makesFinal 39 = .ok (.istore 4, 2) := by decide +kernel
theorem dX6_makesFinal_41 : decode cX6_makesFinal 41 = .ok (.iconst 0, 1) := by decide +kernel
theorem dX6_makesFinal_42 : decode cX6_makesFinal 42 = .ok (.istore 5, 2) := by decide +kernel
theorem dX6_makesFinal_44 : decode cX6_makesFinal 44 = .ok (.iload 5, 2) := by decide +kernel
theorem dX6_makesFinal_46 : decode cX6_makesFinal 46 = .ok (.aload_n 0, 1) := by decide +kernel
theorem dX6_makesFinal_47 : decode cX6_makesFinal 47 = .ok (.getfield 101, 3) := by decide +kernel
theorem dX6_makesFinal_50 : decode cX6_makesFinal 50 = .ok (.if_icmp .ge 63, 3) := by decide +kernel
theorem dX6_makesFinal_53 : decode cX6_makesFinal 53 = .ok (.aload_n 0, 1) := by decide +kernel
theorem dX6_makesFinal_54 : decode cX6_makesFinal 54 = .ok (.iload 5, 2) := by decide +kernel
theorem dX6_makesFinal_56 : decode cX6_makesFinal 56 = .ok (.iload_n 2, 1) := by decide +kernel
theorem dX6_makesFinal_57 : decode cX6_makesFinal 57 = .ok (.invokevirtual 112, 3) := by decide +kernel
theorem dX6_makesFinal_60 : decode cX6_makesFinal 60 = .ok (.ifCond .eq 47, 3) := by decide +kernel
theorem dX6_makesFinal_63 : decode cX6_makesFinal 63 = .ok (.aload_n 0, 1) := by decide +kernel
theorem dX6_makesFinal_64 : decode cX6_makesFinal 64 = .ok (.getfield 62, 3) := by decide +kernel
theorem dX6_makesFinal_67 : decode cX6_makesFinal 67 = .ok (.iload_n 1, 1) := by decide +kernel
theorem dX6_makesFinal_68 : decode cX6_makesFinal 68 = .ok (.iload_n 2, 1) := by decide +kernel
theorem dX6_makesFinal_69 : decode cX6_makesFinal 69 = .ok (.iload 5, 2) := by decide +kernel
theorem dX6_makesFinal_71 : decode cX6_makesFinal 71 = .ok (.invokestatic 131, 3) := by decide +kernel
theorem dX6_makesFinal_74 : decode cX6_makesFinal 74 = .ok (.iaload, 1) := by decide +kernel
theorem dX6_makesFinal_75 : decode cX6_makesFinal 75 = .ok (.istore 6, 2) := by decide +kernel
theorem dX6_makesFinal_77 : decode cX6_makesFinal 77 = .ok (.iload 4, 2) := by decide +kernel
theorem dX6_makesFinal_79 : decode cX6_makesFinal 79 = .ok (.ifCond .eq 12, 3) := by decide +kernel
theorem dX6_makesFinal_82 : decode cX6_makesFinal 82 = .ok (.iload 6, 2) := by decide +kernel
theorem dX6_makesFinal_84 : decode cX6_makesFinal 84 = .ok (.ifCond .le 7, 3) := by decide +kernel
theorem dX6_makesFinal_87 : decode cX6_makesFinal 87 = .ok (.iconst 1, 1) := by decide +kernel
theorem dX6_makesFinal_88 : decode cX6_makesFinal 88 = .ok (.goto 4, 3) := by decide +kernel
theorem dX6_makesFinal_91 : decode cX6_makesFinal 91 = .ok (.iconst 0, 1) := by decide +kernel
theorem dX6_makesFinal_92 : decode cX6_makesFinal 92 = .ok (.istore 4, 2) := by decide +kernel
theorem dX6_makesFinal_94 : decode cX6_makesFinal 94 = .ok (.iload 6, 2) := by decide +kernel
theorem dX6_makesFinal_96 : decode cX6_makesFinal 96 = .ok (.iload_n 3, 1) := by decide +kernel
theorem dX6_makesFinal_97 : decode cX6_makesFinal 97 = .ok (.if_icmp .le 8, 3) := by decide +kernel
theorem dX6_makesFinal_100 : decode cX6_makesFinal 100 = .ok (.iload 6, 2) := by decide +kernel
theorem dX6_makesFinal_102 : decode cX6_makesFinal 102 = .ok (.goto 4, 3) := by decide +kernel
theorem dX6_makesFinal_105 : decode cX6_makesFinal 105 = .ok (.iload_n 3, 1) := by decide +kernel
theorem dX6_makesFinal_106 : decode cX6_makesFinal 106 = .ok (.istore_n 3, 1) := by decide +kernel
theorem dX6_makesFinal_107 : decode cX6_makesFinal 107 = .ok (.iinc 5 1, 3) := by decide +kernel
theorem dX6_makesFinal_110 : decode cX6_makesFinal 110 = .ok (.goto (-66), 3) := by decide +kernel
theorem dX6_makesFinal_113 : decode cX6_makesFinal 113 = .ok (.iload 4, 2) := by decide +kernel
theorem dX6_makesFinal_115 : decode cX6_makesFinal 115 = .ok (.ifCond .eq 42, 3) := by decide +kernel
theorem dX6_makesFinal_118 : decode cX6_makesFinal 118 = .ok (.aload_n 0, 1) := by decide +kernel
theorem dX6_makesFinal_119 : decode cX6_makesFinal 119 = .ok (.getfield 50, 3) := by decide +kernel
theorem dX6_makesFinal_122 : decode cX6_makesFinal 122 = .ok (.iload_n 1, 1) := by decide +kernel
theorem dX6_makesFinal_123 : decode cX6_makesFinal 123 = .ok (.iload_n 2, 1) := by decide +kernel
theorem dX6_makesFinal_124 : decode cX6_makesFinal 124 = .ok (.invokestatic 105, 3) := by decide +kernel
theorem dX6_makesFinal_127 : decode cX6_makesFinal 127 = .ok (.iload_n 3, 1) := by decide +kernel
theorem dX6_makesFinal_128 : decode cX6_makesFinal 128 = .ok (.iastore, 1) := by decide +kernel
theorem dX6_makesFinal_129 : decode cX6_makesFinal 129 = .ok (.aload_n 0, 1) := by decide +kernel
theorem dX6_makesFinal_130 : decode cX6_makesFinal 130 = .ok (.getfield 7, 3) := by decide +kernel
theorem dX6_makesFinal_133 : decode cX6_makesFinal 133 = .ok (.iload_n 1, 1) := by decide +kernel
theorem dX6_makesFinal_134 : decode cX6_makesFinal 134 = .ok (.aload_n 0, 1) := by decide +kernel
theorem dX6_makesFinal_135 : decode cX6_makesFinal 135 = .ok (.getfield 7, 3) := by decide +kernel
theorem dX6_makesFinal_138 : decode cX6_makesFinal 138 = .ok (.iload_n 1, 1) := by decide +kernel
theorem dX6_makesFinal_139 : decode cX6_makesFinal 139 = .ok (.iaload, 1) := by decide +kernel
theorem dX6_makesFinal_140 : decode cX6_makesFinal 140 = .ok (.iload_n 3, 1) := by decide +kernel
theorem dX6_makesFinal_141 : decode cX6_makesFinal 141 = .ok (.if_icmp .ge 7, 3) := by decide +kernel
theorem dX6_makesFinal_144 : decode cX6_makesFinal 144 = .ok (.iload_n 3, 1) := by decide +kernel
theorem dX6_makesFinal_145 : decode cX6_makesFinal 145 = .ok (.goto 9, 3) := by decide +kernel
theorem dX6_makesFinal_148 : decode cX6_makesFinal 148 = .ok (.aload_n 0, 1) := by decide +kernel
theorem dX6_makesFinal_149 : decode cX6_makesFinal 149 = .ok (.getfield 7, 3) := by decide +kernel
theorem dX6_makesFinal_152 : decode cX6_makesFinal 152 = .ok (.iload_n 1, 1) := by decide +kernel
theorem dX6_makesFinal_153 : decode cX6_makesFinal 153 = .ok (.iaload, 1) := by decide +kernel
theorem dX6_makesFinal_154 : decode cX6_makesFinal 154 = .ok (.iastore, 1) := by decide +kernel
theorem dX6_makesFinal_155 : decode cX6_makesFinal 155 = .ok (.iconst 1, 1) := by decide +kernel
theorem dX6_makesFinal_156 : decode cX6_makesFinal 156 = .ok (.ireturn, 1) := by decide +kernel
theorem dX6_makesFinal_157 : decode cX6_makesFinal 157 = .ok (.iinc 2 1, 3) := by decide +kernel
theorem dX6_makesFinal_160 : decode cX6_makesFinal 160 = .ok (.goto (-158), 3) := by decide +kernel
theorem dX6_makesFinal_163 : decode cX6_makesFinal 163 = .ok (.iconst 0, 1) := by decide +kernel
theorem dX6_makesFinal_164 : decode cX6_makesFinal 164 = .ok (.ireturn, 1) := by decide +kernel
theorem dX6_takes_0 : decode cX6_takes 0 = .ok (.iconst (-1), 1) := by decide +kernel
theorem dX6_takes_1 : decode cX6_takes 1 = .ok (.istore_n 2, 1) := by decide +kernel
theorem dX6_takes_2 : decode cX6_takes 2 = .ok (.iconst 0, 1) := by decide +kernel
theorem dX6_takes_3 : decode cX6_takes 3 = .ok (.istore_n 3, 1) := by decide +kernel
theorem dX6_takes_4 : decode cX6_takes 4 = .ok (.iconst 0, 1) := by decide +kernel
theorem dX6_takes_5 : decode cX6_takes 5 = .ok (.istore 4, 2) := by decide +kernel
theorem dX6_takes_7 : decode cX6_takes 7 = .ok (.iload 4, 2) := by decide +kernel
theorem dX6_takes_9 : decode cX6_takes 9 = .ok (.aload_n 0, 1) := by decide +kernel
theorem dX6_takes_10 : decode cX6_takes 10 = .ok (.getfield 124, 3) := by decide +kernel
theorem dX6_takes_13 : decode cX6_takes 13 = .ok (.if_icmp .ge 96, 3) := by decide +kernel
theorem dX6_takes_16 : decode cX6_takes 16 = .ok (.aload_n 0, 1) := by decide +kernel
theorem dX6_takes_17 : decode cX6_takes 17 = .ok (.getfield 47, 3) := by decide +kernel
theorem dX6_takes_20 : decode cX6_takes 20 = .ok (.iload_n 1, 1) := by decide +kernel
theorem dX6_takes_21 : decode cX6_takes 21 = .ok (.iload 4, 2) := by decide +kernel
theorem dX6_takes_23 : decode cX6_takes 23 = .ok (.invokestatic 105, 3) := by decide +kernel
theorem dX6_takes_26 : decode cX6_takes 26 = .ok (.baload, 1) := by decide +kernel
theorem dX6_takes_27 : decode cX6_takes 27 = .ok (.ifCond .eq 76, 3) := by decide +kernel
theorem dX6_takes_30 : decode cX6_takes 30 = .ok (.aload_n 0, 1) := by decide +kernel
theorem dX6_takes_31 : decode cX6_takes 31 = .ok (.getfield 53, 3) := by decide +kernel
theorem dX6_takes_34 : decode cX6_takes 34 = .ok (.iload_n 1, 1) := by decide +kernel
theorem dX6_takes_35 : decode cX6_takes 35 = .ok (.iload 4, 2) := by decide +kernel
theorem dX6_takes_37 : decode cX6_takes 37 = .ok (.invokestatic 105, 3) := by decide +kernel
theorem dX6_takes_40 : decode cX6_takes 40 = .ok (.baload, 1) := by decide +kernel
theorem dX6_takes_41 : decode cX6_takes 41 = .ok (.ifCond .ne 62, 3) := by decide +kernel
theorem dX6_takes_44 : decode cX6_takes 44 = .ok (.aload_n 0, 1) := by decide +kernel
theorem dX6_takes_45 : decode cX6_takes 45 = .ok (.getfield 50, 3) := by decide +kernel
