theorem dX6_takes_48 : decode cX6_takes 48 = .ok (.iload_n 1, 1) := by decide +kernel
theorem dX6_takes_49 : decode cX6_takes 49 = .ok (.iload 4, 2) := by decide +kernel
theorem dX6_takes_51 : decode cX6_takes 51 = .ok (.invokestatic 105, 3) := by decide +kernel
theorem dX6_takes_54 : decode cX6_takes 54 = .ok (.iaload, 1) := by decide +kernel
theorem dX6_takes_55 : decode cX6_takes 55 = .ok (.ifCond .le 17, 3) := by decide +kernel
theorem dX6_takes_58 : decode cX6_takes 58 = .ok (.aload_n 0, 1) := by decide +kernel
theorem dX6_takes_59 : decode cX6_takes 59 = .ok (.getfield 50, 3) := by decide +kernel
theorem dX6_takes_62 : decode cX6_takes 62 = .ok (.iload_n 1, 1) := by decide +kernel
theorem dX6_takes_63 : decode cX6_takes 63 = .ok (.iload 4, 2) := by decide +kernel
theorem dX6_takes_65 : decode cX6_takes 65 = .ok (.invokestatic 105, 3) := by decide +kernel
theorem dX6_takes_68 : decode cX6_takes 68 = .ok (.iaload, 1) := by decide +kernel
theorem dX6_takes_69 : decode cX6_takes 69 = .ok (.goto 15, 3) := by decide +kernel
theorem dX6_takes_72 : decode cX6_takes 72 = .ok (.aload_n 0, 1) := by decide +kernel
theorem dX6_takes_73 : decode cX6_takes 73 = .ok (.getfield 62, 3) := by decide +kernel
theorem dX6_takes_76 : decode cX6_takes 76 = .ok (.iload_n 1, 1) := by decide +kernel
theorem dX6_takes_77 : decode cX6_takes 77 = .ok (.iload 4, 2) := by decide +kernel
theorem dX6_takes_79 : decode cX6_takes 79 = .ok (.iload_n 1, 1) := by decide +kernel
theorem dX6_takes_80 : decode cX6_takes 80 = .ok (.invokestatic 131, 3) := by decide +kernel
theorem dX6_takes_83 : decode cX6_takes 83 = .ok (.iaload, 1) := by decide +kernel
theorem dX6_takes_84 : decode cX6_takes 84 = .ok (.istore 5, 2) := by decide +kernel
theorem dX6_takes_86 : decode cX6_takes 86 = .ok (.iload_n 2, 1) := by decide +kernel
theorem dX6_takes_87 : decode cX6_takes 87 = .ok (.iconst (-1), 1) := by decide +kernel
theorem dX6_takes_88 : decode cX6_takes 88 = .ok (.if_icmp .eq 9, 3) := by decide +kernel
theorem dX6_takes_91 : decode cX6_takes 91 = .ok (.iload 5, 2) := by decide +kernel
theorem dX6_takes_93 : decode cX6_takes 93 = .ok (.iload_n 3, 1) := by decide +kernel
theorem dX6_takes_94 : decode cX6_takes 94 = .ok (.if_icmp .ge 9, 3) := by decide +kernel
theorem dX6_takes_97 : decode cX6_takes 97 = .ok (.iload 4, 2) := by decide +kernel
theorem dX6_takes_99 : decode cX6_takes 99 = .ok (.istore_n 2, 1) := by decide +kernel
theorem dX6_takes_100 : decode cX6_takes 100 = .ok (.iload 5, 2) := by decide +kernel
theorem dX6_takes_102 : decode cX6_takes 102 = .ok (.istore_n 3, 1) := by decide +kernel
theorem dX6_takes_103 : decode cX6_takes 103 = .ok (.iinc 4 1, 3) := by decide +kernel
theorem dX6_takes_106 : decode cX6_takes 106 = .ok (.goto (-99), 3) := by decide +kernel
theorem dX6_takes_109 : decode cX6_takes 109 = .ok (.iload_n 2, 1) := by decide +kernel
theorem dX6_takes_110 : decode cX6_takes 110 = .ok (.iconst (-1), 1) := by decide +kernel
theorem dX6_takes_111 : decode cX6_takes 111 = .ok (.if_icmp .eq 16, 3) := by decide +kernel
theorem dX6_takes_114 : decode cX6_takes 114 = .ok (.aload_n 0, 1) := by decide +kernel
theorem dX6_takes_115 : decode cX6_takes 115 = .ok (.getfield 50, 3) := by decide +kernel
theorem dX6_takes_118 : decode cX6_takes 118 = .ok (.iload_n 1, 1) := by decide +kernel
theorem dX6_takes_119 : decode cX6_takes 119 = .ok (.iload_n 2, 1) := by decide +kernel
theorem dX6_takes_120 : decode cX6_takes 120 = .ok (.invokestatic 105, 3) := by decide +kernel
theorem dX6_takes_123 : decode cX6_takes 123 = .ok (.iaload, 1) := by decide +kernel
theorem dX6_takes_124 : decode cX6_takes 124 = .ok (.ifCond .ne 5, 3) := by decide +kernel
theorem dX6_takes_127 : decode cX6_takes 127 = .ok (.iconst 0, 1) := by decide +kernel
theorem dX6_takes_128 : decode cX6_takes 128 = .ok (.ireturn, 1) := by decide +kernel
theorem dX6_takes_129 : decode cX6_takes 129 = .ok (.aload_n 0, 1) := by decide +kernel
theorem dX6_takes_130 : decode cX6_takes 130 = .ok (.getfield 53, 3) := by decide +kernel
theorem dX6_takes_133 : decode cX6_takes 133 = .ok (.iload_n 1, 1) := by decide +kernel
theorem dX6_takes_134 : decode cX6_takes 134 = .ok (.iload_n 2, 1) := by decide +kernel
theorem dX6_takes_135 : decode cX6_takes 135 = .ok (.invokestatic 105, 3) := by decide +kernel
theorem dX6_takes_138 : decode cX6_takes 138 = .ok (.iconst 1, 1) := by decide +kernel
theorem dX6_takes_139 : decode cX6_takes 139 = .ok (.bastore, 1) := by decide +kernel
theorem dX6_takes_140 : decode cX6_takes 140 = .ok (.aload_n 0, 1) := by decide +kernel
theorem dX6_takes_141 : decode cX6_takes 141 = .ok (.getfield 77, 3) := by decide +kernel
theorem dX6_takes_144 : decode cX6_takes 144 = .ok (.iload_n 1, 1) := by decide +kernel
theorem dX6_takes_145 : decode cX6_takes 145 = .ok (.aload_n 0, 1) := by decide +kernel
theorem dX6_takes_146 : decode cX6_takes 146 = .ok (.getfield 74, 3) := by decide +kernel
theorem dX6_takes_149 : decode cX6_takes 149 = .ok (.iload_n 1, 1) := by decide +kernel
theorem dX6_takes_150 : decode cX6_takes 150 = .ok (.iaload, 1) := by decide +kernel
theorem dX6_takes_151 : decode cX6_takes 151 = .ok (.invokestatic 105, 3) := by decide +kernel
theorem dX6_takes_154 : decode cX6_takes 154 = .ok (.iload_n 2, 1) := by decide +kernel
theorem dX6_takes_155 : decode cX6_takes 155 = .ok (.iastore, 1) := by decide +kernel
theorem dX6_takes_156 : decode cX6_takes 156 = .ok (.aload_n 0, 1) := by decide +kernel
theorem dX6_takes_157 : decode cX6_takes 157 = .ok (.getfield 74, 3) := by decide +kernel
theorem dX6_takes_160 : decode cX6_takes 160 = .ok (.iload_n 1, 1) := by decide +kernel
theorem dX6_takes_161 : decode cX6_takes 161 = .ok (.dup2, 1) := by decide +kernel
theorem dX6_takes_162 : decode cX6_takes 162 = .ok (.iaload, 1) := by decide +kernel
theorem dX6_takes_163 : decode cX6_takes 163 = .ok (.iconst 1, 1) := by decide +kernel
theorem dX6_takes_164 : decode cX6_takes 164 = .ok (.iadd, 1) := by decide +kernel
theorem dX6_takes_165 : decode cX6_takes 165 = .ok (.iastore, 1) := by decide +kernel
theorem dX6_takes_166 : decode cX6_takes 166 = .ok (.iconst 1, 1) := by decide +kernel
theorem dX6_takes_167 : decode cX6_takes 167 = .ok (.ireturn, 1) := by decide +kernel
theorem dX6_works_0 : decode cX6_works 0 = .ok (.iconst 0, 1) := by decide +kernel
theorem dX6_works_1 : decode cX6_works 1 = .ok (.istore_n 2, 1) := by decide +kernel
theorem dX6_works_2 : decode cX6_works 2 = .ok (.iload_n 2, 1) := by decide +kernel
theorem dX6_works_3 : decode cX6_works 3 = .ok (.aload_n 0, 1) := by decide +kernel
theorem dX6_works_4 : decode cX6_works 4 = .ok (.getfield 74, 3) := by decide +kernel
theorem dX6_works_7 : decode cX6_works 7 = .ok (.iload_n 1, 1) := by decide +kernel
theorem dX6_works_8 : decode cX6_works 8 = .ok (.iaload, 1) := by decide +kernel
theorem dX6_works_9 : decode cX6_works 9 = .ok (.if_icmp .ge 31, 3) := by decide +kernel
theorem dX6_works_12 : decode cX6_works 12 = .ok (.aload_n 0, 1) := by decide +kernel
theorem dX6_works_13 : decode cX6_works 13 = .ok (.getfield 59, 3) := by decide +kernel
theorem dX6_works_16 : decode cX6_works 16 = .ok (.iload_n 1, 1) := by decide +kernel
theorem dX6_works_17 : decode cX6_works 17 = .ok (.aload_n 0, 1) := by decide +kernel
theorem dX6_works_18 : decode cX6_works 18 = .ok (.getfield 77, 3) := by decide +kernel
theorem dX6_works_21 : decode cX6_works 21 = .ok (.iload_n 1, 1) := by decide +kernel
theorem dX6_works_22 : decode cX6_works 22 = .ok (.iload_n 2, 1) := by decide +kernel
theorem dX6_works_23 : decode cX6_works 23 = .ok (.invokestatic 105, 3) := by decide +kernel
theorem dX6_works_26 : decode cX6_works 26 = .ok (.iaload, 1) := by decide +kernel
theorem dX6_works_27 : decode cX6_works 27 = .ok (.invokestatic 105, 3) := by decide +kernel
theorem dX6_works_30 : decode cX6_works 30 = .ok (.baload, 1) := by decide +kernel
theorem dX6_works_31 : decode cX6_works 31 = .ok (.ifCond .eq 9, 3) := by decide +kernel
theorem dX6_works_34 : decode cX6_works 34 = .ok (.iinc 2 1, 3) := by decide +kernel
theorem dX6_works_37 : decode cX6_works 37 = .ok (.goto (-35), 3) := by decide +kernel
theorem dX6_works_40 : decode cX6_works 40 = .ok (.iload_n 2, 1) := by decide +kernel
theorem dX6_works_41 : decode cX6_works 41 = .ok (.aload_n 0, 1) := by decide +kernel
theorem dX6_works_42 : decode cX6_works 42 = .ok (.getfield 74, 3) := by decide +kernel
theorem dX6_works_45 : decode cX6_works 45 = .ok (.iload_n 1, 1) := by decide +kernel
theorem dX6_works_46 : decode cX6_works 46 = .ok (.iaload, 1) := by decide +kernel
theorem dX6_works_47 : decode cX6_works 47 = .ok (.if_icmp .ne 5, 3) := by decide +kernel
theorem dX6_works_50 : decode cX6_works 50 = .ok (.iconst 0, 1) := by decide +kernel
theorem dX6_works_51 : decode cX6_works 51 = .ok (.ireturn, 1) := by decide +kernel
theorem dX6_works_52 : decode cX6_works 52 = .ok (.aload_n 0, 1) := by decide +kernel
theorem dX6_works_53 : decode cX6_works 53 = .ok (.getfield 77, 3) := by decide +kernel
theorem dX6_works_56 : decode cX6_works 56 = .ok (.iload_n 1, 1) := by decide +kernel
theorem dX6_works_57 : decode cX6_works 57 = .ok (.iload_n 2, 1) := by decide +kernel
theorem dX6_works_58 : decode cX6_works 58 = .ok (.invokestatic 105, 3) := by decide +kernel
theorem dX6_works_61 : decode cX6_works 61 = .ok (.iaload, 1) := by decide +kernel
theorem dX6_works_62 : decode cX6_works 62 = .ok (.istore_n 3, 1) := by decide +kernel
theorem dX6_works_63 : decode cX6_works 63 = .ok (.aload_n 0, 1) := by decide +kernel
theorem dX6_works_64 : decode cX6_works 64 = .ok (.getfield 56, 3) := by decide +kernel
theorem dX6_works_67 : decode cX6_works 67 = .ok (.iload_n 1, 1) := by decide +kernel
theorem dX6_works_68 : decode cX6_works 68 = .ok (.iload_n 3, 1) := by decide +kernel
theorem dX6_works_69 : decode cX6_works 69 = .ok (.invokestatic 105, 3) := by decide +kernel
theorem dX6_works_72 : decode cX6_works 72 = .ok (.baload, 1) := by decide +kernel
theorem dX6_works_73 : decode cX6_works 73 = .ok (.ifCond .ne 24, 3) := by decide +kernel
theorem dX6_works_76 : decode cX6_works 76 = .ok (.aload_n 0, 1) := by decide +kernel
theorem dX6_works_77 : decode cX6_works 77 = .ok (.getfield 56, 3) := by decide +kernel
theorem dX6_works_80 : decode cX6_works 80 = .ok (.iload_n 1, 1) := by decide +kernel
theorem dX6_works_81 : decode cX6_works 81 = .ok (.iload_n 3, 1) := by decide +kernel
theorem dX6_works_82 : decode cX6_works 82 = .ok (.invokestatic 105, 3) := by decide +kernel
theorem dX6_works_85 : decode cX6_works 85 = .ok (.iconst 1, 1) := by decide +kernel
theorem dX6_works_86 : decode cX6_works 86 = .ok (.bastore, 1) := by decide +kernel
theorem dX6_works_87 : decode cX6_works 87 = .ok (.aload_n 0, 1) := by decide +kernel
theorem dX6_works_88 : decode cX6_works 88 = .ok (.iconst 2, 1) := by decide +kernel
theorem dX6_works_89 : decode cX6_works 89 = .ok (.iload_n 3, 1) := by decide +kernel
theorem dX6_works_90 : decode cX6_works 90 = .ok (.iload_n 1, 1) := by decide +kernel
theorem dX6_works_91 : decode cX6_works 91 = .ok (.iconst (-1), 1) := by decide +kernel
theorem dX6_works_92 : decode cX6_works 92 = .ok (.invokevirtual 127, 3) := by decide +kernel
theorem dX6_works_95 : decode cX6_works 95 = .ok (.iconst 1, 1) := by decide +kernel
theorem dX6_works_96 : decode cX6_works 96 = .ok (.ireturn, 1) := by decide +kernel
theorem dX6_works_97 : decode cX6_works 97 = .ok (.iconst 0, 1) := by decide +kernel
theorem dX6_works_98 : decode cX6_works 98 = .ok (.istore 4, 2) := by decide +kernel
theorem dX6_works_100 : decode cX6_works 100 = .ok (.iload 4, 2) := by decide +kernel
theorem dX6_works_102 : decode cX6_works 102 = .ok (.aload_n 0, 1) := by decide +kernel
theorem dX6_works_103 : decode cX6_works 103 = .ok (.getfield 101, 3) := by decide +kernel
theorem dX6_works_106 : decode cX6_works 106 = .ok (.if_icmp .ge 42, 3) := by decide +kernel
theorem dX6_works_109 : decode cX6_works 109 = .ok (.iload 4, 2) := by decide +kernel
theorem dX6_works_111 : decode cX6_works 111 = .ok (.iload_n 1, 1) := by decide +kernel
theorem dX6_works_112 : decode cX6_works 112 = .ok (.if_icmp .eq 30, 3) := by decide +kernel
theorem dX6_works_115 : decode cX6_works 115 = .ok (.aload_n 0, 1) := by decide +kernel
theorem dX6_works_116 : decode cX6_works 116 = .ok (.iload 4, 2) := by decide +kernel
theorem dX6_works_118 : decode cX6_works 118 = .ok (.iload_n 3, 1) := by decide +kernel
theorem dX6_works_119 : decode cX6_works 119 = .ok (.invokevirtual 112, 3) := by decide +kernel
theorem dX6_works_122 : decode cX6_works 122 = .ok (.ifCond .eq 20, 3) := by decide +kernel
theorem dX6_works_125 : decode cX6_works 125 = .ok (.aload_n 0, 1) := by decide +kernel
theorem dX6_works_126 : decode cX6_works 126 = .ok (.getfield 65, 3) := by decide +kernel
theorem dX6_works_129 : decode cX6_works 129 = .ok (.iload_n 1, 1) := by decide +kernel
theorem dX6_works_130 : decode cX6_works 130 = .ok (.iload_n 3, 1) := by decide +kernel
theorem dX6_works_131 : decode cX6_works 131 = .ok (.iload 4, 2) := by decide +kernel
theorem dX6_works_133 : decode cX6_works 133 = .ok (.invokestatic 131, 3) := by decide +kernel
theorem dX6_works_136 : decode cX6_works 136 = .ok (.baload, 1) := by decide +kernel
theorem dX6_works_137 : decode cX6_works 137 = .ok (.ifCond .ne 5, 3) := by decide +kernel
theorem dX6_works_140 : decode cX6_works 140 = .ok (.iconst 0, 1) := by decide +kernel
theorem dX6_works_141 : decode cX6_works 141 = .ok (.ireturn, 1) := by decide +kernel
theorem dX6_works_142 : decode cX6_works 142 = .ok (.iinc 4 1, 3) := by decide +kernel
theorem dX6_works_145 : decode cX6_works 145 = .ok (.goto (-45), 3) := by decide +kernel
theorem dX6_works_148 : decode cX6_works 148 = .ok (.aload_n 0, 1) := by decide +kernel
theorem dX6_works_149 : decode cX6_works 149 = .ok (.iload_n 1, 1) := by decide +kernel
theorem dX6_works_150 : decode cX6_works 150 = .ok (.iload_n 3, 1) := by decide +kernel
theorem dX6_works_151 : decode cX6_works 151 = .ok (.invokevirtual 152, 3) := by decide +kernel
theorem dX6_works_154 : decode cX6_works 154 = .ok (.iconst 1, 1) := by decide +kernel
theorem dX6_works_155 : decode cX6_works 155 = .ok (.ireturn, 1) := by decide +kernel
theorem dX6_workOut_0 : decode cX6_workOut 0 = .ok (.aload_n 0, 1) := by decide +kernel
theorem dX6_workOut_1 : decode cX6_workOut 1 = .ok (.getfield 26, 3) := by decide +kernel
theorem dX6_workOut_4 : decode cX6_workOut 4 = .ok (.iload_n 2, 1) := by decide +kernel
theorem dX6_workOut_5 : decode cX6_workOut 5 = .ok (.iaload, 1) := by decide +kernel
theorem dX6_workOut_6 : decode cX6_workOut 6 = .ok (.istore_n 3, 1) := by decide +kernel
theorem dX6_workOut_7 : decode cX6_workOut 7 = .ok (.aload_n 0, 1) := by decide +kernel
theorem dX6_workOut_8 : decode cX6_workOut 8 = .ok (.getfield 29, 3) := by decide +kernel
theorem dX6_workOut_11 : decode cX6_workOut 11 = .ok (.iload_n 2, 1) := by decide +kernel
theorem dX6_workOut_12 : decode cX6_workOut 12 = .ok (.iaload, 1) := by decide +kernel
theorem dX6_workOut_13 : decode cX6_workOut 13 = .ok (.istore 4, 2) := by decide +kernel
theorem dX6_workOut_15 : decode cX6_workOut 15 = .ok (.iload_n 3, 1) := by decide +kernel
theorem dX6_workOut_16 : decode cX6_workOut 16 = .ok (.aload_n 0, 1) := by decide +kernel
theorem dX6_workOut_17 : decode cX6_workOut 17 = .ok (.getfield 101, 3) := by decide +kernel
theorem dX6_workOut_20 : decode cX6_workOut 20 = .ok (.irem, 1) := by decide +kernel
theorem dX6_workOut_21 : decode cX6_workOut 21 = .ok (.iload_n 1, 1) := by decide +kernel
theorem dX6_workOut_22 : decode cX6_workOut 22 = .ok (.if_icmp .ne 12, 3) := by decide +kernel
theorem dX6_workOut_25 : decode cX6_workOut 25 = .ok (.aload_n 0, 1) := by decide +kernel
theorem dX6_workOut_26 : decode cX6_workOut 26 = .ok (.getfield 17, 3) := by decide +kernel
theorem dX6_workOut_29 : decode cX6_workOut 29 = .ok (.iload_n 3, 1) := by decide +kernel
theorem dX6_workOut_30 : decode cX6_workOut 30 = .ok (.iaload, 1) := by decide +kernel
theorem dX6_workOut_31 : decode cX6_workOut 31 = .ok (.goto 19, 3) := by decide +kernel
theorem dX6_workOut_34 : decode cX6_workOut 34 = .ok (.aload_n 0, 1) := by decide +kernel
theorem dX6_workOut_35 : decode cX6_workOut 35 = .ok (.getfield 68, 3) := by decide +kernel
theorem dX6_workOut_38 : decode cX6_workOut 38 = .ok (.iload_n 1, 1) := by decide +kernel
theorem dX6_workOut_39 : decode cX6_workOut 39 = .ok (.iload_n 2, 1) := by decide +kernel
theorem dX6_workOut_40 : decode cX6_workOut 40 = .ok (.iload_n 3, 1) := by decide +kernel
theorem dX6_workOut_41 : decode cX6_workOut 41 = .ok (.aload_n 0, 1) := by decide +kernel
theorem dX6_workOut_42 : decode cX6_workOut 42 = .ok (.getfield 101, 3) := by decide +kernel
theorem dX6_workOut_45 : decode cX6_workOut 45 = .ok (.irem, 1) := by decide +kernel
theorem dX6_workOut_46 : decode cX6_workOut 46 = .ok (.invokestatic 131, 3) := by decide +kernel
theorem dX6_workOut_49 : decode cX6_workOut 49 = .ok (.iaload, 1) := by decide +kernel
theorem dX6_workOut_50 : decode cX6_workOut 50 = .ok (.istore 5, 2) := by decide +kernel
theorem dX6_workOut_52 : decode cX6_workOut 52 = .ok (.iload 4, 2) := by decide +kernel
theorem dX6_workOut_54 : decode cX6_workOut 54 = .ok (.aload_n 0, 1) := by decide +kernel
theorem dX6_workOut_55 : decode cX6_workOut 55 = .ok (.getfield 101, 3) := by decide +kernel
theorem dX6_workOut_58 : decode cX6_workOut 58 = .ok (.irem, 1) := by decide +kernel
theorem dX6_workOut_59 : decode cX6_workOut 59 = .ok (.iload_n 1, 1) := by decide +kernel
theorem dX6_workOut_60 : decode cX6_workOut 60 = .ok (.if_icmp .ne 13, 3) := by decide +kernel
theorem dX6_workOut_63 : decode cX6_workOut 63 = .ok (.aload_n 0, 1) := by decide +kernel
theorem dX6_workOut_64 : decode cX6_workOut 64 = .ok (.getfield 17, 3) := by decide +kernel
theorem dX6_workOut_67 : decode cX6_workOut 67 = .ok (.iload 4, 2) := by decide +kernel
theorem dX6_workOut_69 : decode cX6_workOut 69 = .ok (.iaload, 1) := by decide +kernel
theorem dX6_workOut_70 : decode cX6_workOut 70 = .ok (.goto 20, 3) := by decide +kernel
theorem dX6_workOut_73 : decode cX6_workOut 73 = .ok (.aload_n 0, 1) := by decide +kernel
theorem dX6_workOut_74 : decode cX6_workOut 74 = .ok (.getfield 71, 3) := by decide +kernel
theorem dX6_workOut_77 : decode cX6_workOut 77 = .ok (.iload_n 1, 1) := by decide +kernel
theorem dX6_workOut_78 : decode cX6_workOut 78 = .ok (.iload_n 2, 1) := by decide +kernel
theorem dX6_workOut_79 : decode cX6_workOut 79 = .ok (.iload 4, 2) := by decide +kernel
theorem dX6_workOut_81 : decode cX6_workOut 81 = .ok (.aload_n 0, 1) := by decide +kernel
theorem dX6_workOut_82 : decode cX6_workOut 82 = .ok (.getfield 101, 3) := by decide +kernel
theorem dX6_workOut_85 : decode cX6_workOut 85 = .ok (.irem, 1) := by decide +kernel
theorem dX6_workOut_86 : decode cX6_workOut 86 = .ok (.invokestatic 131, 3) := by decide +kernel
theorem dX6_workOut_89 : decode cX6_workOut 89 = .ok (.iaload, 1) := by decide +kernel
theorem dX6_workOut_90 : decode cX6_workOut 90 = .ok (.istore 6, 2) := by decide +kernel
theorem dX6_workOut_92 : decode cX6_workOut 92 = .ok (.aload_n 0, 1) := by decide +kernel
theorem dX6_workOut_93 : decode cX6_workOut 93 = .ok (.getfield 23, 3) := by decide +kernel
theorem dX6_workOut_96 : decode cX6_workOut 96 = .ok (.iload_n 2, 1) := by decide +kernel
theorem dX6_workOut_97 : decode cX6_workOut 97 = .ok (.iaload, 1) := by decide +kernel
theorem dX6_workOut_98 : decode cX6_workOut 98 = .ok (.ifCond .ne 36, 3) := by decide +kernel
theorem dX6_workOut_101 : decode cX6_workOut 101 = .ok (.iload 5, 2) := by decide +kernel
theorem dX6_workOut_103 : decode cX6_workOut 103 = .ok (.aload_n 0, 1) := by decide +kernel
theorem dX6_workOut_104 : decode cX6_workOut 104 = .ok (.getfield 32, 3) := by decide +kernel
theorem dX6_workOut_107 : decode cX6_workOut 107 = .ok (.iload_n 2, 1) := by decide +kernel
theorem dX6_workOut_108 : decode cX6_workOut 108 = .ok (.iaload, 1) := by decide +kernel
theorem dX6_workOut_109 : decode cX6_workOut 109 = .ok (.iadd, 1) := by decide +kernel
theorem dX6_workOut_110 : decode cX6_workOut 110 = .ok (.istore 5, 2) := by decide +kernel
theorem dX6_workOut_112 : decode cX6_workOut 112 = .ok (.iload 5, 2) := by decide +kernel
theorem dX6_workOut_114 : decode cX6_workOut 114 = .ok (.istore 7, 2) := by decide +kernel
theorem dX6_workOut_116 : decode cX6_workOut 116 = .ok (.iload_n 3, 1) := by decide +kernel
theorem dX6_workOut_117 : decode cX6_workOut 117 = .ok (.iload 4, 2) := by decide +kernel
theorem dX6_workOut_119 : decode cX6_workOut 119 = .ok (.if_icmp .ne 8, 3) := by decide +kernel
theorem dX6_workOut_122 : decode cX6_workOut 122 = .ok (.iload 5, 2) := by decide +kernel
theorem dX6_workOut_124 : decode cX6_workOut 124 = .ok (.goto 5, 3) := by decide +kernel
theorem dX6_workOut_127 : decode cX6_workOut 127 = .ok (.iload 6, 2) := by decide +kernel
theorem dX6_workOut_129 : decode cX6_workOut 129 = .ok (.istore 6, 2) := by decide +kernel
theorem dX6_workOut_131 : decode cX6_workOut 131 = .ok (.goto 104, 3) := by decide +kernel
theorem dX6_workOut_134 : decode cX6_workOut 134 = .ok (.aload_n 0, 1) := by decide +kernel
theorem dX6_workOut_135 : decode cX6_workOut 135 = .ok (.getfield 23, 3) := by decide +kernel
theorem dX6_workOut_138 : decode cX6_workOut 138 = .ok (.iload_n 2, 1) := by decide +kernel
theorem dX6_workOut_139 : decode cX6_workOut 139 = .ok (.iaload, 1) := by decide +kernel
theorem dX6_workOut_140 : decode cX6_workOut 140 = .ok (.iconst 1, 1) := by decide +kernel
theorem dX6_workOut_141 : decode cX6_workOut 141 = .ok (.if_icmp .ne 58, 3) := by decide +kernel
theorem dX6_workOut_144 : decode cX6_workOut 144 = .ok (.iload 5, 2) := by decide +kernel
theorem dX6_workOut_146 : decode cX6_workOut 146 = .ok (.aload_n 0, 1) := by decide +kernel
theorem dX6_workOut_147 : decode cX6_workOut 147 = .ok (.getfield 32, 3) := by decide +kernel
theorem dX6_workOut_150 : decode cX6_workOut 150 = .ok (.iload_n 2, 1) := by decide +kernel
theorem dX6_workOut_151 : decode cX6_workOut 151 = .ok (.iaload, 1) := by decide +kernel
theorem dX6_workOut_152 : decode cX6_workOut 152 = .ok (.if_icmp .lt 7, 3) := by decide +kernel
theorem dX6_workOut_155 : decode cX6_workOut 155 = .ok (.iconst 1, 1) := by decide +kernel
theorem dX6_workOut_156 : decode cX6_workOut 156 = .ok (.goto 4, 3) := by decide +kernel
theorem dX6_workOut_159 : decode cX6_workOut 159 = .ok (.iconst 0, 1) := by decide +kernel
theorem dX6_workOut_160 : decode cX6_workOut 160 = .ok (.istore 7, 2) := by decide +kernel
theorem dX6_workOut_162 : decode cX6_workOut 162 = .ok (.iload 7, 2) := by decide +kernel
theorem dX6_workOut_164 : decode cX6_workOut 164 = .ok (.iconst 1, 1) := by decide +kernel
theorem dX6_workOut_165 : decode cX6_workOut 165 = .ok (.if_icmp .ne 70, 3) := by decide +kernel
theorem dX6_workOut_168 : decode cX6_workOut 168 = .ok (.iload_n 3, 1) := by decide +kernel
theorem dX6_workOut_169 : decode cX6_workOut 169 = .ok (.iload 4, 2) := by decide +kernel
theorem dX6_workOut_171 : decode cX6_workOut 171 = .ok (.if_icmp .eq 64, 3) := by decide +kernel
theorem dX6_workOut_174 : decode cX6_workOut 174 = .ok (.iload 5, 2) := by decide +kernel
theorem dX6_workOut_176 : decode cX6_workOut 176 = .ok (.aload_n 0, 1) := by decide +kernel
theorem dX6_workOut_177 : decode cX6_workOut 177 = .ok (.getfield 32, 3) := by decide +kernel
theorem dX6_workOut_180 : decode cX6_workOut 180 = .ok (.iload_n 2, 1) := by decide +kernel
theorem dX6_workOut_181 : decode cX6_workOut 181 = .ok (.iaload, 1) := by decide +kernel
theorem dX6_workOut_182 : decode cX6_workOut 182 = .ok (.isub, 1) := by decide +kernel
theorem dX6_workOut_183 : decode cX6_workOut 183 = .ok (.istore 5, 2) := by decide +kernel
theorem dX6_workOut_185 : decode cX6_workOut 185 = .ok (.iload 6, 2) := by decide +kernel
theorem dX6_workOut_187 : decode cX6_workOut 187 = .ok (.aload_n 0, 1) := by decide +kernel
theorem dX6_workOut_188 : decode cX6_workOut 188 = .ok (.getfield 32, 3) := by decide +kernel
theorem dX6_workOut_191 : decode cX6_workOut 191 = .ok (.iload_n 2, 1) := by decide +kernel
theorem dX6_workOut_192 : decode cX6_workOut 192 = .ok (.iaload, 1) := by decide +kernel
theorem dX6_workOut_193 : decode cX6_workOut 193 = .ok (.iadd, 1) := by decide +kernel
theorem dX6_workOut_194 : decode cX6_workOut 194 = .ok (.istore 6, 2) := by decide +kernel
theorem dX6_workOut_196 : decode cX6_workOut 196 = .ok (.goto 39, 3) := by decide +kernel
theorem dX6_workOut_199 : decode cX6_workOut 199 = .ok (.aload_n 0, 1) := by decide +kernel
theorem dX6_workOut_200 : decode cX6_workOut 200 = .ok (.getfield 23, 3) := by decide +kernel
theorem dX6_workOut_203 : decode cX6_workOut 203 = .ok (.iload_n 2, 1) := by decide +kernel
theorem dX6_workOut_204 : decode cX6_workOut 204 = .ok (.iaload, 1) := by decide +kernel
theorem dX6_workOut_205 : decode cX6_workOut 205 = .ok (.iconst 2, 1) := by decide +kernel
theorem dX6_workOut_206 : decode cX6_workOut 206 = .ok (.if_icmp .ne 13, 3) := by decide +kernel
theorem dX6_workOut_209 : decode cX6_workOut 209 = .ok (.iload 5, 2) := by decide +kernel
theorem dX6_workOut_211 : decode cX6_workOut 211 = .ok (.iload 6, 2) := by decide +kernel
theorem dX6_workOut_213 : decode cX6_workOut 213 = .ok (.iadd, 1) := by decide +kernel
theorem dX6_workOut_214 : decode cX6_workOut 214 = .ok (.istore 7, 2) := by decide +kernel
theorem dX6_workOut_216 : decode cX6_workOut 216 = .ok (.goto 19, 3) := by decide +kernel
theorem dX6_workOut_219 : decode cX6_workOut 219 = .ok (.iload 5, 2) := by decide +kernel
theorem dX6_workOut_221 : decode cX6_workOut 221 = .ok (.istore 8, 2) := by decide +kernel
theorem dX6_workOut_223 : decode cX6_workOut 223 = .ok (.iload 6, 2) := by decide +kernel
theorem dX6_workOut_225 : decode cX6_workOut 225 = .ok (.istore 5, 2) := by decide +kernel
theorem dX6_workOut_227 : decode cX6_workOut 227 = .ok (.iload 8, 2) := by decide +kernel
theorem dX6_workOut_229 : decode cX6_workOut 229 = .ok (.istore 6, 2) := by decide +kernel
theorem dX6_workOut_231 : decode cX6_workOut 231 = .ok (.iload 5, 2) := by decide +kernel
theorem dX6_workOut_233 : decode cX6_workOut 233 = .ok (.istore 7, 2) := by decide +kernel
theorem dX6_workOut_235 : decode cX6_workOut 235 = .ok (.iload 4, 2) := by decide +kernel
theorem dX6_workOut_237 : decode cX6_workOut 237 = .ok (.aload_n 0, 1) := by decide +kernel
theorem dX6_workOut_238 : decode cX6_workOut 238 = .ok (.getfield 101, 3) := by decide +kernel
theorem dX6_workOut_241 : decode cX6_workOut 241 = .ok (.irem, 1) := by decide +kernel
theorem dX6_workOut_242 : decode cX6_workOut 242 = .ok (.iload_n 1, 1) := by decide +kernel
theorem dX6_workOut_243 : decode cX6_workOut 243 = .ok (.if_icmp .ne 21, 3) := by decide +kernel
theorem dX6_workOut_246 : decode cX6_workOut 246 = .ok (.aload_n 0, 1) := by decide +kernel
theorem dX6_workOut_247 : decode cX6_workOut 247 = .ok (.getfield 23, 3) := by decide +kernel
theorem dX6_workOut_250 : decode cX6_workOut 250 = .ok (.iload_n 2, 1) := by decide +kernel
theorem dX6_workOut_251 : decode cX6_workOut 251 = .ok (.iaload, 1) := by decide +kernel
theorem dX6_workOut_252 : decode cX6_workOut 252 = .ok (.ifCond .eq 12, 3) := by decide +kernel
theorem dX6_workOut_255 : decode cX6_workOut 255 = .ok (.aload_n 0, 1) := by decide +kernel
theorem dX6_workOut_256 : decode cX6_workOut 256 = .ok (.getfield 17, 3) := by decide +kernel
theorem dX6_workOut_259 : decode cX6_workOut 259 = .ok (.iload 4, 2) := by decide +kernel
theorem dX6_workOut_261 : decode cX6_workOut 261 = .ok (.iload 6, 2) := by decide +kernel
theorem dX6_workOut_263 : decode cX6_workOut 263 = .ok (.iastore, 1) := by decide +kernel
theorem dX6_workOut_264 : decode cX6_workOut 264 = .ok (.iload_n 3, 1) := by decide +kernel
theorem dX6_workOut_265 : decode cX6_workOut 265 = .ok (.aload_n 0, 1) := by decide +kernel
theorem dX6_workOut_266 : decode cX6_workOut 266 = .ok (.getfield 101, 3) := by decide +kernel
theorem dX6_workOut_269 : decode cX6_workOut 269 = .ok (.irem, 1) := by decide +kernel
theorem dX6_workOut_270 : decode cX6_workOut 270 = .ok (.iload_n 1, 1) := by decide +kernel
theorem dX6_workOut_271 : decode cX6_workOut 271 = .ok (.if_icmp .ne 11, 3) := by decide +kernel
theorem dX6_workOut_274 : decode cX6_workOut 274 = .ok (.aload_n 0, 1) := by decide +kernel
theorem dX6_workOut_275 : decode cX6_workOut 275 = .ok (.getfield 17, 3) := by decide +kernel
theorem dX6_workOut_278 : decode cX6_workOut 278 = .ok (.iload_n 3, 1) := by decide +kernel
theorem dX6_workOut_279 : decode cX6_workOut 279 = .ok (.iload 5, 2) := by decide +kernel
theorem dX6_workOut_281 : decode cX6_workOut 281 = .ok (.iastore, 1) := by decide +kernel
theorem dX6_workOut_282 : decode cX6_workOut 282 = .ok (.aload_n 0, 1) := by decide +kernel
theorem dX6_workOut_283 : decode cX6_workOut 283 = .ok (.getfield 59, 3) := by decide +kernel
theorem dX6_workOut_286 : decode cX6_workOut 286 = .ok (.iload_n 1, 1) := by decide +kernel
theorem dX6_workOut_287 : decode cX6_workOut 287 = .ok (.iload_n 2, 1) := by decide +kernel
theorem dX6_workOut_288 : decode cX6_workOut 288 = .ok (.invokestatic 105, 3) := by decide +kernel
theorem dX6_workOut_291 : decode cX6_workOut 291 = .ok (.iconst 1, 1) := by decide +kernel
theorem dX6_workOut_292 : decode cX6_workOut 292 = .ok (.bastore, 1) := by decide +kernel
theorem dX6_workOut_293 : decode cX6_workOut 293 = .ok (.aload_n 0, 1) := by decide +kernel
theorem dX6_workOut_294 : decode cX6_workOut 294 = .ok (.getfield 38, 3) := by decide +kernel
theorem dX6_workOut_297 : decode cX6_workOut 297 = .ok (.iload_n 2, 1) := by decide +kernel
theorem dX6_workOut_298 : decode cX6_workOut 298 = .ok (.baload, 1) := by decide +kernel
theorem dX6_workOut_299 : decode cX6_workOut 299 = .ok (.ifCond .ne 73, 3) := by decide +kernel
theorem dX6_workOut_302 : decode cX6_workOut 302 = .ok (.aload_n 0, 1) := by decide +kernel
theorem dX6_workOut_303 : decode cX6_workOut 303 = .ok (.getfield 38, 3) := by decide +kernel
theorem dX6_workOut_306 : decode cX6_workOut 306 = .ok (.iload_n 2, 1) := by decide +kernel
theorem dX6_workOut_307 : decode cX6_workOut 307 = .ok (.iconst 1, 1) := by decide +kernel
theorem dX6_workOut_308 : decode cX6_workOut 308 = .ok (.bastore, 1) := by decide +kernel
theorem dX6_workOut_309 : decode cX6_workOut 309 = .ok (.aload_n 0, 1) := by decide +kernel
theorem dX6_workOut_310 : decode cX6_workOut 310 = .ok (.getfield 41, 3) := by decide +kernel
theorem dX6_workOut_313 : decode cX6_workOut 313 = .ok (.iload_n 2, 1) := by decide +kernel
theorem dX6_workOut_314 : decode cX6_workOut 314 = .ok (.iload 7, 2) := by decide +kernel
theorem dX6_workOut_316 : decode cX6_workOut 316 = .ok (.iastore, 1) := by decide +kernel
theorem dX6_workOut_317 : decode cX6_workOut 317 = .ok (.aload_n 0, 1) := by decide +kernel
theorem dX6_workOut_318 : decode cX6_workOut 318 = .ok (.getfield 20, 3) := by decide +kernel
theorem dX6_workOut_321 : decode cX6_workOut 321 = .ok (.iload_n 2, 1) := by decide +kernel
theorem dX6_workOut_322 : decode cX6_workOut 322 = .ok (.iaload, 1) := by decide +kernel
theorem dX6_workOut_323 : decode cX6_workOut 323 = .ok (.istore 8, 2) := by decide +kernel
theorem dX6_workOut_325 : decode cX6_workOut 325 = .ok (.aload_n 0, 1) := by decide +kernel
theorem dX6_workOut_326 : decode cX6_workOut 326 = .ok (.getfield 44, 3) := by decide +kernel
theorem dX6_workOut_329 : decode cX6_workOut 329 = .ok (.iload 8, 2) := by decide +kernel
theorem dX6_workOut_331 : decode cX6_workOut 331 = .ok (.aload_n 0, 1) := by decide +kernel
theorem dX6_workOut_332 : decode cX6_workOut 332 = .ok (.getfield 44, 3) := by decide +kernel
theorem dX6_workOut_335 : decode cX6_workOut 335 = .ok (.iload 8, 2) := by decide +kernel
theorem dX6_workOut_337 : decode cX6_workOut 337 = .ok (.iaload, 1) := by decide +kernel
theorem dX6_workOut_338 : decode cX6_workOut 338 = .ok (.aload_n 0, 1) := by decide +kernel
theorem dX6_workOut_339 : decode cX6_workOut 339 = .ok (.getfield 50, 3) := by decide +kernel
theorem dX6_workOut_342 : decode cX6_workOut 342 = .ok (.iload_n 1, 1) := by decide +kernel
theorem dX6_workOut_343 : decode cX6_workOut 343 = .ok (.iload_n 2, 1) := by decide +kernel
theorem dX6_workOut_344 : decode cX6_workOut 344 = .ok (.invokestatic 105, 3) := by decide +kernel
theorem dX6_workOut_347 : decode cX6_workOut 347 = .ok (.iaload, 1) := by decide +kernel
theorem dX6_workOut_348 : decode cX6_workOut 348 = .ok (.if_icmp .ge 16, 3) := by decide +kernel
theorem dX6_workOut_351 : decode cX6_workOut 351 = .ok (.aload_n 0, 1) := by decide +kernel
theorem dX6_workOut_352 : decode cX6_workOut 352 = .ok (.getfield 50, 3) := by decide +kernel
theorem dX6_workOut_355 : decode cX6_workOut 355 = .ok (.iload_n 1, 1) := by decide +kernel
theorem dX6_workOut_356 : decode cX6_workOut 356 = .ok (.iload_n 2, 1) := by decide +kernel
theorem dX6_workOut_357 : decode cX6_workOut 357 = .ok (.invokestatic 105, 3) := by decide +kernel
theorem dX6_workOut_360 : decode cX6_workOut 360 = .ok (.iaload, 1) := by decide +kernel
theorem dX6_workOut_361 : decode cX6_workOut 361 = .ok (.goto 10, 3) := by decide +kernel
theorem dX6_workOut_364 : decode cX6_workOut 364 = .ok (.aload_n 0, 1) := by decide +kernel
theorem dX6_workOut_365 : decode cX6_workOut 365 = .ok (.getfield 44, 3) := by decide +kernel
theorem dX6_workOut_368 : decode cX6_workOut 368 = .ok (.iload 8, 2) := by decide +kernel
theorem dX6_workOut_370 : decode cX6_workOut 370 = .ok (.iaload, 1) := by decide +kernel
theorem dX6_workOut_371 : decode cX6_workOut 371 = .ok (.iastore, 1) := by decide +kernel
theorem dX6_workOut_372 : decode cX6_workOut 372 = .ok (.return_, 1) := by decide +kernel
theorem dX6_bring_0 : decode cX6_bring 0 = .ok (.iload_n 1, 1) := by decide +kernel
theorem dX6_bring_1 : decode cX6_bring 1 = .ok (.aload_n 0, 1) := by decide +kernel
theorem dX6_bring_2 : decode cX6_bring 2 = .ok (.getfield 109, 3) := by decide +kernel
theorem dX6_bring_5 : decode cX6_bring 5 = .ok (.invokestatic 120, 3) := by decide +kernel
theorem dX6_bring_8 : decode cX6_bring 8 = .ok (.ifCond .eq 17, 3) := by decide +kernel
theorem dX6_bring_11 : decode cX6_bring 11 = .ok (.aload_n 0, 1) := by decide +kernel
theorem dX6_bring_12 : decode cX6_bring 12 = .ok (.getfield 13, 3) := by decide +kernel
theorem dX6_bring_15 : decode cX6_bring 15 = .ok (.aload_n 0, 1) := by decide +kernel
theorem dX6_bring_16 : decode cX6_bring 16 = .ok (.getfield 89, 3) := by decide +kernel
theorem dX6_bring_19 : decode cX6_bring 19 = .ok (.iload_n 1, 1) := by decide +kernel
theorem dX6_bring_20 : decode cX6_bring 20 = .ok (.iaload, 1) := by decide +kernel
theorem dX6_bring_21 : decode cX6_bring 21 = .ok (.baload, 1) := by decide +kernel
theorem dX6_bring_22 : decode cX6_bring 22 = .ok (.ifCond .eq 5, 3) := by decide +kernel
theorem dX6_bring_25 : decode cX6_bring 25 = .ok (.iconst (-1), 1) := by decide +kernel
theorem dX6_bring_26 : decode cX6_bring 26 = .ok (.ireturn, 1) := by decide +kernel
theorem dX6_bring_27 : decode cX6_bring 27 = .ok (.aload_n 0, 1) := by decide +kernel
theorem dX6_bring_28 : decode cX6_bring 28 = .ok (.iload_n 1, 1) := by decide +kernel
theorem dX6_bring_29 : decode cX6_bring 29 = .ok (.sipush 399, 3) := by decide +kernel
theorem dX6_bring_32 : decode cX6_bring 32 = .ok (.invokevirtual 155, 3) := by decide +kernel
theorem dX6_bring_35 : decode cX6_bring 35 = .ok (.aload_n 0, 1) := by decide +kernel
theorem dX6_bring_36 : decode cX6_bring 36 = .ok (.dup, 1) := by decide +kernel
theorem dX6_bring_37 : decode cX6_bring 37 = .ok (.getfield 109, 3) := by decide +kernel
theorem dX6_bring_40 : decode cX6_bring 40 = .ok (.iconst 1, 1) := by decide +kernel
theorem dX6_bring_41 : decode cX6_bring 41 = .ok (.isub, 1) := by decide +kernel
theorem dX6_bring_42 : decode cX6_bring 42 = .ok (.putfield 109, 3) := by decide +kernel
theorem dX6_bring_45 : decode cX6_bring 45 = .ok (.iload_n 1, 1) := by decide +kernel
theorem dX6_bring_46 : decode cX6_bring 46 = .ok (.istore_n 2, 1) := by decide +kernel
theorem dX6_bring_47 : decode cX6_bring 47 = .ok (.iload_n 2, 1) := by decide +kernel
theorem dX6_bring_48 : decode cX6_bring 48 = .ok (.aload_n 0, 1) := by decide +kernel
theorem dX6_bring_49 : decode cX6_bring 49 = .ok (.getfield 109, 3) := by decide +kernel
theorem dX6_bring_52 : decode cX6_bring 52 = .ok (.if_icmp .ge 17, 3) := by decide +kernel
theorem dX6_bring_55 : decode cX6_bring 55 = .ok (.aload_n 0, 1) := by decide +kernel
theorem dX6_bring_56 : decode cX6_bring 56 = .ok (.iload_n 2, 1) := by decide +kernel
theorem dX6_bring_57 : decode cX6_bring 57 = .ok (.iconst 1, 1) := by decide +kernel
theorem dX6_bring_58 : decode cX6_bring 58 = .ok (.iadd, 1) := by decide +kernel
theorem dX6_bring_59 : decode cX6_bring 59 = .ok (.iload_n 2, 1) := by decide +kernel
theorem dX6_bring_60 : decode cX6_bring 60 = .ok (.invokevirtual 155, 3) := by decide +kernel
theorem dX6_bring_63 : decode cX6_bring 63 = .ok (.iinc 2 1, 3) := by decide +kernel
theorem dX6_bring_66 : decode cX6_bring 66 = .ok (.goto (-19), 3) := by decide +kernel
theorem dX6_bring_69 : decode cX6_bring 69 = .ok (.aload_n 0, 1) := by decide +kernel
theorem dX6_bring_70 : decode cX6_bring 70 = .ok (.sipush 399, 3) := by decide +kernel
theorem dX6_bring_73 : decode cX6_bring 73 = .ok (.invokevirtual 158, 3) := by decide +kernel
theorem dX6_bring_76 : decode cX6_bring 76 = .ok (.aload_n 0, 1) := by decide +kernel
theorem dX6_bring_77 : decode cX6_bring 77 = .ok (.getfield 109, 3) := by decide +kernel
theorem dX6_bring_80 : decode cX6_bring 80 = .ok (.ireturn, 1) := by decide +kernel
theorem dX6_move_0 : decode cX6_move 0 = .ok (.aload_n 0, 1) := by decide +kernel
theorem dX6_move_1 : decode cX6_move 1 = .ok (.getfield 80, 3) := by decide +kernel
theorem dX6_move_4 : decode cX6_move 4 = .ok (.iload_n 2, 1) := by decide +kernel
theorem dX6_move_5 : decode cX6_move 5 = .ok (.aload_n 0, 1) := by decide +kernel
theorem dX6_move_6 : decode cX6_move 6 = .ok (.getfield 80, 3) := by decide +kernel
theorem dX6_move_9 : decode cX6_move 9 = .ok (.iload_n 1, 1) := by decide +kernel
theorem dX6_move_10 : decode cX6_move 10 = .ok (.iaload, 1) := by decide +kernel
theorem dX6_move_11 : decode cX6_move 11 = .ok (.iastore, 1) := by decide +kernel
theorem dX6_move_12 : decode cX6_move 12 = .ok (.aload_n 0, 1) := by decide +kernel
theorem dX6_move_13 : decode cX6_move 13 = .ok (.getfield 83, 3) := by decide +kernel
theorem dX6_move_16 : decode cX6_move 16 = .ok (.iload_n 2, 1) := by decide +kernel
theorem dX6_move_17 : decode cX6_move 17 = .ok (.aload_n 0, 1) := by decide +kernel
theorem dX6_move_18 : decode cX6_move 18 = .ok (.getfield 83, 3) := by decide +kernel
theorem dX6_move_21 : decode cX6_move 21 = .ok (.iload_n 1, 1) := by decide +kernel
theorem dX6_move_22 : decode cX6_move 22 = .ok (.iaload, 1) := by decide +kernel
theorem dX6_move_23 : decode cX6_move 23 = .ok (.iastore, 1) := by decide +kernel
theorem dX6_move_24 : decode cX6_move 24 = .ok (.aload_n 0, 1) := by decide +kernel
theorem dX6_move_25 : decode cX6_move 25 = .ok (.getfield 86, 3) := by decide +kernel
theorem dX6_move_28 : decode cX6_move 28 = .ok (.iload_n 2, 1) := by decide +kernel
theorem dX6_move_29 : decode cX6_move 29 = .ok (.aload_n 0, 1) := by decide +kernel
theorem dX6_move_30 : decode cX6_move 30 = .ok (.getfield 86, 3) := by decide +kernel
theorem dX6_move_33 : decode cX6_move 33 = .ok (.iload_n 1, 1) := by decide +kernel
theorem dX6_move_34 : decode cX6_move 34 = .ok (.iaload, 1) := by decide +kernel
theorem dX6_move_35 : decode cX6_move 35 = .ok (.iastore, 1) := by decide +kernel
theorem dX6_move_36 : decode cX6_move 36 = .ok (.aload_n 0, 1) := by decide +kernel
theorem dX6_move_37 : decode cX6_move 37 = .ok (.getfield 89, 3) := by decide +kernel
theorem dX6_move_40 : decode cX6_move 40 = .ok (.iload_n 2, 1) := by decide +kernel
theorem dX6_move_41 : decode cX6_move 41 = .ok (.aload_n 0, 1) := by decide +kernel
theorem dX6_move_42 : decode cX6_move 42 = .ok (.getfield 89, 3) := by decide +kernel
theorem dX6_move_45 : decode cX6_move 45 = .ok (.iload_n 1, 1) := by decide +kernel
