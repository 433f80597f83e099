theorem dX0_init_0 : decode cX0_init 0 = .ok (.aload_n 0, 1) := by decide +kernel
theorem dX0_init_1 : decode cX0_init 1 = .ok (.invokespecial 3, 3) := by decide +kernel
theorem dX0_init_4 : decode cX0_init 4 = .ok (.aload_n 0, 1) := by decide +kernel
theorem dX0_init_5 : decode cX0_init 5 = .ok (.sipush 240, 3) := by decide +kernel
theorem dX0_init_8 : decode cX0_init 8 = .ok (.anewarray 9, 3) := by decide +kernel
theorem dX0_init_11 : decode cX0_init 11 = .ok (.putfield 11, 3) := by decide +kernel
theorem dX0_init_14 : decode cX0_init 14 = .ok (.return_, 1) := by decide +kernel
theorem dX0_has_0 : decode cX0_has 0 = .ok (.iload_n 1, 1) := by decide +kernel
theorem dX0_has_1 : decode cX0_has 1 = .ok (.ifCond .lt 15, 3) := by decide +kernel
theorem dX0_has_4 : decode cX0_has 4 = .ok (.iload_n 1, 1) := by decide +kernel
theorem dX0_has_5 : decode cX0_has 5 = .ok (.aload_n 0, 1) := by decide +kernel
theorem dX0_has_6 : decode cX0_has 6 = .ok (.getfield 17, 3) := by decide +kernel
theorem dX0_has_9 : decode cX0_has 9 = .ok (.if_icmp .ge 7, 3) := by decide +kernel
theorem dX0_has_12 : decode cX0_has 12 = .ok (.iconst 1, 1) := by decide +kernel
theorem dX0_has_13 : decode cX0_has 13 = .ok (.goto 4, 3) := by decide +kernel
theorem dX0_has_16 : decode cX0_has 16 = .ok (.iconst 0, 1) := by decide +kernel
theorem dX0_has_17 : decode cX0_has 17 = .ok (.ireturn, 1) := by decide +kernel
theorem dX0_put_0 : decode cX0_put 0 = .ok (.aload_n 0, 1) := by decide +kernel
theorem dX0_put_1 : decode cX0_put 1 = .ok (.getfield 17, 3) := by decide +kernel
theorem dX0_put_4 : decode cX0_put 4 = .ok (.sipush 240, 3) := by decide +kernel
theorem dX0_put_7 : decode cX0_put 7 = .ok (.if_icmp .ge 23, 3) := by decide +kernel
theorem dX0_put_10 : decode cX0_put 10 = .ok (.aload_n 0, 1) := by decide +kernel
theorem dX0_put_11 : decode cX0_put 11 = .ok (.getfield 11, 3) := by decide +kernel
theorem dX0_put_14 : decode cX0_put 14 = .ok (.aload_n 0, 1) := by decide +kernel
theorem dX0_put_15 : decode cX0_put 15 = .ok (.getfield 17, 3) := by decide +kernel
theorem dX0_put_18 : decode cX0_put 18 = .ok (.aload_n 1, 1) := by decide +kernel
theorem dX0_put_19 : decode cX0_put 19 = .ok (.aastore, 1) := by decide +kernel
theorem dX0_put_20 : decode cX0_put 20 = .ok (.aload_n 0, 1) := by decide +kernel
theorem dX0_put_21 : decode cX0_put 21 = .ok (.dup, 1) := by decide +kernel
theorem dX0_put_22 : decode cX0_put 22 = .ok (.getfield 17, 3) := by decide +kernel
theorem dX0_put_25 : decode cX0_put 25 = .ok (.iconst 1, 1) := by decide +kernel
theorem dX0_put_26 : decode cX0_put 26 = .ok (.iadd, 1) := by decide +kernel
theorem dX0_put_27 : decode cX0_put 27 = .ok (.putfield 17, 3) := by decide +kernel
theorem dX0_put_30 : decode cX0_put 30 = .ok (.return_, 1) := by decide +kernel
theorem dX0_drop_0 : decode cX0_drop 0 = .ok (.iload_n 1, 1) := by decide +kernel
theorem dX0_drop_1 : decode cX0_drop 1 = .ok (.iconst 1, 1) := by decide +kernel
theorem dX0_drop_2 : decode cX0_drop 2 = .ok (.iadd, 1) := by decide +kernel
theorem dX0_drop_3 : decode cX0_drop 3 = .ok (.istore_n 2, 1) := by decide +kernel
theorem dX0_drop_4 : decode cX0_drop 4 = .ok (.iload_n 2, 1) := by decide +kernel
theorem dX0_drop_5 : decode cX0_drop 5 = .ok (.aload_n 0, 1) := by decide +kernel
theorem dX0_drop_6 : decode cX0_drop 6 = .ok (.getfield 17, 3) := by decide +kernel
theorem dX0_drop_9 : decode cX0_drop 9 = .ok (.if_icmp .ge 23, 3) := by decide +kernel
theorem dX0_drop_12 : decode cX0_drop 12 = .ok (.aload_n 0, 1) := by decide +kernel
theorem dX0_drop_13 : decode cX0_drop 13 = .ok (.getfield 11, 3) := by decide +kernel
theorem dX0_drop_16 : decode cX0_drop 16 = .ok (.iload_n 2, 1) := by decide +kernel
theorem dX0_drop_17 : decode cX0_drop 17 = .ok (.iconst 1, 1) := by decide +kernel
theorem dX0_drop_18 : decode cX0_drop 18 = .ok (.isub, 1) := by decide +kernel
theorem dX0_drop_19 : decode cX0_drop 19 = .ok (.aload_n 0, 1) := by decide +kernel
theorem dX0_drop_20 : decode cX0_drop 20 = .ok (.getfield 11, 3) := by decide +kernel
theorem dX0_drop_23 : decode cX0_drop 23 = .ok (.iload_n 2, 1) := by decide +kernel
theorem dX0_drop_24 : decode cX0_drop 24 = .ok (.aaload, 1) := by decide +kernel
theorem dX0_drop_25 : decode cX0_drop 25 = .ok (.aastore, 1) := by decide +kernel
theorem dX0_drop_26 : decode cX0_drop 26 = .ok (.iinc 2 1, 3) := by decide +kernel
theorem dX0_drop_29 : decode cX0_drop 29 = .ok (.goto (-25), 3) := by decide +kernel
theorem dX0_drop_32 : decode cX0_drop 32 = .ok (.aload_n 0, 1) := by decide +kernel
theorem dX0_drop_33 : decode cX0_drop 33 = .ok (.dup, 1) := by decide +kernel
theorem dX0_drop_34 : decode cX0_drop 34 = .ok (.getfield 17, 3) := by decide +kernel
theorem dX0_drop_37 : decode cX0_drop 37 = .ok (.iconst 1, 1) := by decide +kernel
theorem dX0_drop_38 : decode cX0_drop 38 = .ok (.isub, 1) := by decide +kernel
theorem dX0_drop_39 : decode cX0_drop 39 = .ok (.putfield 17, 3) := by decide +kernel
theorem dX0_drop_42 : decode cX0_drop 42 = .ok (.aload_n 0, 1) := by decide +kernel
theorem dX0_drop_43 : decode cX0_drop 43 = .ok (.getfield 11, 3) := by decide +kernel
theorem dX0_drop_46 : decode cX0_drop 46 = .ok (.aload_n 0, 1) := by decide +kernel
theorem dX0_drop_47 : decode cX0_drop 47 = .ok (.getfield 17, 3) := by decide +kernel
theorem dX0_drop_50 : decode cX0_drop 50 = .ok (.aconst_null, 1) := by decide +kernel
theorem dX0_drop_51 : decode cX0_drop 51 = .ok (.aastore, 1) := by decide +kernel
theorem dX0_drop_52 : decode cX0_drop 52 = .ok (.return_, 1) := by decide +kernel
theorem dX1_init_0 : decode cX1_init 0 = .ok (.aload_n 0, 1) := by decide +kernel
theorem dX1_init_1 : decode cX1_init 1 = .ok (.invokespecial 3, 3) := by decide +kernel
theorem dX1_init_4 : decode cX1_init 4 = .ok (.aload_n 0, 1) := by decide +kernel
theorem dX1_init_5 : decode cX1_init 5 = .ok (.iconst 1, 1) := by decide +kernel
theorem dX1_init_6 : decode cX1_init 6 = .ok (.putfield 9, 3) := by decide +kernel
theorem dX1_init_9 : decode cX1_init 9 = .ok (.aload_n 0, 1) := by decide +kernel
theorem dX1_init_10 : decode cX1_init 10 = .ok (.bipush 40, 2) := by decide +kernel
theorem dX1_init_12 : decode cX1_init 12 = .ok (.anewarray 15, 3) := by decide +kernel
theorem dX1_init_15 : decode cX1_init 15 = .ok (.putfield 17, 3) := by decide +kernel
theorem dX1_init_18 : decode cX1_init 18 = .ok (.aload_n 0, 1) := by decide +kernel
theorem dX1_init_19 : decode cX1_init 19 = .ok (.bipush 40, 2) := by decide +kernel
theorem dX1_init_21 : decode cX1_init 21 = .ok (.anewarray 15, 3) := by decide +kernel
theorem dX1_init_24 : decode cX1_init 24 = .ok (.putfield 21, 3) := by decide +kernel
theorem dX1_init_27 : decode cX1_init 27 = .ok (.aload_n 0, 1) := by decide +kernel
theorem dX1_init_28 : decode cX1_init 28 = .ok (.iload_n 1, 1) := by decide +kernel
theorem dX1_init_29 : decode cX1_init 29 = .ok (.putfield 24, 3) := by decide +kernel
theorem dX1_init_32 : decode cX1_init 32 = .ok (.return_, 1) := by decide +kernel
theorem dX1_partFor_0 : decode cX1_partFor 0 = .ok (.new 15, 3) := by decide +kernel
theorem dX1_partFor_3 : decode cX1_partFor 3 = .ok (.dup, 1) := by decide +kernel
theorem dX1_partFor_4 : decode cX1_partFor 4 = .ok (.aload_n 1, 1) := by decide +kernel
theorem dX1_partFor_5 : decode cX1_partFor 5 = .ok (.aload_n 0, 1) := by decide +kernel
theorem dX1_partFor_6 : decode cX1_partFor 6 = .ok (.getfield 24, 3) := by decide +kernel
theorem dX1_partFor_9 : decode cX1_partFor 9 = .ok (.invokespecial 28, 3) := by decide +kernel
theorem dX1_partFor_12 : decode cX1_partFor 12 = .ok (.astore_n 2, 1) := by decide +kernel
theorem dX1_partFor_13 : decode cX1_partFor 13 = .ok (.aload_n 0, 1) := by decide +kernel
theorem dX1_partFor_14 : decode cX1_partFor 14 = .ok (.getfield 17, 3) := by decide +kernel
theorem dX1_partFor_17 : decode cX1_partFor 17 = .ok (.aload_n 1, 1) := by decide +kernel
theorem dX1_partFor_18 : decode cX1_partFor 18 = .ok (.getfield 31, 3) := by decide +kernel
theorem dX1_partFor_21 : decode cX1_partFor 21 = .ok (.aload_n 2, 1) := by decide +kernel
theorem dX1_partFor_22 : decode cX1_partFor 22 = .ok (.aastore, 1) := by decide +kernel
theorem dX1_partFor_23 : decode cX1_partFor 23 = .ok (.aload_n 2, 1) := by decide +kernel
theorem dX1_partFor_24 : decode cX1_partFor 24 = .ok (.areturn, 1) := by decide +kernel
theorem dX1_start_0 : decode cX1_start 0 = .ok (.aload_n 0, 1) := by decide +kernel
theorem dX1_start_1 : decode cX1_start 1 = .ok (.aload_n 0, 1) := by decide +kernel
theorem dX1_start_2 : decode cX1_start 2 = .ok (.getfield 34, 3) := by decide +kernel
theorem dX1_start_5 : decode cX1_start 5 = .ok (.aload_n 1, 1) := by decide +kernel
theorem dX1_start_6 : decode cX1_start 6 = .ok (.getfield 37, 3) := by decide +kernel
theorem dX1_start_9 : decode cX1_start 9 = .ok (.getfield 41, 3) := by decide +kernel
theorem dX1_start_12 : decode cX1_start 12 = .ok (.invokestatic 44, 3) := by decide +kernel
theorem dX1_start_15 : decode cX1_start 15 = .ok (.iconst 1, 1) := by decide +kernel
theorem dX1_start_16 : decode cX1_start 16 = .ok (.iadd, 1) := by decide +kernel
theorem dX1_start_17 : decode cX1_start 17 = .ok (.putfield 34, 3) := by decide +kernel
theorem dX1_start_20 : decode cX1_start 20 = .ok (.aload_n 1, 1) := by decide +kernel
theorem dX1_start_21 : decode cX1_start 21 = .ok (.aload_n 0, 1) := by decide +kernel
theorem dX1_start_22 : decode cX1_start 22 = .ok (.getfield 34, 3) := by decide +kernel
theorem dX1_start_25 : decode cX1_start 25 = .ok (.putfield 50, 3) := by decide +kernel
theorem dX1_start_28 : decode cX1_start 28 = .ok (.return_, 1) := by decide +kernel
theorem dX1_makeFinal_0 : decode cX1_makeFinal 0 = .ok (.iconst 0, 1) := by decide +kernel
theorem dX1_makeFinal_1 : decode cX1_makeFinal 1 = .ok (.istore_n 1, 1) := by decide +kernel
theorem dX1_makeFinal_2 : decode cX1_makeFinal 2 = .ok (.iload_n 1, 1) := by decide +kernel
theorem dX1_makeFinal_3 : decode cX1_makeFinal 3 = .ok (.bipush 40, 2) := by decide +kernel
theorem dX1_makeFinal_5 : decode cX1_makeFinal 5 = .ok (.if_icmp .ge 65, 3) := by decide +kernel
theorem dX1_makeFinal_8 : decode cX1_makeFinal 8 = .ok (.aload_n 0, 1) := by decide +kernel
theorem dX1_makeFinal_9 : decode cX1_makeFinal 9 = .ok (.getfield 17, 3) := by decide +kernel
theorem dX1_makeFinal_12 : decode cX1_makeFinal 12 = .ok (.iload_n 1, 1) := by decide +kernel
theorem dX1_makeFinal_13 : decode cX1_makeFinal 13 = .ok (.aaload, 1) := by decide +kernel
theorem dX1_makeFinal_14 : decode cX1_makeFinal 14 = .ok (.astore_n 2, 1) := by decide +kernel
theorem dX1_makeFinal_15 : decode cX1_makeFinal 15 = .ok (.aload_n 2, 1) := by decide +kernel
theorem dX1_makeFinal_16 : decode cX1_makeFinal 16 = .ok (.ifnull 48, 3) := by decide +kernel
theorem dX1_makeFinal_19 : decode cX1_makeFinal 19 = .ok (.aload_n 2, 1) := by decide +kernel
theorem dX1_makeFinal_20 : decode cX1_makeFinal 20 = .ok (.getfield 53, 3) := by decide +kernel
theorem dX1_makeFinal_23 : decode cX1_makeFinal 23 = .ok (.iconst (-1), 1) := by decide +kernel
theorem dX1_makeFinal_24 : decode cX1_makeFinal 24 = .ok (.if_icmp .ne 40, 3) := by decide +kernel
theorem dX1_makeFinal_27 : decode cX1_makeFinal 27 = .ok (.aload_n 2, 1) := by decide +kernel
theorem dX1_makeFinal_28 : decode cX1_makeFinal 28 = .ok (.invokevirtual 56, 3) := by decide +kernel
theorem dX1_makeFinal_31 : decode cX1_makeFinal 31 = .ok (.ifCond .eq 33, 3) := by decide +kernel
theorem dX1_makeFinal_34 : decode cX1_makeFinal 34 = .ok (.aload_n 2, 1) := by decide +kernel
theorem dX1_makeFinal_35 : decode cX1_makeFinal 35 = .ok (.aload_n 2, 1) := by decide +kernel
theorem dX1_makeFinal_36 : decode cX1_makeFinal 36 = .ok (.getfield 50, 3) := by decide +kernel
theorem dX1_makeFinal_39 : decode cX1_makeFinal 39 = .ok (.aload_n 2, 1) := by decide +kernel
theorem dX1_makeFinal_40 : decode cX1_makeFinal 40 = .ok (.getfield 60, 3) := by decide +kernel
theorem dX1_makeFinal_43 : decode cX1_makeFinal 43 = .ok (.invokestatic 44, 3) := by decide +kernel
theorem dX1_makeFinal_46 : decode cX1_makeFinal 46 = .ok (.putfield 53, 3) := by decide +kernel
theorem dX1_makeFinal_49 : decode cX1_makeFinal 49 = .ok (.aload_n 0, 1) := by decide +kernel
theorem dX1_makeFinal_50 : decode cX1_makeFinal 50 = .ok (.aload_n 0, 1) := by decide +kernel
theorem dX1_makeFinal_51 : decode cX1_makeFinal 51 = .ok (.getfield 34, 3) := by decide +kernel
theorem dX1_makeFinal_54 : decode cX1_makeFinal 54 = .ok (.aload_n 2, 1) := by decide +kernel
theorem dX1_makeFinal_55 : decode cX1_makeFinal 55 = .ok (.getfield 53, 3) := by decide +kernel
theorem dX1_makeFinal_58 : decode cX1_makeFinal 58 = .ok (.invokestatic 44, 3) := by decide +kernel
theorem dX1_makeFinal_61 : decode cX1_makeFinal 61 = .ok (.putfield 34, 3) := by decide +kernel
theorem dX1_makeFinal_64 : decode cX1_makeFinal 64 = .ok (.iinc 1 1, 3) := by decide +kernel
theorem dX1_makeFinal_67 : decode cX1_makeFinal 67 = .ok (.goto (-65), 3) := by decide +kernel
theorem dX1_makeFinal_70 : decode cX1_makeFinal 70 = .ok (.return_, 1) := by decide +kernel
theorem dX1_takeAll_0 : decode cX1_takeAll 0 = .ok (.aload_n 0, 1) := by decide +kernel
theorem dX1_takeAll_1 : decode cX1_takeAll 1 = .ok (.getfield 63, 3) := by decide +kernel
theorem dX1_takeAll_4 : decode cX1_takeAll 4 = .ok (.istore_n 1, 1) := by decide +kernel
theorem dX1_takeAll_5 : decode cX1_takeAll 5 = .ok (.iload_n 1, 1) := by decide +kernel
theorem dX1_takeAll_6 : decode cX1_takeAll 6 = .ok (.bipush 40, 2) := by decide +kernel
theorem dX1_takeAll_8 : decode cX1_takeAll 8 = .ok (.if_icmp .ge 46, 3) := by decide +kernel
theorem dX1_takeAll_11 : decode cX1_takeAll 11 = .ok (.aload_n 0, 1) := by decide +kernel
theorem dX1_takeAll_12 : decode cX1_takeAll 12 = .ok (.invokevirtual 66, 3) := by decide +kernel
theorem dX1_takeAll_15 : decode cX1_takeAll 15 = .ok (.astore_n 2, 1) := by decide +kernel
theorem dX1_takeAll_16 : decode cX1_takeAll 16 = .ok (.aload_n 2, 1) := by decide +kernel
theorem dX1_takeAll_17 : decode cX1_takeAll 17 = .ok (.ifnull 11, 3) := by decide +kernel
theorem dX1_takeAll_20 : decode cX1_takeAll 20 = .ok (.aload_n 2, 1) := by decide +kernel
theorem dX1_takeAll_21 : decode cX1_takeAll 21 = .ok (.getfield 53, 3) := by decide +kernel
theorem dX1_takeAll_24 : decode cX1_takeAll 24 = .ok (.iconst (-1), 1) := by decide +kernel
theorem dX1_takeAll_25 : decode cX1_takeAll 25 = .ok (.if_icmp .ne 4, 3) := by decide +kernel
theorem dX1_takeAll_28 : decode cX1_takeAll 28 = .ok (.return_, 1) := by decide +kernel
theorem dX1_takeAll_29 : decode cX1_takeAll 29 = .ok (.aload_n 2, 1) := by decide +kernel
theorem dX1_takeAll_30 : decode cX1_takeAll 30 = .ok (.iconst 1, 1) := by decide +kernel
theorem dX1_takeAll_31 : decode cX1_takeAll 31 = .ok (.putfield 70, 3) := by decide +kernel
theorem dX1_takeAll_34 : decode cX1_takeAll 34 = .ok (.aload_n 0, 1) := by decide +kernel
theorem dX1_takeAll_35 : decode cX1_takeAll 35 = .ok (.getfield 21, 3) := by decide +kernel
theorem dX1_takeAll_38 : decode cX1_takeAll 38 = .ok (.iload_n 1, 1) := by decide +kernel
theorem dX1_takeAll_39 : decode cX1_takeAll 39 = .ok (.aload_n 2, 1) := by decide +kernel
theorem dX1_takeAll_40 : decode cX1_takeAll 40 = .ok (.aastore, 1) := by decide +kernel
theorem dX1_takeAll_41 : decode cX1_takeAll 41 = .ok (.aload_n 0, 1) := by decide +kernel
theorem dX1_takeAll_42 : decode cX1_takeAll 42 = .ok (.iload_n 1, 1) := by decide +kernel
theorem dX1_takeAll_43 : decode cX1_takeAll 43 = .ok (.iconst 1, 1) := by decide +kernel
theorem dX1_takeAll_44 : decode cX1_takeAll 44 = .ok (.iadd, 1) := by decide +kernel
theorem dX1_takeAll_45 : decode cX1_takeAll 45 = .ok (.putfield 63, 3) := by decide +kernel
theorem dX1_takeAll_48 : decode cX1_takeAll 48 = .ok (.iinc 1 1, 3) := by decide +kernel
theorem dX1_takeAll_51 : decode cX1_takeAll 51 = .ok (.goto (-46), 3) := by decide +kernel
theorem dX1_takeAll_54 : decode cX1_takeAll 54 = .ok (.return_, 1) := by decide +kernel
theorem dX1_earliestWaiting_0 : decode cX1_earliestWaiting 0 = .ok (.aconst_null, 1) := by decide +kernel
theorem dX1_earliestWaiting_1 : decode cX1_earliestWaiting 1 = .ok (.astore_n 1, 1) := by decide +kernel
theorem dX1_earliestWaiting_2 : decode cX1_earliestWaiting 2 = .ok (.iconst 0, 1) := by decide +kernel
theorem dX1_earliestWaiting_3 : decode cX1_earliestWaiting 3 = .ok (.istore_n 2, 1) := by decide +kernel
theorem dX1_earliestWaiting_4 : decode cX1_earliestWaiting 4 = .ok (.iload_n 2, 1) := by decide +kernel
theorem dX1_earliestWaiting_5 : decode cX1_earliestWaiting 5 = .ok (.bipush 40, 2) := by decide +kernel
theorem dX1_earliestWaiting_7 : decode cX1_earliestWaiting 7 = .ok (.if_icmp .ge 53, 3) := by decide +kernel
theorem dX1_earliestWaiting_10 : decode cX1_earliestWaiting 10 = .ok (.aload_n 0, 1) := by decide +kernel
theorem dX1_earliestWaiting_11 : decode cX1_earliestWaiting 11 = .ok (.getfield 17, 3) := by decide +kernel
theorem dX1_earliestWaiting_14 : decode cX1_earliestWaiting 14 = .ok (.iload_n 2, 1) := by decide +kernel
theorem dX1_earliestWaiting_15 : decode cX1_earliestWaiting 15 = .ok (.aaload, 1) := by decide +kernel
theorem dX1_earliestWaiting_16 : decode cX1_earliestWaiting 16 = .ok (.astore_n 3, 1) := by decide +kernel
theorem dX1_earliestWaiting_17 : decode cX1_earliestWaiting 17 = .ok (.aload_n 3, 1) := by decide +kernel
theorem dX1_earliestWaiting_18 : decode cX1_earliestWaiting 18 = .ok (.ifnull 14, 3) := by decide +kernel
theorem dX1_earliestWaiting_21 : decode cX1_earliestWaiting 21 = .ok (.aload_n 3, 1) := by decide +kernel
theorem dX1_earliestWaiting_22 : decode cX1_earliestWaiting 22 = .ok (.invokevirtual 73, 3) := by decide +kernel
theorem dX1_earliestWaiting_25 : decode cX1_earliestWaiting 25 = .ok (.ifCond .eq 7, 3) := by decide +kernel
theorem dX1_earliestWaiting_28 : decode cX1_earliestWaiting 28 = .ok (.iconst 1, 1) := by decide +kernel
theorem dX1_earliestWaiting_29 : decode cX1_earliestWaiting 29 = .ok (.goto 4, 3) := by decide +kernel
theorem dX1_earliestWaiting_32 : decode cX1_earliestWaiting 32 = .ok (.iconst 0, 1) := by decide +kernel
theorem dX1_earliestWaiting_33 : decode cX1_earliestWaiting 33 = .ok (.istore 4, 2) := by decide +kernel
theorem dX1_earliestWaiting_35 : decode cX1_earliestWaiting 35 = .ok (.iload 4, 2) := by decide +kernel
theorem dX1_earliestWaiting_37 : decode cX1_earliestWaiting 37 = .ok (.ifCond .eq 17, 3) := by decide +kernel
theorem dX1_earliestWaiting_40 : decode cX1_earliestWaiting 40 = .ok (.aload_n 1, 1) := by decide +kernel
theorem dX1_earliestWaiting_41 : decode cX1_earliestWaiting 41 = .ok (.ifnull 11, 3) := by decide +kernel
theorem dX1_earliestWaiting_44 : decode cX1_earliestWaiting 44 = .ok (.aload_n 3, 1) := by decide +kernel
theorem dX1_earliestWaiting_45 : decode cX1_earliestWaiting 45 = .ok (.aload_n 1, 1) := by decide +kernel
theorem dX1_earliestWaiting_46 : decode cX1_earliestWaiting 46 = .ok (.invokevirtual 76, 3) := by decide +kernel
theorem dX1_earliestWaiting_49 : decode cX1_earliestWaiting 49 = .ok (.ifCond .eq 5, 3) := by decide +kernel
theorem dX1_earliestWaiting_52 : decode cX1_earliestWaiting 52 = .ok (.aload_n 3, 1) := by decide +kernel
theorem dX1_earliestWaiting_53 : decode cX1_earliestWaiting 53 = .ok (.astore_n 1, 1) := by decide +kernel
theorem dX1_earliestWaiting_54 : decode cX1_earliestWaiting 54 = .ok (.iinc 2 1, 3) := by decide +kernel
theorem dX1_earliestWaiting_57 : decode cX1_earliestWaiting 57 = .ok (.goto (-53), 3) := by decide +kernel
theorem dX1_earliestWaiting_60 : decode cX1_earliestWaiting 60 = .ok (.aload_n 1, 1) := by decide +kernel
theorem dX1_earliestWaiting_61 : decode cX1_earliestWaiting 61 = .ok (.areturn, 1) := by decide +kernel
theorem dX2_init_0 : decode cX2_init 0 = .ok (.aload_n 0, 1) := by decide +kernel
theorem dX2_init_1 : decode cX2_init 1 = .ok (.invokespecial 1, 3) := by decide +kernel
theorem dX2_init_4 : decode cX2_init 4 = .ok (.aload_n 0, 1) := by decide +kernel
theorem dX2_init_5 : decode cX2_init 5 = .ok (.iload_n 1, 1) := by decide +kernel
theorem dX2_init_6 : decode cX2_init 6 = .ok (.putfield 7, 3) := by decide +kernel
theorem dX2_init_9 : decode cX2_init 9 = .ok (.aload_n 0, 1) := by decide +kernel
theorem dX2_init_10 : decode cX2_init 10 = .ok (.iload_n 2, 1) := by decide +kernel
theorem dX2_init_11 : decode cX2_init 11 = .ok (.putfield 13, 3) := by decide +kernel
theorem dX2_init_14 : decode cX2_init 14 = .ok (.aload_n 0, 1) := by decide +kernel
theorem dX2_init_15 : decode cX2_init 15 = .ok (.aload_n 3, 1) := by decide +kernel
theorem dX2_init_16 : decode cX2_init 16 = .ok (.putfield 16, 3) := by decide +kernel
theorem dX2_init_19 : decode cX2_init 19 = .ok (.aload_n 0, 1) := by decide +kernel
theorem dX2_init_20 : decode cX2_init 20 = .ok (.iload 4, 2) := by decide +kernel
theorem dX2_init_22 : decode cX2_init 22 = .ok (.putfield 20, 3) := by decide +kernel
theorem dX2_init_25 : decode cX2_init 25 = .ok (.return_, 1) := by decide +kernel
theorem dX3_init_0 : decode cX3_init 0 = .ok (.aload_n 0, 1) := by decide +kernel
theorem dX3_init_1 : decode cX3_init 1 = .ok (.invokespecial 3, 3) := by decide +kernel
theorem dX3_init_4 : decode cX3_init 4 = .ok (.aload_n 0, 1) := by decide +kernel
theorem dX3_init_5 : decode cX3_init 5 = .ok (.iload_n 1, 1) := by decide +kernel
theorem dX3_init_6 : decode cX3_init 6 = .ok (.putfield 9, 3) := by decide +kernel
theorem dX3_init_9 : decode cX3_init 9 = .ok (.aload_n 0, 1) := by decide +kernel
theorem dX3_init_10 : decode cX3_init 10 = .ok (.iload_n 2, 1) := by decide +kernel
theorem dX3_init_11 : decode cX3_init 11 = .ok (.putfield 15, 3) := by decide +kernel
theorem dX3_init_14 : decode cX3_init 14 = .ok (.aload_n 0, 1) := by decide +kernel
theorem dX3_init_15 : decode cX3_init 15 = .ok (.iload_n 3, 1) := by decide +kernel
theorem dX3_init_16 : decode cX3_init 16 = .ok (.putfield 18, 3) := by decide +kernel
theorem dX3_init_19 : decode cX3_init 19 = .ok (.aload_n 0, 1) := by decide +kernel
theorem dX3_init_20 : decode cX3_init 20 = .ok (.iload 4, 2) := by decide +kernel
theorem dX3_init_22 : decode cX3_init 22 = .ok (.putfield 21, 3) := by decide +kernel
theorem dX3_init_25 : decode cX3_init 25 = .ok (.aload_n 0, 1) := by decide +kernel
theorem dX3_init_26 : decode cX3_init 26 = .ok (.iload_n 3, 1) := by decide +kernel
theorem dX3_init_27 : decode cX3_init 27 = .ok (.ifCond .ne 8, 3) := by decide +kernel
theorem dX3_init_30 : decode cX3_init 30 = .ok (.iload 4, 2) := by decide +kernel
theorem dX3_init_32 : decode cX3_init 32 = .ok (.goto 5, 3) := by decide +kernel
theorem dX3_init_35 : decode cX3_init 35 = .ok (.iload 5, 2) := by decide +kernel
theorem dX3_init_37 : decode cX3_init 37 = .ok (.putfield 24, 3) := by decide +kernel
theorem dX3_init_40 : decode cX3_init 40 = .ok (.aload_n 0, 1) := by decide +kernel
theorem dX3_init_41 : decode cX3_init 41 = .ok (.iload 6, 2) := by decide +kernel
theorem dX3_init_43 : decode cX3_init 43 = .ok (.putfield 27, 3) := by decide +kernel
theorem dX3_init_46 : decode cX3_init 46 = .ok (.return_, 1) := by decide +kernel
theorem dX3_isMoved_0 : decode cX3_isMoved 0 = .ok (.aload_n 0, 1) := by decide +kernel
theorem dX3_isMoved_1 : decode cX3_isMoved 1 = .ok (.getfield 18, 3) := by decide +kernel
theorem dX3_isMoved_4 : decode cX3_isMoved 4 = .ok (.iconst 1, 1) := by decide +kernel
theorem dX3_isMoved_5 : decode cX3_isMoved 5 = .ok (.if_icmp .ne 26, 3) := by decide +kernel
theorem dX3_isMoved_8 : decode cX3_isMoved 8 = .ok (.aload_n 0, 1) := by decide +kernel
theorem dX3_isMoved_9 : decode cX3_isMoved 9 = .ok (.getfield 21, 3) := by decide +kernel
theorem dX3_isMoved_12 : decode cX3_isMoved 12 = .ok (.aload_n 0, 1) := by decide +kernel
theorem dX3_isMoved_13 : decode cX3_isMoved 13 = .ok (.getfield 24, 3) := by decide +kernel
theorem dX3_isMoved_16 : decode cX3_isMoved 16 = .ok (.if_icmp .eq 15, 3) := by decide +kernel
theorem dX3_isMoved_19 : decode cX3_isMoved 19 = .ok (.iload_n 1, 1) := by decide +kernel
theorem dX3_isMoved_20 : decode cX3_isMoved 20 = .ok (.aload_n 0, 1) := by decide +kernel
theorem dX3_isMoved_21 : decode cX3_isMoved 21 = .ok (.getfield 27, 3) := by decide +kernel
theorem dX3_isMoved_24 : decode cX3_isMoved 24 = .ok (.if_icmp .lt 7, 3) := by decide +kernel
theorem dX3_isMoved_27 : decode cX3_isMoved 27 = .ok (.iconst 1, 1) := by decide +kernel
theorem dX3_isMoved_28 : decode cX3_isMoved 28 = .ok (.goto 4, 3) := by decide +kernel
theorem dX3_isMoved_31 : decode cX3_isMoved 31 = .ok (.iconst 0, 1) := by decide +kernel
theorem dX3_isMoved_32 : decode cX3_isMoved 32 = .ok (.ireturn, 1) := by decide +kernel
theorem dX3_behindA_0 : decode cX3_behindA 0 = .ok (.aload_n 0, 1) := by decide +kernel
theorem dX3_behindA_1 : decode cX3_behindA 1 = .ok (.getfield 18, 3) := by decide +kernel
theorem dX3_behindA_4 : decode cX3_behindA 4 = .ok (.ifCond .ne 10, 3) := by decide +kernel
theorem dX3_behindA_7 : decode cX3_behindA 7 = .ok (.iload_n 1, 1) := by decide +kernel
theorem dX3_behindA_8 : decode cX3_behindA 8 = .ok (.aload_n 0, 1) := by decide +kernel
theorem dX3_behindA_9 : decode cX3_behindA 9 = .ok (.getfield 27, 3) := by decide +kernel
theorem dX3_behindA_12 : decode cX3_behindA 12 = .ok (.iadd, 1) := by decide +kernel
theorem dX3_behindA_13 : decode cX3_behindA 13 = .ok (.ireturn, 1) := by decide +kernel
theorem dX3_behindA_14 : decode cX3_behindA 14 = .ok (.aload_n 0, 1) := by decide +kernel
theorem dX3_behindA_15 : decode cX3_behindA 15 = .ok (.getfield 18, 3) := by decide +kernel
theorem dX3_behindA_18 : decode cX3_behindA 18 = .ok (.iconst 3, 1) := by decide +kernel
theorem dX3_behindA_19 : decode cX3_behindA 19 = .ok (.if_icmp .ne 5, 3) := by decide +kernel
theorem dX3_behindA_22 : decode cX3_behindA 22 = .ok (.iload_n 2, 1) := by decide +kernel
theorem dX3_behindA_23 : decode cX3_behindA 23 = .ok (.ireturn, 1) := by decide +kernel
theorem dX3_behindA_24 : decode cX3_behindA 24 = .ok (.aload_n 0, 1) := by decide +kernel
theorem dX3_behindA_25 : decode cX3_behindA 25 = .ok (.iload_n 1, 1) := by decide +kernel
theorem dX3_behindA_26 : decode cX3_behindA 26 = .ok (.invokevirtual 30, 3) := by decide +kernel
theorem dX3_behindA_29 : decode cX3_behindA 29 = .ok (.ifCond .eq 12, 3) := by decide +kernel
theorem dX3_behindA_32 : decode cX3_behindA 32 = .ok (.iload_n 1, 1) := by decide +kernel
theorem dX3_behindA_33 : decode cX3_behindA 33 = .ok (.aload_n 0, 1) := by decide +kernel
theorem dX3_behindA_34 : decode cX3_behindA 34 = .ok (.getfield 27, 3) := by decide +kernel
theorem dX3_behindA_37 : decode cX3_behindA 37 = .ok (.isub, 1) := by decide +kernel
theorem dX3_behindA_38 : decode cX3_behindA 38 = .ok (.goto 4, 3) := by decide +kernel
theorem dX3_behindA_41 : decode cX3_behindA 41 = .ok (.iload_n 1, 1) := by decide +kernel
theorem dX3_behindA_42 : decode cX3_behindA 42 = .ok (.ireturn, 1) := by decide +kernel
theorem dX3_behindB_0 : decode cX3_behindB 0 = .ok (.aload_n 0, 1) := by decide +kernel
theorem dX3_behindB_1 : decode cX3_behindB 1 = .ok (.getfield 18, 3) := by decide +kernel
theorem dX3_behindB_4 : decode cX3_behindB 4 = .ok (.iconst 3, 1) := by decide +kernel
theorem dX3_behindB_5 : decode cX3_behindB 5 = .ok (.if_icmp .ne 5, 3) := by decide +kernel
theorem dX3_behindB_8 : decode cX3_behindB 8 = .ok (.iload_n 1, 1) := by decide +kernel
theorem dX3_behindB_9 : decode cX3_behindB 9 = .ok (.ireturn, 1) := by decide +kernel
theorem dX3_behindB_10 : decode cX3_behindB 10 = .ok (.aload_n 0, 1) := by decide +kernel
theorem dX3_behindB_11 : decode cX3_behindB 11 = .ok (.iload_n 1, 1) := by decide +kernel
theorem dX3_behindB_12 : decode cX3_behindB 12 = .ok (.invokevirtual 30, 3) := by decide +kernel
theorem dX3_behindB_15 : decode cX3_behindB 15 = .ok (.ifCond .eq 12, 3) := by decide +kernel
theorem dX3_behindB_18 : decode cX3_behindB 18 = .ok (.iload_n 2, 1) := by decide +kernel
theorem dX3_behindB_19 : decode cX3_behindB 19 = .ok (.aload_n 0, 1) := by decide +kernel
theorem dX3_behindB_20 : decode cX3_behindB 20 = .ok (.getfield 27, 3) := by decide +kernel
theorem dX3_behindB_23 : decode cX3_behindB 23 = .ok (.iadd, 1) := by decide +kernel
theorem dX3_behindB_24 : decode cX3_behindB 24 = .ok (.goto 4, 3) := by decide +kernel
theorem dX3_behindB_27 : decode cX3_behindB 27 = .ok (.iload_n 2, 1) := by decide +kernel
theorem dX3_behindB_28 : decode cX3_behindB 28 = .ok (.ireturn, 1) := by decide +kernel
theorem dX3_reply_0 : decode cX3_reply 0 = .ok (.aload_n 0, 1) := by decide +kernel
theorem dX3_reply_1 : decode cX3_reply 1 = .ok (.getfield 18, 3) := by decide +kernel
theorem dX3_reply_4 : decode cX3_reply 4 = .ok (.iconst 1, 1) := by decide +kernel
theorem dX3_reply_5 : decode cX3_reply 5 = .ok (.if_icmp .ne 17, 3) := by decide +kernel
theorem dX3_reply_8 : decode cX3_reply 8 = .ok (.iload_n 1, 1) := by decide +kernel
theorem dX3_reply_9 : decode cX3_reply 9 = .ok (.aload_n 0, 1) := by decide +kernel
theorem dX3_reply_10 : decode cX3_reply 10 = .ok (.getfield 27, 3) := by decide +kernel
theorem dX3_reply_13 : decode cX3_reply 13 = .ok (.if_icmp .lt 7, 3) := by decide +kernel
theorem dX3_reply_16 : decode cX3_reply 16 = .ok (.iconst 1, 1) := by decide +kernel
theorem dX3_reply_17 : decode cX3_reply 17 = .ok (.goto 4, 3) := by decide +kernel
theorem dX3_reply_20 : decode cX3_reply 20 = .ok (.iconst 0, 1) := by decide +kernel
theorem dX3_reply_21 : decode cX3_reply 21 = .ok (.ireturn, 1) := by decide +kernel
theorem dX3_reply_22 : decode cX3_reply 22 = .ok (.aload_n 0, 1) := by decide +kernel
theorem dX3_reply_23 : decode cX3_reply 23 = .ok (.getfield 18, 3) := by decide +kernel
theorem dX3_reply_26 : decode cX3_reply 26 = .ok (.iconst 2, 1) := by decide +kernel
theorem dX3_reply_27 : decode cX3_reply 27 = .ok (.if_icmp .ne 9, 3) := by decide +kernel
theorem dX3_reply_30 : decode cX3_reply 30 = .ok (.iload_n 1, 1) := by decide +kernel
theorem dX3_reply_31 : decode cX3_reply 31 = .ok (.iload_n 2, 1) := by decide +kernel
theorem dX3_reply_32 : decode cX3_reply 32 = .ok (.iadd, 1) := by decide +kernel
theorem dX3_reply_33 : decode cX3_reply 33 = .ok (.goto 9, 3) := by decide +kernel
theorem dX3_reply_36 : decode cX3_reply 36 = .ok (.aload_n 0, 1) := by decide +kernel
theorem dX3_reply_37 : decode cX3_reply 37 = .ok (.iload_n 1, 1) := by decide +kernel
theorem dX3_reply_38 : decode cX3_reply 38 = .ok (.iload_n 2, 1) := by decide +kernel
theorem dX3_reply_39 : decode cX3_reply 39 = .ok (.invokevirtual 34, 3) := by decide +kernel
theorem dX3_reply_42 : decode cX3_reply 42 = .ok (.ireturn, 1) := by decide +kernel
theorem dX4_init_0 : decode cX4_init 0 = .ok (.aload_n 0, 1) := by decide +kernel
theorem dX4_init_1 : decode cX4_init 1 = .ok (.invokespecial 3, 3) := by decide +kernel
theorem dX4_init_4 : decode cX4_init 4 = .ok (.aload_n 0, 1) := by decide +kernel
theorem dX4_init_5 : decode cX4_init 5 = .ok (.iconst (-1), 1) := by decide +kernel
theorem dX4_init_6 : decode cX4_init 6 = .ok (.putfield 9, 3) := by decide +kernel
theorem dX4_init_9 : decode cX4_init 9 = .ok (.aload_n 0, 1) := by decide +kernel
theorem dX4_init_10 : decode cX4_init 10 = .ok (.iconst (-1), 1) := by decide +kernel
theorem dX4_init_11 : decode cX4_init 11 = .ok (.putfield 15, 3) := by decide +kernel
theorem dX4_init_14 : decode cX4_init 14 = .ok (.aload_n 0, 1) := by decide +kernel
theorem dX4_init_15 : decode cX4_init 15 = .ok (.iconst (-1), 1) := by decide +kernel
theorem dX4_init_16 : decode cX4_init 16 = .ok (.putfield 18, 3) := by decide +kernel
theorem dX4_init_19 : decode cX4_init 19 = .ok (.aload_n 0, 1) := by decide +kernel
theorem dX4_init_20 : decode cX4_init 20 = .ok (.aload_n 1, 1) := by decide +kernel
theorem dX4_init_21 : decode cX4_init 21 = .ok (.putfield 21, 3) := by decide +kernel
theorem dX4_init_24 : decode cX4_init 24 = .ok (.aload_n 0, 1) := by decide +kernel
theorem dX4_init_25 : decode cX4_init 25 = .ok (.iload_n 2, 1) := by decide +kernel
theorem dX4_init_26 : decode cX4_init 26 = .ok (.putfield 25, 3) := by decide +kernel
theorem dX4_init_29 : decode cX4_init 29 = .ok (.return_, 1) := by decide +kernel
theorem dX4_hasAllLocalTimes_0 : decode cX4_hasAllLocalTimes 0 = .ok (.aload_n 0, 1) := by decide +kernel
theorem dX4_hasAllLocalTimes_1 : decode cX4_hasAllLocalTimes 1 = .ok (.getfield 9, 3) := by decide +kernel
theorem dX4_hasAllLocalTimes_4 : decode cX4_hasAllLocalTimes 4 = .ok (.iconst (-1), 1) := by decide +kernel
theorem dX4_hasAllLocalTimes_5 : decode cX4_hasAllLocalTimes 5 = .ok (.if_icmp .eq 22, 3) := by decide +kernel
theorem dX4_hasAllLocalTimes_8 : decode cX4_hasAllLocalTimes 8 = .ok (.aload_n 0, 1) := by decide +kernel
theorem dX4_hasAllLocalTimes_9 : decode cX4_hasAllLocalTimes 9 = .ok (.getfield 28, 3) := by decide +kernel
theorem dX4_hasAllLocalTimes_12 : decode cX4_hasAllLocalTimes 12 = .ok (.ifnull 11, 3) := by decide +kernel
theorem dX4_hasAllLocalTimes_15 : decode cX4_hasAllLocalTimes 15 = .ok (.aload_n 0, 1) := by decide +kernel
theorem dX4_hasAllLocalTimes_16 : decode cX4_hasAllLocalTimes 16 = .ok (.getfield 15, 3) := by decide +kernel
theorem dX4_hasAllLocalTimes_19 : decode cX4_hasAllLocalTimes 19 = .ok (.iconst (-1), 1) := by decide +kernel
theorem dX4_hasAllLocalTimes_20 : decode cX4_hasAllLocalTimes 20 = .ok (.if_icmp .eq 7, 3) := by decide +kernel
theorem dX4_hasAllLocalTimes_23 : decode cX4_hasAllLocalTimes 23 = .ok (.iconst 1, 1) := by decide +kernel
theorem dX4_hasAllLocalTimes_24 : decode cX4_hasAllLocalTimes 24 = .ok (.goto 4, 3) := by decide +kernel
theorem dX4_hasAllLocalTimes_27 : decode cX4_hasAllLocalTimes 27 = .ok (.iconst 0, 1) := by decide +kernel
theorem dX4_hasAllLocalTimes_28 : decode cX4_hasAllLocalTimes 28 = .ok (.ireturn, 1) := by decide +kernel
theorem dX4_waits_0 : decode cX4_waits 0 = .ok (.aload_n 0, 1) := by decide +kernel
theorem dX4_waits_1 : decode cX4_waits 1 = .ok (.getfield 9, 3) := by decide +kernel
theorem dX4_waits_4 : decode cX4_waits 4 = .ok (.iconst (-1), 1) := by decide +kernel
theorem dX4_waits_5 : decode cX4_waits 5 = .ok (.if_icmp .eq 14, 3) := by decide +kernel
theorem dX4_waits_8 : decode cX4_waits 8 = .ok (.aload_n 0, 1) := by decide +kernel
theorem dX4_waits_9 : decode cX4_waits 9 = .ok (.getfield 32, 3) := by decide +kernel
theorem dX4_waits_12 : decode cX4_waits 12 = .ok (.ifCond .ne 7, 3) := by decide +kernel
theorem dX4_waits_15 : decode cX4_waits 15 = .ok (.iconst 1, 1) := by decide +kernel
theorem dX4_waits_16 : decode cX4_waits 16 = .ok (.goto 4, 3) := by decide +kernel
theorem dX4_waits_19 : decode cX4_waits 19 = .ok (.iconst 0, 1) := by decide +kernel
theorem dX4_waits_20 : decode cX4_waits 20 = .ok (.ireturn, 1) := by decide +kernel
theorem dX4_isEarlierThan_0 : decode cX4_isEarlierThan 0 = .ok (.aload_n 0, 1) := by decide +kernel
theorem dX4_isEarlierThan_1 : decode cX4_isEarlierThan 1 = .ok (.invokevirtual 36, 3) := by decide +kernel
theorem dX4_isEarlierThan_4 : decode cX4_isEarlierThan 4 = .ok (.aload_n 1, 1) := by decide +kernel
theorem dX4_isEarlierThan_5 : decode cX4_isEarlierThan 5 = .ok (.invokevirtual 36, 3) := by decide +kernel
theorem dX4_isEarlierThan_8 : decode cX4_isEarlierThan 8 = .ok (.invokestatic 40, 3) := by decide +kernel
theorem dX4_isEarlierThan_11 : decode cX4_isEarlierThan 11 = .ok (.istore_n 2, 1) := by decide +kernel
theorem dX4_isEarlierThan_12 : decode cX4_isEarlierThan 12 = .ok (.iload_n 2, 1) := by decide +kernel
theorem dX4_isEarlierThan_13 : decode cX4_isEarlierThan 13 = .ok (.ifCond .lt 24, 3) := by decide +kernel
theorem dX4_isEarlierThan_16 : decode cX4_isEarlierThan 16 = .ok (.iload_n 2, 1) := by decide +kernel
theorem dX4_isEarlierThan_17 : decode cX4_isEarlierThan 17 = .ok (.ifCond .ne 24, 3) := by decide +kernel
theorem dX4_isEarlierThan_20 : decode cX4_isEarlierThan 20 = .ok (.aload_n 0, 1) := by decide +kernel
theorem dX4_isEarlierThan_21 : decode cX4_isEarlierThan 21 = .ok (.getfield 21, 3) := by decide +kernel
theorem dX4_isEarlierThan_24 : decode cX4_isEarlierThan 24 = .ok (.getfield 46, 3) := by decide +kernel
theorem dX4_isEarlierThan_27 : decode cX4_isEarlierThan 27 = .ok (.aload_n 1, 1) := by decide +kernel
theorem dX4_isEarlierThan_28 : decode cX4_isEarlierThan 28 = .ok (.getfield 21, 3) := by decide +kernel
theorem dX4_isEarlierThan_31 : decode cX4_isEarlierThan 31 = .ok (.getfield 46, 3) := by decide +kernel
theorem dX4_isEarlierThan_34 : decode cX4_isEarlierThan 34 = .ok (.if_icmp .ge 7, 3) := by decide +kernel
theorem dX4_isEarlierThan_37 : decode cX4_isEarlierThan 37 = .ok (.iconst 1, 1) := by decide +kernel
theorem dX4_isEarlierThan_38 : decode cX4_isEarlierThan 38 = .ok (.goto 4, 3) := by decide +kernel
theorem dX4_isEarlierThan_41 : decode cX4_isEarlierThan 41 = .ok (.iconst 0, 1) := by decide +kernel
theorem dX4_isEarlierThan_42 : decode cX4_isEarlierThan 42 = .ok (.ireturn, 1) := by decide +kernel
theorem dX4_leastTime_0 : decode cX4_leastTime 0 = .ok (.aload_n 0, 1) := by decide +kernel
theorem dX4_leastTime_1 : decode cX4_leastTime 1 = .ok (.getfield 18, 3) := by decide +kernel
theorem dX4_leastTime_4 : decode cX4_leastTime 4 = .ok (.iconst (-1), 1) := by decide +kernel
theorem dX4_leastTime_5 : decode cX4_leastTime 5 = .ok (.if_icmp .eq 10, 3) := by decide +kernel
theorem dX4_leastTime_8 : decode cX4_leastTime 8 = .ok (.aload_n 0, 1) := by decide +kernel
theorem dX4_leastTime_9 : decode cX4_leastTime 9 = .ok (.getfield 18, 3) := by decide +kernel
theorem dX4_leastTime_12 : decode cX4_leastTime 12 = .ok (.goto 7, 3) := by decide +kernel
theorem dX4_leastTime_15 : decode cX4_leastTime 15 = .ok (.aload_n 0, 1) := by decide +kernel
theorem dX4_leastTime_16 : decode cX4_leastTime 16 = .ok (.getfield 9, 3) := by decide +kernel
theorem dX4_leastTime_19 : decode cX4_leastTime 19 = .ok (.ireturn, 1) := by decide +kernel
theorem dX5_init_0 : decode cX5_init 0 = .ok (.aload_n 0, 1) := by decide +kernel
theorem dX5_init_1 : decode cX5_init 1 = .ok (.invokespecial 3, 3) := by decide +kernel
theorem dX5_init_4 : decode cX5_init 4 = .ok (.aload_n 0, 1) := by decide +kernel
theorem dX5_init_5 : decode cX5_init 5 = .ok (.bipush 16, 2) := by decide +kernel
theorem dX5_init_7 : decode cX5_init 7 = .ok (.newarray .int, 2) := by decide +kernel
theorem dX5_init_9 : decode cX5_init 9 = .ok (.putfield 9, 3) := by decide +kernel
theorem dX5_init_12 : decode cX5_init 12 = .ok (.aload_n 0, 1) := by decide +kernel
theorem dX5_init_13 : decode cX5_init 13 = .ok (.iconst 4, 1) := by decide +kernel
theorem dX5_init_14 : decode cX5_init 14 = .ok (.newarray .int, 2) := by decide +kernel
theorem dX5_init_16 : decode cX5_init 16 = .ok (.putfield 13, 3) := by decide +kernel
theorem dX5_init_19 : decode cX5_init 19 = .ok (.aload_n 0, 1) := by decide +kernel
theorem dX5_init_20 : decode cX5_init 20 = .ok (.bipush 40, 2) := by decide +kernel
theorem dX5_init_22 : decode cX5_init 22 = .ok (.anewarray 16, 3) := by decide +kernel
theorem dX5_init_25 : decode cX5_init 25 = .ok (.putfield 18, 3) := by decide +kernel
theorem dX5_init_28 : decode cX5_init 28 = .ok (.aload_n 0, 1) := by decide +kernel
theorem dX5_init_29 : decode cX5_init 29 = .ok (.new 22, 3) := by decide +kernel
theorem dX5_init_32 : decode cX5_init 32 = .ok (.dup, 1) := by decide +kernel
theorem dX5_init_33 : decode cX5_init 33 = .ok (.invokespecial 24, 3) := by decide +kernel
theorem dX5_init_36 : decode cX5_init 36 = .ok (.putfield 25, 3) := by decide +kernel
theorem dX5_init_39 : decode cX5_init 39 = .ok (.aload_n 0, 1) := by decide +kernel
theorem dX5_init_40 : decode cX5_init 40 = .ok (.bipush 16, 2) := by decide +kernel
theorem dX5_init_42 : decode cX5_init 42 = .ok (.newarray .int, 2) := by decide +kernel
theorem dX5_init_44 : decode cX5_init 44 = .ok (.putfield 29, 3) := by decide +kernel
theorem dX5_init_47 : decode cX5_init 47 = .ok (.aload_n 0, 1) := by decide +kernel
theorem dX5_init_48 : decode cX5_init 48 = .ok (.bipush 16, 2) := by decide +kernel
theorem dX5_init_50 : decode cX5_init 50 = .ok (.newarray .int, 2) := by decide +kernel
theorem dX5_init_52 : decode cX5_init 52 = .ok (.putfield 32, 3) := by decide +kernel
theorem dX5_init_55 : decode cX5_init 55 = .ok (.iconst 2, 1) := by decide +kernel
theorem dX5_init_56 : decode cX5_init 56 = .ok (.iconst 4, 1) := by decide +kernel
theorem dX5_init_57 : decode cX5_init 57 = .ok (.iload_n 1, 1) := by decide +kernel
theorem dX5_init_58 : decode cX5_init 58 = .ok (.invokestatic 35, 3) := by decide +kernel
theorem dX5_init_61 : decode cX5_init 61 = .ok (.invokestatic 41, 3) := by decide +kernel
theorem dX5_init_64 : decode cX5_init 64 = .ok (.istore_n 2, 1) := by decide +kernel
theorem dX5_init_65 : decode cX5_init 65 = .ok (.aload_n 0, 1) := by decide +kernel
