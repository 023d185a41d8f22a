theorem dX0_init_0 : decode cX0_init 0 = .ok (.aload_n 0, 1) := by decide +kernel
theorem dX0_init_1 : decode cX0_init 1 = .ok (.invokespecial 3, 3) := by decide +kernel
theorem dX0_init_4 : decode cX0_init 4 = .ok (.aload_n 0, 1) := by decide +kernel
theorem dX0_init_5 : decode cX0_init 5 = .ok (.iconst 4, 1) := by decide +kernel
theorem dX0_init_6 : decode cX0_init 6 = .ok (.newarray .int, 2) := by decide +kernel
theorem dX0_init_8 : decode cX0_init 8 = .ok (.putfield 9, 3) := by decide +kernel
theorem dX0_init_11 : decode cX0_init 11 = .ok (.aload_n 0, 1) := by decide +kernel
theorem dX0_init_12 : decode cX0_init 12 = .ok (.iconst 4, 1) := by decide +kernel
theorem dX0_init_13 : decode cX0_init 13 = .ok (.newarray .int, 2) := by decide +kernel
theorem dX0_init_15 : decode cX0_init 15 = .ok (.putfield 15, 3) := by decide +kernel
theorem dX0_init_18 : decode cX0_init 18 = .ok (.aload_n 0, 1) := by decide +kernel
theorem dX0_init_19 : decode cX0_init 19 = .ok (.iconst 4, 1) := by decide +kernel
theorem dX0_init_20 : decode cX0_init 20 = .ok (.newarray .int, 2) := by decide +kernel
theorem dX0_init_22 : decode cX0_init 22 = .ok (.putfield 18, 3) := by decide +kernel
theorem dX0_init_25 : decode cX0_init 25 = .ok (.aload_n 0, 1) := by decide +kernel
theorem dX0_init_26 : decode cX0_init 26 = .ok (.iconst 4, 1) := by decide +kernel
theorem dX0_init_27 : decode cX0_init 27 = .ok (.newarray .int, 2) := by decide +kernel
theorem dX0_init_29 : decode cX0_init 29 = .ok (.putfield 21, 3) := by decide +kernel
theorem dX0_init_32 : decode cX0_init 32 = .ok (.aload_n 0, 1) := by decide +kernel
theorem dX0_init_33 : decode cX0_init 33 = .ok (.iconst 4, 1) := by decide +kernel
theorem dX0_init_34 : decode cX0_init 34 = .ok (.newarray .int, 2) := by decide +kernel
theorem dX0_init_36 : decode cX0_init 36 = .ok (.putfield 24, 3) := by decide +kernel
theorem dX0_init_39 : decode cX0_init 39 = .ok (.return_, 1) := by decide +kernel
theorem dX0_clear_0 : decode cX0_clear 0 = .ok (.iconst 0, 1) := by decide +kernel
theorem dX0_clear_1 : decode cX0_clear 1 = .ok (.istore_n 1, 1) := by decide +kernel
theorem dX0_clear_2 : decode cX0_clear 2 = .ok (.iload_n 1, 1) := by decide +kernel
theorem dX0_clear_3 : decode cX0_clear 3 = .ok (.iconst 4, 1) := by decide +kernel
theorem dX0_clear_4 : decode cX0_clear 4 = .ok (.if_icmp .ge 14, 3) := by decide +kernel
theorem dX0_clear_7 : decode cX0_clear 7 = .ok (.aload_n 0, 1) := by decide +kernel
theorem dX0_clear_8 : decode cX0_clear 8 = .ok (.iload_n 1, 1) := by decide +kernel
theorem dX0_clear_9 : decode cX0_clear 9 = .ok (.invokevirtual 27, 3) := by decide +kernel
theorem dX0_clear_12 : decode cX0_clear 12 = .ok (.iinc 1 1, 3) := by decide +kernel
theorem dX0_clear_15 : decode cX0_clear 15 = .ok (.goto (-13), 3) := by decide +kernel
theorem dX0_clear_18 : decode cX0_clear 18 = .ok (.return_, 1) := by decide +kernel
theorem dX0_copyFrom_0 : decode cX0_copyFrom 0 = .ok (.aload_n 1, 1) := by decide +kernel
theorem dX0_copyFrom_1 : decode cX0_copyFrom 1 = .ok (.getfield 9, 3) := by decide +kernel
theorem dX0_copyFrom_4 : decode cX0_copyFrom 4 = .ok (.iconst 0, 1) := by decide +kernel
theorem dX0_copyFrom_5 : decode cX0_copyFrom 5 = .ok (.aload_n 0, 1) := by decide +kernel
theorem dX0_copyFrom_6 : decode cX0_copyFrom 6 = .ok (.getfield 9, 3) := by decide +kernel
theorem dX0_copyFrom_9 : decode cX0_copyFrom 9 = .ok (.iconst 0, 1) := by decide +kernel
theorem dX0_copyFrom_10 : decode cX0_copyFrom 10 = .ok (.iconst 4, 1) := by decide +kernel
theorem dX0_copyFrom_11 : decode cX0_copyFrom 11 = .ok (.invokestatic 31, 3) := by decide +kernel
theorem dX0_copyFrom_14 : decode cX0_copyFrom 14 = .ok (.aload_n 1, 1) := by decide +kernel
theorem dX0_copyFrom_15 : decode cX0_copyFrom 15 = .ok (.getfield 15, 3) := by decide +kernel
theorem dX0_copyFrom_18 : decode cX0_copyFrom 18 = .ok (.iconst 0, 1) := by decide +kernel
theorem dX0_copyFrom_19 : decode cX0_copyFrom 19 = .ok (.aload_n 0, 1) := by decide +kernel
theorem dX0_copyFrom_20 : decode cX0_copyFrom 20 = .ok (.getfield 15, 3) := by decide +kernel
theorem dX0_copyFrom_23 : decode cX0_copyFrom 23 = .ok (.iconst 0, 1) := by decide +kernel
theorem dX0_copyFrom_24 : decode cX0_copyFrom 24 = .ok (.iconst 4, 1) := by decide +kernel
theorem dX0_copyFrom_25 : decode cX0_copyFrom 25 = .ok (.invokestatic 31, 3) := by decide +kernel
theorem dX0_copyFrom_28 : decode cX0_copyFrom 28 = .ok (.aload_n 1, 1) := by decide +kernel
theorem dX0_copyFrom_29 : decode cX0_copyFrom 29 = .ok (.getfield 18, 3) := by decide +kernel
theorem dX0_copyFrom_32 : decode cX0_copyFrom 32 = .ok (.iconst 0, 1) := by decide +kernel
theorem dX0_copyFrom_33 : decode cX0_copyFrom 33 = .ok (.aload_n 0, 1) := by decide +kernel
theorem dX0_copyFrom_34 : decode cX0_copyFrom 34 = .ok (.getfield 18, 3) := by decide +kernel
theorem dX0_copyFrom_37 : decode cX0_copyFrom 37 = .ok (.iconst 0, 1) := by decide +kernel
theorem dX0_copyFrom_38 : decode cX0_copyFrom 38 = .ok (.iconst 4, 1) := by decide +kernel
theorem dX0_copyFrom_39 : decode cX0_copyFrom 39 = .ok (.invokestatic 31, 3) := by decide +kernel
theorem dX0_copyFrom_42 : decode cX0_copyFrom 42 = .ok (.aload_n 1, 1) := by decide +kernel
theorem dX0_copyFrom_43 : decode cX0_copyFrom 43 = .ok (.getfield 21, 3) := by decide +kernel
theorem dX0_copyFrom_46 : decode cX0_copyFrom 46 = .ok (.iconst 0, 1) := by decide +kernel
theorem dX0_copyFrom_47 : decode cX0_copyFrom 47 = .ok (.aload_n 0, 1) := by decide +kernel
theorem dX0_copyFrom_48 : decode cX0_copyFrom 48 = .ok (.getfield 21, 3) := by decide +kernel
theorem dX0_copyFrom_51 : decode cX0_copyFrom 51 = .ok (.iconst 0, 1) := by decide +kernel
theorem dX0_copyFrom_52 : decode cX0_copyFrom 52 = .ok (.iconst 4, 1) := by decide +kernel
theorem dX0_copyFrom_53 : decode cX0_copyFrom 53 = .ok (.invokestatic 31, 3) := by decide +kernel
theorem dX0_copyFrom_56 : decode cX0_copyFrom 56 = .ok (.aload_n 1, 1) := by decide +kernel
theorem dX0_copyFrom_57 : decode cX0_copyFrom 57 = .ok (.getfield 24, 3) := by decide +kernel
theorem dX0_copyFrom_60 : decode cX0_copyFrom 60 = .ok (.iconst 0, 1) := by decide +kernel
theorem dX0_copyFrom_61 : decode cX0_copyFrom 61 = .ok (.aload_n 0, 1) := by decide +kernel
theorem dX0_copyFrom_62 : decode cX0_copyFrom 62 = .ok (.getfield 24, 3) := by decide +kernel
theorem dX0_copyFrom_65 : decode cX0_copyFrom 65 = .ok (.iconst 0, 1) := by decide +kernel
theorem dX0_copyFrom_66 : decode cX0_copyFrom 66 = .ok (.iconst 4, 1) := by decide +kernel
theorem dX0_copyFrom_67 : decode cX0_copyFrom 67 = .ok (.invokestatic 31, 3) := by decide +kernel
theorem dX0_copyFrom_70 : decode cX0_copyFrom 70 = .ok (.return_, 1) := by decide +kernel
theorem dX0_leave_0 : decode cX0_leave 0 = .ok (.aload_n 0, 1) := by decide +kernel
theorem dX0_leave_1 : decode cX0_leave 1 = .ok (.getfield 9, 3) := by decide +kernel
theorem dX0_leave_4 : decode cX0_leave 4 = .ok (.iload_n 1, 1) := by decide +kernel
theorem dX0_leave_5 : decode cX0_leave 5 = .ok (.iconst (-1), 1) := by decide +kernel
theorem dX0_leave_6 : decode cX0_leave 6 = .ok (.iastore, 1) := by decide +kernel
theorem dX0_leave_7 : decode cX0_leave 7 = .ok (.aload_n 0, 1) := by decide +kernel
theorem dX0_leave_8 : decode cX0_leave 8 = .ok (.getfield 21, 3) := by decide +kernel
theorem dX0_leave_11 : decode cX0_leave 11 = .ok (.iload_n 1, 1) := by decide +kernel
theorem dX0_leave_12 : decode cX0_leave 12 = .ok (.iconst 0, 1) := by decide +kernel
theorem dX0_leave_13 : decode cX0_leave 13 = .ok (.iastore, 1) := by decide +kernel
theorem dX0_leave_14 : decode cX0_leave 14 = .ok (.aload_n 0, 1) := by decide +kernel
theorem dX0_leave_15 : decode cX0_leave 15 = .ok (.getfield 24, 3) := by decide +kernel
theorem dX0_leave_18 : decode cX0_leave 18 = .ok (.iload_n 1, 1) := by decide +kernel
theorem dX0_leave_19 : decode cX0_leave 19 = .ok (.iconst 0, 1) := by decide +kernel
theorem dX0_leave_20 : decode cX0_leave 20 = .ok (.iastore, 1) := by decide +kernel
theorem dX0_leave_21 : decode cX0_leave 21 = .ok (.return_, 1) := by decide +kernel
theorem dX0_isFree_0 : decode cX0_isFree 0 = .ok (.aload_n 0, 1) := by decide +kernel
theorem dX0_isFree_1 : decode cX0_isFree 1 = .ok (.getfield 9, 3) := by decide +kernel
theorem dX0_isFree_4 : decode cX0_isFree 4 = .ok (.iload_n 1, 1) := by decide +kernel
theorem dX0_isFree_5 : decode cX0_isFree 5 = .ok (.iaload, 1) := by decide +kernel
theorem dX0_isFree_6 : decode cX0_isFree 6 = .ok (.iconst (-1), 1) := by decide +kernel
theorem dX0_isFree_7 : decode cX0_isFree 7 = .ok (.if_icmp .ne 7, 3) := by decide +kernel
theorem dX0_isFree_10 : decode cX0_isFree 10 = .ok (.iconst 1, 1) := by decide +kernel
theorem dX0_isFree_11 : decode cX0_isFree 11 = .ok (.goto 4, 3) := by decide +kernel
theorem dX0_isFree_14 : decode cX0_isFree 14 = .ok (.iconst 0, 1) := by decide +kernel
theorem dX0_isFree_15 : decode cX0_isFree 15 = .ok (.ireturn, 1) := by decide +kernel
theorem dX0_takenBy_0 : decode cX0_takenBy 0 = .ok (.iconst 0, 1) := by decide +kernel
theorem dX0_takenBy_1 : decode cX0_takenBy 1 = .ok (.istore_n 2, 1) := by decide +kernel
theorem dX0_takenBy_2 : decode cX0_takenBy 2 = .ok (.iload_n 2, 1) := by decide +kernel
theorem dX0_takenBy_3 : decode cX0_takenBy 3 = .ok (.iconst 4, 1) := by decide +kernel
theorem dX0_takenBy_4 : decode cX0_takenBy 4 = .ok (.if_icmp .ge 21, 3) := by decide +kernel
theorem dX0_takenBy_7 : decode cX0_takenBy 7 = .ok (.aload_n 0, 1) := by decide +kernel
theorem dX0_takenBy_8 : decode cX0_takenBy 8 = .ok (.getfield 9, 3) := by decide +kernel
theorem dX0_takenBy_11 : decode cX0_takenBy 11 = .ok (.iload_n 2, 1) := by decide +kernel
theorem dX0_takenBy_12 : decode cX0_takenBy 12 = .ok (.iaload, 1) := by decide +kernel
theorem dX0_takenBy_13 : decode cX0_takenBy 13 = .ok (.iload_n 1, 1) := by decide +kernel
theorem dX0_takenBy_14 : decode cX0_takenBy 14 = .ok (.if_icmp .ne 5, 3) := by decide +kernel
theorem dX0_takenBy_17 : decode cX0_takenBy 17 = .ok (.iload_n 2, 1) := by decide +kernel
theorem dX0_takenBy_18 : decode cX0_takenBy 18 = .ok (.ireturn, 1) := by decide +kernel
theorem dX0_takenBy_19 : decode cX0_takenBy 19 = .ok (.iinc 2 1, 3) := by decide +kernel
theorem dX0_takenBy_22 : decode cX0_takenBy 22 = .ok (.goto (-20), 3) := by decide +kernel
theorem dX0_takenBy_25 : decode cX0_takenBy 25 = .ok (.iconst (-1), 1) := by decide +kernel
theorem dX0_takenBy_26 : decode cX0_takenBy 26 = .ok (.ireturn, 1) := by decide +kernel
theorem dX0_isSpeechAbout_0 : decode cX0_isSpeechAbout 0 = .ok (.iconst 0, 1) := by decide +kernel
theorem dX0_isSpeechAbout_1 : decode cX0_isSpeechAbout 1 = .ok (.istore_n 2, 1) := by decide +kernel
theorem dX0_isSpeechAbout_2 : decode cX0_isSpeechAbout 2 = .ok (.iload_n 2, 1) := by decide +kernel
theorem dX0_isSpeechAbout_3 : decode cX0_isSpeechAbout 3 = .ok (.iconst 4, 1) := by decide +kernel
theorem dX0_isSpeechAbout_4 : decode cX0_isSpeechAbout 4 = .ok (.if_icmp .ge 29, 3) := by decide +kernel
theorem dX0_isSpeechAbout_7 : decode cX0_isSpeechAbout 7 = .ok (.aload_n 0, 1) := by decide +kernel
theorem dX0_isSpeechAbout_8 : decode cX0_isSpeechAbout 8 = .ok (.iload_n 2, 1) := by decide +kernel
theorem dX0_isSpeechAbout_9 : decode cX0_isSpeechAbout 9 = .ok (.invokevirtual 37, 3) := by decide +kernel
theorem dX0_isSpeechAbout_12 : decode cX0_isSpeechAbout 12 = .ok (.ifCond .ne 15, 3) := by decide +kernel
theorem dX0_isSpeechAbout_15 : decode cX0_isSpeechAbout 15 = .ok (.aload_n 0, 1) := by decide +kernel
theorem dX0_isSpeechAbout_16 : decode cX0_isSpeechAbout 16 = .ok (.getfield 15, 3) := by decide +kernel
theorem dX0_isSpeechAbout_19 : decode cX0_isSpeechAbout 19 = .ok (.iload_n 2, 1) := by decide +kernel
theorem dX0_isSpeechAbout_20 : decode cX0_isSpeechAbout 20 = .ok (.iaload, 1) := by decide +kernel
theorem dX0_isSpeechAbout_21 : decode cX0_isSpeechAbout 21 = .ok (.iload_n 1, 1) := by decide +kernel
theorem dX0_isSpeechAbout_22 : decode cX0_isSpeechAbout 22 = .ok (.if_icmp .ne 5, 3) := by decide +kernel
theorem dX0_isSpeechAbout_25 : decode cX0_isSpeechAbout 25 = .ok (.iconst 1, 1) := by decide +kernel
theorem dX0_isSpeechAbout_26 : decode cX0_isSpeechAbout 26 = .ok (.ireturn, 1) := by decide +kernel
theorem dX0_isSpeechAbout_27 : decode cX0_isSpeechAbout 27 = .ok (.iinc 2 1, 3) := by decide +kernel
theorem dX0_isSpeechAbout_30 : decode cX0_isSpeechAbout 30 = .ok (.goto (-28), 3) := by decide +kernel
theorem dX0_isSpeechAbout_33 : decode cX0_isSpeechAbout 33 = .ok (.iconst 0, 1) := by decide +kernel
theorem dX0_isSpeechAbout_34 : decode cX0_isSpeechAbout 34 = .ok (.ireturn, 1) := by decide +kernel
theorem dX0_isRebuttedAt_0 : decode cX0_isRebuttedAt 0 = .ok (.aload_n 0, 1) := by decide +kernel
theorem dX0_isRebuttedAt_1 : decode cX0_isRebuttedAt 1 = .ok (.getfield 24, 3) := by decide +kernel
theorem dX0_isRebuttedAt_4 : decode cX0_isRebuttedAt 4 = .ok (.iload_n 1, 1) := by decide +kernel
theorem dX0_isRebuttedAt_5 : decode cX0_isRebuttedAt 5 = .ok (.iaload, 1) := by decide +kernel
theorem dX0_isRebuttedAt_6 : decode cX0_isRebuttedAt 6 = .ok (.ifCond .le 7, 3) := by decide +kernel
theorem dX0_isRebuttedAt_9 : decode cX0_isRebuttedAt 9 = .ok (.iconst 1, 1) := by decide +kernel
theorem dX0_isRebuttedAt_10 : decode cX0_isRebuttedAt 10 = .ok (.goto 4, 3) := by decide +kernel
theorem dX0_isRebuttedAt_13 : decode cX0_isRebuttedAt 13 = .ok (.iconst 0, 1) := by decide +kernel
theorem dX0_isRebuttedAt_14 : decode cX0_isRebuttedAt 14 = .ok (.ireturn, 1) := by decide +kernel
theorem dX0_countMirrors_0 : decode cX0_countMirrors 0 = .ok (.iconst 0, 1) := by decide +kernel
theorem dX0_countMirrors_1 : decode cX0_countMirrors 1 = .ok (.istore_n 1, 1) := by decide +kernel
theorem dX0_countMirrors_2 : decode cX0_countMirrors 2 = .ok (.iconst 0, 1) := by decide +kernel
theorem dX0_countMirrors_3 : decode cX0_countMirrors 3 = .ok (.istore_n 2, 1) := by decide +kernel
theorem dX0_countMirrors_4 : decode cX0_countMirrors 4 = .ok (.iload_n 2, 1) := by decide +kernel
theorem dX0_countMirrors_5 : decode cX0_countMirrors 5 = .ok (.iconst 4, 1) := by decide +kernel
theorem dX0_countMirrors_6 : decode cX0_countMirrors 6 = .ok (.if_icmp .ge 18, 3) := by decide +kernel
theorem dX0_countMirrors_9 : decode cX0_countMirrors 9 = .ok (.iload_n 1, 1) := by decide +kernel
theorem dX0_countMirrors_10 : decode cX0_countMirrors 10 = .ok (.aload_n 0, 1) := by decide +kernel
theorem dX0_countMirrors_11 : decode cX0_countMirrors 11 = .ok (.getfield 24, 3) := by decide +kernel
theorem dX0_countMirrors_14 : decode cX0_countMirrors 14 = .ok (.iload_n 2, 1) := by decide +kernel
theorem dX0_countMirrors_15 : decode cX0_countMirrors 15 = .ok (.iaload, 1) := by decide +kernel
theorem dX0_countMirrors_16 : decode cX0_countMirrors 16 = .ok (.iadd, 1) := by decide +kernel
theorem dX0_countMirrors_17 : decode cX0_countMirrors 17 = .ok (.istore_n 1, 1) := by decide +kernel
theorem dX0_countMirrors_18 : decode cX0_countMirrors 18 = .ok (.iinc 2 1, 3) := by decide +kernel
theorem dX0_countMirrors_21 : decode cX0_countMirrors 21 = .ok (.goto (-17), 3) := by decide +kernel
theorem dX0_countMirrors_24 : decode cX0_countMirrors 24 = .ok (.iload_n 1, 1) := by decide +kernel
theorem dX0_countMirrors_25 : decode cX0_countMirrors 25 = .ok (.ireturn, 1) := by decide +kernel
theorem dX1_init_0 : decode cX1_init 0 = .ok (.aload_n 0, 1) := by decide +kernel
theorem dX1_init_1 : decode cX1_init 1 = .ok (.invokespecial 3, 3) := by decide +kernel
theorem dX1_init_4 : decode cX1_init 4 = .ok (.aload_n 0, 1) := by decide +kernel
theorem dX1_init_5 : decode cX1_init 5 = .ok (.new 9, 3) := by decide +kernel
theorem dX1_init_8 : decode cX1_init 8 = .ok (.dup, 1) := by decide +kernel
theorem dX1_init_9 : decode cX1_init 9 = .ok (.invokespecial 11, 3) := by decide +kernel
theorem dX1_init_12 : decode cX1_init 12 = .ok (.putfield 12, 3) := by decide +kernel
theorem dX1_init_15 : decode cX1_init 15 = .ok (.aload_n 0, 1) := by decide +kernel
theorem dX1_init_16 : decode cX1_init 16 = .ok (.new 18, 3) := by decide +kernel
theorem dX1_init_19 : decode cX1_init 19 = .ok (.dup, 1) := by decide +kernel
theorem dX1_init_20 : decode cX1_init 20 = .ok (.invokespecial 20, 3) := by decide +kernel
theorem dX1_init_23 : decode cX1_init 23 = .ok (.putfield 21, 3) := by decide +kernel
theorem dX1_init_26 : decode cX1_init 26 = .ok (.aload_n 0, 1) := by decide +kernel
theorem dX1_init_27 : decode cX1_init 27 = .ok (.new 25, 3) := by decide +kernel
theorem dX1_init_30 : decode cX1_init 30 = .ok (.dup, 1) := by decide +kernel
theorem dX1_init_31 : decode cX1_init 31 = .ok (.invokespecial 27, 3) := by decide +kernel
theorem dX1_init_34 : decode cX1_init 34 = .ok (.putfield 28, 3) := by decide +kernel
theorem dX1_init_37 : decode cX1_init 37 = .ok (.aload_n 0, 1) := by decide +kernel
theorem dX1_init_38 : decode cX1_init 38 = .ok (.new 32, 3) := by decide +kernel
theorem dX1_init_41 : decode cX1_init 41 = .ok (.dup, 1) := by decide +kernel
theorem dX1_init_42 : decode cX1_init 42 = .ok (.invokespecial 34, 3) := by decide +kernel
theorem dX1_init_45 : decode cX1_init 45 = .ok (.putfield 35, 3) := by decide +kernel
theorem dX1_init_48 : decode cX1_init 48 = .ok (.aload_n 0, 1) := by decide +kernel
theorem dX1_init_49 : decode cX1_init 49 = .ok (.aload_n 1, 1) := by decide +kernel
theorem dX1_init_50 : decode cX1_init 50 = .ok (.putfield 39, 3) := by decide +kernel
theorem dX1_init_53 : decode cX1_init 53 = .ok (.return_, 1) := by decide +kernel
theorem dX1_clear_0 : decode cX1_clear 0 = .ok (.aload_n 0, 1) := by decide +kernel
theorem dX1_clear_1 : decode cX1_clear 1 = .ok (.getfield 12, 3) := by decide +kernel
theorem dX1_clear_4 : decode cX1_clear 4 = .ok (.aload_n 0, 1) := by decide +kernel
theorem dX1_clear_5 : decode cX1_clear 5 = .ok (.getfield 39, 3) := by decide +kernel
theorem dX1_clear_8 : decode cX1_clear 8 = .ok (.invokevirtual 43, 3) := by decide +kernel
theorem dX1_clear_11 : decode cX1_clear 11 = .ok (.aload_n 0, 1) := by decide +kernel
theorem dX1_clear_12 : decode cX1_clear 12 = .ok (.getfield 21, 3) := by decide +kernel
theorem dX1_clear_15 : decode cX1_clear 15 = .ok (.iconst 0, 1) := by decide +kernel
theorem dX1_clear_16 : decode cX1_clear 16 = .ok (.putfield 47, 3) := by decide +kernel
theorem dX1_clear_19 : decode cX1_clear 19 = .ok (.aload_n 0, 1) := by decide +kernel
theorem dX1_clear_20 : decode cX1_clear 20 = .ok (.getfield 28, 3) := by decide +kernel
theorem dX1_clear_23 : decode cX1_clear 23 = .ok (.iconst 0, 1) := by decide +kernel
theorem dX1_clear_24 : decode cX1_clear 24 = .ok (.putfield 51, 3) := by decide +kernel
theorem dX1_clear_27 : decode cX1_clear 27 = .ok (.aload_n 0, 1) := by decide +kernel
theorem dX1_clear_28 : decode cX1_clear 28 = .ok (.getfield 35, 3) := by decide +kernel
theorem dX1_clear_31 : decode cX1_clear 31 = .ok (.invokevirtual 52, 3) := by decide +kernel
theorem dX1_clear_34 : decode cX1_clear 34 = .ok (.aload_n 0, 1) := by decide +kernel
theorem dX1_clear_35 : decode cX1_clear 35 = .ok (.iconst 0, 1) := by decide +kernel
theorem dX1_clear_36 : decode cX1_clear 36 = .ok (.putfield 54, 3) := by decide +kernel
theorem dX1_clear_39 : decode cX1_clear 39 = .ok (.aload_n 0, 1) := by decide +kernel
theorem dX1_clear_40 : decode cX1_clear 40 = .ok (.iconst 0, 1) := by decide +kernel
theorem dX1_clear_41 : decode cX1_clear 41 = .ok (.putfield 57, 3) := by decide +kernel
theorem dX1_clear_44 : decode cX1_clear 44 = .ok (.aload_n 0, 1) := by decide +kernel
theorem dX1_clear_45 : decode cX1_clear 45 = .ok (.iconst 0, 1) := by decide +kernel
theorem dX1_clear_46 : decode cX1_clear 46 = .ok (.putfield 60, 3) := by decide +kernel
theorem dX1_clear_49 : decode cX1_clear 49 = .ok (.aload_n 0, 1) := by decide +kernel
theorem dX1_clear_50 : decode cX1_clear 50 = .ok (.iconst 0, 1) := by decide +kernel
theorem dX1_clear_51 : decode cX1_clear 51 = .ok (.putfield 63, 3) := by decide +kernel
theorem dX1_clear_54 : decode cX1_clear 54 = .ok (.aload_n 0, 1) := by decide +kernel
theorem dX1_clear_55 : decode cX1_clear 55 = .ok (.iconst 0, 1) := by decide +kernel
theorem dX1_clear_56 : decode cX1_clear 56 = .ok (.putfield 66, 3) := by decide +kernel
theorem dX1_clear_59 : decode cX1_clear 59 = .ok (.aload_n 0, 1) := by decide +kernel
theorem dX1_clear_60 : decode cX1_clear 60 = .ok (.iconst 0, 1) := by decide +kernel
theorem dX1_clear_61 : decode cX1_clear 61 = .ok (.putfield 69, 3) := by decide +kernel
theorem dX1_clear_64 : decode cX1_clear 64 = .ok (.return_, 1) := by decide +kernel
theorem dX1_copyFrom_0 : decode cX1_copyFrom 0 = .ok (.aload_n 0, 1) := by decide +kernel
theorem dX1_copyFrom_1 : decode cX1_copyFrom 1 = .ok (.getfield 12, 3) := by decide +kernel
theorem dX1_copyFrom_4 : decode cX1_copyFrom 4 = .ok (.aload_n 1, 1) := by decide +kernel
theorem dX1_copyFrom_5 : decode cX1_copyFrom 5 = .ok (.getfield 12, 3) := by decide +kernel
theorem dX1_copyFrom_8 : decode cX1_copyFrom 8 = .ok (.invokevirtual 72, 3) := by decide +kernel
theorem dX1_copyFrom_11 : decode cX1_copyFrom 11 = .ok (.aload_n 0, 1) := by decide +kernel
theorem dX1_copyFrom_12 : decode cX1_copyFrom 12 = .ok (.getfield 21, 3) := by decide +kernel
theorem dX1_copyFrom_15 : decode cX1_copyFrom 15 = .ok (.aload_n 1, 1) := by decide +kernel
theorem dX1_copyFrom_16 : decode cX1_copyFrom 16 = .ok (.getfield 21, 3) := by decide +kernel
theorem dX1_copyFrom_19 : decode cX1_copyFrom 19 = .ok (.invokevirtual 76, 3) := by decide +kernel
theorem dX1_copyFrom_22 : decode cX1_copyFrom 22 = .ok (.aload_n 0, 1) := by decide +kernel
theorem dX1_copyFrom_23 : decode cX1_copyFrom 23 = .ok (.getfield 28, 3) := by decide +kernel
theorem dX1_copyFrom_26 : decode cX1_copyFrom 26 = .ok (.aload_n 1, 1) := by decide +kernel
theorem dX1_copyFrom_27 : decode cX1_copyFrom 27 = .ok (.getfield 28, 3) := by decide +kernel
theorem dX1_copyFrom_30 : decode cX1_copyFrom 30 = .ok (.invokevirtual 79, 3) := by decide +kernel
theorem dX1_copyFrom_33 : decode cX1_copyFrom 33 = .ok (.aload_n 0, 1) := by decide +kernel
theorem dX1_copyFrom_34 : decode cX1_copyFrom 34 = .ok (.getfield 35, 3) := by decide +kernel
theorem dX1_copyFrom_37 : decode cX1_copyFrom 37 = .ok (.aload_n 1, 1) := by decide +kernel
theorem dX1_copyFrom_38 : decode cX1_copyFrom 38 = .ok (.getfield 35, 3) := by decide +kernel
theorem dX1_copyFrom_41 : decode cX1_copyFrom 41 = .ok (.invokevirtual 82, 3) := by decide +kernel
theorem dX1_copyFrom_44 : decode cX1_copyFrom 44 = .ok (.aload_n 0, 1) := by decide +kernel
theorem dX1_copyFrom_45 : decode cX1_copyFrom 45 = .ok (.aload_n 1, 1) := by decide +kernel
theorem dX1_copyFrom_46 : decode cX1_copyFrom 46 = .ok (.getfield 54, 3) := by decide +kernel
theorem dX1_copyFrom_49 : decode cX1_copyFrom 49 = .ok (.putfield 54, 3) := by decide +kernel
theorem dX1_copyFrom_52 : decode cX1_copyFrom 52 = .ok (.aload_n 0, 1) := by decide +kernel
theorem dX1_copyFrom_53 : decode cX1_copyFrom 53 = .ok (.aload_n 1, 1) := by decide +kernel
theorem dX1_copyFrom_54 : decode cX1_copyFrom 54 = .ok (.getfield 57, 3) := by decide +kernel
theorem dX1_copyFrom_57 : decode cX1_copyFrom 57 = .ok (.putfield 57, 3) := by decide +kernel
theorem dX1_copyFrom_60 : decode cX1_copyFrom 60 = .ok (.aload_n 0, 1) := by decide +kernel
theorem dX1_copyFrom_61 : decode cX1_copyFrom 61 = .ok (.aload_n 1, 1) := by decide +kernel
theorem dX1_copyFrom_62 : decode cX1_copyFrom 62 = .ok (.getfield 60, 3) := by decide +kernel
theorem dX1_copyFrom_65 : decode cX1_copyFrom 65 = .ok (.putfield 60, 3) := by decide +kernel
theorem dX1_copyFrom_68 : decode cX1_copyFrom 68 = .ok (.aload_n 0, 1) := by decide +kernel
theorem dX1_copyFrom_69 : decode cX1_copyFrom 69 = .ok (.aload_n 1, 1) := by decide +kernel
theorem dX1_copyFrom_70 : decode cX1_copyFrom 70 = .ok (.getfield 63, 3) := by decide +kernel
theorem dX1_copyFrom_73 : decode cX1_copyFrom 73 = .ok (.putfield 63, 3) := by decide +kernel
theorem dX1_copyFrom_76 : decode cX1_copyFrom 76 = .ok (.aload_n 0, 1) := by decide +kernel
theorem dX1_copyFrom_77 : decode cX1_copyFrom 77 = .ok (.aload_n 1, 1) := by decide +kernel
theorem dX1_copyFrom_78 : decode cX1_copyFrom 78 = .ok (.getfield 66, 3) := by decide +kernel
theorem dX1_copyFrom_81 : decode cX1_copyFrom 81 = .ok (.putfield 66, 3) := by decide +kernel
theorem dX1_copyFrom_84 : decode cX1_copyFrom 84 = .ok (.aload_n 0, 1) := by decide +kernel
theorem dX1_copyFrom_85 : decode cX1_copyFrom 85 = .ok (.aload_n 1, 1) := by decide +kernel
theorem dX1_copyFrom_86 : decode cX1_copyFrom 86 = .ok (.getfield 69, 3) := by decide +kernel
theorem dX1_copyFrom_89 : decode cX1_copyFrom 89 = .ok (.putfield 69, 3) := by decide +kernel
theorem dX1_copyFrom_92 : decode cX1_copyFrom 92 = .ok (.return_, 1) := by decide +kernel
theorem dX1_refusalOfMotion_0 : decode cX1_refusalOfMotion 0 = .ok (.aload_n 0, 1) := by decide +kernel
theorem dX1_refusalOfMotion_1 : decode cX1_refusalOfMotion 1 = .ok (.getfield 39, 3) := by decide +kernel
theorem dX1_refusalOfMotion_4 : decode cX1_refusalOfMotion 4 = .ok (.iload_n 1, 1) := by decide +kernel
theorem dX1_refusalOfMotion_5 : decode cX1_refusalOfMotion 5 = .ok (.invokevirtual 85, 3) := by decide +kernel
theorem dX1_refusalOfMotion_8 : decode cX1_refusalOfMotion 8 = .ok (.ifCond .ne 5, 3) := by decide +kernel
theorem dX1_refusalOfMotion_11 : decode cX1_refusalOfMotion 11 = .ok (.iconst 1, 1) := by decide +kernel
theorem dX1_refusalOfMotion_12 : decode cX1_refusalOfMotion 12 = .ok (.ireturn, 1) := by decide +kernel
theorem dX1_refusalOfMotion_13 : decode cX1_refusalOfMotion 13 = .ok (.iload_n 2, 1) := by decide +kernel
theorem dX1_refusalOfMotion_14 : decode cX1_refusalOfMotion 14 = .ok (.ifCond .lt 9, 3) := by decide +kernel
theorem dX1_refusalOfMotion_17 : decode cX1_refusalOfMotion 17 = .ok (.iload_n 2, 1) := by decide +kernel
theorem dX1_refusalOfMotion_18 : decode cX1_refusalOfMotion 18 = .ok (.bipush 20, 2) := by decide +kernel
theorem dX1_refusalOfMotion_20 : decode cX1_refusalOfMotion 20 = .ok (.if_icmp .le 5, 3) := by decide +kernel
theorem dX1_refusalOfMotion_23 : decode cX1_refusalOfMotion 23 = .ok (.iconst 2, 1) := by decide +kernel
theorem dX1_refusalOfMotion_24 : decode cX1_refusalOfMotion 24 = .ok (.ireturn, 1) := by decide +kernel
theorem dX1_refusalOfMotion_25 : decode cX1_refusalOfMotion 25 = .ok (.aload_n 0, 1) := by decide +kernel
theorem dX1_refusalOfMotion_26 : decode cX1_refusalOfMotion 26 = .ok (.getfield 21, 3) := by decide +kernel
theorem dX1_refusalOfMotion_29 : decode cX1_refusalOfMotion 29 = .ok (.getfield 47, 3) := by decide +kernel
theorem dX1_refusalOfMotion_32 : decode cX1_refusalOfMotion 32 = .ok (.bipush 16, 2) := by decide +kernel
theorem dX1_refusalOfMotion_34 : decode cX1_refusalOfMotion 34 = .ok (.if_icmp .lt 7, 3) := by decide +kernel
theorem dX1_refusalOfMotion_37 : decode cX1_refusalOfMotion 37 = .ok (.iconst 3, 1) := by decide +kernel
theorem dX1_refusalOfMotion_38 : decode cX1_refusalOfMotion 38 = .ok (.goto 4, 3) := by decide +kernel
theorem dX1_refusalOfMotion_41 : decode cX1_refusalOfMotion 41 = .ok (.iconst 0, 1) := by decide +kernel
theorem dX1_refusalOfMotion_42 : decode cX1_refusalOfMotion 42 = .ok (.ireturn, 1) := by decide +kernel
theorem dX1_addMotion_0 : decode cX1_addMotion 0 = .ok (.aload_n 0, 1) := by decide +kernel
theorem dX1_addMotion_1 : decode cX1_addMotion 1 = .ok (.getfield 21, 3) := by decide +kernel
theorem dX1_addMotion_4 : decode cX1_addMotion 4 = .ok (.getfield 47, 3) := by decide +kernel
theorem dX1_addMotion_7 : decode cX1_addMotion 7 = .ok (.istore_n 3, 1) := by decide +kernel
theorem dX1_addMotion_8 : decode cX1_addMotion 8 = .ok (.aload_n 0, 1) := by decide +kernel
theorem dX1_addMotion_9 : decode cX1_addMotion 9 = .ok (.getfield 21, 3) := by decide +kernel
theorem dX1_addMotion_12 : decode cX1_addMotion 12 = .ok (.getfield 91, 3) := by decide +kernel
theorem dX1_addMotion_15 : decode cX1_addMotion 15 = .ok (.iload_n 3, 1) := by decide +kernel
theorem dX1_addMotion_16 : decode cX1_addMotion 16 = .ok (.iload_n 1, 1) := by decide +kernel
theorem dX1_addMotion_17 : decode cX1_addMotion 17 = .ok (.iastore, 1) := by decide +kernel
theorem dX1_addMotion_18 : decode cX1_addMotion 18 = .ok (.aload_n 0, 1) := by decide +kernel
theorem dX1_addMotion_19 : decode cX1_addMotion 19 = .ok (.getfield 21, 3) := by decide +kernel
theorem dX1_addMotion_22 : decode cX1_addMotion 22 = .ok (.getfield 95, 3) := by decide +kernel
theorem dX1_addMotion_25 : decode cX1_addMotion 25 = .ok (.iload_n 3, 1) := by decide +kernel
theorem dX1_addMotion_26 : decode cX1_addMotion 26 = .ok (.iconst 0, 1) := by decide +kernel
theorem dX1_addMotion_27 : decode cX1_addMotion 27 = .ok (.iastore, 1) := by decide +kernel
theorem dX1_addMotion_28 : decode cX1_addMotion 28 = .ok (.aload_n 0, 1) := by decide +kernel
theorem dX1_addMotion_29 : decode cX1_addMotion 29 = .ok (.getfield 21, 3) := by decide +kernel
theorem dX1_addMotion_32 : decode cX1_addMotion 32 = .ok (.getfield 98, 3) := by decide +kernel
theorem dX1_addMotion_35 : decode cX1_addMotion 35 = .ok (.iload_n 3, 1) := by decide +kernel
theorem dX1_addMotion_36 : decode cX1_addMotion 36 = .ok (.iconst 0, 1) := by decide +kernel
theorem dX1_addMotion_37 : decode cX1_addMotion 37 = .ok (.iastore, 1) := by decide +kernel
theorem dX1_addMotion_38 : decode cX1_addMotion 38 = .ok (.aload_n 0, 1) := by decide +kernel
theorem dX1_addMotion_39 : decode cX1_addMotion 39 = .ok (.getfield 21, 3) := by decide +kernel
theorem dX1_addMotion_42 : decode cX1_addMotion 42 = .ok (.getfield 101, 3) := by decide +kernel
theorem dX1_addMotion_45 : decode cX1_addMotion 45 = .ok (.iload_n 3, 1) := by decide +kernel
theorem dX1_addMotion_46 : decode cX1_addMotion 46 = .ok (.iconst 0, 1) := by decide +kernel
theorem dX1_addMotion_47 : decode cX1_addMotion 47 = .ok (.iastore, 1) := by decide +kernel
theorem dX1_addMotion_48 : decode cX1_addMotion 48 = .ok (.iconst 0, 1) := by decide +kernel
theorem dX1_addMotion_49 : decode cX1_addMotion 49 = .ok (.istore 4, 2) := by decide +kernel
theorem dX1_addMotion_51 : decode cX1_addMotion 51 = .ok (.iload 4, 2) := by decide +kernel
theorem dX1_addMotion_53 : decode cX1_addMotion 53 = .ok (.aload_n 0, 1) := by decide +kernel
theorem dX1_addMotion_54 : decode cX1_addMotion 54 = .ok (.getfield 39, 3) := by decide +kernel
theorem dX1_addMotion_57 : decode cX1_addMotion 57 = .ok (.getfield 104, 3) := by decide +kernel
theorem dX1_addMotion_60 : decode cX1_addMotion 60 = .ok (.if_icmp .ge 36, 3) := by decide +kernel
theorem dX1_addMotion_63 : decode cX1_addMotion 63 = .ok (.aload_n 0, 1) := by decide +kernel
theorem dX1_addMotion_64 : decode cX1_addMotion 64 = .ok (.getfield 21, 3) := by decide +kernel
theorem dX1_addMotion_67 : decode cX1_addMotion 67 = .ok (.iload 4, 2) := by decide +kernel
theorem dX1_addMotion_69 : decode cX1_addMotion 69 = .ok (.iload_n 3, 1) := by decide +kernel
theorem dX1_addMotion_70 : decode cX1_addMotion 70 = .ok (.iconst 5, 1) := by decide +kernel
theorem dX1_addMotion_71 : decode cX1_addMotion 71 = .ok (.aload_n 0, 1) := by decide +kernel
theorem dX1_addMotion_72 : decode cX1_addMotion 72 = .ok (.getfield 39, 3) := by decide +kernel
theorem dX1_addMotion_75 : decode cX1_addMotion 75 = .ok (.getfield 107, 3) := by decide +kernel
theorem dX1_addMotion_78 : decode cX1_addMotion 78 = .ok (.iload 4, 2) := by decide +kernel
theorem dX1_addMotion_80 : decode cX1_addMotion 80 = .ok (.iaload, 1) := by decide +kernel
theorem dX1_addMotion_81 : decode cX1_addMotion 81 = .ok (.iload_n 2, 1) := by decide +kernel
theorem dX1_addMotion_82 : decode cX1_addMotion 82 = .ok (.isub, 1) := by decide +kernel
theorem dX1_addMotion_83 : decode cX1_addMotion 83 = .ok (.invokestatic 110, 3) := by decide +kernel
theorem dX1_addMotion_86 : decode cX1_addMotion 86 = .ok (.isub, 1) := by decide +kernel
theorem dX1_addMotion_87 : decode cX1_addMotion 87 = .ok (.invokevirtual 116, 3) := by decide +kernel
theorem dX1_addMotion_90 : decode cX1_addMotion 90 = .ok (.iinc 4 1, 3) := by decide +kernel
theorem dX1_addMotion_93 : decode cX1_addMotion 93 = .ok (.goto (-42), 3) := by decide +kernel
theorem dX1_addMotion_96 : decode cX1_addMotion 96 = .ok (.aload_n 0, 1) := by decide +kernel
theorem dX1_addMotion_97 : decode cX1_addMotion 97 = .ok (.getfield 21, 3) := by decide +kernel
theorem dX1_addMotion_100 : decode cX1_addMotion 100 = .ok (.dup, 1) := by decide +kernel
theorem dX1_addMotion_101 : decode cX1_addMotion 101 = .ok (.getfield 47, 3) := by decide +kernel
theorem dX1_addMotion_104 : decode cX1_addMotion 104 = .ok (.iconst 1, 1) := by decide +kernel
theorem dX1_addMotion_105 : decode cX1_addMotion 105 = .ok (.iadd, 1) := by decide +kernel
theorem dX1_addMotion_106 : decode cX1_addMotion 106 = .ok (.putfield 47, 3) := by decide +kernel
theorem dX1_addMotion_109 : decode cX1_addMotion 109 = .ok (.iload_n 3, 1) := by decide +kernel
theorem dX1_addMotion_110 : decode cX1_addMotion 110 = .ok (.ireturn, 1) := by decide +kernel
theorem dX1_refusalOfWithdrawal_0 : decode cX1_refusalOfWithdrawal 0 = .ok (.aload_n 0, 1) := by decide +kernel
theorem dX1_refusalOfWithdrawal_1 : decode cX1_refusalOfWithdrawal 1 = .ok (.getfield 21, 3) := by decide +kernel
theorem dX1_refusalOfWithdrawal_4 : decode cX1_refusalOfWithdrawal 4 = .ok (.iload_n 1, 1) := by decide +kernel
theorem dX1_refusalOfWithdrawal_5 : decode cX1_refusalOfWithdrawal 5 = .ok (.invokevirtual 120, 3) := by decide +kernel
theorem dX1_refusalOfWithdrawal_8 : decode cX1_refusalOfWithdrawal 8 = .ok (.ifCond .ne 5, 3) := by decide +kernel
theorem dX1_refusalOfWithdrawal_11 : decode cX1_refusalOfWithdrawal 11 = .ok (.iconst 1, 1) := by decide +kernel
theorem dX1_refusalOfWithdrawal_12 : decode cX1_refusalOfWithdrawal 12 = .ok (.ireturn, 1) := by decide +kernel
theorem dX1_refusalOfWithdrawal_13 : decode cX1_refusalOfWithdrawal 13 = .ok (.aload_n 0, 1) := by decide +kernel
theorem dX1_refusalOfWithdrawal_14 : decode cX1_refusalOfWithdrawal 14 = .ok (.getfield 21, 3) := by decide +kernel
theorem dX1_refusalOfWithdrawal_17 : decode cX1_refusalOfWithdrawal 17 = .ok (.iload_n 1, 1) := by decide +kernel
theorem dX1_refusalOfWithdrawal_18 : decode cX1_refusalOfWithdrawal 18 = .ok (.invokevirtual 123, 3) := by decide +kernel
theorem dX1_refusalOfWithdrawal_21 : decode cX1_refusalOfWithdrawal 21 = .ok (.ifCond .eq 14, 3) := by decide +kernel
theorem dX1_refusalOfWithdrawal_24 : decode cX1_refusalOfWithdrawal 24 = .ok (.aload_n 0, 1) := by decide +kernel
theorem dX1_refusalOfWithdrawal_25 : decode cX1_refusalOfWithdrawal 25 = .ok (.getfield 35, 3) := by decide +kernel
theorem dX1_refusalOfWithdrawal_28 : decode cX1_refusalOfWithdrawal 28 = .ok (.iload_n 1, 1) := by decide +kernel
theorem dX1_refusalOfWithdrawal_29 : decode cX1_refusalOfWithdrawal 29 = .ok (.invokevirtual 126, 3) := by decide +kernel
theorem dX1_refusalOfWithdrawal_32 : decode cX1_refusalOfWithdrawal 32 = .ok (.ifCond .eq 7, 3) := by decide +kernel
theorem dX1_refusalOfWithdrawal_35 : decode cX1_refusalOfWithdrawal 35 = .ok (.iconst 3, 1) := by decide +kernel
theorem dX1_refusalOfWithdrawal_36 : decode cX1_refusalOfWithdrawal 36 = .ok (.goto 4, 3) := by decide +kernel
theorem dX1_refusalOfWithdrawal_39 : decode cX1_refusalOfWithdrawal 39 = .ok (.iconst 0, 1) := by decide +kernel
theorem dX1_refusalOfWithdrawal_40 : decode cX1_refusalOfWithdrawal 40 = .ok (.ireturn, 1) := by decide +kernel
theorem dX1_closeMotion_0 : decode cX1_closeMotion 0 = .ok (.aload_n 0, 1) := by decide +kernel
theorem dX1_closeMotion_1 : decode cX1_closeMotion 1 = .ok (.getfield 21, 3) := by decide +kernel
theorem dX1_closeMotion_4 : decode cX1_closeMotion 4 = .ok (.getfield 95, 3) := by decide +kernel
theorem dX1_closeMotion_7 : decode cX1_closeMotion 7 = .ok (.iload_n 1, 1) := by decide +kernel
theorem dX1_closeMotion_8 : decode cX1_closeMotion 8 = .ok (.iload_n 2, 1) := by decide +kernel
theorem dX1_closeMotion_9 : decode cX1_closeMotion 9 = .ok (.iastore, 1) := by decide +kernel
theorem dX1_closeMotion_10 : decode cX1_closeMotion 10 = .ok (.aload_n 0, 1) := by decide +kernel
theorem dX1_closeMotion_11 : decode cX1_closeMotion 11 = .ok (.getfield 28, 3) := by decide +kernel
theorem dX1_closeMotion_14 : decode cX1_closeMotion 14 = .ok (.iload_n 1, 1) := by decide +kernel
theorem dX1_closeMotion_15 : decode cX1_closeMotion 15 = .ok (.invokevirtual 129, 3) := by decide +kernel
theorem dX1_closeMotion_18 : decode cX1_closeMotion 18 = .ok (.ireturn, 1) := by decide +kernel
theorem dX1_refusalOfRequest_0 : decode cX1_refusalOfRequest 0 = .ok (.aload_n 0, 1) := by decide +kernel
theorem dX1_refusalOfRequest_1 : decode cX1_refusalOfRequest 1 = .ok (.getfield 39, 3) := by decide +kernel
theorem dX1_refusalOfRequest_4 : decode cX1_refusalOfRequest 4 = .ok (.iload_n 1, 1) := by decide +kernel
theorem dX1_refusalOfRequest_5 : decode cX1_refusalOfRequest 5 = .ok (.invokevirtual 85, 3) := by decide +kernel
theorem dX1_refusalOfRequest_8 : decode cX1_refusalOfRequest 8 = .ok (.ifCond .eq 14, 3) := by decide +kernel
theorem dX1_refusalOfRequest_11 : decode cX1_refusalOfRequest 11 = .ok (.aload_n 0, 1) := by decide +kernel
theorem dX1_refusalOfRequest_12 : decode cX1_refusalOfRequest 12 = .ok (.getfield 21, 3) := by decide +kernel
theorem dX1_refusalOfRequest_15 : decode cX1_refusalOfRequest 15 = .ok (.iload_n 2, 1) := by decide +kernel
theorem dX1_refusalOfRequest_16 : decode cX1_refusalOfRequest 16 = .ok (.invokevirtual 120, 3) := by decide +kernel
theorem dX1_refusalOfRequest_19 : decode cX1_refusalOfRequest 19 = .ok (.ifCond .ne 5, 3) := by decide +kernel
theorem dX1_refusalOfRequest_22 : decode cX1_refusalOfRequest 22 = .ok (.iconst 1, 1) := by decide +kernel
theorem dX1_refusalOfRequest_23 : decode cX1_refusalOfRequest 23 = .ok (.ireturn, 1) := by decide +kernel
theorem dX1_refusalOfRequest_24 : decode cX1_refusalOfRequest 24 = .ok (.aload_n 0, 1) := by decide +kernel
theorem dX1_refusalOfRequest_25 : decode cX1_refusalOfRequest 25 = .ok (.getfield 28, 3) := by decide +kernel
theorem dX1_refusalOfRequest_28 : decode cX1_refusalOfRequest 28 = .ok (.iload_n 1, 1) := by decide +kernel
theorem dX1_refusalOfRequest_29 : decode cX1_refusalOfRequest 29 = .ok (.invokevirtual 132, 3) := by decide +kernel
theorem dX1_refusalOfRequest_32 : decode cX1_refusalOfRequest 32 = .ok (.iconst (-1), 1) := by decide +kernel
theorem dX1_refusalOfRequest_33 : decode cX1_refusalOfRequest 33 = .ok (.if_icmp .eq 7, 3) := by decide +kernel
theorem dX1_refusalOfRequest_36 : decode cX1_refusalOfRequest 36 = .ok (.iconst 1, 1) := by decide +kernel
theorem dX1_refusalOfRequest_37 : decode cX1_refusalOfRequest 37 = .ok (.goto 4, 3) := by decide +kernel
theorem dX1_refusalOfRequest_40 : decode cX1_refusalOfRequest 40 = .ok (.iconst 0, 1) := by decide +kernel
theorem dX1_refusalOfRequest_41 : decode cX1_refusalOfRequest 41 = .ok (.istore_n 3, 1) := by decide +kernel
theorem dX1_refusalOfRequest_42 : decode cX1_refusalOfRequest 42 = .ok (.aload_n 0, 1) := by decide +kernel
theorem dX1_refusalOfRequest_43 : decode cX1_refusalOfRequest 43 = .ok (.getfield 35, 3) := by decide +kernel
theorem dX1_refusalOfRequest_46 : decode cX1_refusalOfRequest 46 = .ok (.iload_n 1, 1) := by decide +kernel
theorem dX1_refusalOfRequest_47 : decode cX1_refusalOfRequest 47 = .ok (.invokevirtual 135, 3) := by decide +kernel
theorem dX1_refusalOfRequest_50 : decode cX1_refusalOfRequest 50 = .ok (.iconst (-1), 1) := by decide +kernel
theorem dX1_refusalOfRequest_51 : decode cX1_refusalOfRequest 51 = .ok (.if_icmp .eq 7, 3) := by decide +kernel
theorem dX1_refusalOfRequest_54 : decode cX1_refusalOfRequest 54 = .ok (.iconst 1, 1) := by decide +kernel
theorem dX1_refusalOfRequest_55 : decode cX1_refusalOfRequest 55 = .ok (.goto 4, 3) := by decide +kernel
theorem dX1_refusalOfRequest_58 : decode cX1_refusalOfRequest 58 = .ok (.iconst 0, 1) := by decide +kernel
theorem dX1_refusalOfRequest_59 : decode cX1_refusalOfRequest 59 = .ok (.istore 4, 2) := by decide +kernel
theorem dX1_refusalOfRequest_61 : decode cX1_refusalOfRequest 61 = .ok (.aload_n 0, 1) := by decide +kernel
theorem dX1_refusalOfRequest_62 : decode cX1_refusalOfRequest 62 = .ok (.getfield 21, 3) := by decide +kernel
theorem dX1_refusalOfRequest_65 : decode cX1_refusalOfRequest 65 = .ok (.iload_n 2, 1) := by decide +kernel
theorem dX1_refusalOfRequest_66 : decode cX1_refusalOfRequest 66 = .ok (.invokevirtual 123, 3) := by decide +kernel
theorem dX1_refusalOfRequest_69 : decode cX1_refusalOfRequest 69 = .ok (.ifCond .eq 12, 3) := by decide +kernel
theorem dX1_refusalOfRequest_72 : decode cX1_refusalOfRequest 72 = .ok (.iload_n 3, 1) := by decide +kernel
theorem dX1_refusalOfRequest_73 : decode cX1_refusalOfRequest 73 = .ok (.ifCond .ne 8, 3) := by decide +kernel
theorem dX1_refusalOfRequest_76 : decode cX1_refusalOfRequest 76 = .ok (.iload 4, 2) := by decide +kernel
theorem dX1_refusalOfRequest_78 : decode cX1_refusalOfRequest 78 = .ok (.ifCond .eq 7, 3) := by decide +kernel
theorem dX1_refusalOfRequest_81 : decode cX1_refusalOfRequest 81 = .ok (.iconst 3, 1) := by decide +kernel
theorem dX1_refusalOfRequest_82 : decode cX1_refusalOfRequest 82 = .ok (.goto 4, 3) := by decide +kernel
theorem dX1_refusalOfRequest_85 : decode cX1_refusalOfRequest 85 = .ok (.iconst 0, 1) := by decide +kernel
theorem dX1_refusalOfRequest_86 : decode cX1_refusalOfRequest 86 = .ok (.ireturn, 1) := by decide +kernel
theorem dX1_countFreeMirrors_0 : decode cX1_countFreeMirrors 0 = .ok (.aload_n 0, 1) := by decide +kernel
theorem dX1_countFreeMirrors_1 : decode cX1_countFreeMirrors 1 = .ok (.getfield 39, 3) := by decide +kernel
theorem dX1_countFreeMirrors_4 : decode cX1_countFreeMirrors 4 = .ok (.getfield 138, 3) := by decide +kernel
theorem dX1_countFreeMirrors_7 : decode cX1_countFreeMirrors 7 = .ok (.aload_n 0, 1) := by decide +kernel
theorem dX1_countFreeMirrors_8 : decode cX1_countFreeMirrors 8 = .ok (.getfield 35, 3) := by decide +kernel
theorem dX1_countFreeMirrors_11 : decode cX1_countFreeMirrors 11 = .ok (.invokevirtual 141, 3) := by decide +kernel
theorem dX1_countFreeMirrors_14 : decode cX1_countFreeMirrors 14 = .ok (.isub, 1) := by decide +kernel
theorem dX1_countFreeMirrors_15 : decode cX1_countFreeMirrors 15 = .ok (.ireturn, 1) := by decide +kernel
theorem dX1_refusalOfRebuttal_0 : decode cX1_refusalOfRebuttal 0 = .ok (.aload_n 0, 1) := by decide +kernel
theorem dX1_refusalOfRebuttal_1 : decode cX1_refusalOfRebuttal 1 = .ok (.getfield 39, 3) := by decide +kernel
theorem dX1_refusalOfRebuttal_4 : decode cX1_refusalOfRebuttal 4 = .ok (.iload_n 1, 1) := by decide +kernel
theorem dX1_refusalOfRebuttal_5 : decode cX1_refusalOfRebuttal 5 = .ok (.invokevirtual 85, 3) := by decide +kernel
theorem dX1_refusalOfRebuttal_8 : decode cX1_refusalOfRebuttal 8 = .ok (.ifCond .eq 14, 3) := by decide +kernel
theorem dX1_refusalOfRebuttal_11 : decode cX1_refusalOfRebuttal 11 = .ok (.aload_n 0, 1) := by decide +kernel
theorem dX1_refusalOfRebuttal_12 : decode cX1_refusalOfRebuttal 12 = .ok (.getfield 39, 3) := by decide +kernel
theorem dX1_refusalOfRebuttal_15 : decode cX1_refusalOfRebuttal 15 = .ok (.iload_n 2, 1) := by decide +kernel
theorem dX1_refusalOfRebuttal_16 : decode cX1_refusalOfRebuttal 16 = .ok (.invokevirtual 145, 3) := by decide +kernel
theorem dX1_refusalOfRebuttal_19 : decode cX1_refusalOfRebuttal 19 = .ok (.ifCond .ne 5, 3) := by decide +kernel
theorem dX1_refusalOfRebuttal_22 : decode cX1_refusalOfRebuttal 22 = .ok (.iconst 1, 1) := by decide +kernel
theorem dX1_refusalOfRebuttal_23 : decode cX1_refusalOfRebuttal 23 = .ok (.ireturn, 1) := by decide +kernel
theorem dX1_refusalOfRebuttal_24 : decode cX1_refusalOfRebuttal 24 = .ok (.aload_n 0, 1) := by decide +kernel
theorem dX1_refusalOfRebuttal_25 : decode cX1_refusalOfRebuttal 25 = .ok (.getfield 35, 3) := by decide +kernel
theorem dX1_refusalOfRebuttal_28 : decode cX1_refusalOfRebuttal 28 = .ok (.iload_n 2, 1) := by decide +kernel
theorem dX1_refusalOfRebuttal_29 : decode cX1_refusalOfRebuttal 29 = .ok (.invokevirtual 148, 3) := by decide +kernel
theorem dX1_refusalOfRebuttal_32 : decode cX1_refusalOfRebuttal 32 = .ok (.ifCond .ne 21, 3) := by decide +kernel
theorem dX1_refusalOfRebuttal_35 : decode cX1_refusalOfRebuttal 35 = .ok (.aload_n 0, 1) := by decide +kernel
theorem dX1_refusalOfRebuttal_36 : decode cX1_refusalOfRebuttal 36 = .ok (.getfield 35, 3) := by decide +kernel
theorem dX1_refusalOfRebuttal_39 : decode cX1_refusalOfRebuttal 39 = .ok (.iload_n 2, 1) := by decide +kernel
theorem dX1_refusalOfRebuttal_40 : decode cX1_refusalOfRebuttal 40 = .ok (.invokevirtual 151, 3) := by decide +kernel
theorem dX1_refusalOfRebuttal_43 : decode cX1_refusalOfRebuttal 43 = .ok (.ifCond .ne 10, 3) := by decide +kernel
theorem dX1_refusalOfRebuttal_46 : decode cX1_refusalOfRebuttal 46 = .ok (.aload_n 0, 1) := by decide +kernel
theorem dX1_refusalOfRebuttal_47 : decode cX1_refusalOfRebuttal 47 = .ok (.invokevirtual 154, 3) := by decide +kernel
theorem dX1_refusalOfRebuttal_50 : decode cX1_refusalOfRebuttal 50 = .ok (.ifCond .gt 5, 3) := by decide +kernel
theorem dX1_refusalOfRebuttal_53 : decode cX1_refusalOfRebuttal 53 = .ok (.iconst 3, 1) := by decide +kernel
theorem dX1_refusalOfRebuttal_54 : decode cX1_refusalOfRebuttal 54 = .ok (.ireturn, 1) := by decide +kernel
theorem dX1_refusalOfRebuttal_55 : decode cX1_refusalOfRebuttal 55 = .ok (.aload_n 0, 1) := by decide +kernel
theorem dX1_refusalOfRebuttal_56 : decode cX1_refusalOfRebuttal 56 = .ok (.getfield 35, 3) := by decide +kernel
theorem dX1_refusalOfRebuttal_59 : decode cX1_refusalOfRebuttal 59 = .ok (.iload_n 1, 1) := by decide +kernel
theorem dX1_refusalOfRebuttal_60 : decode cX1_refusalOfRebuttal 60 = .ok (.invokevirtual 135, 3) := by decide +kernel
theorem dX1_refusalOfRebuttal_63 : decode cX1_refusalOfRebuttal 63 = .ok (.iconst (-1), 1) := by decide +kernel
theorem dX1_refusalOfRebuttal_64 : decode cX1_refusalOfRebuttal 64 = .ok (.if_icmp .eq 5, 3) := by decide +kernel
theorem dX1_refusalOfRebuttal_67 : decode cX1_refusalOfRebuttal 67 = .ok (.iconst 3, 1) := by decide +kernel
theorem dX1_refusalOfRebuttal_68 : decode cX1_refusalOfRebuttal 68 = .ok (.ireturn, 1) := by decide +kernel
theorem dX1_refusalOfRebuttal_69 : decode cX1_refusalOfRebuttal 69 = .ok (.aload_n 0, 1) := by decide +kernel
theorem dX1_refusalOfRebuttal_70 : decode cX1_refusalOfRebuttal 70 = .ok (.getfield 21, 3) := by decide +kernel
theorem dX1_refusalOfRebuttal_73 : decode cX1_refusalOfRebuttal 73 = .ok (.iload_n 1, 1) := by decide +kernel
theorem dX1_refusalOfRebuttal_74 : decode cX1_refusalOfRebuttal 74 = .ok (.aload_n 0, 1) := by decide +kernel
theorem dX1_refusalOfRebuttal_75 : decode cX1_refusalOfRebuttal 75 = .ok (.getfield 35, 3) := by decide +kernel
theorem dX1_refusalOfRebuttal_78 : decode cX1_refusalOfRebuttal 78 = .ok (.getfield 157, 3) := by decide +kernel
theorem dX1_refusalOfRebuttal_81 : decode cX1_refusalOfRebuttal 81 = .ok (.iload_n 2, 1) := by decide +kernel
theorem dX1_refusalOfRebuttal_82 : decode cX1_refusalOfRebuttal 82 = .ok (.iaload, 1) := by decide +kernel
theorem dX1_refusalOfRebuttal_83 : decode cX1_refusalOfRebuttal 83 = .ok (.invokevirtual 160, 3) := by decide +kernel
theorem dX1_refusalOfRebuttal_86 : decode cX1_refusalOfRebuttal 86 = .ok (.aload_n 0, 1) := by decide +kernel
theorem dX1_refusalOfRebuttal_87 : decode cX1_refusalOfRebuttal 87 = .ok (.getfield 35, 3) := by decide +kernel
theorem dX1_refusalOfRebuttal_90 : decode cX1_refusalOfRebuttal 90 = .ok (.getfield 164, 3) := by decide +kernel
theorem dX1_refusalOfRebuttal_93 : decode cX1_refusalOfRebuttal 93 = .ok (.iload_n 2, 1) := by decide +kernel
theorem dX1_refusalOfRebuttal_94 : decode cX1_refusalOfRebuttal 94 = .ok (.iaload, 1) := by decide +kernel
theorem dX1_refusalOfRebuttal_95 : decode cX1_refusalOfRebuttal 95 = .ok (.imul, 1) := by decide +kernel
theorem dX1_refusalOfRebuttal_96 : decode cX1_refusalOfRebuttal 96 = .ok (.istore_n 3, 1) := by decide +kernel
theorem dX1_refusalOfRebuttal_97 : decode cX1_refusalOfRebuttal 97 = .ok (.iload_n 3, 1) := by decide +kernel
theorem dX1_refusalOfRebuttal_98 : decode cX1_refusalOfRebuttal 98 = .ok (.ifCond .ge 7, 3) := by decide +kernel
theorem dX1_refusalOfRebuttal_101 : decode cX1_refusalOfRebuttal 101 = .ok (.iconst 0, 1) := by decide +kernel
theorem dX1_refusalOfRebuttal_102 : decode cX1_refusalOfRebuttal 102 = .ok (.goto 4, 3) := by decide +kernel
theorem dX1_refusalOfRebuttal_105 : decode cX1_refusalOfRebuttal 105 = .ok (.iconst 3, 1) := by decide +kernel
theorem dX1_refusalOfRebuttal_106 : decode cX1_refusalOfRebuttal 106 = .ok (.ireturn, 1) := by decide +kernel
theorem dX1_addRebuttal_0 : decode cX1_addRebuttal 0 = .ok (.aload_n 0, 1) := by decide +kernel
theorem dX1_addRebuttal_1 : decode cX1_addRebuttal 1 = .ok (.getfield 35, 3) := by decide +kernel
theorem dX1_addRebuttal_4 : decode cX1_addRebuttal 4 = .ok (.getfield 167, 3) := by decide +kernel
theorem dX1_addRebuttal_7 : decode cX1_addRebuttal 7 = .ok (.iload_n 1, 1) := by decide +kernel
theorem dX1_addRebuttal_8 : decode cX1_addRebuttal 8 = .ok (.iconst 1, 1) := by decide +kernel
theorem dX1_addRebuttal_9 : decode cX1_addRebuttal 9 = .ok (.iastore, 1) := by decide +kernel
theorem dX1_addRebuttal_10 : decode cX1_addRebuttal 10 = .ok (.aload_n 0, 1) := by decide +kernel
theorem dX1_addRebuttal_11 : decode cX1_addRebuttal 11 = .ok (.dup, 1) := by decide +kernel
theorem dX1_addRebuttal_12 : decode cX1_addRebuttal 12 = .ok (.getfield 66, 3) := by decide +kernel
theorem dX1_addRebuttal_15 : decode cX1_addRebuttal 15 = .ok (.iconst 1, 1) := by decide +kernel
theorem dX1_addRebuttal_16 : decode cX1_addRebuttal 16 = .ok (.iadd, 1) := by decide +kernel
theorem dX1_addRebuttal_17 : decode cX1_addRebuttal 17 = .ok (.putfield 66, 3) := by decide +kernel
theorem dX1_addRebuttal_20 : decode cX1_addRebuttal 20 = .ok (.aload_n 0, 1) := by decide +kernel
theorem dX1_addRebuttal_21 : decode cX1_addRebuttal 21 = .ok (.invokevirtual 154, 3) := by decide +kernel
theorem dX1_addRebuttal_24 : decode cX1_addRebuttal 24 = .ok (.ireturn, 1) := by decide +kernel
theorem dX1_refusalOfRanking_0 : decode cX1_refusalOfRanking 0 = .ok (.iload_n 0, 1) := by decide +kernel
theorem dX1_refusalOfRanking_1 : decode cX1_refusalOfRanking 1 = .ok (.ifCond .lt 8, 3) := by decide +kernel
theorem dX1_refusalOfRanking_4 : decode cX1_refusalOfRanking 4 = .ok (.iload_n 0, 1) := by decide +kernel
theorem dX1_refusalOfRanking_5 : decode cX1_refusalOfRanking 5 = .ok (.iconst 3, 1) := by decide +kernel
theorem dX1_refusalOfRanking_6 : decode cX1_refusalOfRanking 6 = .ok (.if_icmp .le 7, 3) := by decide +kernel
theorem dX1_refusalOfRanking_9 : decode cX1_refusalOfRanking 9 = .ok (.iconst 1, 1) := by decide +kernel
theorem dX1_refusalOfRanking_10 : decode cX1_refusalOfRanking 10 = .ok (.goto 4, 3) := by decide +kernel
theorem dX1_refusalOfRanking_13 : decode cX1_refusalOfRanking 13 = .ok (.iconst 0, 1) := by decide +kernel
theorem dX1_refusalOfRanking_14 : decode cX1_refusalOfRanking 14 = .ok (.ireturn, 1) := by decide +kernel
theorem dX1_firstPlace_0 : decode cX1_firstPlace 0 = .ok (.iconst (-1), 1) := by decide +kernel
theorem dX1_firstPlace_1 : decode cX1_firstPlace 1 = .ok (.istore_n 2, 1) := by decide +kernel
theorem dX1_firstPlace_2 : decode cX1_firstPlace 2 = .ok (.iconst 0, 1) := by decide +kernel
theorem dX1_firstPlace_3 : decode cX1_firstPlace 3 = .ok (.istore_n 3, 1) := by decide +kernel
theorem dX1_firstPlace_4 : decode cX1_firstPlace 4 = .ok (.iconst 0, 1) := by decide +kernel
theorem dX1_firstPlace_5 : decode cX1_firstPlace 5 = .ok (.istore 4, 2) := by decide +kernel
theorem dX1_firstPlace_7 : decode cX1_firstPlace 7 = .ok (.iload 4, 2) := by decide +kernel
theorem dX1_firstPlace_9 : decode cX1_firstPlace 9 = .ok (.aload_n 0, 1) := by decide +kernel
theorem dX1_firstPlace_10 : decode cX1_firstPlace 10 = .ok (.getfield 28, 3) := by decide +kernel
theorem dX1_firstPlace_13 : decode cX1_firstPlace 13 = .ok (.getfield 51, 3) := by decide +kernel
theorem dX1_firstPlace_16 : decode cX1_firstPlace 16 = .ok (.if_icmp .ge 35, 3) := by decide +kernel
theorem dX1_firstPlace_19 : decode cX1_firstPlace 19 = .ok (.aload_n 0, 1) := by decide +kernel
theorem dX1_firstPlace_20 : decode cX1_firstPlace 20 = .ok (.iload 4, 2) := by decide +kernel
theorem dX1_firstPlace_22 : decode cX1_firstPlace 22 = .ok (.iload_n 1, 1) := by decide +kernel
theorem dX1_firstPlace_23 : decode cX1_firstPlace 23 = .ok (.invokevirtual 169, 3) := by decide +kernel
theorem dX1_firstPlace_26 : decode cX1_firstPlace 26 = .ok (.istore 5, 2) := by decide +kernel
theorem dX1_firstPlace_28 : decode cX1_firstPlace 28 = .ok (.iload_n 2, 1) := by decide +kernel
theorem dX1_firstPlace_29 : decode cX1_firstPlace 29 = .ok (.iconst (-1), 1) := by decide +kernel
theorem dX1_firstPlace_30 : decode cX1_firstPlace 30 = .ok (.if_icmp .eq 9, 3) := by decide +kernel
theorem dX1_firstPlace_33 : decode cX1_firstPlace 33 = .ok (.iload 5, 2) := by decide +kernel
theorem dX1_firstPlace_35 : decode cX1_firstPlace 35 = .ok (.iload_n 3, 1) := by decide +kernel
theorem dX1_firstPlace_36 : decode cX1_firstPlace 36 = .ok (.if_icmp .ge 9, 3) := by decide +kernel
theorem dX1_firstPlace_39 : decode cX1_firstPlace 39 = .ok (.iload 4, 2) := by decide +kernel
theorem dX1_firstPlace_41 : decode cX1_firstPlace 41 = .ok (.istore_n 2, 1) := by decide +kernel
theorem dX1_firstPlace_42 : decode cX1_firstPlace 42 = .ok (.iload 5, 2) := by decide +kernel
theorem dX1_firstPlace_44 : decode cX1_firstPlace 44 = .ok (.istore_n 3, 1) := by decide +kernel
theorem dX1_firstPlace_45 : decode cX1_firstPlace 45 = .ok (.iinc 4 1, 3) := by decide +kernel
theorem dX1_firstPlace_48 : decode cX1_firstPlace 48 = .ok (.goto (-41), 3) := by decide +kernel
theorem dX1_firstPlace_51 : decode cX1_firstPlace 51 = .ok (.iload_n 2, 1) := by decide +kernel
theorem dX1_firstPlace_52 : decode cX1_firstPlace 52 = .ok (.ireturn, 1) := by decide +kernel
theorem dX1_rankOf_0 : decode cX1_rankOf 0 = .ok (.aload_n 0, 1) := by decide +kernel
theorem dX1_rankOf_1 : decode cX1_rankOf 1 = .ok (.getfield 28, 3) := by decide +kernel
theorem dX1_rankOf_4 : decode cX1_rankOf 4 = .ok (.getfield 172, 3) := by decide +kernel
theorem dX1_rankOf_7 : decode cX1_rankOf 7 = .ok (.iload_n 1, 1) := by decide +kernel
theorem dX1_rankOf_8 : decode cX1_rankOf 8 = .ok (.iaload, 1) := by decide +kernel
theorem dX1_rankOf_9 : decode cX1_rankOf 9 = .ok (.istore_n 3, 1) := by decide +kernel
theorem dX1_rankOf_10 : decode cX1_rankOf 10 = .ok (.iload_n 2, 1) := by decide +kernel
theorem dX1_rankOf_11 : decode cX1_rankOf 11 = .ok (.tableswitch 86 1 3 #[25, 36, 46], 25) := by decide +kernel
theorem dX1_rankOf_36 : decode cX1_rankOf 36 = .ok (.aload_n 0, 1) := by decide +kernel
theorem dX1_rankOf_37 : decode cX1_rankOf 37 = .ok (.getfield 39, 3) := by decide +kernel
theorem dX1_rankOf_40 : decode cX1_rankOf 40 = .ok (.getfield 175, 3) := by decide +kernel
theorem dX1_rankOf_43 : decode cX1_rankOf 43 = .ok (.iload_n 3, 1) := by decide +kernel
theorem dX1_rankOf_44 : decode cX1_rankOf 44 = .ok (.iaload, 1) := by decide +kernel
theorem dX1_rankOf_45 : decode cX1_rankOf 45 = .ok (.ineg, 1) := by decide +kernel
theorem dX1_rankOf_46 : decode cX1_rankOf 46 = .ok (.ireturn, 1) := by decide +kernel
theorem dX1_rankOf_47 : decode cX1_rankOf 47 = .ok (.aload_n 0, 1) := by decide +kernel
theorem dX1_rankOf_48 : decode cX1_rankOf 48 = .ok (.getfield 12, 3) := by decide +kernel
theorem dX1_rankOf_51 : decode cX1_rankOf 51 = .ok (.getfield 178, 3) := by decide +kernel
theorem dX1_rankOf_54 : decode cX1_rankOf 54 = .ok (.iload_n 3, 1) := by decide +kernel
theorem dX1_rankOf_55 : decode cX1_rankOf 55 = .ok (.iaload, 1) := by decide +kernel
theorem dX1_rankOf_56 : decode cX1_rankOf 56 = .ok (.ireturn, 1) := by decide +kernel
theorem dX1_rankOf_57 : decode cX1_rankOf 57 = .ok (.aload_n 0, 1) := by decide +kernel
theorem dX1_rankOf_58 : decode cX1_rankOf 58 = .ok (.getfield 21, 3) := by decide +kernel
theorem dX1_rankOf_61 : decode cX1_rankOf 61 = .ok (.getfield 101, 3) := by decide +kernel
theorem dX1_rankOf_64 : decode cX1_rankOf 64 = .ok (.aload_n 0, 1) := by decide +kernel
theorem dX1_rankOf_65 : decode cX1_rankOf 65 = .ok (.getfield 28, 3) := by decide +kernel
theorem dX1_rankOf_68 : decode cX1_rankOf 68 = .ok (.getfield 181, 3) := by decide +kernel
theorem dX1_rankOf_71 : decode cX1_rankOf 71 = .ok (.iload_n 1, 1) := by decide +kernel
theorem dX1_rankOf_72 : decode cX1_rankOf 72 = .ok (.iaload, 1) := by decide +kernel
theorem dX1_rankOf_73 : decode cX1_rankOf 73 = .ok (.iaload, 1) := by decide +kernel
theorem dX1_rankOf_74 : decode cX1_rankOf 74 = .ok (.istore 4, 2) := by decide +kernel
theorem dX1_rankOf_76 : decode cX1_rankOf 76 = .ok (.iload 4, 2) := by decide +kernel
theorem dX1_rankOf_78 : decode cX1_rankOf 78 = .ok (.aload_n 0, 1) := by decide +kernel
theorem dX1_rankOf_79 : decode cX1_rankOf 79 = .ok (.getfield 28, 3) := by decide +kernel
theorem dX1_rankOf_82 : decode cX1_rankOf 82 = .ok (.getfield 182, 3) := by decide +kernel
theorem dX1_rankOf_85 : decode cX1_rankOf 85 = .ok (.iload_n 1, 1) := by decide +kernel
theorem dX1_rankOf_86 : decode cX1_rankOf 86 = .ok (.iaload, 1) := by decide +kernel
theorem dX1_rankOf_87 : decode cX1_rankOf 87 = .ok (.ineg, 1) := by decide +kernel
theorem dX1_rankOf_88 : decode cX1_rankOf 88 = .ok (.if_icmp .ne 7, 3) := by decide +kernel
theorem dX1_rankOf_91 : decode cX1_rankOf 91 = .ok (.iconst 0, 1) := by decide +kernel
theorem dX1_rankOf_92 : decode cX1_rankOf 92 = .ok (.goto 4, 3) := by decide +kernel
theorem dX1_rankOf_95 : decode cX1_rankOf 95 = .ok (.iconst 1, 1) := by decide +kernel
theorem dX1_rankOf_96 : decode cX1_rankOf 96 = .ok (.ireturn, 1) := by decide +kernel
theorem dX1_rankOf_97 : decode cX1_rankOf 97 = .ok (.iconst 0, 1) := by decide +kernel
theorem dX1_rankOf_98 : decode cX1_rankOf 98 = .ok (.ireturn, 1) := by decide +kernel
theorem dX1_startSpeech_0 : decode cX1_startSpeech 0 = .ok (.aload_n 0, 1) := by decide +kernel
theorem dX1_startSpeech_1 : decode cX1_startSpeech 1 = .ok (.getfield 28, 3) := by decide +kernel
theorem dX1_startSpeech_4 : decode cX1_startSpeech 4 = .ok (.getfield 172, 3) := by decide +kernel
theorem dX1_startSpeech_7 : decode cX1_startSpeech 7 = .ok (.iload_n 2, 1) := by decide +kernel
theorem dX1_startSpeech_8 : decode cX1_startSpeech 8 = .ok (.iaload, 1) := by decide +kernel
theorem dX1_startSpeech_9 : decode cX1_startSpeech 9 = .ok (.istore_n 3, 1) := by decide +kernel
theorem dX1_startSpeech_10 : decode cX1_startSpeech 10 = .ok (.aload_n 0, 1) := by decide +kernel
theorem dX1_startSpeech_11 : decode cX1_startSpeech 11 = .ok (.getfield 28, 3) := by decide +kernel
theorem dX1_startSpeech_14 : decode cX1_startSpeech 14 = .ok (.getfield 181, 3) := by decide +kernel
theorem dX1_startSpeech_17 : decode cX1_startSpeech 17 = .ok (.iload_n 2, 1) := by decide +kernel
theorem dX1_startSpeech_18 : decode cX1_startSpeech 18 = .ok (.iaload, 1) := by decide +kernel
theorem dX1_startSpeech_19 : decode cX1_startSpeech 19 = .ok (.istore 4, 2) := by decide +kernel
theorem dX1_startSpeech_21 : decode cX1_startSpeech 21 = .ok (.aload_n 0, 1) := by decide +kernel
theorem dX1_startSpeech_22 : decode cX1_startSpeech 22 = .ok (.getfield 28, 3) := by decide +kernel
theorem dX1_startSpeech_25 : decode cX1_startSpeech 25 = .ok (.getfield 182, 3) := by decide +kernel
theorem dX1_startSpeech_28 : decode cX1_startSpeech 28 = .ok (.iload_n 2, 1) := by decide +kernel
theorem dX1_startSpeech_29 : decode cX1_startSpeech 29 = .ok (.iaload, 1) := by decide +kernel
theorem dX1_startSpeech_30 : decode cX1_startSpeech 30 = .ok (.istore 5, 2) := by decide +kernel
theorem dX1_startSpeech_32 : decode cX1_startSpeech 32 = .ok (.aload_n 0, 1) := by decide +kernel
theorem dX1_startSpeech_33 : decode cX1_startSpeech 33 = .ok (.getfield 28, 3) := by decide +kernel
theorem dX1_startSpeech_36 : decode cX1_startSpeech 36 = .ok (.iload_n 2, 1) := by decide +kernel
theorem dX1_startSpeech_37 : decode cX1_startSpeech 37 = .ok (.invokevirtual 183, 3) := by decide +kernel
theorem dX1_startSpeech_40 : decode cX1_startSpeech 40 = .ok (.aload_n 0, 1) := by decide +kernel
theorem dX1_startSpeech_41 : decode cX1_startSpeech 41 = .ok (.getfield 35, 3) := by decide +kernel
theorem dX1_startSpeech_44 : decode cX1_startSpeech 44 = .ok (.getfield 187, 3) := by decide +kernel
theorem dX1_startSpeech_47 : decode cX1_startSpeech 47 = .ok (.iload_n 1, 1) := by decide +kernel
theorem dX1_startSpeech_48 : decode cX1_startSpeech 48 = .ok (.iload_n 3, 1) := by decide +kernel
theorem dX1_startSpeech_49 : decode cX1_startSpeech 49 = .ok (.iastore, 1) := by decide +kernel
theorem dX1_startSpeech_50 : decode cX1_startSpeech 50 = .ok (.aload_n 0, 1) := by decide +kernel
theorem dX1_startSpeech_51 : decode cX1_startSpeech 51 = .ok (.getfield 35, 3) := by decide +kernel
theorem dX1_startSpeech_54 : decode cX1_startSpeech 54 = .ok (.getfield 157, 3) := by decide +kernel
theorem dX1_startSpeech_57 : decode cX1_startSpeech 57 = .ok (.iload_n 1, 1) := by decide +kernel
theorem dX1_startSpeech_58 : decode cX1_startSpeech 58 = .ok (.iload 4, 2) := by decide +kernel
theorem dX1_startSpeech_60 : decode cX1_startSpeech 60 = .ok (.iastore, 1) := by decide +kernel
theorem dX1_startSpeech_61 : decode cX1_startSpeech 61 = .ok (.aload_n 0, 1) := by decide +kernel
theorem dX1_startSpeech_62 : decode cX1_startSpeech 62 = .ok (.getfield 35, 3) := by decide +kernel
theorem dX1_startSpeech_65 : decode cX1_startSpeech 65 = .ok (.getfield 164, 3) := by decide +kernel
theorem dX1_startSpeech_68 : decode cX1_startSpeech 68 = .ok (.iload_n 1, 1) := by decide +kernel
theorem dX1_startSpeech_69 : decode cX1_startSpeech 69 = .ok (.iload 5, 2) := by decide +kernel
theorem dX1_startSpeech_71 : decode cX1_startSpeech 71 = .ok (.iastore, 1) := by decide +kernel
theorem dX1_startSpeech_72 : decode cX1_startSpeech 72 = .ok (.aload_n 0, 1) := by decide +kernel
theorem dX1_startSpeech_73 : decode cX1_startSpeech 73 = .ok (.getfield 35, 3) := by decide +kernel
theorem dX1_startSpeech_76 : decode cX1_startSpeech 76 = .ok (.getfield 190, 3) := by decide +kernel
theorem dX1_startSpeech_79 : decode cX1_startSpeech 79 = .ok (.iload_n 1, 1) := by decide +kernel
theorem dX1_startSpeech_80 : decode cX1_startSpeech 80 = .ok (.aload_n 0, 1) := by decide +kernel
theorem dX1_startSpeech_81 : decode cX1_startSpeech 81 = .ok (.getfield 39, 3) := by decide +kernel
theorem dX1_startSpeech_84 : decode cX1_startSpeech 84 = .ok (.getfield 193, 3) := by decide +kernel
theorem dX1_startSpeech_87 : decode cX1_startSpeech 87 = .ok (.iastore, 1) := by decide +kernel
theorem dX1_startSpeech_88 : decode cX1_startSpeech 88 = .ok (.aload_n 0, 1) := by decide +kernel
theorem dX1_startSpeech_89 : decode cX1_startSpeech 89 = .ok (.getfield 21, 3) := by decide +kernel
theorem dX1_startSpeech_92 : decode cX1_startSpeech 92 = .ok (.getfield 101, 3) := by decide +kernel
theorem dX1_startSpeech_95 : decode cX1_startSpeech 95 = .ok (.iload 4, 2) := by decide +kernel
theorem dX1_startSpeech_97 : decode cX1_startSpeech 97 = .ok (.iload 5, 2) := by decide +kernel
theorem dX1_startSpeech_99 : decode cX1_startSpeech 99 = .ok (.iastore, 1) := by decide +kernel
theorem dX1_startSpeech_100 : decode cX1_startSpeech 100 = .ok (.aload_n 0, 1) := by decide +kernel
theorem dX1_startSpeech_101 : decode cX1_startSpeech 101 = .ok (.getfield 12, 3) := by decide +kernel
theorem dX1_startSpeech_104 : decode cX1_startSpeech 104 = .ok (.getfield 178, 3) := by decide +kernel
theorem dX1_startSpeech_107 : decode cX1_startSpeech 107 = .ok (.iload_n 3, 1) := by decide +kernel
theorem dX1_startSpeech_108 : decode cX1_startSpeech 108 = .ok (.dup2, 1) := by decide +kernel
theorem dX1_startSpeech_109 : decode cX1_startSpeech 109 = .ok (.iaload, 1) := by decide +kernel
theorem dX1_startSpeech_110 : decode cX1_startSpeech 110 = .ok (.iconst 1, 1) := by decide +kernel
theorem dX1_startSpeech_111 : decode cX1_startSpeech 111 = .ok (.iadd, 1) := by decide +kernel
theorem dX1_startSpeech_112 : decode cX1_startSpeech 112 = .ok (.iastore, 1) := by decide +kernel
theorem dX1_startSpeech_113 : decode cX1_startSpeech 113 = .ok (.return_, 1) := by decide +kernel
theorem dX1_endSpeech_0 : decode cX1_endSpeech 0 = .ok (.aload_n 0, 1) := by decide +kernel
theorem dX1_endSpeech_1 : decode cX1_endSpeech 1 = .ok (.getfield 35, 3) := by decide +kernel
theorem dX1_endSpeech_4 : decode cX1_endSpeech 4 = .ok (.getfield 187, 3) := by decide +kernel
theorem dX1_endSpeech_7 : decode cX1_endSpeech 7 = .ok (.iload_n 1, 1) := by decide +kernel
theorem dX1_endSpeech_8 : decode cX1_endSpeech 8 = .ok (.iaload, 1) := by decide +kernel
theorem dX1_endSpeech_9 : decode cX1_endSpeech 9 = .ok (.istore_n 2, 1) := by decide +kernel
theorem dX1_endSpeech_10 : decode cX1_endSpeech 10 = .ok (.aload_n 0, 1) := by decide +kernel
theorem dX1_endSpeech_11 : decode cX1_endSpeech 11 = .ok (.getfield 35, 3) := by decide +kernel
theorem dX1_endSpeech_14 : decode cX1_endSpeech 14 = .ok (.getfield 157, 3) := by decide +kernel
theorem dX1_endSpeech_17 : decode cX1_endSpeech 17 = .ok (.iload_n 1, 1) := by decide +kernel
theorem dX1_endSpeech_18 : decode cX1_endSpeech 18 = .ok (.iaload, 1) := by decide +kernel
theorem dX1_endSpeech_19 : decode cX1_endSpeech 19 = .ok (.istore_n 3, 1) := by decide +kernel
theorem dX1_endSpeech_20 : decode cX1_endSpeech 20 = .ok (.aload_n 0, 1) := by decide +kernel
theorem dX1_endSpeech_21 : decode cX1_endSpeech 21 = .ok (.getfield 35, 3) := by decide +kernel
theorem dX1_endSpeech_24 : decode cX1_endSpeech 24 = .ok (.getfield 164, 3) := by decide +kernel
theorem dX1_endSpeech_27 : decode cX1_endSpeech 27 = .ok (.iload_n 1, 1) := by decide +kernel
theorem dX1_endSpeech_28 : decode cX1_endSpeech 28 = .ok (.iaload, 1) := by decide +kernel
theorem dX1_endSpeech_29 : decode cX1_endSpeech 29 = .ok (.aload_n 0, 1) := by decide +kernel
theorem dX1_endSpeech_30 : decode cX1_endSpeech 30 = .ok (.getfield 35, 3) := by decide +kernel
theorem dX1_endSpeech_33 : decode cX1_endSpeech 33 = .ok (.iload_n 1, 1) := by decide +kernel
theorem dX1_endSpeech_34 : decode cX1_endSpeech 34 = .ok (.invokevirtual 151, 3) := by decide +kernel
theorem dX1_endSpeech_37 : decode cX1_endSpeech 37 = .ok (.ifCond .eq 7, 3) := by decide +kernel
theorem dX1_endSpeech_40 : decode cX1_endSpeech 40 = .ok (.iconst 1, 1) := by decide +kernel
theorem dX1_endSpeech_41 : decode cX1_endSpeech 41 = .ok (.goto 4, 3) := by decide +kernel
theorem dX1_endSpeech_44 : decode cX1_endSpeech 44 = .ok (.iconst 2, 1) := by decide +kernel
theorem dX1_endSpeech_45 : decode cX1_endSpeech 45 = .ok (.imul, 1) := by decide +kernel
theorem dX1_endSpeech_46 : decode cX1_endSpeech 46 = .ok (.istore 4, 2) := by decide +kernel
theorem dX1_endSpeech_48 : decode cX1_endSpeech 48 = .ok (.iconst 0, 1) := by decide +kernel
theorem dX1_endSpeech_49 : decode cX1_endSpeech 49 = .ok (.istore 5, 2) := by decide +kernel
theorem dX1_endSpeech_51 : decode cX1_endSpeech 51 = .ok (.iload 5, 2) := by decide +kernel
theorem dX1_endSpeech_53 : decode cX1_endSpeech 53 = .ok (.aload_n 0, 1) := by decide +kernel
theorem dX1_endSpeech_54 : decode cX1_endSpeech 54 = .ok (.getfield 39, 3) := by decide +kernel
theorem dX1_endSpeech_57 : decode cX1_endSpeech 57 = .ok (.getfield 104, 3) := by decide +kernel
theorem dX1_endSpeech_60 : decode cX1_endSpeech 60 = .ok (.if_icmp .ge 51, 3) := by decide +kernel
theorem dX1_endSpeech_63 : decode cX1_endSpeech 63 = .ok (.iload 5, 2) := by decide +kernel
theorem dX1_endSpeech_65 : decode cX1_endSpeech 65 = .ok (.iload_n 2, 1) := by decide +kernel
theorem dX1_endSpeech_66 : decode cX1_endSpeech 66 = .ok (.if_icmp .eq 39, 3) := by decide +kernel
theorem dX1_endSpeech_69 : decode cX1_endSpeech 69 = .ok (.aload_n 0, 1) := by decide +kernel
theorem dX1_endSpeech_70 : decode cX1_endSpeech 70 = .ok (.getfield 39, 3) := by decide +kernel
theorem dX1_endSpeech_73 : decode cX1_endSpeech 73 = .ok (.iload 5, 2) := by decide +kernel
theorem dX1_endSpeech_75 : decode cX1_endSpeech 75 = .ok (.iload_n 2, 1) := by decide +kernel
theorem dX1_endSpeech_76 : decode cX1_endSpeech 76 = .ok (.invokevirtual 196, 3) := by decide +kernel
theorem dX1_endSpeech_79 : decode cX1_endSpeech 79 = .ok (.ifCond .eq 26, 3) := by decide +kernel
theorem dX1_endSpeech_82 : decode cX1_endSpeech 82 = .ok (.aload_n 0, 1) := by decide +kernel
theorem dX1_endSpeech_83 : decode cX1_endSpeech 83 = .ok (.getfield 21, 3) := by decide +kernel
theorem dX1_endSpeech_86 : decode cX1_endSpeech 86 = .ok (.iload 5, 2) := by decide +kernel
theorem dX1_endSpeech_88 : decode cX1_endSpeech 88 = .ok (.iload_n 3, 1) := by decide +kernel
theorem dX1_endSpeech_89 : decode cX1_endSpeech 89 = .ok (.aload_n 0, 1) := by decide +kernel
theorem dX1_endSpeech_90 : decode cX1_endSpeech 90 = .ok (.getfield 21, 3) := by decide +kernel
theorem dX1_endSpeech_93 : decode cX1_endSpeech 93 = .ok (.iload 5, 2) := by decide +kernel
theorem dX1_endSpeech_95 : decode cX1_endSpeech 95 = .ok (.iload_n 3, 1) := by decide +kernel
theorem dX1_endSpeech_96 : decode cX1_endSpeech 96 = .ok (.invokevirtual 160, 3) := by decide +kernel
theorem dX1_endSpeech_99 : decode cX1_endSpeech 99 = .ok (.iload 4, 2) := by decide +kernel
theorem dX1_endSpeech_101 : decode cX1_endSpeech 101 = .ok (.iadd, 1) := by decide +kernel
theorem dX1_endSpeech_102 : decode cX1_endSpeech 102 = .ok (.invokevirtual 116, 3) := by decide +kernel
theorem dX1_endSpeech_105 : decode cX1_endSpeech 105 = .ok (.iinc 5 1, 3) := by decide +kernel
theorem dX1_endSpeech_108 : decode cX1_endSpeech 108 = .ok (.goto (-57), 3) := by decide +kernel
theorem dX1_endSpeech_111 : decode cX1_endSpeech 111 = .ok (.aload_n 0, 1) := by decide +kernel
theorem dX1_endSpeech_112 : decode cX1_endSpeech 112 = .ok (.getfield 21, 3) := by decide +kernel
theorem dX1_endSpeech_115 : decode cX1_endSpeech 115 = .ok (.getfield 98, 3) := by decide +kernel
theorem dX1_endSpeech_118 : decode cX1_endSpeech 118 = .ok (.iload_n 3, 1) := by decide +kernel
theorem dX1_endSpeech_119 : decode cX1_endSpeech 119 = .ok (.aload_n 0, 1) := by decide +kernel
theorem dX1_endSpeech_120 : decode cX1_endSpeech 120 = .ok (.getfield 21, 3) := by decide +kernel
theorem dX1_endSpeech_123 : decode cX1_endSpeech 123 = .ok (.getfield 98, 3) := by decide +kernel
theorem dX1_endSpeech_126 : decode cX1_endSpeech 126 = .ok (.iload_n 3, 1) := by decide +kernel
theorem dX1_endSpeech_127 : decode cX1_endSpeech 127 = .ok (.iaload, 1) := by decide +kernel
theorem dX1_endSpeech_128 : decode cX1_endSpeech 128 = .ok (.iconst 1, 1) := by decide +kernel
theorem dX1_endSpeech_129 : decode cX1_endSpeech 129 = .ok (.iadd, 1) := by decide +kernel
theorem dX1_endSpeech_130 : decode cX1_endSpeech 130 = .ok (.bipush 9, 2) := by decide +kernel
theorem dX1_endSpeech_132 : decode cX1_endSpeech 132 = .ok (.invokestatic 200, 3) := by decide +kernel
theorem dX1_endSpeech_135 : decode cX1_endSpeech 135 = .ok (.iastore, 1) := by decide +kernel
theorem dX1_endSpeech_136 : decode cX1_endSpeech 136 = .ok (.aload_n 0, 1) := by decide +kernel
theorem dX1_endSpeech_137 : decode cX1_endSpeech 137 = .ok (.getfield 35, 3) := by decide +kernel
theorem dX1_endSpeech_140 : decode cX1_endSpeech 140 = .ok (.iload_n 1, 1) := by decide +kernel
theorem dX1_endSpeech_141 : decode cX1_endSpeech 141 = .ok (.invokevirtual 203, 3) := by decide +kernel
theorem dX1_endSpeech_144 : decode cX1_endSpeech 144 = .ok (.return_, 1) := by decide +kernel
theorem dX1_refusalOfWait_0 : decode cX1_refusalOfWait 0 = .ok (.iload_n 1, 1) := by decide +kernel
theorem dX1_refusalOfWait_1 : decode cX1_refusalOfWait 1 = .ok (.iconst 1, 1) := by decide +kernel
theorem dX1_refusalOfWait_2 : decode cX1_refusalOfWait 2 = .ok (.if_icmp .lt 9, 3) := by decide +kernel
theorem dX1_refusalOfWait_5 : decode cX1_refusalOfWait 5 = .ok (.iload_n 1, 1) := by decide +kernel
theorem dX1_refusalOfWait_6 : decode cX1_refusalOfWait 6 = .ok (.bipush 60, 2) := by decide +kernel
theorem dX1_refusalOfWait_8 : decode cX1_refusalOfWait 8 = .ok (.if_icmp .le 5, 3) := by decide +kernel
theorem dX1_refusalOfWait_11 : decode cX1_refusalOfWait 11 = .ok (.iconst 2, 1) := by decide +kernel
theorem dX1_refusalOfWait_12 : decode cX1_refusalOfWait 12 = .ok (.ireturn, 1) := by decide +kernel
theorem dX1_refusalOfWait_13 : decode cX1_refusalOfWait 13 = .ok (.aload_n 0, 1) := by decide +kernel
theorem dX1_refusalOfWait_14 : decode cX1_refusalOfWait 14 = .ok (.getfield 54, 3) := by decide +kernel
theorem dX1_refusalOfWait_17 : decode cX1_refusalOfWait 17 = .ok (.iload_n 1, 1) := by decide +kernel
theorem dX1_refusalOfWait_18 : decode cX1_refusalOfWait 18 = .ok (.iadd, 1) := by decide +kernel
theorem dX1_refusalOfWait_19 : decode cX1_refusalOfWait 19 = .ok (.sipush 9999, 3) := by decide +kernel
theorem dX1_refusalOfWait_22 : decode cX1_refusalOfWait 22 = .ok (.if_icmp .le 7, 3) := by decide +kernel
theorem dX1_refusalOfWait_25 : decode cX1_refusalOfWait 25 = .ok (.iconst 3, 1) := by decide +kernel
theorem dX1_refusalOfWait_26 : decode cX1_refusalOfWait 26 = .ok (.goto 4, 3) := by decide +kernel
theorem dX1_refusalOfWait_29 : decode cX1_refusalOfWait 29 = .ok (.iconst 0, 1) := by decide +kernel
theorem dX1_refusalOfWait_30 : decode cX1_refusalOfWait 30 = .ok (.ireturn, 1) := by decide +kernel
theorem dX1_passMinutes_0 : decode cX1_passMinutes 0 = .ok (.iconst 0, 1) := by decide +kernel
theorem dX1_passMinutes_1 : decode cX1_passMinutes 1 = .ok (.istore_n 2, 1) := by decide +kernel
theorem dX1_passMinutes_2 : decode cX1_passMinutes 2 = .ok (.iconst 0, 1) := by decide +kernel
theorem dX1_passMinutes_3 : decode cX1_passMinutes 3 = .ok (.istore_n 3, 1) := by decide +kernel
theorem dX1_passMinutes_4 : decode cX1_passMinutes 4 = .ok (.iload_n 3, 1) := by decide +kernel
theorem dX1_passMinutes_5 : decode cX1_passMinutes 5 = .ok (.iload_n 1, 1) := by decide +kernel
theorem dX1_passMinutes_6 : decode cX1_passMinutes 6 = .ok (.if_icmp .ge 16, 3) := by decide +kernel
theorem dX1_passMinutes_9 : decode cX1_passMinutes 9 = .ok (.iload_n 2, 1) := by decide +kernel
theorem dX1_passMinutes_10 : decode cX1_passMinutes 10 = .ok (.aload_n 0, 1) := by decide +kernel
theorem dX1_passMinutes_11 : decode cX1_passMinutes 11 = .ok (.invokevirtual 206, 3) := by decide +kernel
theorem dX1_passMinutes_14 : decode cX1_passMinutes 14 = .ok (.iadd, 1) := by decide +kernel
theorem dX1_passMinutes_15 : decode cX1_passMinutes 15 = .ok (.istore_n 2, 1) := by decide +kernel
theorem dX1_passMinutes_16 : decode cX1_passMinutes 16 = .ok (.iinc 3 1, 3) := by decide +kernel
theorem dX1_passMinutes_19 : decode cX1_passMinutes 19 = .ok (.goto (-15), 3) := by decide +kernel
theorem dX1_passMinutes_22 : decode cX1_passMinutes 22 = .ok (.iload_n 2, 1) := by decide +kernel
theorem dX1_passMinutes_23 : decode cX1_passMinutes 23 = .ok (.ireturn, 1) := by decide +kernel
theorem dX1_passMinute_0 : decode cX1_passMinute 0 = .ok (.aload_n 0, 1) := by decide +kernel
theorem dX1_passMinute_1 : decode cX1_passMinute 1 = .ok (.dup, 1) := by decide +kernel
theorem dX1_passMinute_2 : decode cX1_passMinute 2 = .ok (.getfield 54, 3) := by decide +kernel
theorem dX1_passMinute_5 : decode cX1_passMinute 5 = .ok (.iconst 1, 1) := by decide +kernel
theorem dX1_passMinute_6 : decode cX1_passMinute 6 = .ok (.iadd, 1) := by decide +kernel
theorem dX1_passMinute_7 : decode cX1_passMinute 7 = .ok (.putfield 54, 3) := by decide +kernel
theorem dX1_passMinute_10 : decode cX1_passMinute 10 = .ok (.aload_n 0, 1) := by decide +kernel
theorem dX1_passMinute_11 : decode cX1_passMinute 11 = .ok (.getfield 39, 3) := by decide +kernel
theorem dX1_passMinute_14 : decode cX1_passMinute 14 = .ok (.getfield 209, 3) := by decide +kernel
theorem dX1_passMinute_17 : decode cX1_passMinute 17 = .ok (.ifCond .le 25, 3) := by decide +kernel
theorem dX1_passMinute_20 : decode cX1_passMinute 20 = .ok (.aload_n 0, 1) := by decide +kernel
theorem dX1_passMinute_21 : decode cX1_passMinute 21 = .ok (.getfield 54, 3) := by decide +kernel
theorem dX1_passMinute_24 : decode cX1_passMinute 24 = .ok (.aload_n 0, 1) := by decide +kernel
theorem dX1_passMinute_25 : decode cX1_passMinute 25 = .ok (.getfield 39, 3) := by decide +kernel
theorem dX1_passMinute_28 : decode cX1_passMinute 28 = .ok (.getfield 209, 3) := by decide +kernel
theorem dX1_passMinute_31 : decode cX1_passMinute 31 = .ok (.irem, 1) := by decide +kernel
theorem dX1_passMinute_32 : decode cX1_passMinute 32 = .ok (.ifCond .ne 10, 3) := by decide +kernel
theorem dX1_passMinute_35 : decode cX1_passMinute 35 = .ok (.aload_n 0, 1) := by decide +kernel
theorem dX1_passMinute_36 : decode cX1_passMinute 36 = .ok (.getfield 21, 3) := by decide +kernel
theorem dX1_passMinute_39 : decode cX1_passMinute 39 = .ok (.invokevirtual 212, 3) := by decide +kernel
theorem dX1_passMinute_42 : decode cX1_passMinute 42 = .ok (.iconst 0, 1) := by decide +kernel
theorem dX1_passMinute_43 : decode cX1_passMinute 43 = .ok (.istore_n 1, 1) := by decide +kernel
theorem dX1_passMinute_44 : decode cX1_passMinute 44 = .ok (.iconst 0, 1) := by decide +kernel
theorem dX1_passMinute_45 : decode cX1_passMinute 45 = .ok (.istore_n 2, 1) := by decide +kernel
theorem dX1_passMinute_46 : decode cX1_passMinute 46 = .ok (.iload_n 2, 1) := by decide +kernel
theorem dX1_passMinute_47 : decode cX1_passMinute 47 = .ok (.aload_n 0, 1) := by decide +kernel
theorem dX1_passMinute_48 : decode cX1_passMinute 48 = .ok (.getfield 39, 3) := by decide +kernel
theorem dX1_passMinute_51 : decode cX1_passMinute 51 = .ok (.getfield 215, 3) := by decide +kernel
theorem dX1_passMinute_54 : decode cX1_passMinute 54 = .ok (.if_icmp .ge 53, 3) := by decide +kernel
theorem dX1_passMinute_57 : decode cX1_passMinute 57 = .ok (.aload_n 0, 1) := by decide +kernel
theorem dX1_passMinute_58 : decode cX1_passMinute 58 = .ok (.getfield 35, 3) := by decide +kernel
theorem dX1_passMinute_61 : decode cX1_passMinute 61 = .ok (.iload_n 2, 1) := by decide +kernel
theorem dX1_passMinute_62 : decode cX1_passMinute 62 = .ok (.invokevirtual 148, 3) := by decide +kernel
theorem dX1_passMinute_65 : decode cX1_passMinute 65 = .ok (.ifCond .ne 36, 3) := by decide +kernel
theorem dX1_passMinute_68 : decode cX1_passMinute 68 = .ok (.aload_n 0, 1) := by decide +kernel
theorem dX1_passMinute_69 : decode cX1_passMinute 69 = .ok (.getfield 35, 3) := by decide +kernel
theorem dX1_passMinute_72 : decode cX1_passMinute 72 = .ok (.getfield 190, 3) := by decide +kernel
theorem dX1_passMinute_75 : decode cX1_passMinute 75 = .ok (.iload_n 2, 1) := by decide +kernel
theorem dX1_passMinute_76 : decode cX1_passMinute 76 = .ok (.dup2, 1) := by decide +kernel
theorem dX1_passMinute_77 : decode cX1_passMinute 77 = .ok (.iaload, 1) := by decide +kernel
theorem dX1_passMinute_78 : decode cX1_passMinute 78 = .ok (.iconst 1, 1) := by decide +kernel
theorem dX1_passMinute_79 : decode cX1_passMinute 79 = .ok (.isub, 1) := by decide +kernel
theorem dX1_passMinute_80 : decode cX1_passMinute 80 = .ok (.iastore, 1) := by decide +kernel
theorem dX1_passMinute_81 : decode cX1_passMinute 81 = .ok (.aload_n 0, 1) := by decide +kernel
theorem dX1_passMinute_82 : decode cX1_passMinute 82 = .ok (.getfield 35, 3) := by decide +kernel
theorem dX1_passMinute_85 : decode cX1_passMinute 85 = .ok (.getfield 190, 3) := by decide +kernel
theorem dX1_passMinute_88 : decode cX1_passMinute 88 = .ok (.iload_n 2, 1) := by decide +kernel
theorem dX1_passMinute_89 : decode cX1_passMinute 89 = .ok (.iaload, 1) := by decide +kernel
theorem dX1_passMinute_90 : decode cX1_passMinute 90 = .ok (.ifCond .ne 11, 3) := by decide +kernel
theorem dX1_passMinute_93 : decode cX1_passMinute 93 = .ok (.aload_n 0, 1) := by decide +kernel
theorem dX1_passMinute_94 : decode cX1_passMinute 94 = .ok (.iload_n 2, 1) := by decide +kernel
theorem dX1_passMinute_95 : decode cX1_passMinute 95 = .ok (.invokevirtual 217, 3) := by decide +kernel
theorem dX1_passMinute_98 : decode cX1_passMinute 98 = .ok (.iinc 1 1, 3) := by decide +kernel
theorem dX1_passMinute_101 : decode cX1_passMinute 101 = .ok (.iinc 2 1, 3) := by decide +kernel
theorem dX1_passMinute_104 : decode cX1_passMinute 104 = .ok (.goto (-58), 3) := by decide +kernel
theorem dX1_passMinute_107 : decode cX1_passMinute 107 = .ok (.iconst 0, 1) := by decide +kernel
theorem dX1_passMinute_108 : decode cX1_passMinute 108 = .ok (.istore_n 2, 1) := by decide +kernel
theorem dX1_passMinute_109 : decode cX1_passMinute 109 = .ok (.iload_n 2, 1) := by decide +kernel
theorem dX1_passMinute_110 : decode cX1_passMinute 110 = .ok (.aload_n 0, 1) := by decide +kernel
theorem dX1_passMinute_111 : decode cX1_passMinute 111 = .ok (.getfield 39, 3) := by decide +kernel
theorem dX1_passMinute_114 : decode cX1_passMinute 114 = .ok (.getfield 215, 3) := by decide +kernel
theorem dX1_passMinute_117 : decode cX1_passMinute 117 = .ok (.if_icmp .ge 40, 3) := by decide +kernel
theorem dX1_passMinute_120 : decode cX1_passMinute 120 = .ok (.aload_n 0, 1) := by decide +kernel
theorem dX1_passMinute_121 : decode cX1_passMinute 121 = .ok (.aload_n 0, 1) := by decide +kernel
theorem dX1_passMinute_122 : decode cX1_passMinute 122 = .ok (.getfield 57, 3) := by decide +kernel
theorem dX1_passMinute_125 : decode cX1_passMinute 125 = .ok (.invokevirtual 220, 3) := by decide +kernel
theorem dX1_passMinute_128 : decode cX1_passMinute 128 = .ok (.istore_n 3, 1) := by decide +kernel
theorem dX1_passMinute_129 : decode cX1_passMinute 129 = .ok (.aload_n 0, 1) := by decide +kernel
theorem dX1_passMinute_130 : decode cX1_passMinute 130 = .ok (.getfield 35, 3) := by decide +kernel
theorem dX1_passMinute_133 : decode cX1_passMinute 133 = .ok (.iload_n 2, 1) := by decide +kernel
theorem dX1_passMinute_134 : decode cX1_passMinute 134 = .ok (.invokevirtual 148, 3) := by decide +kernel
theorem dX1_passMinute_137 : decode cX1_passMinute 137 = .ok (.ifCond .eq 14, 3) := by decide +kernel
theorem dX1_passMinute_140 : decode cX1_passMinute 140 = .ok (.iload_n 3, 1) := by decide +kernel
theorem dX1_passMinute_141 : decode cX1_passMinute 141 = .ok (.iconst (-1), 1) := by decide +kernel
theorem dX1_passMinute_142 : decode cX1_passMinute 142 = .ok (.if_icmp .eq 9, 3) := by decide +kernel
theorem dX1_passMinute_145 : decode cX1_passMinute 145 = .ok (.aload_n 0, 1) := by decide +kernel
theorem dX1_passMinute_146 : decode cX1_passMinute 146 = .ok (.iload_n 2, 1) := by decide +kernel
theorem dX1_passMinute_147 : decode cX1_passMinute 147 = .ok (.iload_n 3, 1) := by decide +kernel
theorem dX1_passMinute_148 : decode cX1_passMinute 148 = .ok (.invokevirtual 223, 3) := by decide +kernel
theorem dX1_passMinute_151 : decode cX1_passMinute 151 = .ok (.iinc 2 1, 3) := by decide +kernel
theorem dX1_passMinute_154 : decode cX1_passMinute 154 = .ok (.goto (-45), 3) := by decide +kernel
theorem dX1_passMinute_157 : decode cX1_passMinute 157 = .ok (.iload_n 1, 1) := by decide +kernel
theorem dX1_passMinute_158 : decode cX1_passMinute 158 = .ok (.ireturn, 1) := by decide +kernel
theorem dX1_voteOf_0 : decode cX1_voteOf 0 = .ok (.aload_n 0, 1) := by decide +kernel
theorem dX1_voteOf_1 : decode cX1_voteOf 1 = .ok (.getfield 21, 3) := by decide +kernel
theorem dX1_voteOf_4 : decode cX1_voteOf 4 = .ok (.iload_n 1, 1) := by decide +kernel
theorem dX1_voteOf_5 : decode cX1_voteOf 5 = .ok (.iload_n 2, 1) := by decide +kernel
theorem dX1_voteOf_6 : decode cX1_voteOf 6 = .ok (.invokevirtual 160, 3) := by decide +kernel
theorem dX1_voteOf_9 : decode cX1_voteOf 9 = .ok (.istore_n 3, 1) := by decide +kernel
theorem dX1_voteOf_10 : decode cX1_voteOf 10 = .ok (.aload_n 0, 1) := by decide +kernel
theorem dX1_voteOf_11 : decode cX1_voteOf 11 = .ok (.getfield 12, 3) := by decide +kernel
theorem dX1_voteOf_14 : decode cX1_voteOf 14 = .ok (.getfield 227, 3) := by decide +kernel
theorem dX1_voteOf_17 : decode cX1_voteOf 17 = .ok (.iload_n 1, 1) := by decide +kernel
theorem dX1_voteOf_18 : decode cX1_voteOf 18 = .ok (.iaload, 1) := by decide +kernel
theorem dX1_voteOf_19 : decode cX1_voteOf 19 = .ok (.ifCond .eq 7, 3) := by decide +kernel
theorem dX1_voteOf_22 : decode cX1_voteOf 22 = .ok (.iload_n 3, 1) := by decide +kernel
theorem dX1_voteOf_23 : decode cX1_voteOf 23 = .ok (.ifCond .ne 5, 3) := by decide +kernel
theorem dX1_voteOf_26 : decode cX1_voteOf 26 = .ok (.iconst 0, 1) := by decide +kernel
theorem dX1_voteOf_27 : decode cX1_voteOf 27 = .ok (.ireturn, 1) := by decide +kernel
theorem dX1_voteOf_28 : decode cX1_voteOf 28 = .ok (.iload_n 3, 1) := by decide +kernel
theorem dX1_voteOf_29 : decode cX1_voteOf 29 = .ok (.ifCond .le 7, 3) := by decide +kernel
theorem dX1_voteOf_32 : decode cX1_voteOf 32 = .ok (.iconst 1, 1) := by decide +kernel
theorem dX1_voteOf_33 : decode cX1_voteOf 33 = .ok (.goto 4, 3) := by decide +kernel
theorem dX1_voteOf_36 : decode cX1_voteOf 36 = .ok (.iconst (-1), 1) := by decide +kernel
theorem dX1_voteOf_37 : decode cX1_voteOf 37 = .ok (.ireturn, 1) := by decide +kernel
theorem dX1_countVoters_0 : decode cX1_countVoters 0 = .ok (.iconst 0, 1) := by decide +kernel
theorem dX1_countVoters_1 : decode cX1_countVoters 1 = .ok (.istore_n 2, 1) := by decide +kernel
theorem dX1_countVoters_2 : decode cX1_countVoters 2 = .ok (.iconst 0, 1) := by decide +kernel
theorem dX1_countVoters_3 : decode cX1_countVoters 3 = .ok (.istore_n 3, 1) := by decide +kernel
theorem dX1_countVoters_4 : decode cX1_countVoters 4 = .ok (.iload_n 3, 1) := by decide +kernel
theorem dX1_countVoters_5 : decode cX1_countVoters 5 = .ok (.aload_n 0, 1) := by decide +kernel
theorem dX1_countVoters_6 : decode cX1_countVoters 6 = .ok (.getfield 39, 3) := by decide +kernel
theorem dX1_countVoters_9 : decode cX1_countVoters 9 = .ok (.getfield 104, 3) := by decide +kernel
theorem dX1_countVoters_12 : decode cX1_countVoters 12 = .ok (.if_icmp .ge 21, 3) := by decide +kernel
theorem dX1_countVoters_15 : decode cX1_countVoters 15 = .ok (.aload_n 0, 1) := by decide +kernel
theorem dX1_countVoters_16 : decode cX1_countVoters 16 = .ok (.iload_n 3, 1) := by decide +kernel
theorem dX1_countVoters_17 : decode cX1_countVoters 17 = .ok (.iload_n 1, 1) := by decide +kernel
theorem dX1_countVoters_18 : decode cX1_countVoters 18 = .ok (.invokevirtual 230, 3) := by decide +kernel
theorem dX1_countVoters_21 : decode cX1_countVoters 21 = .ok (.ifCond .eq 6, 3) := by decide +kernel
theorem dX1_countVoters_24 : decode cX1_countVoters 24 = .ok (.iinc 2 1, 3) := by decide +kernel
theorem dX1_countVoters_27 : decode cX1_countVoters 27 = .ok (.iinc 3 1, 3) := by decide +kernel
theorem dX1_countVoters_30 : decode cX1_countVoters 30 = .ok (.goto (-26), 3) := by decide +kernel
theorem dX1_countVoters_33 : decode cX1_countVoters 33 = .ok (.iload_n 2, 1) := by decide +kernel
theorem dX1_countVoters_34 : decode cX1_countVoters 34 = .ok (.ireturn, 1) := by decide +kernel
theorem dX1_weightOfVotes_0 : decode cX1_weightOfVotes 0 = .ok (.iconst 0, 1) := by decide +kernel
theorem dX1_weightOfVotes_1 : decode cX1_weightOfVotes 1 = .ok (.istore_n 3, 1) := by decide +kernel
theorem dX1_weightOfVotes_2 : decode cX1_weightOfVotes 2 = .ok (.iconst 0, 1) := by decide +kernel
theorem dX1_weightOfVotes_3 : decode cX1_weightOfVotes 3 = .ok (.istore 4, 2) := by decide +kernel
theorem dX1_weightOfVotes_5 : decode cX1_weightOfVotes 5 = .ok (.iload 4, 2) := by decide +kernel
theorem dX1_weightOfVotes_7 : decode cX1_weightOfVotes 7 = .ok (.aload_n 0, 1) := by decide +kernel
theorem dX1_weightOfVotes_8 : decode cX1_weightOfVotes 8 = .ok (.getfield 39, 3) := by decide +kernel
theorem dX1_weightOfVotes_11 : decode cX1_weightOfVotes 11 = .ok (.getfield 104, 3) := by decide +kernel
theorem dX1_weightOfVotes_14 : decode cX1_weightOfVotes 14 = .ok (.if_icmp .ge 33, 3) := by decide +kernel
theorem dX1_weightOfVotes_17 : decode cX1_weightOfVotes 17 = .ok (.aload_n 0, 1) := by decide +kernel
theorem dX1_weightOfVotes_18 : decode cX1_weightOfVotes 18 = .ok (.iload 4, 2) := by decide +kernel
theorem dX1_weightOfVotes_20 : decode cX1_weightOfVotes 20 = .ok (.iload_n 1, 1) := by decide +kernel
theorem dX1_weightOfVotes_21 : decode cX1_weightOfVotes 21 = .ok (.invokevirtual 230, 3) := by decide +kernel
theorem dX1_weightOfVotes_24 : decode cX1_weightOfVotes 24 = .ok (.iload_n 2, 1) := by decide +kernel
theorem dX1_weightOfVotes_25 : decode cX1_weightOfVotes 25 = .ok (.if_icmp .ne 16, 3) := by decide +kernel
theorem dX1_weightOfVotes_28 : decode cX1_weightOfVotes 28 = .ok (.iload_n 3, 1) := by decide +kernel
theorem dX1_weightOfVotes_29 : decode cX1_weightOfVotes 29 = .ok (.aload_n 0, 1) := by decide +kernel
theorem dX1_weightOfVotes_30 : decode cX1_weightOfVotes 30 = .ok (.getfield 39, 3) := by decide +kernel
theorem dX1_weightOfVotes_33 : decode cX1_weightOfVotes 33 = .ok (.getfield 175, 3) := by decide +kernel
theorem dX1_weightOfVotes_36 : decode cX1_weightOfVotes 36 = .ok (.iload 4, 2) := by decide +kernel
theorem dX1_weightOfVotes_38 : decode cX1_weightOfVotes 38 = .ok (.iaload, 1) := by decide +kernel
theorem dX1_weightOfVotes_39 : decode cX1_weightOfVotes 39 = .ok (.iadd, 1) := by decide +kernel
theorem dX1_weightOfVotes_40 : decode cX1_weightOfVotes 40 = .ok (.istore_n 3, 1) := by decide +kernel
theorem dX1_weightOfVotes_41 : decode cX1_weightOfVotes 41 = .ok (.iinc 4 1, 3) := by decide +kernel
theorem dX1_weightOfVotes_44 : decode cX1_weightOfVotes 44 = .ok (.goto (-39), 3) := by decide +kernel
theorem dX1_weightOfVotes_47 : decode cX1_weightOfVotes 47 = .ok (.iload_n 3, 1) := by decide +kernel
theorem dX1_weightOfVotes_48 : decode cX1_weightOfVotes 48 = .ok (.ireturn, 1) := by decide +kernel
theorem dX1_marginOf_0 : decode cX1_marginOf 0 = .ok (.aload_n 0, 1) := by decide +kernel
theorem dX1_marginOf_1 : decode cX1_marginOf 1 = .ok (.iload_n 1, 1) := by decide +kernel
theorem dX1_marginOf_2 : decode cX1_marginOf 2 = .ok (.iconst 1, 1) := by decide +kernel
theorem dX1_marginOf_3 : decode cX1_marginOf 3 = .ok (.invokevirtual 233, 3) := by decide +kernel
theorem dX1_marginOf_6 : decode cX1_marginOf 6 = .ok (.aload_n 0, 1) := by decide +kernel
theorem dX1_marginOf_7 : decode cX1_marginOf 7 = .ok (.iload_n 1, 1) := by decide +kernel
theorem dX1_marginOf_8 : decode cX1_marginOf 8 = .ok (.iconst (-1), 1) := by decide +kernel
theorem dX1_marginOf_9 : decode cX1_marginOf 9 = .ok (.invokevirtual 233, 3) := by decide +kernel
theorem dX1_marginOf_12 : decode cX1_marginOf 12 = .ok (.isub, 1) := by decide +kernel
theorem dX1_marginOf_13 : decode cX1_marginOf 13 = .ok (.ireturn, 1) := by decide +kernel
theorem dX1_lightestTurner_0 : decode cX1_lightestTurner 0 = .ok (.aload_n 0, 1) := by decide +kernel
theorem dX1_lightestTurner_1 : decode cX1_lightestTurner 1 = .ok (.iload_n 1, 1) := by decide +kernel
theorem dX1_lightestTurner_2 : decode cX1_lightestTurner 2 = .ok (.invokevirtual 236, 3) := by decide +kernel
theorem dX1_lightestTurner_5 : decode cX1_lightestTurner 5 = .ok (.istore_n 2, 1) := by decide +kernel
theorem dX1_lightestTurner_6 : decode cX1_lightestTurner 6 = .ok (.iconst (-1), 1) := by decide +kernel
theorem dX1_lightestTurner_7 : decode cX1_lightestTurner 7 = .ok (.istore_n 3, 1) := by decide +kernel
theorem dX1_lightestTurner_8 : decode cX1_lightestTurner 8 = .ok (.iconst 0, 1) := by decide +kernel
theorem dX1_lightestTurner_9 : decode cX1_lightestTurner 9 = .ok (.istore 4, 2) := by decide +kernel
theorem dX1_lightestTurner_11 : decode cX1_lightestTurner 11 = .ok (.iconst 0, 1) := by decide +kernel
theorem dX1_lightestTurner_12 : decode cX1_lightestTurner 12 = .ok (.istore 5, 2) := by decide +kernel
theorem dX1_lightestTurner_14 : decode cX1_lightestTurner 14 = .ok (.iload 5, 2) := by decide +kernel
theorem dX1_lightestTurner_16 : decode cX1_lightestTurner 16 = .ok (.aload_n 0, 1) := by decide +kernel
theorem dX1_lightestTurner_17 : decode cX1_lightestTurner 17 = .ok (.getfield 39, 3) := by decide +kernel
theorem dX1_lightestTurner_20 : decode cX1_lightestTurner 20 = .ok (.getfield 104, 3) := by decide +kernel
theorem dX1_lightestTurner_23 : decode cX1_lightestTurner 23 = .ok (.if_icmp .ge 94, 3) := by decide +kernel
theorem dX1_lightestTurner_26 : decode cX1_lightestTurner 26 = .ok (.aload_n 0, 1) := by decide +kernel
theorem dX1_lightestTurner_27 : decode cX1_lightestTurner 27 = .ok (.iload 5, 2) := by decide +kernel
theorem dX1_lightestTurner_29 : decode cX1_lightestTurner 29 = .ok (.iload_n 1, 1) := by decide +kernel
theorem dX1_lightestTurner_30 : decode cX1_lightestTurner 30 = .ok (.invokevirtual 230, 3) := by decide +kernel
theorem dX1_lightestTurner_33 : decode cX1_lightestTurner 33 = .ok (.istore 6, 2) := by decide +kernel
theorem dX1_lightestTurner_35 : decode cX1_lightestTurner 35 = .ok (.aload_n 0, 1) := by decide +kernel
theorem dX1_lightestTurner_36 : decode cX1_lightestTurner 36 = .ok (.getfield 39, 3) := by decide +kernel
theorem dX1_lightestTurner_39 : decode cX1_lightestTurner 39 = .ok (.getfield 175, 3) := by decide +kernel
theorem dX1_lightestTurner_42 : decode cX1_lightestTurner 42 = .ok (.iload 5, 2) := by decide +kernel
theorem dX1_lightestTurner_44 : decode cX1_lightestTurner 44 = .ok (.iaload, 1) := by decide +kernel
theorem dX1_lightestTurner_45 : decode cX1_lightestTurner 45 = .ok (.istore 7, 2) := by decide +kernel
theorem dX1_lightestTurner_47 : decode cX1_lightestTurner 47 = .ok (.iload_n 2, 1) := by decide +kernel
theorem dX1_lightestTurner_48 : decode cX1_lightestTurner 48 = .ok (.iconst 2, 1) := by decide +kernel
theorem dX1_lightestTurner_49 : decode cX1_lightestTurner 49 = .ok (.iload 6, 2) := by decide +kernel
theorem dX1_lightestTurner_51 : decode cX1_lightestTurner 51 = .ok (.imul, 1) := by decide +kernel
theorem dX1_lightestTurner_52 : decode cX1_lightestTurner 52 = .ok (.iload 7, 2) := by decide +kernel
theorem dX1_lightestTurner_54 : decode cX1_lightestTurner 54 = .ok (.imul, 1) := by decide +kernel
theorem dX1_lightestTurner_55 : decode cX1_lightestTurner 55 = .ok (.isub, 1) := by decide +kernel
theorem dX1_lightestTurner_56 : decode cX1_lightestTurner 56 = .ok (.istore 8, 2) := by decide +kernel
theorem dX1_lightestTurner_58 : decode cX1_lightestTurner 58 = .ok (.iload 8, 2) := by decide +kernel
theorem dX1_lightestTurner_60 : decode cX1_lightestTurner 60 = .ok (.ifCond .le 7, 3) := by decide +kernel
theorem dX1_lightestTurner_63 : decode cX1_lightestTurner 63 = .ok (.iconst 1, 1) := by decide +kernel
theorem dX1_lightestTurner_64 : decode cX1_lightestTurner 64 = .ok (.goto 4, 3) := by decide +kernel
theorem dX1_lightestTurner_67 : decode cX1_lightestTurner 67 = .ok (.iconst 0, 1) := by decide +kernel
theorem dX1_lightestTurner_68 : decode cX1_lightestTurner 68 = .ok (.iload_n 2, 1) := by decide +kernel
theorem dX1_lightestTurner_69 : decode cX1_lightestTurner 69 = .ok (.ifCond .le 7, 3) := by decide +kernel
theorem dX1_lightestTurner_72 : decode cX1_lightestTurner 72 = .ok (.iconst 1, 1) := by decide +kernel
theorem dX1_lightestTurner_73 : decode cX1_lightestTurner 73 = .ok (.goto 4, 3) := by decide +kernel
theorem dX1_lightestTurner_76 : decode cX1_lightestTurner 76 = .ok (.iconst 0, 1) := by decide +kernel
theorem dX1_lightestTurner_77 : decode cX1_lightestTurner 77 = .ok (.if_icmp .eq 7, 3) := by decide +kernel
theorem dX1_lightestTurner_80 : decode cX1_lightestTurner 80 = .ok (.iconst 1, 1) := by decide +kernel
theorem dX1_lightestTurner_81 : decode cX1_lightestTurner 81 = .ok (.goto 4, 3) := by decide +kernel
theorem dX1_lightestTurner_84 : decode cX1_lightestTurner 84 = .ok (.iconst 0, 1) := by decide +kernel
theorem dX1_lightestTurner_85 : decode cX1_lightestTurner 85 = .ok (.istore 9, 2) := by decide +kernel
theorem dX1_lightestTurner_87 : decode cX1_lightestTurner 87 = .ok (.iload 9, 2) := by decide +kernel
theorem dX1_lightestTurner_89 : decode cX1_lightestTurner 89 = .ok (.ifCond .eq 22, 3) := by decide +kernel
theorem dX1_lightestTurner_92 : decode cX1_lightestTurner 92 = .ok (.iload_n 3, 1) := by decide +kernel
theorem dX1_lightestTurner_93 : decode cX1_lightestTurner 93 = .ok (.iconst (-1), 1) := by decide +kernel
theorem dX1_lightestTurner_94 : decode cX1_lightestTurner 94 = .ok (.if_icmp .eq 10, 3) := by decide +kernel
theorem dX1_lightestTurner_97 : decode cX1_lightestTurner 97 = .ok (.iload 7, 2) := by decide +kernel
theorem dX1_lightestTurner_99 : decode cX1_lightestTurner 99 = .ok (.iload 4, 2) := by decide +kernel
theorem dX1_lightestTurner_101 : decode cX1_lightestTurner 101 = .ok (.if_icmp .ge 10, 3) := by decide +kernel
theorem dX1_lightestTurner_104 : decode cX1_lightestTurner 104 = .ok (.iload 5, 2) := by decide +kernel
theorem dX1_lightestTurner_106 : decode cX1_lightestTurner 106 = .ok (.istore_n 3, 1) := by decide +kernel
theorem dX1_lightestTurner_107 : decode cX1_lightestTurner 107 = .ok (.iload 7, 2) := by decide +kernel
theorem dX1_lightestTurner_109 : decode cX1_lightestTurner 109 = .ok (.istore 4, 2) := by decide +kernel
theorem dX1_lightestTurner_111 : decode cX1_lightestTurner 111 = .ok (.iinc 5 1, 3) := by decide +kernel
theorem dX1_lightestTurner_114 : decode cX1_lightestTurner 114 = .ok (.goto (-100), 3) := by decide +kernel
theorem dX1_lightestTurner_117 : decode cX1_lightestTurner 117 = .ok (.iload_n 3, 1) := by decide +kernel
theorem dX1_lightestTurner_118 : decode cX1_lightestTurner 118 = .ok (.ireturn, 1) := by decide +kernel
theorem dX1_obstacleTo_0 : decode cX1_obstacleTo 0 = .ok (.aload_n 0, 1) := by decide +kernel
theorem dX1_obstacleTo_1 : decode cX1_obstacleTo 1 = .ok (.getfield 21, 3) := by decide +kernel
theorem dX1_obstacleTo_4 : decode cX1_obstacleTo 4 = .ok (.iload_n 1, 1) := by decide +kernel
theorem dX1_obstacleTo_5 : decode cX1_obstacleTo 5 = .ok (.invokevirtual 123, 3) := by decide +kernel
theorem dX1_obstacleTo_8 : decode cX1_obstacleTo 8 = .ok (.ifCond .ne 5, 3) := by decide +kernel
theorem dX1_obstacleTo_11 : decode cX1_obstacleTo 11 = .ok (.iconst 1, 1) := by decide +kernel
theorem dX1_obstacleTo_12 : decode cX1_obstacleTo 12 = .ok (.ireturn, 1) := by decide +kernel
theorem dX1_obstacleTo_13 : decode cX1_obstacleTo 13 = .ok (.aload_n 0, 1) := by decide +kernel
theorem dX1_obstacleTo_14 : decode cX1_obstacleTo 14 = .ok (.getfield 21, 3) := by decide +kernel
theorem dX1_obstacleTo_17 : decode cX1_obstacleTo 17 = .ok (.getfield 98, 3) := by decide +kernel
theorem dX1_obstacleTo_20 : decode cX1_obstacleTo 20 = .ok (.iload_n 1, 1) := by decide +kernel
theorem dX1_obstacleTo_21 : decode cX1_obstacleTo 21 = .ok (.iaload, 1) := by decide +kernel
theorem dX1_obstacleTo_22 : decode cX1_obstacleTo 22 = .ok (.aload_n 0, 1) := by decide +kernel
theorem dX1_obstacleTo_23 : decode cX1_obstacleTo 23 = .ok (.getfield 39, 3) := by decide +kernel
theorem dX1_obstacleTo_26 : decode cX1_obstacleTo 26 = .ok (.getfield 239, 3) := by decide +kernel
theorem dX1_obstacleTo_29 : decode cX1_obstacleTo 29 = .ok (.if_icmp .ge 5, 3) := by decide +kernel
theorem dX1_obstacleTo_32 : decode cX1_obstacleTo 32 = .ok (.iconst 2, 1) := by decide +kernel
theorem dX1_obstacleTo_33 : decode cX1_obstacleTo 33 = .ok (.ireturn, 1) := by decide +kernel
theorem dX1_obstacleTo_34 : decode cX1_obstacleTo 34 = .ok (.aload_n 0, 1) := by decide +kernel
theorem dX1_obstacleTo_35 : decode cX1_obstacleTo 35 = .ok (.getfield 35, 3) := by decide +kernel
theorem dX1_obstacleTo_38 : decode cX1_obstacleTo 38 = .ok (.iload_n 1, 1) := by decide +kernel
theorem dX1_obstacleTo_39 : decode cX1_obstacleTo 39 = .ok (.invokevirtual 126, 3) := by decide +kernel
theorem dX1_obstacleTo_42 : decode cX1_obstacleTo 42 = .ok (.ifCond .eq 5, 3) := by decide +kernel
theorem dX1_obstacleTo_45 : decode cX1_obstacleTo 45 = .ok (.iconst 3, 1) := by decide +kernel
theorem dX1_obstacleTo_46 : decode cX1_obstacleTo 46 = .ok (.ireturn, 1) := by decide +kernel
theorem dX1_obstacleTo_47 : decode cX1_obstacleTo 47 = .ok (.aload_n 0, 1) := by decide +kernel
theorem dX1_obstacleTo_48 : decode cX1_obstacleTo 48 = .ok (.iload_n 1, 1) := by decide +kernel
theorem dX1_obstacleTo_49 : decode cX1_obstacleTo 49 = .ok (.invokevirtual 242, 3) := by decide +kernel
theorem dX1_obstacleTo_52 : decode cX1_obstacleTo 52 = .ok (.aload_n 0, 1) := by decide +kernel
theorem dX1_obstacleTo_53 : decode cX1_obstacleTo 53 = .ok (.getfield 39, 3) := by decide +kernel
theorem dX1_obstacleTo_56 : decode cX1_obstacleTo 56 = .ok (.getfield 245, 3) := by decide +kernel
theorem dX1_obstacleTo_59 : decode cX1_obstacleTo 59 = .ok (.if_icmp .ge 7, 3) := by decide +kernel
theorem dX1_obstacleTo_62 : decode cX1_obstacleTo 62 = .ok (.iconst 4, 1) := by decide +kernel
theorem dX1_obstacleTo_63 : decode cX1_obstacleTo 63 = .ok (.goto 4, 3) := by decide +kernel
theorem dX1_obstacleTo_66 : decode cX1_obstacleTo 66 = .ok (.iconst 0, 1) := by decide +kernel
theorem dX1_obstacleTo_67 : decode cX1_obstacleTo 67 = .ok (.ireturn, 1) := by decide +kernel
theorem dX1_refusalOfVote_0 : decode cX1_refusalOfVote 0 = .ok (.aload_n 0, 1) := by decide +kernel
theorem dX1_refusalOfVote_1 : decode cX1_refusalOfVote 1 = .ok (.getfield 21, 3) := by decide +kernel
theorem dX1_refusalOfVote_4 : decode cX1_refusalOfVote 4 = .ok (.iload_n 1, 1) := by decide +kernel
theorem dX1_refusalOfVote_5 : decode cX1_refusalOfVote 5 = .ok (.invokevirtual 120, 3) := by decide +kernel
theorem dX1_refusalOfVote_8 : decode cX1_refusalOfVote 8 = .ok (.ifCond .ne 5, 3) := by decide +kernel
theorem dX1_refusalOfVote_11 : decode cX1_refusalOfVote 11 = .ok (.iconst 1, 1) := by decide +kernel
theorem dX1_refusalOfVote_12 : decode cX1_refusalOfVote 12 = .ok (.ireturn, 1) := by decide +kernel
theorem dX1_refusalOfVote_13 : decode cX1_refusalOfVote 13 = .ok (.aload_n 0, 1) := by decide +kernel
theorem dX1_refusalOfVote_14 : decode cX1_refusalOfVote 14 = .ok (.iload_n 1, 1) := by decide +kernel
theorem dX1_refusalOfVote_15 : decode cX1_refusalOfVote 15 = .ok (.invokevirtual 248, 3) := by decide +kernel
theorem dX1_refusalOfVote_18 : decode cX1_refusalOfVote 18 = .ok (.ifCond .ne 7, 3) := by decide +kernel
theorem dX1_refusalOfVote_21 : decode cX1_refusalOfVote 21 = .ok (.iconst 0, 1) := by decide +kernel
theorem dX1_refusalOfVote_22 : decode cX1_refusalOfVote 22 = .ok (.goto 4, 3) := by decide +kernel
theorem dX1_refusalOfVote_25 : decode cX1_refusalOfVote 25 = .ok (.iconst 3, 1) := by decide +kernel
theorem dX1_refusalOfVote_26 : decode cX1_refusalOfVote 26 = .ok (.ireturn, 1) := by decide +kernel
theorem dX1_holdVote_0 : decode cX1_holdVote 0 = .ok (.aload_n 0, 1) := by decide +kernel
theorem dX1_holdVote_1 : decode cX1_holdVote 1 = .ok (.iload_n 1, 1) := by decide +kernel
theorem dX1_holdVote_2 : decode cX1_holdVote 2 = .ok (.invokevirtual 236, 3) := by decide +kernel
theorem dX1_holdVote_5 : decode cX1_holdVote 5 = .ok (.ifCond .le 7, 3) := by decide +kernel
theorem dX1_holdVote_8 : decode cX1_holdVote 8 = .ok (.iconst 1, 1) := by decide +kernel
theorem dX1_holdVote_9 : decode cX1_holdVote 9 = .ok (.goto 4, 3) := by decide +kernel
theorem dX1_holdVote_12 : decode cX1_holdVote 12 = .ok (.iconst 0, 1) := by decide +kernel
theorem dX1_holdVote_13 : decode cX1_holdVote 13 = .ok (.istore_n 2, 1) := by decide +kernel
theorem dX1_holdVote_14 : decode cX1_holdVote 14 = .ok (.iload_n 2, 1) := by decide +kernel
theorem dX1_holdVote_15 : decode cX1_holdVote 15 = .ok (.ifCond .eq 7, 3) := by decide +kernel
theorem dX1_holdVote_18 : decode cX1_holdVote 18 = .ok (.iconst 1, 1) := by decide +kernel
theorem dX1_holdVote_19 : decode cX1_holdVote 19 = .ok (.goto 4, 3) := by decide +kernel
theorem dX1_holdVote_22 : decode cX1_holdVote 22 = .ok (.iconst (-1), 1) := by decide +kernel
theorem dX1_holdVote_23 : decode cX1_holdVote 23 = .ok (.istore_n 3, 1) := by decide +kernel
theorem dX1_holdVote_24 : decode cX1_holdVote 24 = .ok (.iconst 0, 1) := by decide +kernel
theorem dX1_holdVote_25 : decode cX1_holdVote 25 = .ok (.istore 4, 2) := by decide +kernel
theorem dX1_holdVote_27 : decode cX1_holdVote 27 = .ok (.iload 4, 2) := by decide +kernel
theorem dX1_holdVote_29 : decode cX1_holdVote 29 = .ok (.aload_n 0, 1) := by decide +kernel
theorem dX1_holdVote_30 : decode cX1_holdVote 30 = .ok (.getfield 39, 3) := by decide +kernel
theorem dX1_holdVote_33 : decode cX1_holdVote 33 = .ok (.getfield 104, 3) := by decide +kernel
theorem dX1_holdVote_36 : decode cX1_holdVote 36 = .ok (.if_icmp .ge 80, 3) := by decide +kernel
theorem dX1_holdVote_39 : decode cX1_holdVote 39 = .ok (.aload_n 0, 1) := by decide +kernel
theorem dX1_holdVote_40 : decode cX1_holdVote 40 = .ok (.iload 4, 2) := by decide +kernel
theorem dX1_holdVote_42 : decode cX1_holdVote 42 = .ok (.iload_n 1, 1) := by decide +kernel
theorem dX1_holdVote_43 : decode cX1_holdVote 43 = .ok (.invokevirtual 230, 3) := by decide +kernel
theorem dX1_holdVote_46 : decode cX1_holdVote 46 = .ok (.istore 5, 2) := by decide +kernel
theorem dX1_holdVote_48 : decode cX1_holdVote 48 = .ok (.iload 5, 2) := by decide +kernel
theorem dX1_holdVote_50 : decode cX1_holdVote 50 = .ok (.ifCond .eq 17, 3) := by decide +kernel
theorem dX1_holdVote_53 : decode cX1_holdVote 53 = .ok (.aload_n 0, 1) := by decide +kernel
theorem dX1_holdVote_54 : decode cX1_holdVote 54 = .ok (.getfield 12, 3) := by decide +kernel
theorem dX1_holdVote_57 : decode cX1_holdVote 57 = .ok (.getfield 227, 3) := by decide +kernel
theorem dX1_holdVote_60 : decode cX1_holdVote 60 = .ok (.iload 4, 2) := by decide +kernel
theorem dX1_holdVote_62 : decode cX1_holdVote 62 = .ok (.dup2, 1) := by decide +kernel
theorem dX1_holdVote_63 : decode cX1_holdVote 63 = .ok (.iaload, 1) := by decide +kernel
theorem dX1_holdVote_64 : decode cX1_holdVote 64 = .ok (.iconst 1, 1) := by decide +kernel
theorem dX1_holdVote_65 : decode cX1_holdVote 65 = .ok (.isub, 1) := by decide +kernel
theorem dX1_holdVote_66 : decode cX1_holdVote 66 = .ok (.iastore, 1) := by decide +kernel
theorem dX1_holdVote_67 : decode cX1_holdVote 67 = .ok (.iload 5, 2) := by decide +kernel
theorem dX1_holdVote_69 : decode cX1_holdVote 69 = .ok (.iload_n 3, 1) := by decide +kernel
theorem dX1_holdVote_70 : decode cX1_holdVote 70 = .ok (.if_icmp .ne 40, 3) := by decide +kernel
theorem dX1_holdVote_73 : decode cX1_holdVote 73 = .ok (.aload_n 0, 1) := by decide +kernel
theorem dX1_holdVote_74 : decode cX1_holdVote 74 = .ok (.getfield 12, 3) := by decide +kernel
theorem dX1_holdVote_77 : decode cX1_holdVote 77 = .ok (.getfield 251, 3) := by decide +kernel
theorem dX1_holdVote_80 : decode cX1_holdVote 80 = .ok (.iload 4, 2) := by decide +kernel
theorem dX1_holdVote_82 : decode cX1_holdVote 82 = .ok (.iaload, 1) := by decide +kernel
theorem dX1_holdVote_83 : decode cX1_holdVote 83 = .ok (.ifCond .le 27, 3) := by decide +kernel
theorem dX1_holdVote_86 : decode cX1_holdVote 86 = .ok (.aload_n 0, 1) := by decide +kernel
theorem dX1_holdVote_87 : decode cX1_holdVote 87 = .ok (.getfield 12, 3) := by decide +kernel
theorem dX1_holdVote_90 : decode cX1_holdVote 90 = .ok (.getfield 251, 3) := by decide +kernel
theorem dX1_holdVote_93 : decode cX1_holdVote 93 = .ok (.iload 4, 2) := by decide +kernel
theorem dX1_holdVote_95 : decode cX1_holdVote 95 = .ok (.dup2, 1) := by decide +kernel
theorem dX1_holdVote_96 : decode cX1_holdVote 96 = .ok (.iaload, 1) := by decide +kernel
theorem dX1_holdVote_97 : decode cX1_holdVote 97 = .ok (.iconst 1, 1) := by decide +kernel
theorem dX1_holdVote_98 : decode cX1_holdVote 98 = .ok (.isub, 1) := by decide +kernel
theorem dX1_holdVote_99 : decode cX1_holdVote 99 = .ok (.iastore, 1) := by decide +kernel
theorem dX1_holdVote_100 : decode cX1_holdVote 100 = .ok (.aload_n 0, 1) := by decide +kernel
theorem dX1_holdVote_101 : decode cX1_holdVote 101 = .ok (.dup, 1) := by decide +kernel
theorem dX1_holdVote_102 : decode cX1_holdVote 102 = .ok (.getfield 60, 3) := by decide +kernel
theorem dX1_holdVote_105 : decode cX1_holdVote 105 = .ok (.iconst 1, 1) := by decide +kernel
theorem dX1_holdVote_106 : decode cX1_holdVote 106 = .ok (.iadd, 1) := by decide +kernel
theorem dX1_holdVote_107 : decode cX1_holdVote 107 = .ok (.putfield 60, 3) := by decide +kernel
theorem dX1_holdVote_110 : decode cX1_holdVote 110 = .ok (.iinc 4 1, 3) := by decide +kernel
theorem dX1_holdVote_113 : decode cX1_holdVote 113 = .ok (.goto (-86), 3) := by decide +kernel
theorem dX1_holdVote_116 : decode cX1_holdVote 116 = .ok (.aload_n 0, 1) := by decide +kernel
theorem dX1_holdVote_117 : decode cX1_holdVote 117 = .ok (.iload_n 1, 1) := by decide +kernel
theorem dX1_holdVote_118 : decode cX1_holdVote 118 = .ok (.iload_n 2, 1) := by decide +kernel
theorem dX1_holdVote_119 : decode cX1_holdVote 119 = .ok (.ifCond .eq 7, 3) := by decide +kernel
theorem dX1_holdVote_122 : decode cX1_holdVote 122 = .ok (.iconst 1, 1) := by decide +kernel
theorem dX1_holdVote_123 : decode cX1_holdVote 123 = .ok (.goto 4, 3) := by decide +kernel
theorem dX1_holdVote_126 : decode cX1_holdVote 126 = .ok (.iconst 2, 1) := by decide +kernel
theorem dX1_holdVote_127 : decode cX1_holdVote 127 = .ok (.invokevirtual 254, 3) := by decide +kernel
theorem dX1_holdVote_130 : decode cX1_holdVote 130 = .ok (.pop, 1) := by decide +kernel
theorem dX1_holdVote_131 : decode cX1_holdVote 131 = .ok (.aload_n 0, 1) := by decide +kernel
theorem dX1_holdVote_132 : decode cX1_holdVote 132 = .ok (.dup, 1) := by decide +kernel
theorem dX1_holdVote_133 : decode cX1_holdVote 133 = .ok (.getfield 63, 3) := by decide +kernel
theorem dX1_holdVote_136 : decode cX1_holdVote 136 = .ok (.iconst 1, 1) := by decide +kernel
theorem dX1_holdVote_137 : decode cX1_holdVote 137 = .ok (.iadd, 1) := by decide +kernel
theorem dX1_holdVote_138 : decode cX1_holdVote 138 = .ok (.putfield 63, 3) := by decide +kernel
theorem dX1_holdVote_141 : decode cX1_holdVote 141 = .ok (.iload_n 2, 1) := by decide +kernel
theorem dX1_holdVote_142 : decode cX1_holdVote 142 = .ok (.ireturn, 1) := by decide +kernel
theorem dX1_refusalOfSharpening_0 : decode cX1_refusalOfSharpening 0 = .ok (.aload_n 0, 1) := by decide +kernel
theorem dX1_refusalOfSharpening_1 : decode cX1_refusalOfSharpening 1 = .ok (.getfield 39, 3) := by decide +kernel
theorem dX1_refusalOfSharpening_4 : decode cX1_refusalOfSharpening 4 = .ok (.iload_n 1, 1) := by decide +kernel
theorem dX1_refusalOfSharpening_5 : decode cX1_refusalOfSharpening 5 = .ok (.invokevirtual 85, 3) := by decide +kernel
theorem dX1_refusalOfSharpening_8 : decode cX1_refusalOfSharpening 8 = .ok (.ifCond .ne 5, 3) := by decide +kernel
theorem dX1_refusalOfSharpening_11 : decode cX1_refusalOfSharpening 11 = .ok (.iconst 1, 1) := by decide +kernel
theorem dX1_refusalOfSharpening_12 : decode cX1_refusalOfSharpening 12 = .ok (.ireturn, 1) := by decide +kernel
theorem dX1_refusalOfSharpening_13 : decode cX1_refusalOfSharpening 13 = .ok (.aload_n 0, 1) := by decide +kernel
theorem dX1_refusalOfSharpening_14 : decode cX1_refusalOfSharpening 14 = .ok (.getfield 12, 3) := by decide +kernel
theorem dX1_refusalOfSharpening_17 : decode cX1_refusalOfSharpening 17 = .ok (.getfield 227, 3) := by decide +kernel
theorem dX1_refusalOfSharpening_20 : decode cX1_refusalOfSharpening 20 = .ok (.iload_n 1, 1) := by decide +kernel
theorem dX1_refusalOfSharpening_21 : decode cX1_refusalOfSharpening 21 = .ok (.iaload, 1) := by decide +kernel
theorem dX1_refusalOfSharpening_22 : decode cX1_refusalOfSharpening 22 = .ok (.iconst 5, 1) := by decide +kernel
theorem dX1_refusalOfSharpening_23 : decode cX1_refusalOfSharpening 23 = .ok (.if_icmp .ne 7, 3) := by decide +kernel
theorem dX1_refusalOfSharpening_26 : decode cX1_refusalOfSharpening 26 = .ok (.iconst 1, 1) := by decide +kernel
theorem dX1_refusalOfSharpening_27 : decode cX1_refusalOfSharpening 27 = .ok (.goto 4, 3) := by decide +kernel
theorem dX1_refusalOfSharpening_30 : decode cX1_refusalOfSharpening 30 = .ok (.iconst 0, 1) := by decide +kernel
theorem dX1_refusalOfSharpening_31 : decode cX1_refusalOfSharpening 31 = .ok (.istore_n 2, 1) := by decide +kernel
theorem dX1_refusalOfSharpening_32 : decode cX1_refusalOfSharpening 32 = .ok (.iload_n 2, 1) := by decide +kernel
theorem dX1_refusalOfSharpening_33 : decode cX1_refusalOfSharpening 33 = .ok (.ifCond .ne 16, 3) := by decide +kernel
theorem dX1_refusalOfSharpening_36 : decode cX1_refusalOfSharpening 36 = .ok (.aload_n 0, 1) := by decide +kernel
theorem dX1_refusalOfSharpening_37 : decode cX1_refusalOfSharpening 37 = .ok (.getfield 12, 3) := by decide +kernel
theorem dX1_refusalOfSharpening_40 : decode cX1_refusalOfSharpening 40 = .ok (.getfield 251, 3) := by decide +kernel
theorem dX1_refusalOfSharpening_43 : decode cX1_refusalOfSharpening 43 = .ok (.iload_n 1, 1) := by decide +kernel
theorem dX1_refusalOfSharpening_44 : decode cX1_refusalOfSharpening 44 = .ok (.iaload, 1) := by decide +kernel
theorem dX1_refusalOfSharpening_45 : decode cX1_refusalOfSharpening 45 = .ok (.iconst 2, 1) := by decide +kernel
theorem dX1_refusalOfSharpening_46 : decode cX1_refusalOfSharpening 46 = .ok (.if_icmp .ge 7, 3) := by decide +kernel
theorem dX1_refusalOfSharpening_49 : decode cX1_refusalOfSharpening 49 = .ok (.iconst 3, 1) := by decide +kernel
theorem dX1_refusalOfSharpening_50 : decode cX1_refusalOfSharpening 50 = .ok (.goto 4, 3) := by decide +kernel
theorem dX1_refusalOfSharpening_53 : decode cX1_refusalOfSharpening 53 = .ok (.iconst 0, 1) := by decide +kernel
theorem dX1_refusalOfSharpening_54 : decode cX1_refusalOfSharpening 54 = .ok (.ireturn, 1) := by decide +kernel
theorem dX1_sharpenRazor_0 : decode cX1_sharpenRazor 0 = .ok (.aload_n 0, 1) := by decide +kernel
theorem dX1_sharpenRazor_1 : decode cX1_sharpenRazor 1 = .ok (.getfield 12, 3) := by decide +kernel
theorem dX1_sharpenRazor_4 : decode cX1_sharpenRazor 4 = .ok (.getfield 251, 3) := by decide +kernel
theorem dX1_sharpenRazor_7 : decode cX1_sharpenRazor 7 = .ok (.iload_n 1, 1) := by decide +kernel
theorem dX1_sharpenRazor_8 : decode cX1_sharpenRazor 8 = .ok (.dup2, 1) := by decide +kernel
theorem dX1_sharpenRazor_9 : decode cX1_sharpenRazor 9 = .ok (.iaload, 1) := by decide +kernel
theorem dX1_sharpenRazor_10 : decode cX1_sharpenRazor 10 = .ok (.iconst 2, 1) := by decide +kernel
theorem dX1_sharpenRazor_11 : decode cX1_sharpenRazor 11 = .ok (.isub, 1) := by decide +kernel
theorem dX1_sharpenRazor_12 : decode cX1_sharpenRazor 12 = .ok (.iastore, 1) := by decide +kernel
theorem dX1_sharpenRazor_13 : decode cX1_sharpenRazor 13 = .ok (.aload_n 0, 1) := by decide +kernel
theorem dX1_sharpenRazor_14 : decode cX1_sharpenRazor 14 = .ok (.getfield 12, 3) := by decide +kernel
theorem dX1_sharpenRazor_17 : decode cX1_sharpenRazor 17 = .ok (.getfield 227, 3) := by decide +kernel
theorem dX1_sharpenRazor_20 : decode cX1_sharpenRazor 20 = .ok (.iload_n 1, 1) := by decide +kernel
theorem dX1_sharpenRazor_21 : decode cX1_sharpenRazor 21 = .ok (.iconst 5, 1) := by decide +kernel
theorem dX1_sharpenRazor_22 : decode cX1_sharpenRazor 22 = .ok (.iastore, 1) := by decide +kernel
theorem dX1_sharpenRazor_23 : decode cX1_sharpenRazor 23 = .ok (.aload_n 0, 1) := by decide +kernel
theorem dX1_sharpenRazor_24 : decode cX1_sharpenRazor 24 = .ok (.dup, 1) := by decide +kernel
theorem dX1_sharpenRazor_25 : decode cX1_sharpenRazor 25 = .ok (.getfield 69, 3) := by decide +kernel
theorem dX1_sharpenRazor_28 : decode cX1_sharpenRazor 28 = .ok (.iconst 1, 1) := by decide +kernel
theorem dX1_sharpenRazor_29 : decode cX1_sharpenRazor 29 = .ok (.iadd, 1) := by decide +kernel
theorem dX1_sharpenRazor_30 : decode cX1_sharpenRazor 30 = .ok (.putfield 69, 3) := by decide +kernel
theorem dX1_sharpenRazor_33 : decode cX1_sharpenRazor 33 = .ok (.aload_n 0, 1) := by decide +kernel
theorem dX1_sharpenRazor_34 : decode cX1_sharpenRazor 34 = .ok (.getfield 12, 3) := by decide +kernel
theorem dX1_sharpenRazor_37 : decode cX1_sharpenRazor 37 = .ok (.getfield 251, 3) := by decide +kernel
theorem dX1_sharpenRazor_40 : decode cX1_sharpenRazor 40 = .ok (.iload_n 1, 1) := by decide +kernel
theorem dX1_sharpenRazor_41 : decode cX1_sharpenRazor 41 = .ok (.iaload, 1) := by decide +kernel
theorem dX1_sharpenRazor_42 : decode cX1_sharpenRazor 42 = .ok (.ireturn, 1) := by decide +kernel
theorem dX1_countContradictions_0 : decode cX1_countContradictions 0 = .ok (.aload_n 0, 1) := by decide +kernel
theorem dX1_countContradictions_1 : decode cX1_countContradictions 1 = .ok (.getfield 60, 3) := by decide +kernel
theorem dX1_countContradictions_4 : decode cX1_countContradictions 4 = .ok (.iconst 2, 1) := by decide +kernel
theorem dX1_countContradictions_5 : decode cX1_countContradictions 5 = .ok (.aload_n 0, 1) := by decide +kernel
theorem dX1_countContradictions_6 : decode cX1_countContradictions 6 = .ok (.getfield 69, 3) := by decide +kernel
theorem dX1_countContradictions_9 : decode cX1_countContradictions 9 = .ok (.imul, 1) := by decide +kernel
theorem dX1_countContradictions_10 : decode cX1_countContradictions 10 = .ok (.iadd, 1) := by decide +kernel
theorem dX1_countContradictions_11 : decode cX1_countContradictions 11 = .ok (.istore_n 1, 1) := by decide +kernel
theorem dX1_countContradictions_12 : decode cX1_countContradictions 12 = .ok (.iconst 0, 1) := by decide +kernel
theorem dX1_countContradictions_13 : decode cX1_countContradictions 13 = .ok (.istore_n 2, 1) := by decide +kernel
theorem dX1_countContradictions_14 : decode cX1_countContradictions 14 = .ok (.iconst 0, 1) := by decide +kernel
theorem dX1_countContradictions_15 : decode cX1_countContradictions 15 = .ok (.istore_n 3, 1) := by decide +kernel
theorem dX1_countContradictions_16 : decode cX1_countContradictions 16 = .ok (.iload_n 3, 1) := by decide +kernel
theorem dX1_countContradictions_17 : decode cX1_countContradictions 17 = .ok (.aload_n 0, 1) := by decide +kernel
theorem dX1_countContradictions_18 : decode cX1_countContradictions 18 = .ok (.getfield 39, 3) := by decide +kernel
theorem dX1_countContradictions_21 : decode cX1_countContradictions 21 = .ok (.getfield 104, 3) := by decide +kernel
theorem dX1_countContradictions_24 : decode cX1_countContradictions 24 = .ok (.if_icmp .ge 48, 3) := by decide +kernel
theorem dX1_countContradictions_27 : decode cX1_countContradictions 27 = .ok (.iload_n 1, 1) := by decide +kernel
theorem dX1_countContradictions_28 : decode cX1_countContradictions 28 = .ok (.aload_n 0, 1) := by decide +kernel
theorem dX1_countContradictions_29 : decode cX1_countContradictions 29 = .ok (.getfield 12, 3) := by decide +kernel
theorem dX1_countContradictions_32 : decode cX1_countContradictions 32 = .ok (.getfield 251, 3) := by decide +kernel
theorem dX1_countContradictions_35 : decode cX1_countContradictions 35 = .ok (.iload_n 3, 1) := by decide +kernel
theorem dX1_countContradictions_36 : decode cX1_countContradictions 36 = .ok (.iaload, 1) := by decide +kernel
theorem dX1_countContradictions_37 : decode cX1_countContradictions 37 = .ok (.iadd, 1) := by decide +kernel
theorem dX1_countContradictions_38 : decode cX1_countContradictions 38 = .ok (.istore_n 1, 1) := by decide +kernel
theorem dX1_countContradictions_39 : decode cX1_countContradictions 39 = .ok (.aload_n 0, 1) := by decide +kernel
theorem dX1_countContradictions_40 : decode cX1_countContradictions 40 = .ok (.getfield 28, 3) := by decide +kernel
theorem dX1_countContradictions_43 : decode cX1_countContradictions 43 = .ok (.iload_n 3, 1) := by decide +kernel
theorem dX1_countContradictions_44 : decode cX1_countContradictions 44 = .ok (.invokevirtual 132, 3) := by decide +kernel
theorem dX1_countContradictions_47 : decode cX1_countContradictions 47 = .ok (.iconst (-1), 1) := by decide +kernel
theorem dX1_countContradictions_48 : decode cX1_countContradictions 48 = .ok (.if_icmp .eq 18, 3) := by decide +kernel
theorem dX1_countContradictions_51 : decode cX1_countContradictions 51 = .ok (.aload_n 0, 1) := by decide +kernel
theorem dX1_countContradictions_52 : decode cX1_countContradictions 52 = .ok (.getfield 35, 3) := by decide +kernel
theorem dX1_countContradictions_55 : decode cX1_countContradictions 55 = .ok (.iload_n 3, 1) := by decide +kernel
theorem dX1_countContradictions_56 : decode cX1_countContradictions 56 = .ok (.invokevirtual 135, 3) := by decide +kernel
theorem dX1_countContradictions_59 : decode cX1_countContradictions 59 = .ok (.iconst (-1), 1) := by decide +kernel
theorem dX1_countContradictions_60 : decode cX1_countContradictions 60 = .ok (.if_icmp .eq 6, 3) := by decide +kernel
theorem dX1_countContradictions_63 : decode cX1_countContradictions 63 = .ok (.iinc 2 1, 3) := by decide +kernel
theorem dX1_countContradictions_66 : decode cX1_countContradictions 66 = .ok (.iinc 3 1, 3) := by decide +kernel
theorem dX1_countContradictions_69 : decode cX1_countContradictions 69 = .ok (.goto (-53), 3) := by decide +kernel
theorem dX1_countContradictions_72 : decode cX1_countContradictions 72 = .ok (.iconst 0, 1) := by decide +kernel
theorem dX1_countContradictions_73 : decode cX1_countContradictions 73 = .ok (.istore_n 3, 1) := by decide +kernel
theorem dX1_countContradictions_74 : decode cX1_countContradictions 74 = .ok (.iconst 0, 1) := by decide +kernel
theorem dX1_countContradictions_75 : decode cX1_countContradictions 75 = .ok (.istore 4, 2) := by decide +kernel
theorem dX1_countContradictions_77 : decode cX1_countContradictions 77 = .ok (.iload 4, 2) := by decide +kernel
theorem dX1_countContradictions_79 : decode cX1_countContradictions 79 = .ok (.aload_n 0, 1) := by decide +kernel
theorem dX1_countContradictions_80 : decode cX1_countContradictions 80 = .ok (.getfield 21, 3) := by decide +kernel
theorem dX1_countContradictions_83 : decode cX1_countContradictions 83 = .ok (.getfield 47, 3) := by decide +kernel
theorem dX1_countContradictions_86 : decode cX1_countContradictions 86 = .ok (.if_icmp .ge 40, 3) := by decide +kernel
theorem dX1_countContradictions_89 : decode cX1_countContradictions 89 = .ok (.aload_n 0, 1) := by decide +kernel
theorem dX1_countContradictions_90 : decode cX1_countContradictions 90 = .ok (.getfield 21, 3) := by decide +kernel
theorem dX1_countContradictions_93 : decode cX1_countContradictions 93 = .ok (.getfield 95, 3) := by decide +kernel
theorem dX1_countContradictions_96 : decode cX1_countContradictions 96 = .ok (.iload 4, 2) := by decide +kernel
theorem dX1_countContradictions_98 : decode cX1_countContradictions 98 = .ok (.iaload, 1) := by decide +kernel
theorem dX1_countContradictions_99 : decode cX1_countContradictions 99 = .ok (.iconst 1, 1) := by decide +kernel
theorem dX1_countContradictions_100 : decode cX1_countContradictions 100 = .ok (.if_icmp .eq 17, 3) := by decide +kernel
theorem dX1_countContradictions_103 : decode cX1_countContradictions 103 = .ok (.aload_n 0, 1) := by decide +kernel
theorem dX1_countContradictions_104 : decode cX1_countContradictions 104 = .ok (.getfield 21, 3) := by decide +kernel
theorem dX1_countContradictions_107 : decode cX1_countContradictions 107 = .ok (.getfield 95, 3) := by decide +kernel
theorem dX1_countContradictions_110 : decode cX1_countContradictions 110 = .ok (.iload 4, 2) := by decide +kernel
theorem dX1_countContradictions_112 : decode cX1_countContradictions 112 = .ok (.iaload, 1) := by decide +kernel
theorem dX1_countContradictions_113 : decode cX1_countContradictions 113 = .ok (.iconst 2, 1) := by decide +kernel
theorem dX1_countContradictions_114 : decode cX1_countContradictions 114 = .ok (.if_icmp .ne 6, 3) := by decide +kernel
theorem dX1_countContradictions_117 : decode cX1_countContradictions 117 = .ok (.iinc 3 1, 3) := by decide +kernel
theorem dX1_countContradictions_120 : decode cX1_countContradictions 120 = .ok (.iinc 4 1, 3) := by decide +kernel
theorem dX1_countContradictions_123 : decode cX1_countContradictions 123 = .ok (.goto (-46), 3) := by decide +kernel
theorem dX1_countContradictions_126 : decode cX1_countContradictions 126 = .ok (.iconst 0, 1) := by decide +kernel
theorem dX1_countContradictions_127 : decode cX1_countContradictions 127 = .ok (.istore 4, 2) := by decide +kernel
theorem dX1_countContradictions_129 : decode cX1_countContradictions 129 = .ok (.iconst 0, 1) := by decide +kernel
theorem dX1_countContradictions_130 : decode cX1_countContradictions 130 = .ok (.istore 5, 2) := by decide +kernel
theorem dX1_countContradictions_132 : decode cX1_countContradictions 132 = .ok (.iload 5, 2) := by decide +kernel
theorem dX1_countContradictions_134 : decode cX1_countContradictions 134 = .ok (.aload_n 0, 1) := by decide +kernel
theorem dX1_countContradictions_135 : decode cX1_countContradictions 135 = .ok (.getfield 28, 3) := by decide +kernel
theorem dX1_countContradictions_138 : decode cX1_countContradictions 138 = .ok (.getfield 51, 3) := by decide +kernel
theorem dX1_countContradictions_141 : decode cX1_countContradictions 141 = .ok (.if_icmp .ge 32, 3) := by decide +kernel
theorem dX1_countContradictions_144 : decode cX1_countContradictions 144 = .ok (.aload_n 0, 1) := by decide +kernel
theorem dX1_countContradictions_145 : decode cX1_countContradictions 145 = .ok (.getfield 21, 3) := by decide +kernel
theorem dX1_countContradictions_148 : decode cX1_countContradictions 148 = .ok (.aload_n 0, 1) := by decide +kernel
theorem dX1_countContradictions_149 : decode cX1_countContradictions 149 = .ok (.getfield 28, 3) := by decide +kernel
theorem dX1_countContradictions_152 : decode cX1_countContradictions 152 = .ok (.getfield 181, 3) := by decide +kernel
theorem dX1_countContradictions_155 : decode cX1_countContradictions 155 = .ok (.iload 5, 2) := by decide +kernel
theorem dX1_countContradictions_157 : decode cX1_countContradictions 157 = .ok (.iaload, 1) := by decide +kernel
theorem dX1_countContradictions_158 : decode cX1_countContradictions 158 = .ok (.invokevirtual 123, 3) := by decide +kernel
theorem dX1_countContradictions_161 : decode cX1_countContradictions 161 = .ok (.ifCond .ne 6, 3) := by decide +kernel
theorem dX1_countContradictions_164 : decode cX1_countContradictions 164 = .ok (.iinc 4 1, 3) := by decide +kernel
theorem dX1_countContradictions_167 : decode cX1_countContradictions 167 = .ok (.iinc 5 1, 3) := by decide +kernel
theorem dX1_countContradictions_170 : decode cX1_countContradictions 170 = .ok (.goto (-38), 3) := by decide +kernel
theorem dX1_countContradictions_173 : decode cX1_countContradictions 173 = .ok (.aload_n 0, 1) := by decide +kernel
theorem dX1_countContradictions_174 : decode cX1_countContradictions 174 = .ok (.getfield 39, 3) := by decide +kernel
theorem dX1_countContradictions_177 : decode cX1_countContradictions 177 = .ok (.invokevirtual 257, 3) := by decide +kernel
theorem dX1_countContradictions_180 : decode cX1_countContradictions 180 = .ok (.iload_n 1, 1) := by decide +kernel
theorem dX1_countContradictions_181 : decode cX1_countContradictions 181 = .ok (.isub, 1) := by decide +kernel
theorem dX1_countContradictions_182 : decode cX1_countContradictions 182 = .ok (.invokestatic 110, 3) := by decide +kernel
theorem dX1_countContradictions_185 : decode cX1_countContradictions 185 = .ok (.aload_n 0, 1) := by decide +kernel
theorem dX1_countContradictions_186 : decode cX1_countContradictions 186 = .ok (.getfield 63, 3) := by decide +kernel
theorem dX1_countContradictions_189 : decode cX1_countContradictions 189 = .ok (.iload_n 3, 1) := by decide +kernel
theorem dX1_countContradictions_190 : decode cX1_countContradictions 190 = .ok (.isub, 1) := by decide +kernel
theorem dX1_countContradictions_191 : decode cX1_countContradictions 191 = .ok (.invokestatic 110, 3) := by decide +kernel
theorem dX1_countContradictions_194 : decode cX1_countContradictions 194 = .ok (.iadd, 1) := by decide +kernel
theorem dX1_countContradictions_195 : decode cX1_countContradictions 195 = .ok (.iload_n 2, 1) := by decide +kernel
theorem dX1_countContradictions_196 : decode cX1_countContradictions 196 = .ok (.iadd, 1) := by decide +kernel
theorem dX1_countContradictions_197 : decode cX1_countContradictions 197 = .ok (.iload 4, 2) := by decide +kernel
theorem dX1_countContradictions_199 : decode cX1_countContradictions 199 = .ok (.iadd, 1) := by decide +kernel
theorem dX1_countContradictions_200 : decode cX1_countContradictions 200 = .ok (.ireturn, 1) := by decide +kernel
theorem dX2_init_0 : decode cX2_init 0 = .ok (.aload_n 0, 1) := by decide +kernel
theorem dX2_init_1 : decode cX2_init 1 = .ok (.invokespecial 3, 3) := by decide +kernel
theorem dX2_init_4 : decode cX2_init 4 = .ok (.aload_n 0, 1) := by decide +kernel
theorem dX2_init_5 : decode cX2_init 5 = .ok (.bipush 8, 2) := by decide +kernel
theorem dX2_init_7 : decode cX2_init 7 = .ok (.anewarray 9, 3) := by decide +kernel
theorem dX2_init_10 : decode cX2_init 10 = .ok (.putfield 11, 3) := by decide +kernel
theorem dX2_init_13 : decode cX2_init 13 = .ok (.iconst 0, 1) := by decide +kernel
theorem dX2_init_14 : decode cX2_init 14 = .ok (.istore_n 2, 1) := by decide +kernel
theorem dX2_init_15 : decode cX2_init 15 = .ok (.iload_n 2, 1) := by decide +kernel
theorem dX2_init_16 : decode cX2_init 16 = .ok (.bipush 8, 2) := by decide +kernel
theorem dX2_init_18 : decode cX2_init 18 = .ok (.if_icmp .ge 23, 3) := by decide +kernel
theorem dX2_init_21 : decode cX2_init 21 = .ok (.aload_n 0, 1) := by decide +kernel
theorem dX2_init_22 : decode cX2_init 22 = .ok (.getfield 11, 3) := by decide +kernel
theorem dX2_init_25 : decode cX2_init 25 = .ok (.iload_n 2, 1) := by decide +kernel
theorem dX2_init_26 : decode cX2_init 26 = .ok (.new 9, 3) := by decide +kernel
theorem dX2_init_29 : decode cX2_init 29 = .ok (.dup, 1) := by decide +kernel
theorem dX2_init_30 : decode cX2_init 30 = .ok (.aload_n 1, 1) := by decide +kernel
theorem dX2_init_31 : decode cX2_init 31 = .ok (.invokespecial 17, 3) := by decide +kernel
theorem dX2_init_34 : decode cX2_init 34 = .ok (.aastore, 1) := by decide +kernel
theorem dX2_init_35 : decode cX2_init 35 = .ok (.iinc 2 1, 3) := by decide +kernel
theorem dX2_init_38 : decode cX2_init 38 = .ok (.goto (-23), 3) := by decide +kernel
theorem dX2_init_41 : decode cX2_init 41 = .ok (.return_, 1) := by decide +kernel
theorem dX2_forget_0 : decode cX2_forget 0 = .ok (.aload_n 0, 1) := by decide +kernel
theorem dX2_forget_1 : decode cX2_forget 1 = .ok (.iconst 0, 1) := by decide +kernel
theorem dX2_forget_2 : decode cX2_forget 2 = .ok (.putfield 20, 3) := by decide +kernel
theorem dX2_forget_5 : decode cX2_forget 5 = .ok (.return_, 1) := by decide +kernel
theorem dX2_remember_0 : decode cX2_remember 0 = .ok (.aload_n 0, 1) := by decide +kernel
theorem dX2_remember_1 : decode cX2_remember 1 = .ok (.getfield 11, 3) := by decide +kernel
theorem dX2_remember_4 : decode cX2_remember 4 = .ok (.aload_n 0, 1) := by decide +kernel
theorem dX2_remember_5 : decode cX2_remember 5 = .ok (.getfield 24, 3) := by decide +kernel
theorem dX2_remember_8 : decode cX2_remember 8 = .ok (.aaload, 1) := by decide +kernel
theorem dX2_remember_9 : decode cX2_remember 9 = .ok (.aload_n 1, 1) := by decide +kernel
theorem dX2_remember_10 : decode cX2_remember 10 = .ok (.invokevirtual 27, 3) := by decide +kernel
theorem dX2_remember_13 : decode cX2_remember 13 = .ok (.aload_n 0, 1) := by decide +kernel
theorem dX2_remember_14 : decode cX2_remember 14 = .ok (.aload_n 0, 1) := by decide +kernel
theorem dX2_remember_15 : decode cX2_remember 15 = .ok (.getfield 24, 3) := by decide +kernel
theorem dX2_remember_18 : decode cX2_remember 18 = .ok (.bipush 7, 2) := by decide +kernel
theorem dX2_remember_20 : decode cX2_remember 20 = .ok (.if_icmp .ge 12, 3) := by decide +kernel
theorem dX2_remember_23 : decode cX2_remember 23 = .ok (.aload_n 0, 1) := by decide +kernel
theorem dX2_remember_24 : decode cX2_remember 24 = .ok (.getfield 24, 3) := by decide +kernel
theorem dX2_remember_27 : decode cX2_remember 27 = .ok (.iconst 1, 1) := by decide +kernel
theorem dX2_remember_28 : decode cX2_remember 28 = .ok (.iadd, 1) := by decide +kernel
theorem dX2_remember_29 : decode cX2_remember 29 = .ok (.goto 4, 3) := by decide +kernel
theorem dX2_remember_32 : decode cX2_remember 32 = .ok (.iconst 0, 1) := by decide +kernel
theorem dX2_remember_33 : decode cX2_remember 33 = .ok (.putfield 24, 3) := by decide +kernel
theorem dX2_remember_36 : decode cX2_remember 36 = .ok (.aload_n 0, 1) := by decide +kernel
theorem dX2_remember_37 : decode cX2_remember 37 = .ok (.aload_n 0, 1) := by decide +kernel
theorem dX2_remember_38 : decode cX2_remember 38 = .ok (.getfield 20, 3) := by decide +kernel
theorem dX2_remember_41 : decode cX2_remember 41 = .ok (.iconst 1, 1) := by decide +kernel
theorem dX2_remember_42 : decode cX2_remember 42 = .ok (.iadd, 1) := by decide +kernel
theorem dX2_remember_43 : decode cX2_remember 43 = .ok (.bipush 8, 2) := by decide +kernel
theorem dX2_remember_45 : decode cX2_remember 45 = .ok (.invokestatic 31, 3) := by decide +kernel
theorem dX2_remember_48 : decode cX2_remember 48 = .ok (.putfield 20, 3) := by decide +kernel
theorem dX2_remember_51 : decode cX2_remember 51 = .ok (.return_, 1) := by decide +kernel
theorem dX2_stepBack_0 : decode cX2_stepBack 0 = .ok (.aload_n 0, 1) := by decide +kernel
theorem dX2_stepBack_1 : decode cX2_stepBack 1 = .ok (.aload_n 0, 1) := by decide +kernel
theorem dX2_stepBack_2 : decode cX2_stepBack 2 = .ok (.getfield 24, 3) := by decide +kernel
theorem dX2_stepBack_5 : decode cX2_stepBack 5 = .ok (.ifCond .le 12, 3) := by decide +kernel
theorem dX2_stepBack_8 : decode cX2_stepBack 8 = .ok (.aload_n 0, 1) := by decide +kernel
theorem dX2_stepBack_9 : decode cX2_stepBack 9 = .ok (.getfield 24, 3) := by decide +kernel
theorem dX2_stepBack_12 : decode cX2_stepBack 12 = .ok (.iconst 1, 1) := by decide +kernel
theorem dX2_stepBack_13 : decode cX2_stepBack 13 = .ok (.isub, 1) := by decide +kernel
theorem dX2_stepBack_14 : decode cX2_stepBack 14 = .ok (.goto 5, 3) := by decide +kernel
theorem dX2_stepBack_17 : decode cX2_stepBack 17 = .ok (.bipush 7, 2) := by decide +kernel
theorem dX2_stepBack_19 : decode cX2_stepBack 19 = .ok (.putfield 24, 3) := by decide +kernel
theorem dX2_stepBack_22 : decode cX2_stepBack 22 = .ok (.aload_n 0, 1) := by decide +kernel
theorem dX2_stepBack_23 : decode cX2_stepBack 23 = .ok (.dup, 1) := by decide +kernel
theorem dX2_stepBack_24 : decode cX2_stepBack 24 = .ok (.getfield 20, 3) := by decide +kernel
theorem dX2_stepBack_27 : decode cX2_stepBack 27 = .ok (.iconst 1, 1) := by decide +kernel
theorem dX2_stepBack_28 : decode cX2_stepBack 28 = .ok (.isub, 1) := by decide +kernel
theorem dX2_stepBack_29 : decode cX2_stepBack 29 = .ok (.putfield 20, 3) := by decide +kernel
theorem dX2_stepBack_32 : decode cX2_stepBack 32 = .ok (.aload_n 1, 1) := by decide +kernel
theorem dX2_stepBack_33 : decode cX2_stepBack 33 = .ok (.aload_n 0, 1) := by decide +kernel
theorem dX2_stepBack_34 : decode cX2_stepBack 34 = .ok (.getfield 11, 3) := by decide +kernel
theorem dX2_stepBack_37 : decode cX2_stepBack 37 = .ok (.aload_n 0, 1) := by decide +kernel
theorem dX2_stepBack_38 : decode cX2_stepBack 38 = .ok (.getfield 24, 3) := by decide +kernel
theorem dX2_stepBack_41 : decode cX2_stepBack 41 = .ok (.aaload, 1) := by decide +kernel
theorem dX2_stepBack_42 : decode cX2_stepBack 42 = .ok (.invokevirtual 27, 3) := by decide +kernel
theorem dX2_stepBack_45 : decode cX2_stepBack 45 = .ok (.return_, 1) := by decide +kernel
theorem dX3_init_0 : decode cX3_init 0 = .ok (.aload_n 0, 1) := by decide +kernel
theorem dX3_init_1 : decode cX3_init 1 = .ok (.invokespecial 3, 3) := by decide +kernel
theorem dX3_init_4 : decode cX3_init 4 = .ok (.aload_n 0, 1) := by decide +kernel
theorem dX3_init_5 : decode cX3_init 5 = .ok (.bipush 12, 2) := by decide +kernel
theorem dX3_init_7 : decode cX3_init 7 = .ok (.newarray .int, 2) := by decide +kernel
theorem dX3_init_9 : decode cX3_init 9 = .ok (.putfield 9, 3) := by decide +kernel
theorem dX3_init_12 : decode cX3_init 12 = .ok (.aload_n 0, 1) := by decide +kernel
theorem dX3_init_13 : decode cX3_init 13 = .ok (.bipush 12, 2) := by decide +kernel
theorem dX3_init_15 : decode cX3_init 15 = .ok (.newarray .int, 2) := by decide +kernel
theorem dX3_init_17 : decode cX3_init 17 = .ok (.putfield 15, 3) := by decide +kernel
theorem dX3_init_20 : decode cX3_init 20 = .ok (.aload_n 0, 1) := by decide +kernel
theorem dX3_init_21 : decode cX3_init 21 = .ok (.bipush 12, 2) := by decide +kernel
theorem dX3_init_23 : decode cX3_init 23 = .ok (.newarray .int, 2) := by decide +kernel
theorem dX3_init_25 : decode cX3_init 25 = .ok (.putfield 18, 3) := by decide +kernel
theorem dX3_init_28 : decode cX3_init 28 = .ok (.return_, 1) := by decide +kernel
theorem dX3_clear_0 : decode cX3_clear 0 = .ok (.iconst 0, 1) := by decide +kernel
theorem dX3_clear_1 : decode cX3_clear 1 = .ok (.istore_n 2, 1) := by decide +kernel
theorem dX3_clear_2 : decode cX3_clear 2 = .ok (.iload_n 2, 1) := by decide +kernel
theorem dX3_clear_3 : decode cX3_clear 3 = .ok (.bipush 12, 2) := by decide +kernel
theorem dX3_clear_5 : decode cX3_clear 5 = .ok (.if_icmp .ge 35, 3) := by decide +kernel
theorem dX3_clear_8 : decode cX3_clear 8 = .ok (.aload_n 0, 1) := by decide +kernel
theorem dX3_clear_9 : decode cX3_clear 9 = .ok (.getfield 9, 3) := by decide +kernel
theorem dX3_clear_12 : decode cX3_clear 12 = .ok (.iload_n 2, 1) := by decide +kernel
theorem dX3_clear_13 : decode cX3_clear 13 = .ok (.aload_n 1, 1) := by decide +kernel
theorem dX3_clear_14 : decode cX3_clear 14 = .ok (.getfield 21, 3) := by decide +kernel
theorem dX3_clear_17 : decode cX3_clear 17 = .ok (.iload_n 2, 1) := by decide +kernel
theorem dX3_clear_18 : decode cX3_clear 18 = .ok (.iaload, 1) := by decide +kernel
theorem dX3_clear_19 : decode cX3_clear 19 = .ok (.iastore, 1) := by decide +kernel
theorem dX3_clear_20 : decode cX3_clear 20 = .ok (.aload_n 0, 1) := by decide +kernel
theorem dX3_clear_21 : decode cX3_clear 21 = .ok (.getfield 15, 3) := by decide +kernel
theorem dX3_clear_24 : decode cX3_clear 24 = .ok (.iload_n 2, 1) := by decide +kernel
theorem dX3_clear_25 : decode cX3_clear 25 = .ok (.iconst 5, 1) := by decide +kernel
theorem dX3_clear_26 : decode cX3_clear 26 = .ok (.iastore, 1) := by decide +kernel
theorem dX3_clear_27 : decode cX3_clear 27 = .ok (.aload_n 0, 1) := by decide +kernel
theorem dX3_clear_28 : decode cX3_clear 28 = .ok (.getfield 18, 3) := by decide +kernel
theorem dX3_clear_31 : decode cX3_clear 31 = .ok (.iload_n 2, 1) := by decide +kernel
theorem dX3_clear_32 : decode cX3_clear 32 = .ok (.iconst 0, 1) := by decide +kernel
theorem dX3_clear_33 : decode cX3_clear 33 = .ok (.iastore, 1) := by decide +kernel
theorem dX3_clear_34 : decode cX3_clear 34 = .ok (.iinc 2 1, 3) := by decide +kernel
theorem dX3_clear_37 : decode cX3_clear 37 = .ok (.goto (-35), 3) := by decide +kernel
theorem dX3_clear_40 : decode cX3_clear 40 = .ok (.return_, 1) := by decide +kernel
theorem dX3_copyFrom_0 : decode cX3_copyFrom 0 = .ok (.aload_n 1, 1) := by decide +kernel
theorem dX3_copyFrom_1 : decode cX3_copyFrom 1 = .ok (.getfield 9, 3) := by decide +kernel
theorem dX3_copyFrom_4 : decode cX3_copyFrom 4 = .ok (.iconst 0, 1) := by decide +kernel
theorem dX3_copyFrom_5 : decode cX3_copyFrom 5 = .ok (.aload_n 0, 1) := by decide +kernel
theorem dX3_copyFrom_6 : decode cX3_copyFrom 6 = .ok (.getfield 9, 3) := by decide +kernel
theorem dX3_copyFrom_9 : decode cX3_copyFrom 9 = .ok (.iconst 0, 1) := by decide +kernel
theorem dX3_copyFrom_10 : decode cX3_copyFrom 10 = .ok (.bipush 12, 2) := by decide +kernel
theorem dX3_copyFrom_12 : decode cX3_copyFrom 12 = .ok (.invokestatic 24, 3) := by decide +kernel
theorem dX3_copyFrom_15 : decode cX3_copyFrom 15 = .ok (.aload_n 1, 1) := by decide +kernel
theorem dX3_copyFrom_16 : decode cX3_copyFrom 16 = .ok (.getfield 15, 3) := by decide +kernel
theorem dX3_copyFrom_19 : decode cX3_copyFrom 19 = .ok (.iconst 0, 1) := by decide +kernel
theorem dX3_copyFrom_20 : decode cX3_copyFrom 20 = .ok (.aload_n 0, 1) := by decide +kernel
theorem dX3_copyFrom_21 : decode cX3_copyFrom 21 = .ok (.getfield 15, 3) := by decide +kernel
theorem dX3_copyFrom_24 : decode cX3_copyFrom 24 = .ok (.iconst 0, 1) := by decide +kernel
theorem dX3_copyFrom_25 : decode cX3_copyFrom 25 = .ok (.bipush 12, 2) := by decide +kernel
theorem dX3_copyFrom_27 : decode cX3_copyFrom 27 = .ok (.invokestatic 24, 3) := by decide +kernel
theorem dX3_copyFrom_30 : decode cX3_copyFrom 30 = .ok (.aload_n 1, 1) := by decide +kernel
theorem dX3_copyFrom_31 : decode cX3_copyFrom 31 = .ok (.getfield 18, 3) := by decide +kernel
theorem dX3_copyFrom_34 : decode cX3_copyFrom 34 = .ok (.iconst 0, 1) := by decide +kernel
theorem dX3_copyFrom_35 : decode cX3_copyFrom 35 = .ok (.aload_n 0, 1) := by decide +kernel
theorem dX3_copyFrom_36 : decode cX3_copyFrom 36 = .ok (.getfield 18, 3) := by decide +kernel
theorem dX3_copyFrom_39 : decode cX3_copyFrom 39 = .ok (.iconst 0, 1) := by decide +kernel
theorem dX3_copyFrom_40 : decode cX3_copyFrom 40 = .ok (.bipush 12, 2) := by decide +kernel
theorem dX3_copyFrom_42 : decode cX3_copyFrom 42 = .ok (.invokestatic 24, 3) := by decide +kernel
theorem dX3_copyFrom_45 : decode cX3_copyFrom 45 = .ok (.return_, 1) := by decide +kernel
theorem dX4_init_0 : decode cX4_init 0 = .ok (.aload_n 0, 1) := by decide +kernel
theorem dX4_init_1 : decode cX4_init 1 = .ok (.invokespecial 3, 3) := by decide +kernel
theorem dX4_init_4 : decode cX4_init 4 = .ok (.aload_n 0, 1) := by decide +kernel
theorem dX4_init_5 : decode cX4_init 5 = .ok (.bipush 16, 2) := by decide +kernel
theorem dX4_init_7 : decode cX4_init 7 = .ok (.newarray .int, 2) := by decide +kernel
theorem dX4_init_9 : decode cX4_init 9 = .ok (.putfield 9, 3) := by decide +kernel
theorem dX4_init_12 : decode cX4_init 12 = .ok (.aload_n 0, 1) := by decide +kernel
theorem dX4_init_13 : decode cX4_init 13 = .ok (.bipush 16, 2) := by decide +kernel
theorem dX4_init_15 : decode cX4_init 15 = .ok (.newarray .int, 2) := by decide +kernel
theorem dX4_init_17 : decode cX4_init 17 = .ok (.putfield 15, 3) := by decide +kernel
theorem dX4_init_20 : decode cX4_init 20 = .ok (.aload_n 0, 1) := by decide +kernel
theorem dX4_init_21 : decode cX4_init 21 = .ok (.bipush 16, 2) := by decide +kernel
theorem dX4_init_23 : decode cX4_init 23 = .ok (.newarray .int, 2) := by decide +kernel
theorem dX4_init_25 : decode cX4_init 25 = .ok (.putfield 18, 3) := by decide +kernel
theorem dX4_init_28 : decode cX4_init 28 = .ok (.aload_n 0, 1) := by decide +kernel
theorem dX4_init_29 : decode cX4_init 29 = .ok (.bipush 16, 2) := by decide +kernel
theorem dX4_init_31 : decode cX4_init 31 = .ok (.newarray .int, 2) := by decide +kernel
theorem dX4_init_33 : decode cX4_init 33 = .ok (.putfield 21, 3) := by decide +kernel
theorem dX4_init_36 : decode cX4_init 36 = .ok (.aload_n 0, 1) := by decide +kernel
theorem dX4_init_37 : decode cX4_init 37 = .ok (.sipush 192, 3) := by decide +kernel
theorem dX4_init_40 : decode cX4_init 40 = .ok (.newarray .int, 2) := by decide +kernel
theorem dX4_init_42 : decode cX4_init 42 = .ok (.putfield 24, 3) := by decide +kernel
theorem dX4_init_45 : decode cX4_init 45 = .ok (.return_, 1) := by decide +kernel
theorem dX4_copyFrom_0 : decode cX4_copyFrom 0 = .ok (.aload_n 0, 1) := by decide +kernel
theorem dX4_copyFrom_1 : decode cX4_copyFrom 1 = .ok (.aload_n 1, 1) := by decide +kernel
theorem dX4_copyFrom_2 : decode cX4_copyFrom 2 = .ok (.getfield 27, 3) := by decide +kernel
theorem dX4_copyFrom_5 : decode cX4_copyFrom 5 = .ok (.putfield 27, 3) := by decide +kernel
theorem dX4_copyFrom_8 : decode cX4_copyFrom 8 = .ok (.aload_n 1, 1) := by decide +kernel
theorem dX4_copyFrom_9 : decode cX4_copyFrom 9 = .ok (.getfield 9, 3) := by decide +kernel
theorem dX4_copyFrom_12 : decode cX4_copyFrom 12 = .ok (.iconst 0, 1) := by decide +kernel
theorem dX4_copyFrom_13 : decode cX4_copyFrom 13 = .ok (.aload_n 0, 1) := by decide +kernel
theorem dX4_copyFrom_14 : decode cX4_copyFrom 14 = .ok (.getfield 9, 3) := by decide +kernel
theorem dX4_copyFrom_17 : decode cX4_copyFrom 17 = .ok (.iconst 0, 1) := by decide +kernel
theorem dX4_copyFrom_18 : decode cX4_copyFrom 18 = .ok (.bipush 16, 2) := by decide +kernel
theorem dX4_copyFrom_20 : decode cX4_copyFrom 20 = .ok (.invokestatic 31, 3) := by decide +kernel
theorem dX4_copyFrom_23 : decode cX4_copyFrom 23 = .ok (.aload_n 1, 1) := by decide +kernel
theorem dX4_copyFrom_24 : decode cX4_copyFrom 24 = .ok (.getfield 15, 3) := by decide +kernel
theorem dX4_copyFrom_27 : decode cX4_copyFrom 27 = .ok (.iconst 0, 1) := by decide +kernel
theorem dX4_copyFrom_28 : decode cX4_copyFrom 28 = .ok (.aload_n 0, 1) := by decide +kernel
theorem dX4_copyFrom_29 : decode cX4_copyFrom 29 = .ok (.getfield 15, 3) := by decide +kernel
theorem dX4_copyFrom_32 : decode cX4_copyFrom 32 = .ok (.iconst 0, 1) := by decide +kernel
theorem dX4_copyFrom_33 : decode cX4_copyFrom 33 = .ok (.bipush 16, 2) := by decide +kernel
theorem dX4_copyFrom_35 : decode cX4_copyFrom 35 = .ok (.invokestatic 31, 3) := by decide +kernel
theorem dX4_copyFrom_38 : decode cX4_copyFrom 38 = .ok (.aload_n 1, 1) := by decide +kernel
theorem dX4_copyFrom_39 : decode cX4_copyFrom 39 = .ok (.getfield 18, 3) := by decide +kernel
theorem dX4_copyFrom_42 : decode cX4_copyFrom 42 = .ok (.iconst 0, 1) := by decide +kernel
theorem dX4_copyFrom_43 : decode cX4_copyFrom 43 = .ok (.aload_n 0, 1) := by decide +kernel
theorem dX4_copyFrom_44 : decode cX4_copyFrom 44 = .ok (.getfield 18, 3) := by decide +kernel
theorem dX4_copyFrom_47 : decode cX4_copyFrom 47 = .ok (.iconst 0, 1) := by decide +kernel
theorem dX4_copyFrom_48 : decode cX4_copyFrom 48 = .ok (.bipush 16, 2) := by decide +kernel
theorem dX4_copyFrom_50 : decode cX4_copyFrom 50 = .ok (.invokestatic 31, 3) := by decide +kernel
theorem dX4_copyFrom_53 : decode cX4_copyFrom 53 = .ok (.aload_n 1, 1) := by decide +kernel
theorem dX4_copyFrom_54 : decode cX4_copyFrom 54 = .ok (.getfield 21, 3) := by decide +kernel
theorem dX4_copyFrom_57 : decode cX4_copyFrom 57 = .ok (.iconst 0, 1) := by decide +kernel
theorem dX4_copyFrom_58 : decode cX4_copyFrom 58 = .ok (.aload_n 0, 1) := by decide +kernel
theorem dX4_copyFrom_59 : decode cX4_copyFrom 59 = .ok (.getfield 21, 3) := by decide +kernel
theorem dX4_copyFrom_62 : decode cX4_copyFrom 62 = .ok (.iconst 0, 1) := by decide +kernel
theorem dX4_copyFrom_63 : decode cX4_copyFrom 63 = .ok (.bipush 16, 2) := by decide +kernel
theorem dX4_copyFrom_65 : decode cX4_copyFrom 65 = .ok (.invokestatic 31, 3) := by decide +kernel
theorem dX4_copyFrom_68 : decode cX4_copyFrom 68 = .ok (.aload_n 1, 1) := by decide +kernel
theorem dX4_copyFrom_69 : decode cX4_copyFrom 69 = .ok (.getfield 24, 3) := by decide +kernel
theorem dX4_copyFrom_72 : decode cX4_copyFrom 72 = .ok (.iconst 0, 1) := by decide +kernel
theorem dX4_copyFrom_73 : decode cX4_copyFrom 73 = .ok (.aload_n 0, 1) := by decide +kernel
theorem dX4_copyFrom_74 : decode cX4_copyFrom 74 = .ok (.getfield 24, 3) := by decide +kernel
theorem dX4_copyFrom_77 : decode cX4_copyFrom 77 = .ok (.iconst 0, 1) := by decide +kernel
theorem dX4_copyFrom_78 : decode cX4_copyFrom 78 = .ok (.sipush 192, 3) := by decide +kernel
theorem dX4_copyFrom_81 : decode cX4_copyFrom 81 = .ok (.invokestatic 31, 3) := by decide +kernel
theorem dX4_copyFrom_84 : decode cX4_copyFrom 84 = .ok (.return_, 1) := by decide +kernel
theorem dX4_has_0 : decode cX4_has 0 = .ok (.iload_n 1, 1) := by decide +kernel
theorem dX4_has_1 : decode cX4_has 1 = .ok (.ifCond .lt 15, 3) := by decide +kernel
theorem dX4_has_4 : decode cX4_has 4 = .ok (.iload_n 1, 1) := by decide +kernel
theorem dX4_has_5 : decode cX4_has 5 = .ok (.aload_n 0, 1) := by decide +kernel
theorem dX4_has_6 : decode cX4_has 6 = .ok (.getfield 27, 3) := by decide +kernel
theorem dX4_has_9 : decode cX4_has 9 = .ok (.if_icmp .ge 7, 3) := by decide +kernel
theorem dX4_has_12 : decode cX4_has 12 = .ok (.iconst 1, 1) := by decide +kernel
theorem dX4_has_13 : decode cX4_has 13 = .ok (.goto 4, 3) := by decide +kernel
theorem dX4_has_16 : decode cX4_has 16 = .ok (.iconst 0, 1) := by decide +kernel
theorem dX4_has_17 : decode cX4_has 17 = .ok (.ireturn, 1) := by decide +kernel
theorem dX4_isOpen_0 : decode cX4_isOpen 0 = .ok (.aload_n 0, 1) := by decide +kernel
theorem dX4_isOpen_1 : decode cX4_isOpen 1 = .ok (.iload_n 1, 1) := by decide +kernel
theorem dX4_isOpen_2 : decode cX4_isOpen 2 = .ok (.invokevirtual 37, 3) := by decide +kernel
theorem dX4_isOpen_5 : decode cX4_isOpen 5 = .ok (.ifCond .eq 16, 3) := by decide +kernel
theorem dX4_isOpen_8 : decode cX4_isOpen 8 = .ok (.aload_n 0, 1) := by decide +kernel
theorem dX4_isOpen_9 : decode cX4_isOpen 9 = .ok (.getfield 15, 3) := by decide +kernel
theorem dX4_isOpen_12 : decode cX4_isOpen 12 = .ok (.iload_n 1, 1) := by decide +kernel
theorem dX4_isOpen_13 : decode cX4_isOpen 13 = .ok (.iaload, 1) := by decide +kernel
theorem dX4_isOpen_14 : decode cX4_isOpen 14 = .ok (.ifCond .ne 7, 3) := by decide +kernel
theorem dX4_isOpen_17 : decode cX4_isOpen 17 = .ok (.iconst 1, 1) := by decide +kernel
theorem dX4_isOpen_18 : decode cX4_isOpen 18 = .ok (.goto 4, 3) := by decide +kernel
theorem dX4_isOpen_21 : decode cX4_isOpen 21 = .ok (.iconst 0, 1) := by decide +kernel
theorem dX4_isOpen_22 : decode cX4_isOpen 22 = .ok (.ireturn, 1) := by decide +kernel
theorem dX4_leaningOf_0 : decode cX4_leaningOf 0 = .ok (.aload_n 0, 1) := by decide +kernel
theorem dX4_leaningOf_1 : decode cX4_leaningOf 1 = .ok (.getfield 24, 3) := by decide +kernel
theorem dX4_leaningOf_4 : decode cX4_leaningOf 4 = .ok (.iload_n 2, 1) := by decide +kernel
theorem dX4_leaningOf_5 : decode cX4_leaningOf 5 = .ok (.bipush 12, 2) := by decide +kernel
theorem dX4_leaningOf_7 : decode cX4_leaningOf 7 = .ok (.imul, 1) := by decide +kernel
theorem dX4_leaningOf_8 : decode cX4_leaningOf 8 = .ok (.iload_n 1, 1) := by decide +kernel
theorem dX4_leaningOf_9 : decode cX4_leaningOf 9 = .ok (.iadd, 1) := by decide +kernel
theorem dX4_leaningOf_10 : decode cX4_leaningOf 10 = .ok (.iaload, 1) := by decide +kernel
theorem dX4_leaningOf_11 : decode cX4_leaningOf 11 = .ok (.ireturn, 1) := by decide +kernel
theorem dX4_setLeaning_0 : decode cX4_setLeaning 0 = .ok (.aload_n 0, 1) := by decide +kernel
theorem dX4_setLeaning_1 : decode cX4_setLeaning 1 = .ok (.getfield 24, 3) := by decide +kernel
theorem dX4_setLeaning_4 : decode cX4_setLeaning 4 = .ok (.iload_n 2, 1) := by decide +kernel
theorem dX4_setLeaning_5 : decode cX4_setLeaning 5 = .ok (.bipush 12, 2) := by decide +kernel
theorem dX4_setLeaning_7 : decode cX4_setLeaning 7 = .ok (.imul, 1) := by decide +kernel
theorem dX4_setLeaning_8 : decode cX4_setLeaning 8 = .ok (.iload_n 1, 1) := by decide +kernel
theorem dX4_setLeaning_9 : decode cX4_setLeaning 9 = .ok (.iadd, 1) := by decide +kernel
theorem dX4_setLeaning_10 : decode cX4_setLeaning 10 = .ok (.bipush (-20), 2) := by decide +kernel
theorem dX4_setLeaning_12 : decode cX4_setLeaning 12 = .ok (.iload_n 3, 1) := by decide +kernel
theorem dX4_setLeaning_13 : decode cX4_setLeaning 13 = .ok (.bipush 20, 2) := by decide +kernel
theorem dX4_setLeaning_15 : decode cX4_setLeaning 15 = .ok (.invokestatic 41, 3) := by decide +kernel
theorem dX4_setLeaning_18 : decode cX4_setLeaning 18 = .ok (.invokestatic 47, 3) := by decide +kernel
theorem dX4_setLeaning_21 : decode cX4_setLeaning 21 = .ok (.iastore, 1) := by decide +kernel
theorem dX4_setLeaning_22 : decode cX4_setLeaning 22 = .ok (.return_, 1) := by decide +kernel
theorem dX4_dry_0 : decode cX4_dry 0 = .ok (.iconst 0, 1) := by decide +kernel
theorem dX4_dry_1 : decode cX4_dry 1 = .ok (.istore_n 1, 1) := by decide +kernel
theorem dX4_dry_2 : decode cX4_dry 2 = .ok (.iload_n 1, 1) := by decide +kernel
theorem dX4_dry_3 : decode cX4_dry 3 = .ok (.aload_n 0, 1) := by decide +kernel
theorem dX4_dry_4 : decode cX4_dry 4 = .ok (.getfield 27, 3) := by decide +kernel
theorem dX4_dry_7 : decode cX4_dry 7 = .ok (.if_icmp .ge 37, 3) := by decide +kernel
theorem dX4_dry_10 : decode cX4_dry 10 = .ok (.aload_n 0, 1) := by decide +kernel
theorem dX4_dry_11 : decode cX4_dry 11 = .ok (.getfield 15, 3) := by decide +kernel
theorem dX4_dry_14 : decode cX4_dry 14 = .ok (.iload_n 1, 1) := by decide +kernel
theorem dX4_dry_15 : decode cX4_dry 15 = .ok (.iaload, 1) := by decide +kernel
theorem dX4_dry_16 : decode cX4_dry 16 = .ok (.ifCond .ne 22, 3) := by decide +kernel
theorem dX4_dry_19 : decode cX4_dry 19 = .ok (.aload_n 0, 1) := by decide +kernel
theorem dX4_dry_20 : decode cX4_dry 20 = .ok (.getfield 18, 3) := by decide +kernel
theorem dX4_dry_23 : decode cX4_dry 23 = .ok (.iload_n 1, 1) := by decide +kernel
theorem dX4_dry_24 : decode cX4_dry 24 = .ok (.iaload, 1) := by decide +kernel
theorem dX4_dry_25 : decode cX4_dry 25 = .ok (.ifCond .le 13, 3) := by decide +kernel
theorem dX4_dry_28 : decode cX4_dry 28 = .ok (.aload_n 0, 1) := by decide +kernel
theorem dX4_dry_29 : decode cX4_dry 29 = .ok (.getfield 18, 3) := by decide +kernel
theorem dX4_dry_32 : decode cX4_dry 32 = .ok (.iload_n 1, 1) := by decide +kernel
theorem dX4_dry_33 : decode cX4_dry 33 = .ok (.dup2, 1) := by decide +kernel
theorem dX4_dry_34 : decode cX4_dry 34 = .ok (.iaload, 1) := by decide +kernel
theorem dX4_dry_35 : decode cX4_dry 35 = .ok (.iconst 1, 1) := by decide +kernel
theorem dX4_dry_36 : decode cX4_dry 36 = .ok (.isub, 1) := by decide +kernel
theorem dX4_dry_37 : decode cX4_dry 37 = .ok (.iastore, 1) := by decide +kernel
theorem dX4_dry_38 : decode cX4_dry 38 = .ok (.iinc 1 1, 3) := by decide +kernel
theorem dX4_dry_41 : decode cX4_dry 41 = .ok (.goto (-39), 3) := by decide +kernel
theorem dX4_dry_44 : decode cX4_dry 44 = .ok (.return_, 1) := by decide +kernel
theorem dX5_init_0 : decode cX5_init 0 = .ok (.aload_n 0, 1) := by decide +kernel
theorem dX5_init_1 : decode cX5_init 1 = .ok (.invokespecial 3, 3) := by decide +kernel
theorem dX5_init_4 : decode cX5_init 4 = .ok (.aload_n 0, 1) := by decide +kernel
theorem dX5_init_5 : decode cX5_init 5 = .ok (.bipush 12, 2) := by decide +kernel
theorem dX5_init_7 : decode cX5_init 7 = .ok (.newarray .int, 2) := by decide +kernel
theorem dX5_init_9 : decode cX5_init 9 = .ok (.putfield 9, 3) := by decide +kernel
theorem dX5_init_12 : decode cX5_init 12 = .ok (.aload_n 0, 1) := by decide +kernel
theorem dX5_init_13 : decode cX5_init 13 = .ok (.bipush 12, 2) := by decide +kernel
theorem dX5_init_15 : decode cX5_init 15 = .ok (.newarray .int, 2) := by decide +kernel
theorem dX5_init_17 : decode cX5_init 17 = .ok (.putfield 15, 3) := by decide +kernel
theorem dX5_init_20 : decode cX5_init 20 = .ok (.aload_n 0, 1) := by decide +kernel
theorem dX5_init_21 : decode cX5_init 21 = .ok (.bipush 12, 2) := by decide +kernel
theorem dX5_init_23 : decode cX5_init 23 = .ok (.newarray .int, 2) := by decide +kernel
theorem dX5_init_25 : decode cX5_init 25 = .ok (.putfield 18, 3) := by decide +kernel
theorem dX5_init_28 : decode cX5_init 28 = .ok (.return_, 1) := by decide +kernel
theorem dX5_copyFrom_0 : decode cX5_copyFrom 0 = .ok (.aload_n 0, 1) := by decide +kernel
theorem dX5_copyFrom_1 : decode cX5_copyFrom 1 = .ok (.aload_n 1, 1) := by decide +kernel
theorem dX5_copyFrom_2 : decode cX5_copyFrom 2 = .ok (.getfield 21, 3) := by decide +kernel
theorem dX5_copyFrom_5 : decode cX5_copyFrom 5 = .ok (.putfield 21, 3) := by decide +kernel
theorem dX5_copyFrom_8 : decode cX5_copyFrom 8 = .ok (.aload_n 1, 1) := by decide +kernel
theorem dX5_copyFrom_9 : decode cX5_copyFrom 9 = .ok (.getfield 9, 3) := by decide +kernel
theorem dX5_copyFrom_12 : decode cX5_copyFrom 12 = .ok (.iconst 0, 1) := by decide +kernel
theorem dX5_copyFrom_13 : decode cX5_copyFrom 13 = .ok (.aload_n 0, 1) := by decide +kernel
theorem dX5_copyFrom_14 : decode cX5_copyFrom 14 = .ok (.getfield 9, 3) := by decide +kernel
theorem dX5_copyFrom_17 : decode cX5_copyFrom 17 = .ok (.iconst 0, 1) := by decide +kernel
theorem dX5_copyFrom_18 : decode cX5_copyFrom 18 = .ok (.bipush 12, 2) := by decide +kernel
theorem dX5_copyFrom_20 : decode cX5_copyFrom 20 = .ok (.invokestatic 25, 3) := by decide +kernel
theorem dX5_copyFrom_23 : decode cX5_copyFrom 23 = .ok (.aload_n 1, 1) := by decide +kernel
theorem dX5_copyFrom_24 : decode cX5_copyFrom 24 = .ok (.getfield 15, 3) := by decide +kernel
theorem dX5_copyFrom_27 : decode cX5_copyFrom 27 = .ok (.iconst 0, 1) := by decide +kernel
theorem dX5_copyFrom_28 : decode cX5_copyFrom 28 = .ok (.aload_n 0, 1) := by decide +kernel
theorem dX5_copyFrom_29 : decode cX5_copyFrom 29 = .ok (.getfield 15, 3) := by decide +kernel
theorem dX5_copyFrom_32 : decode cX5_copyFrom 32 = .ok (.iconst 0, 1) := by decide +kernel
theorem dX5_copyFrom_33 : decode cX5_copyFrom 33 = .ok (.bipush 12, 2) := by decide +kernel
theorem dX5_copyFrom_35 : decode cX5_copyFrom 35 = .ok (.invokestatic 25, 3) := by decide +kernel
theorem dX5_copyFrom_38 : decode cX5_copyFrom 38 = .ok (.aload_n 1, 1) := by decide +kernel
theorem dX5_copyFrom_39 : decode cX5_copyFrom 39 = .ok (.getfield 18, 3) := by decide +kernel
theorem dX5_copyFrom_42 : decode cX5_copyFrom 42 = .ok (.iconst 0, 1) := by decide +kernel
theorem dX5_copyFrom_43 : decode cX5_copyFrom 43 = .ok (.aload_n 0, 1) := by decide +kernel
theorem dX5_copyFrom_44 : decode cX5_copyFrom 44 = .ok (.getfield 18, 3) := by decide +kernel
theorem dX5_copyFrom_47 : decode cX5_copyFrom 47 = .ok (.iconst 0, 1) := by decide +kernel
theorem dX5_copyFrom_48 : decode cX5_copyFrom 48 = .ok (.bipush 12, 2) := by decide +kernel
theorem dX5_copyFrom_50 : decode cX5_copyFrom 50 = .ok (.invokestatic 25, 3) := by decide +kernel
theorem dX5_copyFrom_53 : decode cX5_copyFrom 53 = .ok (.return_, 1) := by decide +kernel
theorem dX5_placeOf_0 : decode cX5_placeOf 0 = .ok (.iconst 0, 1) := by decide +kernel
theorem dX5_placeOf_1 : decode cX5_placeOf 1 = .ok (.istore_n 2, 1) := by decide +kernel
theorem dX5_placeOf_2 : decode cX5_placeOf 2 = .ok (.iload_n 2, 1) := by decide +kernel
theorem dX5_placeOf_3 : decode cX5_placeOf 3 = .ok (.aload_n 0, 1) := by decide +kernel
theorem dX5_placeOf_4 : decode cX5_placeOf 4 = .ok (.getfield 21, 3) := by decide +kernel
theorem dX5_placeOf_7 : decode cX5_placeOf 7 = .ok (.if_icmp .ge 21, 3) := by decide +kernel
theorem dX5_placeOf_10 : decode cX5_placeOf 10 = .ok (.aload_n 0, 1) := by decide +kernel
theorem dX5_placeOf_11 : decode cX5_placeOf 11 = .ok (.getfield 9, 3) := by decide +kernel
theorem dX5_placeOf_14 : decode cX5_placeOf 14 = .ok (.iload_n 2, 1) := by decide +kernel
theorem dX5_placeOf_15 : decode cX5_placeOf 15 = .ok (.iaload, 1) := by decide +kernel
theorem dX5_placeOf_16 : decode cX5_placeOf 16 = .ok (.iload_n 1, 1) := by decide +kernel
theorem dX5_placeOf_17 : decode cX5_placeOf 17 = .ok (.if_icmp .ne 5, 3) := by decide +kernel
theorem dX5_placeOf_20 : decode cX5_placeOf 20 = .ok (.iload_n 2, 1) := by decide +kernel
theorem dX5_placeOf_21 : decode cX5_placeOf 21 = .ok (.ireturn, 1) := by decide +kernel
theorem dX5_placeOf_22 : decode cX5_placeOf 22 = .ok (.iinc 2 1, 3) := by decide +kernel
theorem dX5_placeOf_25 : decode cX5_placeOf 25 = .ok (.goto (-23), 3) := by decide +kernel
theorem dX5_placeOf_28 : decode cX5_placeOf 28 = .ok (.iconst (-1), 1) := by decide +kernel
theorem dX5_placeOf_29 : decode cX5_placeOf 29 = .ok (.ireturn, 1) := by decide +kernel
theorem dX5_add_0 : decode cX5_add 0 = .ok (.aload_n 0, 1) := by decide +kernel
theorem dX5_add_1 : decode cX5_add 1 = .ok (.getfield 21, 3) := by decide +kernel
theorem dX5_add_4 : decode cX5_add 4 = .ok (.istore 4, 2) := by decide +kernel
theorem dX5_add_6 : decode cX5_add 6 = .ok (.iload 4, 2) := by decide +kernel
theorem dX5_add_8 : decode cX5_add 8 = .ok (.bipush 12, 2) := by decide +kernel
theorem dX5_add_10 : decode cX5_add 10 = .ok (.if_icmp .ge 37, 3) := by decide +kernel
theorem dX5_add_13 : decode cX5_add 13 = .ok (.aload_n 0, 1) := by decide +kernel
theorem dX5_add_14 : decode cX5_add 14 = .ok (.getfield 9, 3) := by decide +kernel
theorem dX5_add_17 : decode cX5_add 17 = .ok (.iload 4, 2) := by decide +kernel
theorem dX5_add_19 : decode cX5_add 19 = .ok (.iload_n 1, 1) := by decide +kernel
theorem dX5_add_20 : decode cX5_add 20 = .ok (.iastore, 1) := by decide +kernel
theorem dX5_add_21 : decode cX5_add 21 = .ok (.aload_n 0, 1) := by decide +kernel
theorem dX5_add_22 : decode cX5_add 22 = .ok (.getfield 15, 3) := by decide +kernel
theorem dX5_add_25 : decode cX5_add 25 = .ok (.iload 4, 2) := by decide +kernel
theorem dX5_add_27 : decode cX5_add 27 = .ok (.iload_n 2, 1) := by decide +kernel
theorem dX5_add_28 : decode cX5_add 28 = .ok (.iastore, 1) := by decide +kernel
theorem dX5_add_29 : decode cX5_add 29 = .ok (.aload_n 0, 1) := by decide +kernel
theorem dX5_add_30 : decode cX5_add 30 = .ok (.getfield 18, 3) := by decide +kernel
theorem dX5_add_33 : decode cX5_add 33 = .ok (.iload 4, 2) := by decide +kernel
theorem dX5_add_35 : decode cX5_add 35 = .ok (.iload_n 3, 1) := by decide +kernel
theorem dX5_add_36 : decode cX5_add 36 = .ok (.iastore, 1) := by decide +kernel
theorem dX5_add_37 : decode cX5_add 37 = .ok (.aload_n 0, 1) := by decide +kernel
theorem dX5_add_38 : decode cX5_add 38 = .ok (.dup, 1) := by decide +kernel
theorem dX5_add_39 : decode cX5_add 39 = .ok (.getfield 21, 3) := by decide +kernel
theorem dX5_add_42 : decode cX5_add 42 = .ok (.iconst 1, 1) := by decide +kernel
theorem dX5_add_43 : decode cX5_add 43 = .ok (.iadd, 1) := by decide +kernel
theorem dX5_add_44 : decode cX5_add 44 = .ok (.putfield 21, 3) := by decide +kernel
theorem dX5_add_47 : decode cX5_add 47 = .ok (.iload 4, 2) := by decide +kernel
theorem dX5_add_49 : decode cX5_add 49 = .ok (.ireturn, 1) := by decide +kernel
theorem dX5_removeAt_0 : decode cX5_removeAt 0 = .ok (.iload_n 1, 1) := by decide +kernel
theorem dX5_removeAt_1 : decode cX5_removeAt 1 = .ok (.iconst 1, 1) := by decide +kernel
theorem dX5_removeAt_2 : decode cX5_removeAt 2 = .ok (.iadd, 1) := by decide +kernel
theorem dX5_removeAt_3 : decode cX5_removeAt 3 = .ok (.istore_n 2, 1) := by decide +kernel
theorem dX5_removeAt_4 : decode cX5_removeAt 4 = .ok (.iload_n 2, 1) := by decide +kernel
theorem dX5_removeAt_5 : decode cX5_removeAt 5 = .ok (.aload_n 0, 1) := by decide +kernel
theorem dX5_removeAt_6 : decode cX5_removeAt 6 = .ok (.getfield 21, 3) := by decide +kernel
theorem dX5_removeAt_9 : decode cX5_removeAt 9 = .ok (.if_icmp .ge 17, 3) := by decide +kernel
theorem dX5_removeAt_12 : decode cX5_removeAt 12 = .ok (.aload_n 0, 1) := by decide +kernel
theorem dX5_removeAt_13 : decode cX5_removeAt 13 = .ok (.iload_n 2, 1) := by decide +kernel
theorem dX5_removeAt_14 : decode cX5_removeAt 14 = .ok (.iload_n 2, 1) := by decide +kernel
theorem dX5_removeAt_15 : decode cX5_removeAt 15 = .ok (.iconst 1, 1) := by decide +kernel
theorem dX5_removeAt_16 : decode cX5_removeAt 16 = .ok (.isub, 1) := by decide +kernel
theorem dX5_removeAt_17 : decode cX5_removeAt 17 = .ok (.invokevirtual 31, 3) := by decide +kernel
theorem dX5_removeAt_20 : decode cX5_removeAt 20 = .ok (.iinc 2 1, 3) := by decide +kernel
theorem dX5_removeAt_23 : decode cX5_removeAt 23 = .ok (.goto (-19), 3) := by decide +kernel
theorem dX5_removeAt_26 : decode cX5_removeAt 26 = .ok (.aload_n 0, 1) := by decide +kernel
theorem dX5_removeAt_27 : decode cX5_removeAt 27 = .ok (.dup, 1) := by decide +kernel
theorem dX5_removeAt_28 : decode cX5_removeAt 28 = .ok (.getfield 21, 3) := by decide +kernel
theorem dX5_removeAt_31 : decode cX5_removeAt 31 = .ok (.iconst 1, 1) := by decide +kernel
theorem dX5_removeAt_32 : decode cX5_removeAt 32 = .ok (.isub, 1) := by decide +kernel
theorem dX5_removeAt_33 : decode cX5_removeAt 33 = .ok (.putfield 21, 3) := by decide +kernel
theorem dX5_removeAt_36 : decode cX5_removeAt 36 = .ok (.return_, 1) := by decide +kernel
theorem dX5_removeAbout_0 : decode cX5_removeAbout 0 = .ok (.iconst 0, 1) := by decide +kernel
theorem dX5_removeAbout_1 : decode cX5_removeAbout 1 = .ok (.istore_n 2, 1) := by decide +kernel
theorem dX5_removeAbout_2 : decode cX5_removeAbout 2 = .ok (.iconst 0, 1) := by decide +kernel
theorem dX5_removeAbout_3 : decode cX5_removeAbout 3 = .ok (.istore_n 3, 1) := by decide +kernel
theorem dX5_removeAbout_4 : decode cX5_removeAbout 4 = .ok (.iload_n 3, 1) := by decide +kernel
theorem dX5_removeAbout_5 : decode cX5_removeAbout 5 = .ok (.aload_n 0, 1) := by decide +kernel
theorem dX5_removeAbout_6 : decode cX5_removeAbout 6 = .ok (.getfield 21, 3) := by decide +kernel
theorem dX5_removeAbout_9 : decode cX5_removeAbout 9 = .ok (.if_icmp .ge 28, 3) := by decide +kernel
theorem dX5_removeAbout_12 : decode cX5_removeAbout 12 = .ok (.aload_n 0, 1) := by decide +kernel
theorem dX5_removeAbout_13 : decode cX5_removeAbout 13 = .ok (.getfield 15, 3) := by decide +kernel
theorem dX5_removeAbout_16 : decode cX5_removeAbout 16 = .ok (.iload_n 3, 1) := by decide +kernel
theorem dX5_removeAbout_17 : decode cX5_removeAbout 17 = .ok (.iaload, 1) := by decide +kernel
theorem dX5_removeAbout_18 : decode cX5_removeAbout 18 = .ok (.iload_n 1, 1) := by decide +kernel
theorem dX5_removeAbout_19 : decode cX5_removeAbout 19 = .ok (.if_icmp .eq 12, 3) := by decide +kernel
theorem dX5_removeAbout_22 : decode cX5_removeAbout 22 = .ok (.aload_n 0, 1) := by decide +kernel
theorem dX5_removeAbout_23 : decode cX5_removeAbout 23 = .ok (.iload_n 3, 1) := by decide +kernel
theorem dX5_removeAbout_24 : decode cX5_removeAbout 24 = .ok (.iload_n 2, 1) := by decide +kernel
theorem dX5_removeAbout_25 : decode cX5_removeAbout 25 = .ok (.invokevirtual 31, 3) := by decide +kernel
theorem dX5_removeAbout_28 : decode cX5_removeAbout 28 = .ok (.iinc 2 1, 3) := by decide +kernel
theorem dX5_removeAbout_31 : decode cX5_removeAbout 31 = .ok (.iinc 3 1, 3) := by decide +kernel
theorem dX5_removeAbout_34 : decode cX5_removeAbout 34 = .ok (.goto (-30), 3) := by decide +kernel
theorem dX5_removeAbout_37 : decode cX5_removeAbout 37 = .ok (.aload_n 0, 1) := by decide +kernel
theorem dX5_removeAbout_38 : decode cX5_removeAbout 38 = .ok (.getfield 21, 3) := by decide +kernel
theorem dX5_removeAbout_41 : decode cX5_removeAbout 41 = .ok (.iload_n 2, 1) := by decide +kernel
theorem dX5_removeAbout_42 : decode cX5_removeAbout 42 = .ok (.isub, 1) := by decide +kernel
theorem dX5_removeAbout_43 : decode cX5_removeAbout 43 = .ok (.istore_n 3, 1) := by decide +kernel
theorem dX5_removeAbout_44 : decode cX5_removeAbout 44 = .ok (.aload_n 0, 1) := by decide +kernel
theorem dX5_removeAbout_45 : decode cX5_removeAbout 45 = .ok (.iload_n 2, 1) := by decide +kernel
theorem dX5_removeAbout_46 : decode cX5_removeAbout 46 = .ok (.putfield 21, 3) := by decide +kernel
theorem dX5_removeAbout_49 : decode cX5_removeAbout 49 = .ok (.iload_n 3, 1) := by decide +kernel
theorem dX5_removeAbout_50 : decode cX5_removeAbout 50 = .ok (.ireturn, 1) := by decide +kernel
theorem dX5_move_0 : decode cX5_move 0 = .ok (.aload_n 0, 1) := by decide +kernel
theorem dX5_move_1 : decode cX5_move 1 = .ok (.getfield 9, 3) := by decide +kernel
theorem dX5_move_4 : decode cX5_move 4 = .ok (.iload_n 2, 1) := by decide +kernel
theorem dX5_move_5 : decode cX5_move 5 = .ok (.aload_n 0, 1) := by decide +kernel
theorem dX5_move_6 : decode cX5_move 6 = .ok (.getfield 9, 3) := by decide +kernel
theorem dX5_move_9 : decode cX5_move 9 = .ok (.iload_n 1, 1) := by decide +kernel
theorem dX5_move_10 : decode cX5_move 10 = .ok (.iaload, 1) := by decide +kernel
theorem dX5_move_11 : decode cX5_move 11 = .ok (.iastore, 1) := by decide +kernel
theorem dX5_move_12 : decode cX5_move 12 = .ok (.aload_n 0, 1) := by decide +kernel
theorem dX5_move_13 : decode cX5_move 13 = .ok (.getfield 15, 3) := by decide +kernel
theorem dX5_move_16 : decode cX5_move 16 = .ok (.iload_n 2, 1) := by decide +kernel
theorem dX5_move_17 : decode cX5_move 17 = .ok (.aload_n 0, 1) := by decide +kernel
theorem dX5_move_18 : decode cX5_move 18 = .ok (.getfield 15, 3) := by decide +kernel
theorem dX5_move_21 : decode cX5_move 21 = .ok (.iload_n 1, 1) := by decide +kernel
theorem dX5_move_22 : decode cX5_move 22 = .ok (.iaload, 1) := by decide +kernel
theorem dX5_move_23 : decode cX5_move 23 = .ok (.iastore, 1) := by decide +kernel
theorem dX5_move_24 : decode cX5_move 24 = .ok (.aload_n 0, 1) := by decide +kernel
theorem dX5_move_25 : decode cX5_move 25 = .ok (.getfield 18, 3) := by decide +kernel
theorem dX5_move_28 : decode cX5_move 28 = .ok (.iload_n 2, 1) := by decide +kernel
theorem dX5_move_29 : decode cX5_move 29 = .ok (.aload_n 0, 1) := by decide +kernel
theorem dX5_move_30 : decode cX5_move 30 = .ok (.getfield 18, 3) := by decide +kernel
theorem dX5_move_33 : decode cX5_move 33 = .ok (.iload_n 1, 1) := by decide +kernel
theorem dX5_move_34 : decode cX5_move 34 = .ok (.iaload, 1) := by decide +kernel
theorem dX5_move_35 : decode cX5_move 35 = .ok (.iastore, 1) := by decide +kernel
theorem dX5_move_36 : decode cX5_move 36 = .ok (.return_, 1) := by decide +kernel
theorem dX6_init_0 : decode cX6_init 0 = .ok (.aload_n 0, 1) := by decide +kernel
theorem dX6_init_1 : decode cX6_init 1 = .ok (.invokespecial 3, 3) := by decide +kernel
theorem dX6_init_4 : decode cX6_init 4 = .ok (.aload_n 0, 1) := by decide +kernel
theorem dX6_init_5 : decode cX6_init 5 = .ok (.bipush 30, 2) := by decide +kernel
theorem dX6_init_7 : decode cX6_init 7 = .ok (.newarray .int, 2) := by decide +kernel
theorem dX6_init_9 : decode cX6_init 9 = .ok (.putfield 9, 3) := by decide +kernel
theorem dX6_init_12 : decode cX6_init 12 = .ok (.aload_n 0, 1) := by decide +kernel
theorem dX6_init_13 : decode cX6_init 13 = .ok (.bipush 30, 2) := by decide +kernel
theorem dX6_init_15 : decode cX6_init 15 = .ok (.newarray .int, 2) := by decide +kernel
theorem dX6_init_17 : decode cX6_init 17 = .ok (.putfield 15, 3) := by decide +kernel
theorem dX6_init_20 : decode cX6_init 20 = .ok (.aload_n 0, 1) := by decide +kernel
theorem dX6_init_21 : decode cX6_init 21 = .ok (.bipush 30, 2) := by decide +kernel
theorem dX6_init_23 : decode cX6_init 23 = .ok (.newarray .int, 2) := by decide +kernel
theorem dX6_init_25 : decode cX6_init 25 = .ok (.putfield 18, 3) := by decide +kernel
theorem dX6_init_28 : decode cX6_init 28 = .ok (.aload_n 0, 1) := by decide +kernel
theorem dX6_init_29 : decode cX6_init 29 = .ok (.bipush 30, 2) := by decide +kernel
theorem dX6_init_31 : decode cX6_init 31 = .ok (.newarray .int, 2) := by decide +kernel
theorem dX6_init_33 : decode cX6_init 33 = .ok (.putfield 21, 3) := by decide +kernel
theorem dX6_init_36 : decode cX6_init 36 = .ok (.aload_n 0, 1) := by decide +kernel
theorem dX6_init_37 : decode cX6_init 37 = .ok (.bipush 30, 2) := by decide +kernel
theorem dX6_init_39 : decode cX6_init 39 = .ok (.newarray .int, 2) := by decide +kernel
theorem dX6_init_41 : decode cX6_init 41 = .ok (.putfield 24, 3) := by decide +kernel
theorem dX6_init_44 : decode cX6_init 44 = .ok (.return_, 1) := by decide +kernel
theorem dX7_init_0 : decode cX7_init 0 = .ok (.aload_n 0, 1) := by decide +kernel
theorem dX7_init_1 : decode cX7_init 1 = .ok (.invokespecial 3, 3) := by decide +kernel
theorem dX7_init_4 : decode cX7_init 4 = .ok (.aload_n 0, 1) := by decide +kernel
theorem dX7_init_5 : decode cX7_init 5 = .ok (.bipush 12, 2) := by decide +kernel
theorem dX7_init_7 : decode cX7_init 7 = .ok (.newarray .int, 2) := by decide +kernel
theorem dX7_init_9 : decode cX7_init 9 = .ok (.putfield 9, 3) := by decide +kernel
theorem dX7_init_12 : decode cX7_init 12 = .ok (.aload_n 0, 1) := by decide +kernel
theorem dX7_init_13 : decode cX7_init 13 = .ok (.bipush 12, 2) := by decide +kernel
theorem dX7_init_15 : decode cX7_init 15 = .ok (.newarray .int, 2) := by decide +kernel
theorem dX7_init_17 : decode cX7_init 17 = .ok (.putfield 15, 3) := by decide +kernel
theorem dX7_init_20 : decode cX7_init 20 = .ok (.aload_n 0, 1) := by decide +kernel
theorem dX7_init_21 : decode cX7_init 21 = .ok (.bipush 12, 2) := by decide +kernel
theorem dX7_init_23 : decode cX7_init 23 = .ok (.newarray .int, 2) := by decide +kernel
theorem dX7_init_25 : decode cX7_init 25 = .ok (.putfield 18, 3) := by decide +kernel
theorem dX7_init_28 : decode cX7_init 28 = .ok (.aload_n 0, 1) := by decide +kernel
theorem dX7_init_29 : decode cX7_init 29 = .ok (.bipush 12, 2) := by decide +kernel
theorem dX7_init_31 : decode cX7_init 31 = .ok (.newarray .int, 2) := by decide +kernel
theorem dX7_init_33 : decode cX7_init 33 = .ok (.putfield 21, 3) := by decide +kernel
theorem dX7_init_36 : decode cX7_init 36 = .ok (.return_, 1) := by decide +kernel
theorem dX7_copyFrom_0 : decode cX7_copyFrom 0 = .ok (.aload_n 0, 1) := by decide +kernel
theorem dX7_copyFrom_1 : decode cX7_copyFrom 1 = .ok (.aload_n 1, 1) := by decide +kernel
theorem dX7_copyFrom_2 : decode cX7_copyFrom 2 = .ok (.getfield 24, 3) := by decide +kernel
theorem dX7_copyFrom_5 : decode cX7_copyFrom 5 = .ok (.putfield 24, 3) := by decide +kernel
theorem dX7_copyFrom_8 : decode cX7_copyFrom 8 = .ok (.aload_n 0, 1) := by decide +kernel
theorem dX7_copyFrom_9 : decode cX7_copyFrom 9 = .ok (.aload_n 1, 1) := by decide +kernel
theorem dX7_copyFrom_10 : decode cX7_copyFrom 10 = .ok (.getfield 28, 3) := by decide +kernel
theorem dX7_copyFrom_13 : decode cX7_copyFrom 13 = .ok (.putfield 28, 3) := by decide +kernel
theorem dX7_copyFrom_16 : decode cX7_copyFrom 16 = .ok (.aload_n 0, 1) := by decide +kernel
theorem dX7_copyFrom_17 : decode cX7_copyFrom 17 = .ok (.aload_n 1, 1) := by decide +kernel
theorem dX7_copyFrom_18 : decode cX7_copyFrom 18 = .ok (.getfield 31, 3) := by decide +kernel
theorem dX7_copyFrom_21 : decode cX7_copyFrom 21 = .ok (.putfield 31, 3) := by decide +kernel
theorem dX7_copyFrom_24 : decode cX7_copyFrom 24 = .ok (.aload_n 0, 1) := by decide +kernel
theorem dX7_copyFrom_25 : decode cX7_copyFrom 25 = .ok (.aload_n 1, 1) := by decide +kernel
theorem dX7_copyFrom_26 : decode cX7_copyFrom 26 = .ok (.getfield 34, 3) := by decide +kernel
theorem dX7_copyFrom_29 : decode cX7_copyFrom 29 = .ok (.putfield 34, 3) := by decide +kernel
theorem dX7_copyFrom_32 : decode cX7_copyFrom 32 = .ok (.aload_n 0, 1) := by decide +kernel
theorem dX7_copyFrom_33 : decode cX7_copyFrom 33 = .ok (.aload_n 1, 1) := by decide +kernel
theorem dX7_copyFrom_34 : decode cX7_copyFrom 34 = .ok (.getfield 37, 3) := by decide +kernel
theorem dX7_copyFrom_37 : decode cX7_copyFrom 37 = .ok (.putfield 37, 3) := by decide +kernel
theorem dX7_copyFrom_40 : decode cX7_copyFrom 40 = .ok (.aload_n 0, 1) := by decide +kernel
theorem dX7_copyFrom_41 : decode cX7_copyFrom 41 = .ok (.aload_n 1, 1) := by decide +kernel
theorem dX7_copyFrom_42 : decode cX7_copyFrom 42 = .ok (.getfield 40, 3) := by decide +kernel
theorem dX7_copyFrom_45 : decode cX7_copyFrom 45 = .ok (.putfield 40, 3) := by decide +kernel
theorem dX7_copyFrom_48 : decode cX7_copyFrom 48 = .ok (.aload_n 0, 1) := by decide +kernel
theorem dX7_copyFrom_49 : decode cX7_copyFrom 49 = .ok (.aload_n 1, 1) := by decide +kernel
theorem dX7_copyFrom_50 : decode cX7_copyFrom 50 = .ok (.getfield 43, 3) := by decide +kernel
theorem dX7_copyFrom_53 : decode cX7_copyFrom 53 = .ok (.putfield 43, 3) := by decide +kernel
theorem dX7_copyFrom_56 : decode cX7_copyFrom 56 = .ok (.aload_n 0, 1) := by decide +kernel
theorem dX7_copyFrom_57 : decode cX7_copyFrom 57 = .ok (.aload_n 1, 1) := by decide +kernel
theorem dX7_copyFrom_58 : decode cX7_copyFrom 58 = .ok (.getfield 46, 3) := by decide +kernel
theorem dX7_copyFrom_61 : decode cX7_copyFrom 61 = .ok (.putfield 46, 3) := by decide +kernel
theorem dX7_copyFrom_64 : decode cX7_copyFrom 64 = .ok (.aload_n 1, 1) := by decide +kernel
theorem dX7_copyFrom_65 : decode cX7_copyFrom 65 = .ok (.getfield 9, 3) := by decide +kernel
theorem dX7_copyFrom_68 : decode cX7_copyFrom 68 = .ok (.iconst 0, 1) := by decide +kernel
theorem dX7_copyFrom_69 : decode cX7_copyFrom 69 = .ok (.aload_n 0, 1) := by decide +kernel
theorem dX7_copyFrom_70 : decode cX7_copyFrom 70 = .ok (.getfield 9, 3) := by decide +kernel
theorem dX7_copyFrom_73 : decode cX7_copyFrom 73 = .ok (.iconst 0, 1) := by decide +kernel
theorem dX7_copyFrom_74 : decode cX7_copyFrom 74 = .ok (.bipush 12, 2) := by decide +kernel
theorem dX7_copyFrom_76 : decode cX7_copyFrom 76 = .ok (.invokestatic 49, 3) := by decide +kernel
theorem dX7_copyFrom_79 : decode cX7_copyFrom 79 = .ok (.aload_n 1, 1) := by decide +kernel
theorem dX7_copyFrom_80 : decode cX7_copyFrom 80 = .ok (.getfield 15, 3) := by decide +kernel
theorem dX7_copyFrom_83 : decode cX7_copyFrom 83 = .ok (.iconst 0, 1) := by decide +kernel
theorem dX7_copyFrom_84 : decode cX7_copyFrom 84 = .ok (.aload_n 0, 1) := by decide +kernel
theorem dX7_copyFrom_85 : decode cX7_copyFrom 85 = .ok (.getfield 15, 3) := by decide +kernel
theorem dX7_copyFrom_88 : decode cX7_copyFrom 88 = .ok (.iconst 0, 1) := by decide +kernel
theorem dX7_copyFrom_89 : decode cX7_copyFrom 89 = .ok (.bipush 12, 2) := by decide +kernel
theorem dX7_copyFrom_91 : decode cX7_copyFrom 91 = .ok (.invokestatic 49, 3) := by decide +kernel
theorem dX7_copyFrom_94 : decode cX7_copyFrom 94 = .ok (.aload_n 1, 1) := by decide +kernel
theorem dX7_copyFrom_95 : decode cX7_copyFrom 95 = .ok (.getfield 18, 3) := by decide +kernel
theorem dX7_copyFrom_98 : decode cX7_copyFrom 98 = .ok (.iconst 0, 1) := by decide +kernel
theorem dX7_copyFrom_99 : decode cX7_copyFrom 99 = .ok (.aload_n 0, 1) := by decide +kernel
theorem dX7_copyFrom_100 : decode cX7_copyFrom 100 = .ok (.getfield 18, 3) := by decide +kernel
theorem dX7_copyFrom_103 : decode cX7_copyFrom 103 = .ok (.iconst 0, 1) := by decide +kernel
theorem dX7_copyFrom_104 : decode cX7_copyFrom 104 = .ok (.bipush 12, 2) := by decide +kernel
theorem dX7_copyFrom_106 : decode cX7_copyFrom 106 = .ok (.invokestatic 49, 3) := by decide +kernel
theorem dX7_copyFrom_109 : decode cX7_copyFrom 109 = .ok (.aload_n 1, 1) := by decide +kernel
theorem dX7_copyFrom_110 : decode cX7_copyFrom 110 = .ok (.getfield 21, 3) := by decide +kernel
theorem dX7_copyFrom_113 : decode cX7_copyFrom 113 = .ok (.iconst 0, 1) := by decide +kernel
theorem dX7_copyFrom_114 : decode cX7_copyFrom 114 = .ok (.aload_n 0, 1) := by decide +kernel
theorem dX7_copyFrom_115 : decode cX7_copyFrom 115 = .ok (.getfield 21, 3) := by decide +kernel
theorem dX7_copyFrom_118 : decode cX7_copyFrom 118 = .ok (.iconst 0, 1) := by decide +kernel
theorem dX7_copyFrom_119 : decode cX7_copyFrom 119 = .ok (.bipush 12, 2) := by decide +kernel
theorem dX7_copyFrom_121 : decode cX7_copyFrom 121 = .ok (.invokestatic 49, 3) := by decide +kernel
theorem dX7_copyFrom_124 : decode cX7_copyFrom 124 = .ok (.return_, 1) := by decide +kernel
theorem dX7_readFrom_0 : decode cX7_readFrom 0 = .ok (.aload_n 1, 1) := by decide +kernel
theorem dX7_readFrom_1 : decode cX7_readFrom 1 = .ok (.ldc 55, 2) := by decide +kernel
theorem dX7_readFrom_3 : decode cX7_readFrom 3 = .ok (.invokevirtual 57, 3) := by decide +kernel
theorem dX7_readFrom_6 : decode cX7_readFrom 6 = .ok (.aload_n 0, 1) := by decide +kernel
theorem dX7_readFrom_7 : decode cX7_readFrom 7 = .ok (.aload_n 1, 1) := by decide +kernel
theorem dX7_readFrom_8 : decode cX7_readFrom 8 = .ok (.iconst 1, 1) := by decide +kernel
theorem dX7_readFrom_9 : decode cX7_readFrom 9 = .ok (.iconst 4, 1) := by decide +kernel
theorem dX7_readFrom_10 : decode cX7_readFrom 10 = .ok (.invokevirtual 63, 3) := by decide +kernel
theorem dX7_readFrom_13 : decode cX7_readFrom 13 = .ok (.putfield 24, 3) := by decide +kernel
theorem dX7_readFrom_16 : decode cX7_readFrom 16 = .ok (.aload_n 0, 1) := by decide +kernel
theorem dX7_readFrom_17 : decode cX7_readFrom 17 = .ok (.aload_n 1, 1) := by decide +kernel
theorem dX7_readFrom_18 : decode cX7_readFrom 18 = .ok (.iconst 0, 1) := by decide +kernel
theorem dX7_readFrom_19 : decode cX7_readFrom 19 = .ok (.iconst 5, 1) := by decide +kernel
theorem dX7_readFrom_20 : decode cX7_readFrom 20 = .ok (.invokevirtual 63, 3) := by decide +kernel
theorem dX7_readFrom_23 : decode cX7_readFrom 23 = .ok (.putfield 28, 3) := by decide +kernel
theorem dX7_readFrom_26 : decode cX7_readFrom 26 = .ok (.aload_n 0, 1) := by decide +kernel
theorem dX7_readFrom_27 : decode cX7_readFrom 27 = .ok (.aload_n 1, 1) := by decide +kernel
theorem dX7_readFrom_28 : decode cX7_readFrom 28 = .ok (.iconst 1, 1) := by decide +kernel
theorem dX7_readFrom_29 : decode cX7_readFrom 29 = .ok (.bipush 20, 2) := by decide +kernel
theorem dX7_readFrom_31 : decode cX7_readFrom 31 = .ok (.invokevirtual 63, 3) := by decide +kernel
theorem dX7_readFrom_34 : decode cX7_readFrom 34 = .ok (.putfield 31, 3) := by decide +kernel
theorem dX7_readFrom_37 : decode cX7_readFrom 37 = .ok (.aload_n 0, 1) := by decide +kernel
theorem dX7_readFrom_38 : decode cX7_readFrom 38 = .ok (.aload_n 1, 1) := by decide +kernel
theorem dX7_readFrom_39 : decode cX7_readFrom 39 = .ok (.iconst 0, 1) := by decide +kernel
theorem dX7_readFrom_40 : decode cX7_readFrom 40 = .ok (.bipush 20, 2) := by decide +kernel
theorem dX7_readFrom_42 : decode cX7_readFrom 42 = .ok (.invokevirtual 63, 3) := by decide +kernel
theorem dX7_readFrom_45 : decode cX7_readFrom 45 = .ok (.putfield 34, 3) := by decide +kernel
theorem dX7_readFrom_48 : decode cX7_readFrom 48 = .ok (.aload_n 0, 1) := by decide +kernel
theorem dX7_readFrom_49 : decode cX7_readFrom 49 = .ok (.aload_n 1, 1) := by decide +kernel
theorem dX7_readFrom_50 : decode cX7_readFrom 50 = .ok (.iconst 2, 1) := by decide +kernel
theorem dX7_readFrom_51 : decode cX7_readFrom 51 = .ok (.bipush 30, 2) := by decide +kernel
theorem dX7_readFrom_53 : decode cX7_readFrom 53 = .ok (.invokevirtual 63, 3) := by decide +kernel
theorem dX7_readFrom_56 : decode cX7_readFrom 56 = .ok (.putfield 37, 3) := by decide +kernel
theorem dX7_readFrom_59 : decode cX7_readFrom 59 = .ok (.aload_n 0, 1) := by decide +kernel
theorem dX7_readFrom_60 : decode cX7_readFrom 60 = .ok (.aload_n 1, 1) := by decide +kernel
theorem dX7_readFrom_61 : decode cX7_readFrom 61 = .ok (.iconst 0, 1) := by decide +kernel
theorem dX7_readFrom_62 : decode cX7_readFrom 62 = .ok (.bipush 9, 2) := by decide +kernel
theorem dX7_readFrom_64 : decode cX7_readFrom 64 = .ok (.invokevirtual 63, 3) := by decide +kernel
theorem dX7_readFrom_67 : decode cX7_readFrom 67 = .ok (.putfield 40, 3) := by decide +kernel
theorem dX7_readFrom_70 : decode cX7_readFrom 70 = .ok (.aload_n 0, 1) := by decide +kernel
theorem dX7_readFrom_71 : decode cX7_readFrom 71 = .ok (.aload_n 1, 1) := by decide +kernel
theorem dX7_readFrom_72 : decode cX7_readFrom 72 = .ok (.iconst 0, 1) := by decide +kernel
theorem dX7_readFrom_73 : decode cX7_readFrom 73 = .ok (.bipush 12, 2) := by decide +kernel
theorem dX7_readFrom_75 : decode cX7_readFrom 75 = .ok (.invokevirtual 63, 3) := by decide +kernel
theorem dX7_readFrom_78 : decode cX7_readFrom 78 = .ok (.putfield 43, 3) := by decide +kernel
theorem dX7_readFrom_81 : decode cX7_readFrom 81 = .ok (.aload_n 1, 1) := by decide +kernel
theorem dX7_readFrom_82 : decode cX7_readFrom 82 = .ok (.bipush 59, 2) := by decide +kernel
theorem dX7_readFrom_84 : decode cX7_readFrom 84 = .ok (.invokevirtual 67, 3) := by decide +kernel
theorem dX7_readFrom_87 : decode cX7_readFrom 87 = .ok (.aload_n 0, 1) := by decide +kernel
theorem dX7_readFrom_88 : decode cX7_readFrom 88 = .ok (.iconst 0, 1) := by decide +kernel
theorem dX7_readFrom_89 : decode cX7_readFrom 89 = .ok (.putfield 46, 3) := by decide +kernel
theorem dX7_readFrom_92 : decode cX7_readFrom 92 = .ok (.aload_n 0, 1) := by decide +kernel
theorem dX7_readFrom_93 : decode cX7_readFrom 93 = .ok (.aload_n 1, 1) := by decide +kernel
theorem dX7_readFrom_94 : decode cX7_readFrom 94 = .ok (.invokevirtual 71, 3) := by decide +kernel
theorem dX7_readFrom_97 : decode cX7_readFrom 97 = .ok (.iconst 0, 1) := by decide +kernel
theorem dX7_readFrom_98 : decode cX7_readFrom 98 = .ok (.istore_n 2, 1) := by decide +kernel
theorem dX7_readFrom_99 : decode cX7_readFrom 99 = .ok (.iload_n 2, 1) := by decide +kernel
theorem dX7_readFrom_100 : decode cX7_readFrom 100 = .ok (.bipush 12, 2) := by decide +kernel
theorem dX7_readFrom_102 : decode cX7_readFrom 102 = .ok (.if_icmp .ge 28, 3) := by decide +kernel
theorem dX7_readFrom_105 : decode cX7_readFrom 105 = .ok (.aload_n 1, 1) := by decide +kernel
theorem dX7_readFrom_106 : decode cX7_readFrom 106 = .ok (.invokevirtual 75, 3) := by decide +kernel
theorem dX7_readFrom_109 : decode cX7_readFrom 109 = .ok (.ifCond .eq 21, 3) := by decide +kernel
theorem dX7_readFrom_112 : decode cX7_readFrom 112 = .ok (.aload_n 1, 1) := by decide +kernel
theorem dX7_readFrom_113 : decode cX7_readFrom 113 = .ok (.invokevirtual 79, 3) := by decide +kernel
theorem dX7_readFrom_116 : decode cX7_readFrom 116 = .ok (.ifCond .ne 14, 3) := by decide +kernel
theorem dX7_readFrom_119 : decode cX7_readFrom 119 = .ok (.aload_n 0, 1) := by decide +kernel
theorem dX7_readFrom_120 : decode cX7_readFrom 120 = .ok (.aload_n 1, 1) := by decide +kernel
theorem dX7_readFrom_121 : decode cX7_readFrom 121 = .ok (.invokevirtual 71, 3) := by decide +kernel
theorem dX7_readFrom_124 : decode cX7_readFrom 124 = .ok (.iinc 2 1, 3) := by decide +kernel
theorem dX7_readFrom_127 : decode cX7_readFrom 127 = .ok (.goto (-28), 3) := by decide +kernel
theorem dX7_readFrom_130 : decode cX7_readFrom 130 = .ok (.return_, 1) := by decide +kernel
theorem dX7_readMember_0 : decode cX7_readMember 0 = .ok (.aload_n 0, 1) := by decide +kernel
theorem dX7_readMember_1 : decode cX7_readMember 1 = .ok (.getfield 46, 3) := by decide +kernel
theorem dX7_readMember_4 : decode cX7_readMember 4 = .ok (.bipush 12, 2) := by decide +kernel
theorem dX7_readMember_6 : decode cX7_readMember 6 = .ok (.if_icmp .ne 7, 3) := by decide +kernel
theorem dX7_readMember_9 : decode cX7_readMember 9 = .ok (.iconst 1, 1) := by decide +kernel
theorem dX7_readMember_10 : decode cX7_readMember 10 = .ok (.goto 4, 3) := by decide +kernel
theorem dX7_readMember_13 : decode cX7_readMember 13 = .ok (.iconst 0, 1) := by decide +kernel
theorem dX7_readMember_14 : decode cX7_readMember 14 = .ok (.istore_n 2, 1) := by decide +kernel
theorem dX7_readMember_15 : decode cX7_readMember 15 = .ok (.iload_n 2, 1) := by decide +kernel
theorem dX7_readMember_16 : decode cX7_readMember 16 = .ok (.ifCond .eq 20, 3) := by decide +kernel
theorem dX7_readMember_19 : decode cX7_readMember 19 = .ok (.aload_n 1, 1) := by decide +kernel
theorem dX7_readMember_20 : decode cX7_readMember 20 = .ok (.ldc 82, 2) := by decide +kernel
theorem dX7_readMember_22 : decode cX7_readMember 22 = .ok (.invokevirtual 84, 3) := by decide +kernel
theorem dX7_readMember_25 : decode cX7_readMember 25 = .ok (.ifCond .eq 11, 3) := by decide +kernel
theorem dX7_readMember_28 : decode cX7_readMember 28 = .ok (.aload_n 1, 1) := by decide +kernel
theorem dX7_readMember_29 : decode cX7_readMember 29 = .ok (.iconst 4, 1) := by decide +kernel
theorem dX7_readMember_30 : decode cX7_readMember 30 = .ok (.invokevirtual 88, 3) := by decide +kernel
theorem dX7_readMember_33 : decode cX7_readMember 33 = .ok (.goto 9, 3) := by decide +kernel
theorem dX7_readMember_36 : decode cX7_readMember 36 = .ok (.aload_n 1, 1) := by decide +kernel
theorem dX7_readMember_37 : decode cX7_readMember 37 = .ok (.ldc 82, 2) := by decide +kernel
theorem dX7_readMember_39 : decode cX7_readMember 39 = .ok (.invokevirtual 57, 3) := by decide +kernel
theorem dX7_readMember_42 : decode cX7_readMember 42 = .ok (.aload_n 0, 1) := by decide +kernel
theorem dX7_readMember_43 : decode cX7_readMember 43 = .ok (.aload_n 1, 1) := by decide +kernel
theorem dX7_readMember_44 : decode cX7_readMember 44 = .ok (.invokevirtual 92, 3) := by decide +kernel
theorem dX7_readMember_47 : decode cX7_readMember 47 = .ok (.istore_n 3, 1) := by decide +kernel
theorem dX7_readMember_48 : decode cX7_readMember 48 = .ok (.aload_n 1, 1) := by decide +kernel
theorem dX7_readMember_49 : decode cX7_readMember 49 = .ok (.iconst 1, 1) := by decide +kernel
theorem dX7_readMember_50 : decode cX7_readMember 50 = .ok (.bipush 9, 2) := by decide +kernel
theorem dX7_readMember_52 : decode cX7_readMember 52 = .ok (.invokevirtual 63, 3) := by decide +kernel
theorem dX7_readMember_55 : decode cX7_readMember 55 = .ok (.istore 4, 2) := by decide +kernel
theorem dX7_readMember_57 : decode cX7_readMember 57 = .ok (.aload_n 1, 1) := by decide +kernel
theorem dX7_readMember_58 : decode cX7_readMember 58 = .ok (.iconst 0, 1) := by decide +kernel
theorem dX7_readMember_59 : decode cX7_readMember 59 = .ok (.bipush 20, 2) := by decide +kernel
theorem dX7_readMember_61 : decode cX7_readMember 61 = .ok (.invokevirtual 63, 3) := by decide +kernel
theorem dX7_readMember_64 : decode cX7_readMember 64 = .ok (.istore 5, 2) := by decide +kernel
theorem dX7_readMember_66 : decode cX7_readMember 66 = .ok (.aload_n 1, 1) := by decide +kernel
theorem dX7_readMember_67 : decode cX7_readMember 67 = .ok (.iconst 0, 1) := by decide +kernel
theorem dX7_readMember_68 : decode cX7_readMember 68 = .ok (.bipush 99, 2) := by decide +kernel
theorem dX7_readMember_70 : decode cX7_readMember 70 = .ok (.invokevirtual 63, 3) := by decide +kernel
theorem dX7_readMember_73 : decode cX7_readMember 73 = .ok (.istore 6, 2) := by decide +kernel
theorem dX7_readMember_75 : decode cX7_readMember 75 = .ok (.aload_n 1, 1) := by decide +kernel
theorem dX7_readMember_76 : decode cX7_readMember 76 = .ok (.bipush 59, 2) := by decide +kernel
theorem dX7_readMember_78 : decode cX7_readMember 78 = .ok (.invokevirtual 67, 3) := by decide +kernel
theorem dX7_readMember_81 : decode cX7_readMember 81 = .ok (.aload_n 1, 1) := by decide +kernel
theorem dX7_readMember_82 : decode cX7_readMember 82 = .ok (.invokevirtual 75, 3) := by decide +kernel
theorem dX7_readMember_85 : decode cX7_readMember 85 = .ok (.ifCond .eq 60, 3) := by decide +kernel
theorem dX7_readMember_88 : decode cX7_readMember 88 = .ok (.iload_n 2, 1) := by decide +kernel
theorem dX7_readMember_89 : decode cX7_readMember 89 = .ok (.ifCond .ne 56, 3) := by decide +kernel
theorem dX7_readMember_92 : decode cX7_readMember 92 = .ok (.aload_n 0, 1) := by decide +kernel
theorem dX7_readMember_93 : decode cX7_readMember 93 = .ok (.getfield 9, 3) := by decide +kernel
theorem dX7_readMember_96 : decode cX7_readMember 96 = .ok (.aload_n 0, 1) := by decide +kernel
theorem dX7_readMember_97 : decode cX7_readMember 97 = .ok (.getfield 46, 3) := by decide +kernel
theorem dX7_readMember_100 : decode cX7_readMember 100 = .ok (.iload_n 3, 1) := by decide +kernel
theorem dX7_readMember_101 : decode cX7_readMember 101 = .ok (.iastore, 1) := by decide +kernel
theorem dX7_readMember_102 : decode cX7_readMember 102 = .ok (.aload_n 0, 1) := by decide +kernel
theorem dX7_readMember_103 : decode cX7_readMember 103 = .ok (.getfield 15, 3) := by decide +kernel
theorem dX7_readMember_106 : decode cX7_readMember 106 = .ok (.aload_n 0, 1) := by decide +kernel
theorem dX7_readMember_107 : decode cX7_readMember 107 = .ok (.getfield 46, 3) := by decide +kernel
theorem dX7_readMember_110 : decode cX7_readMember 110 = .ok (.iload 4, 2) := by decide +kernel
theorem dX7_readMember_112 : decode cX7_readMember 112 = .ok (.iastore, 1) := by decide +kernel
theorem dX7_readMember_113 : decode cX7_readMember 113 = .ok (.aload_n 0, 1) := by decide +kernel
theorem dX7_readMember_114 : decode cX7_readMember 114 = .ok (.getfield 18, 3) := by decide +kernel
theorem dX7_readMember_117 : decode cX7_readMember 117 = .ok (.aload_n 0, 1) := by decide +kernel
theorem dX7_readMember_118 : decode cX7_readMember 118 = .ok (.getfield 46, 3) := by decide +kernel
theorem dX7_readMember_121 : decode cX7_readMember 121 = .ok (.iload 5, 2) := by decide +kernel
theorem dX7_readMember_123 : decode cX7_readMember 123 = .ok (.iastore, 1) := by decide +kernel
theorem dX7_readMember_124 : decode cX7_readMember 124 = .ok (.aload_n 0, 1) := by decide +kernel
theorem dX7_readMember_125 : decode cX7_readMember 125 = .ok (.getfield 21, 3) := by decide +kernel
theorem dX7_readMember_128 : decode cX7_readMember 128 = .ok (.aload_n 0, 1) := by decide +kernel
theorem dX7_readMember_129 : decode cX7_readMember 129 = .ok (.getfield 46, 3) := by decide +kernel
theorem dX7_readMember_132 : decode cX7_readMember 132 = .ok (.iload 6, 2) := by decide +kernel
theorem dX7_readMember_134 : decode cX7_readMember 134 = .ok (.iastore, 1) := by decide +kernel
theorem dX7_readMember_135 : decode cX7_readMember 135 = .ok (.aload_n 0, 1) := by decide +kernel
theorem dX7_readMember_136 : decode cX7_readMember 136 = .ok (.dup, 1) := by decide +kernel
theorem dX7_readMember_137 : decode cX7_readMember 137 = .ok (.getfield 46, 3) := by decide +kernel
theorem dX7_readMember_140 : decode cX7_readMember 140 = .ok (.iconst 1, 1) := by decide +kernel
theorem dX7_readMember_141 : decode cX7_readMember 141 = .ok (.iadd, 1) := by decide +kernel
theorem dX7_readMember_142 : decode cX7_readMember 142 = .ok (.putfield 46, 3) := by decide +kernel
theorem dX7_readMember_145 : decode cX7_readMember 145 = .ok (.return_, 1) := by decide +kernel
theorem dX7_takeNewName_0 : decode cX7_takeNewName 0 = .ok (.aload_n 1, 1) := by decide +kernel
theorem dX7_takeNewName_1 : decode cX7_takeNewName 1 = .ok (.invokevirtual 96, 3) := by decide +kernel
theorem dX7_takeNewName_4 : decode cX7_takeNewName 4 = .ok (.istore_n 2, 1) := by decide +kernel
theorem dX7_takeNewName_5 : decode cX7_takeNewName 5 = .ok (.aload_n 1, 1) := by decide +kernel
theorem dX7_takeNewName_6 : decode cX7_takeNewName 6 = .ok (.invokevirtual 99, 3) := by decide +kernel
theorem dX7_takeNewName_9 : decode cX7_takeNewName 9 = .ok (.istore_n 3, 1) := by decide +kernel
theorem dX7_takeNewName_10 : decode cX7_takeNewName 10 = .ok (.iload_n 3, 1) := by decide +kernel
theorem dX7_takeNewName_11 : decode cX7_takeNewName 11 = .ok (.ifCond .ne 14, 3) := by decide +kernel
theorem dX7_takeNewName_14 : decode cX7_takeNewName 14 = .ok (.aload_n 0, 1) := by decide +kernel
theorem dX7_takeNewName_15 : decode cX7_takeNewName 15 = .ok (.iload_n 2, 1) := by decide +kernel
theorem dX7_takeNewName_16 : decode cX7_takeNewName 16 = .ok (.invokevirtual 102, 3) := by decide +kernel
theorem dX7_takeNewName_19 : decode cX7_takeNewName 19 = .ok (.iconst (-1), 1) := by decide +kernel
theorem dX7_takeNewName_20 : decode cX7_takeNewName 20 = .ok (.if_icmp .eq 5, 3) := by decide +kernel
theorem dX7_takeNewName_23 : decode cX7_takeNewName 23 = .ok (.iconst 3, 1) := by decide +kernel
theorem dX7_takeNewName_24 : decode cX7_takeNewName 24 = .ok (.istore_n 3, 1) := by decide +kernel
theorem dX7_takeNewName_25 : decode cX7_takeNewName 25 = .ok (.aload_n 1, 1) := by decide +kernel
theorem dX7_takeNewName_26 : decode cX7_takeNewName 26 = .ok (.iload_n 3, 1) := by decide +kernel
theorem dX7_takeNewName_27 : decode cX7_takeNewName 27 = .ok (.invokevirtual 88, 3) := by decide +kernel
theorem dX7_takeNewName_30 : decode cX7_takeNewName 30 = .ok (.iload_n 2, 1) := by decide +kernel
theorem dX7_takeNewName_31 : decode cX7_takeNewName 31 = .ok (.ireturn, 1) := by decide +kernel
theorem dX7_memberNamed_0 : decode cX7_memberNamed 0 = .ok (.iconst 0, 1) := by decide +kernel
theorem dX7_memberNamed_1 : decode cX7_memberNamed 1 = .ok (.istore_n 2, 1) := by decide +kernel
theorem dX7_memberNamed_2 : decode cX7_memberNamed 2 = .ok (.iload_n 2, 1) := by decide +kernel
theorem dX7_memberNamed_3 : decode cX7_memberNamed 3 = .ok (.aload_n 0, 1) := by decide +kernel
theorem dX7_memberNamed_4 : decode cX7_memberNamed 4 = .ok (.getfield 46, 3) := by decide +kernel
theorem dX7_memberNamed_7 : decode cX7_memberNamed 7 = .ok (.if_icmp .ge 21, 3) := by decide +kernel
theorem dX7_memberNamed_10 : decode cX7_memberNamed 10 = .ok (.aload_n 0, 1) := by decide +kernel
theorem dX7_memberNamed_11 : decode cX7_memberNamed 11 = .ok (.getfield 9, 3) := by decide +kernel
theorem dX7_memberNamed_14 : decode cX7_memberNamed 14 = .ok (.iload_n 2, 1) := by decide +kernel
theorem dX7_memberNamed_15 : decode cX7_memberNamed 15 = .ok (.iaload, 1) := by decide +kernel
theorem dX7_memberNamed_16 : decode cX7_memberNamed 16 = .ok (.iload_n 1, 1) := by decide +kernel
theorem dX7_memberNamed_17 : decode cX7_memberNamed 17 = .ok (.if_icmp .ne 5, 3) := by decide +kernel
theorem dX7_memberNamed_20 : decode cX7_memberNamed 20 = .ok (.iload_n 2, 1) := by decide +kernel
theorem dX7_memberNamed_21 : decode cX7_memberNamed 21 = .ok (.ireturn, 1) := by decide +kernel
theorem dX7_memberNamed_22 : decode cX7_memberNamed 22 = .ok (.iinc 2 1, 3) := by decide +kernel
theorem dX7_memberNamed_25 : decode cX7_memberNamed 25 = .ok (.goto (-23), 3) := by decide +kernel
theorem dX7_memberNamed_28 : decode cX7_memberNamed 28 = .ok (.iconst (-1), 1) := by decide +kernel
theorem dX7_memberNamed_29 : decode cX7_memberNamed 29 = .ok (.ireturn, 1) := by decide +kernel
theorem dX7_hasMember_0 : decode cX7_hasMember 0 = .ok (.iload_n 1, 1) := by decide +kernel
theorem dX7_hasMember_1 : decode cX7_hasMember 1 = .ok (.ifCond .lt 15, 3) := by decide +kernel
theorem dX7_hasMember_4 : decode cX7_hasMember 4 = .ok (.iload_n 1, 1) := by decide +kernel
theorem dX7_hasMember_5 : decode cX7_hasMember 5 = .ok (.aload_n 0, 1) := by decide +kernel
theorem dX7_hasMember_6 : decode cX7_hasMember 6 = .ok (.getfield 46, 3) := by decide +kernel
theorem dX7_hasMember_9 : decode cX7_hasMember 9 = .ok (.if_icmp .ge 7, 3) := by decide +kernel
theorem dX7_hasMember_12 : decode cX7_hasMember 12 = .ok (.iconst 1, 1) := by decide +kernel
theorem dX7_hasMember_13 : decode cX7_hasMember 13 = .ok (.goto 4, 3) := by decide +kernel
theorem dX7_hasMember_16 : decode cX7_hasMember 16 = .ok (.iconst 0, 1) := by decide +kernel
theorem dX7_hasMember_17 : decode cX7_hasMember 17 = .ok (.ireturn, 1) := by decide +kernel
theorem dX7_hasChair_0 : decode cX7_hasChair 0 = .ok (.iload_n 1, 1) := by decide +kernel
theorem dX7_hasChair_1 : decode cX7_hasChair 1 = .ok (.ifCond .lt 15, 3) := by decide +kernel
theorem dX7_hasChair_4 : decode cX7_hasChair 4 = .ok (.iload_n 1, 1) := by decide +kernel
theorem dX7_hasChair_5 : decode cX7_hasChair 5 = .ok (.aload_n 0, 1) := by decide +kernel
theorem dX7_hasChair_6 : decode cX7_hasChair 6 = .ok (.getfield 24, 3) := by decide +kernel
theorem dX7_hasChair_9 : decode cX7_hasChair 9 = .ok (.if_icmp .ge 7, 3) := by decide +kernel
theorem dX7_hasChair_12 : decode cX7_hasChair 12 = .ok (.iconst 1, 1) := by decide +kernel
theorem dX7_hasChair_13 : decode cX7_hasChair 13 = .ok (.goto 4, 3) := by decide +kernel
theorem dX7_hasChair_16 : decode cX7_hasChair 16 = .ok (.iconst 0, 1) := by decide +kernel
theorem dX7_hasChair_17 : decode cX7_hasChair 17 = .ok (.ireturn, 1) := by decide +kernel
theorem dX7_isInReach_0 : decode cX7_isInReach 0 = .ok (.aload_n 0, 1) := by decide +kernel
theorem dX7_isInReach_1 : decode cX7_isInReach 1 = .ok (.getfield 18, 3) := by decide +kernel
theorem dX7_isInReach_4 : decode cX7_isInReach 4 = .ok (.iload_n 1, 1) := by decide +kernel
theorem dX7_isInReach_5 : decode cX7_isInReach 5 = .ok (.iaload, 1) := by decide +kernel
theorem dX7_isInReach_6 : decode cX7_isInReach 6 = .ok (.aload_n 0, 1) := by decide +kernel
theorem dX7_isInReach_7 : decode cX7_isInReach 7 = .ok (.getfield 18, 3) := by decide +kernel
theorem dX7_isInReach_10 : decode cX7_isInReach 10 = .ok (.iload_n 2, 1) := by decide +kernel
theorem dX7_isInReach_11 : decode cX7_isInReach 11 = .ok (.iaload, 1) := by decide +kernel
theorem dX7_isInReach_12 : decode cX7_isInReach 12 = .ok (.isub, 1) := by decide +kernel
theorem dX7_isInReach_13 : decode cX7_isInReach 13 = .ok (.invokestatic 106, 3) := by decide +kernel
theorem dX7_isInReach_16 : decode cX7_isInReach 16 = .ok (.aload_n 0, 1) := by decide +kernel
theorem dX7_isInReach_17 : decode cX7_isInReach 17 = .ok (.getfield 34, 3) := by decide +kernel
theorem dX7_isInReach_20 : decode cX7_isInReach 20 = .ok (.if_icmp .gt 7, 3) := by decide +kernel
theorem dX7_isInReach_23 : decode cX7_isInReach 23 = .ok (.iconst 1, 1) := by decide +kernel
theorem dX7_isInReach_24 : decode cX7_isInReach 24 = .ok (.goto 4, 3) := by decide +kernel
theorem dX7_isInReach_27 : decode cX7_isInReach 27 = .ok (.iconst 0, 1) := by decide +kernel
theorem dX7_isInReach_28 : decode cX7_isInReach 28 = .ok (.ireturn, 1) := by decide +kernel
theorem dX7_totalWeight_0 : decode cX7_totalWeight 0 = .ok (.iconst 0, 1) := by decide +kernel
theorem dX7_totalWeight_1 : decode cX7_totalWeight 1 = .ok (.istore_n 1, 1) := by decide +kernel
theorem dX7_totalWeight_2 : decode cX7_totalWeight 2 = .ok (.iconst 0, 1) := by decide +kernel
theorem dX7_totalWeight_3 : decode cX7_totalWeight 3 = .ok (.istore_n 2, 1) := by decide +kernel
theorem dX7_totalWeight_4 : decode cX7_totalWeight 4 = .ok (.iload_n 2, 1) := by decide +kernel
theorem dX7_totalWeight_5 : decode cX7_totalWeight 5 = .ok (.aload_n 0, 1) := by decide +kernel
theorem dX7_totalWeight_6 : decode cX7_totalWeight 6 = .ok (.getfield 46, 3) := by decide +kernel
theorem dX7_totalWeight_9 : decode cX7_totalWeight 9 = .ok (.if_icmp .ge 18, 3) := by decide +kernel
theorem dX7_totalWeight_12 : decode cX7_totalWeight 12 = .ok (.iload_n 1, 1) := by decide +kernel
theorem dX7_totalWeight_13 : decode cX7_totalWeight 13 = .ok (.aload_n 0, 1) := by decide +kernel
theorem dX7_totalWeight_14 : decode cX7_totalWeight 14 = .ok (.getfield 15, 3) := by decide +kernel
theorem dX7_totalWeight_17 : decode cX7_totalWeight 17 = .ok (.iload_n 2, 1) := by decide +kernel
theorem dX7_totalWeight_18 : decode cX7_totalWeight 18 = .ok (.iaload, 1) := by decide +kernel
theorem dX7_totalWeight_19 : decode cX7_totalWeight 19 = .ok (.iadd, 1) := by decide +kernel
theorem dX7_totalWeight_20 : decode cX7_totalWeight 20 = .ok (.istore_n 1, 1) := by decide +kernel
theorem dX7_totalWeight_21 : decode cX7_totalWeight 21 = .ok (.iinc 2 1, 3) := by decide +kernel
theorem dX7_totalWeight_24 : decode cX7_totalWeight 24 = .ok (.goto (-20), 3) := by decide +kernel
theorem dX7_totalWeight_27 : decode cX7_totalWeight 27 = .ok (.iload_n 1, 1) := by decide +kernel
theorem dX7_totalWeight_28 : decode cX7_totalWeight 28 = .ok (.ireturn, 1) := by decide +kernel
theorem dX7_totalPurse_0 : decode cX7_totalPurse 0 = .ok (.iconst 0, 1) := by decide +kernel
theorem dX7_totalPurse_1 : decode cX7_totalPurse 1 = .ok (.istore_n 1, 1) := by decide +kernel
theorem dX7_totalPurse_2 : decode cX7_totalPurse 2 = .ok (.iconst 0, 1) := by decide +kernel
theorem dX7_totalPurse_3 : decode cX7_totalPurse 3 = .ok (.istore_n 2, 1) := by decide +kernel
theorem dX7_totalPurse_4 : decode cX7_totalPurse 4 = .ok (.iload_n 2, 1) := by decide +kernel
theorem dX7_totalPurse_5 : decode cX7_totalPurse 5 = .ok (.aload_n 0, 1) := by decide +kernel
theorem dX7_totalPurse_6 : decode cX7_totalPurse 6 = .ok (.getfield 46, 3) := by decide +kernel
theorem dX7_totalPurse_9 : decode cX7_totalPurse 9 = .ok (.if_icmp .ge 18, 3) := by decide +kernel
theorem dX7_totalPurse_12 : decode cX7_totalPurse 12 = .ok (.iload_n 1, 1) := by decide +kernel
theorem dX7_totalPurse_13 : decode cX7_totalPurse 13 = .ok (.aload_n 0, 1) := by decide +kernel
theorem dX7_totalPurse_14 : decode cX7_totalPurse 14 = .ok (.getfield 21, 3) := by decide +kernel
theorem dX7_totalPurse_17 : decode cX7_totalPurse 17 = .ok (.iload_n 2, 1) := by decide +kernel
theorem dX7_totalPurse_18 : decode cX7_totalPurse 18 = .ok (.iaload, 1) := by decide +kernel
theorem dX7_totalPurse_19 : decode cX7_totalPurse 19 = .ok (.iadd, 1) := by decide +kernel
theorem dX7_totalPurse_20 : decode cX7_totalPurse 20 = .ok (.istore_n 1, 1) := by decide +kernel
theorem dX7_totalPurse_21 : decode cX7_totalPurse 21 = .ok (.iinc 2 1, 3) := by decide +kernel
theorem dX7_totalPurse_24 : decode cX7_totalPurse 24 = .ok (.goto (-20), 3) := by decide +kernel
theorem dX7_totalPurse_27 : decode cX7_totalPurse 27 = .ok (.iload_n 1, 1) := by decide +kernel
theorem dX7_totalPurse_28 : decode cX7_totalPurse 28 = .ok (.ireturn, 1) := by decide +kernel
theorem dX8_init_0 : decode cX8_init 0 = .ok (.aload_n 0, 1) := by decide +kernel
theorem dX8_init_1 : decode cX8_init 1 = .ok (.invokespecial 3, 3) := by decide +kernel
theorem dX8_init_4 : decode cX8_init 4 = .ok (.aload_n 0, 1) := by decide +kernel
theorem dX8_init_5 : decode cX8_init 5 = .ok (.sipush 700, 3) := by decide +kernel
theorem dX8_init_8 : decode cX8_init 8 = .ok (.newarray .byte, 2) := by decide +kernel
theorem dX8_init_10 : decode cX8_init 10 = .ok (.putfield 9, 3) := by decide +kernel
theorem dX8_init_13 : decode cX8_init 13 = .ok (.return_, 1) := by decide +kernel
theorem dX8_bytesIn_0 : decode cX8_bytesIn 0 = .ok (.iconst 0, 1) := by decide +kernel
theorem dX8_bytesIn_1 : decode cX8_bytesIn 1 = .ok (.istore_n 1, 1) := by decide +kernel
theorem dX8_bytesIn_2 : decode cX8_bytesIn 2 = .ok (.bipush 24, 2) := by decide +kernel
theorem dX8_bytesIn_4 : decode cX8_bytesIn 4 = .ok (.istore_n 2, 1) := by decide +kernel
theorem dX8_bytesIn_5 : decode cX8_bytesIn 5 = .ok (.iload_n 2, 1) := by decide +kernel
theorem dX8_bytesIn_6 : decode cX8_bytesIn 6 = .ok (.ifCond .lt 22, 3) := by decide +kernel
theorem dX8_bytesIn_9 : decode cX8_bytesIn 9 = .ok (.iload_n 0, 1) := by decide +kernel
theorem dX8_bytesIn_10 : decode cX8_bytesIn 10 = .ok (.iload_n 2, 1) := by decide +kernel
theorem dX8_bytesIn_11 : decode cX8_bytesIn 11 = .ok (.iushr, 1) := by decide +kernel
theorem dX8_bytesIn_12 : decode cX8_bytesIn 12 = .ok (.sipush 255, 3) := by decide +kernel
theorem dX8_bytesIn_15 : decode cX8_bytesIn 15 = .ok (.iand, 1) := by decide +kernel
theorem dX8_bytesIn_16 : decode cX8_bytesIn 16 = .ok (.ifCond .eq 6, 3) := by decide +kernel
theorem dX8_bytesIn_19 : decode cX8_bytesIn 19 = .ok (.iinc 1 1, 3) := by decide +kernel
theorem dX8_bytesIn_22 : decode cX8_bytesIn 22 = .ok (.iinc 2 (-8), 3) := by decide +kernel
theorem dX8_bytesIn_25 : decode cX8_bytesIn 25 = .ok (.goto (-20), 3) := by decide +kernel
theorem dX8_bytesIn_28 : decode cX8_bytesIn 28 = .ok (.iload_n 1, 1) := by decide +kernel
theorem dX8_bytesIn_29 : decode cX8_bytesIn 29 = .ok (.ireturn, 1) := by decide +kernel
theorem dX8_putBytesOf_0 : decode cX8_putBytesOf 0 = .ok (.bipush 24, 2) := by decide +kernel
theorem dX8_putBytesOf_2 : decode cX8_putBytesOf 2 = .ok (.istore_n 2, 1) := by decide +kernel
theorem dX8_putBytesOf_3 : decode cX8_putBytesOf 3 = .ok (.iload_n 2, 1) := by decide +kernel
theorem dX8_putBytesOf_4 : decode cX8_putBytesOf 4 = .ok (.ifCond .lt 20, 3) := by decide +kernel
theorem dX8_putBytesOf_7 : decode cX8_putBytesOf 7 = .ok (.aload_n 0, 1) := by decide +kernel
theorem dX8_putBytesOf_8 : decode cX8_putBytesOf 8 = .ok (.iload_n 1, 1) := by decide +kernel
theorem dX8_putBytesOf_9 : decode cX8_putBytesOf 9 = .ok (.iload_n 2, 1) := by decide +kernel
theorem dX8_putBytesOf_10 : decode cX8_putBytesOf 10 = .ok (.iushr, 1) := by decide +kernel
theorem dX8_putBytesOf_11 : decode cX8_putBytesOf 11 = .ok (.sipush 255, 3) := by decide +kernel
theorem dX8_putBytesOf_14 : decode cX8_putBytesOf 14 = .ok (.iand, 1) := by decide +kernel
theorem dX8_putBytesOf_15 : decode cX8_putBytesOf 15 = .ok (.invokevirtual 15, 3) := by decide +kernel
theorem dX8_putBytesOf_18 : decode cX8_putBytesOf 18 = .ok (.iinc 2 (-8), 3) := by decide +kernel
theorem dX8_putBytesOf_21 : decode cX8_putBytesOf 21 = .ok (.goto (-18), 3) := by decide +kernel
theorem dX8_putBytesOf_24 : decode cX8_putBytesOf 24 = .ok (.return_, 1) := by decide +kernel
theorem dX8_putAll_0 : decode cX8_putAll 0 = .ok (.iconst 0, 1) := by decide +kernel
theorem dX8_putAll_1 : decode cX8_putAll 1 = .ok (.istore_n 2, 1) := by decide +kernel
theorem dX8_putAll_2 : decode cX8_putAll 2 = .ok (.iload_n 2, 1) := by decide +kernel
theorem dX8_putAll_3 : decode cX8_putAll 3 = .ok (.aload_n 1, 1) := by decide +kernel
theorem dX8_putAll_4 : decode cX8_putAll 4 = .ok (.invokevirtual 19, 3) := by decide +kernel
theorem dX8_putAll_7 : decode cX8_putAll 7 = .ok (.if_icmp .ge 18, 3) := by decide +kernel
theorem dX8_putAll_10 : decode cX8_putAll 10 = .ok (.aload_n 0, 1) := by decide +kernel
theorem dX8_putAll_11 : decode cX8_putAll 11 = .ok (.aload_n 1, 1) := by decide +kernel
theorem dX8_putAll_12 : decode cX8_putAll 12 = .ok (.iload_n 2, 1) := by decide +kernel
theorem dX8_putAll_13 : decode cX8_putAll 13 = .ok (.invokevirtual 25, 3) := by decide +kernel
theorem dX8_putAll_16 : decode cX8_putAll 16 = .ok (.invokevirtual 15, 3) := by decide +kernel
theorem dX8_putAll_19 : decode cX8_putAll 19 = .ok (.iinc 2 1, 3) := by decide +kernel
theorem dX8_putAll_22 : decode cX8_putAll 22 = .ok (.goto (-20), 3) := by decide +kernel
theorem dX8_putAll_25 : decode cX8_putAll 25 = .ok (.return_, 1) := by decide +kernel
theorem dX8_put_0 : decode cX8_put 0 = .ok (.iload_n 1, 1) := by decide +kernel
theorem dX8_put_1 : decode cX8_put 1 = .ok (.ifCond .eq 34, 3) := by decide +kernel
theorem dX8_put_4 : decode cX8_put 4 = .ok (.aload_n 0, 1) := by decide +kernel
theorem dX8_put_5 : decode cX8_put 5 = .ok (.getfield 29, 3) := by decide +kernel
theorem dX8_put_8 : decode cX8_put 8 = .ok (.sipush 700, 3) := by decide +kernel
theorem dX8_put_11 : decode cX8_put 11 = .ok (.if_icmp .ge 24, 3) := by decide +kernel
theorem dX8_put_14 : decode cX8_put 14 = .ok (.aload_n 0, 1) := by decide +kernel
theorem dX8_put_15 : decode cX8_put 15 = .ok (.getfield 9, 3) := by decide +kernel
theorem dX8_put_18 : decode cX8_put 18 = .ok (.aload_n 0, 1) := by decide +kernel
theorem dX8_put_19 : decode cX8_put 19 = .ok (.getfield 29, 3) := by decide +kernel
theorem dX8_put_22 : decode cX8_put 22 = .ok (.iload_n 1, 1) := by decide +kernel
theorem dX8_put_23 : decode cX8_put 23 = .ok (.i2b, 1) := by decide +kernel
theorem dX8_put_24 : decode cX8_put 24 = .ok (.bastore, 1) := by decide +kernel
theorem dX8_put_25 : decode cX8_put 25 = .ok (.aload_n 0, 1) := by decide +kernel
theorem dX8_put_26 : decode cX8_put 26 = .ok (.dup, 1) := by decide +kernel
theorem dX8_put_27 : decode cX8_put 27 = .ok (.getfield 29, 3) := by decide +kernel
theorem dX8_put_30 : decode cX8_put 30 = .ok (.iconst 1, 1) := by decide +kernel
theorem dX8_put_31 : decode cX8_put 31 = .ok (.iadd, 1) := by decide +kernel
theorem dX8_put_32 : decode cX8_put 32 = .ok (.putfield 29, 3) := by decide +kernel
theorem dX8_put_35 : decode cX8_put 35 = .ok (.return_, 1) := by decide +kernel
theorem dX8_at_0 : decode cX8_at 0 = .ok (.iload_n 1, 1) := by decide +kernel
theorem dX8_at_1 : decode cX8_at 1 = .ok (.ifCond .lt 24, 3) := by decide +kernel
theorem dX8_at_4 : decode cX8_at 4 = .ok (.iload_n 1, 1) := by decide +kernel
theorem dX8_at_5 : decode cX8_at 5 = .ok (.aload_n 0, 1) := by decide +kernel
theorem dX8_at_6 : decode cX8_at 6 = .ok (.getfield 29, 3) := by decide +kernel
theorem dX8_at_9 : decode cX8_at 9 = .ok (.if_icmp .ge 16, 3) := by decide +kernel
theorem dX8_at_12 : decode cX8_at 12 = .ok (.aload_n 0, 1) := by decide +kernel
theorem dX8_at_13 : decode cX8_at 13 = .ok (.getfield 9, 3) := by decide +kernel
theorem dX8_at_16 : decode cX8_at 16 = .ok (.iload_n 1, 1) := by decide +kernel
theorem dX8_at_17 : decode cX8_at 17 = .ok (.baload, 1) := by decide +kernel
theorem dX8_at_18 : decode cX8_at 18 = .ok (.sipush 255, 3) := by decide +kernel
theorem dX8_at_21 : decode cX8_at 21 = .ok (.iand, 1) := by decide +kernel
theorem dX8_at_22 : decode cX8_at 22 = .ok (.goto 4, 3) := by decide +kernel
theorem dX8_at_25 : decode cX8_at 25 = .ok (.iconst 0, 1) := by decide +kernel
theorem dX8_at_26 : decode cX8_at 26 = .ok (.ireturn, 1) := by decide +kernel
theorem dX8_nameBetween_0 : decode cX8_nameBetween 0 = .ok (.iload_n 2, 1) := by decide +kernel
theorem dX8_nameBetween_1 : decode cX8_nameBetween 1 = .ok (.iload_n 1, 1) := by decide +kernel
theorem dX8_nameBetween_2 : decode cX8_nameBetween 2 = .ok (.isub, 1) := by decide +kernel
theorem dX8_nameBetween_3 : decode cX8_nameBetween 3 = .ok (.bipush 6, 2) := by decide +kernel
theorem dX8_nameBetween_5 : decode cX8_nameBetween 5 = .ok (.if_icmp .le 5, 3) := by decide +kernel
theorem dX8_nameBetween_8 : decode cX8_nameBetween 8 = .ok (.iconst 0, 1) := by decide +kernel
theorem dX8_nameBetween_9 : decode cX8_nameBetween 9 = .ok (.ireturn, 1) := by decide +kernel
theorem dX8_nameBetween_10 : decode cX8_nameBetween 10 = .ok (.iconst 0, 1) := by decide +kernel
theorem dX8_nameBetween_11 : decode cX8_nameBetween 11 = .ok (.istore_n 3, 1) := by decide +kernel
theorem dX8_nameBetween_12 : decode cX8_nameBetween 12 = .ok (.iload_n 1, 1) := by decide +kernel
theorem dX8_nameBetween_13 : decode cX8_nameBetween 13 = .ok (.istore 4, 2) := by decide +kernel
theorem dX8_nameBetween_15 : decode cX8_nameBetween 15 = .ok (.iload 4, 2) := by decide +kernel
theorem dX8_nameBetween_17 : decode cX8_nameBetween 17 = .ok (.iload_n 2, 1) := by decide +kernel
theorem dX8_nameBetween_18 : decode cX8_nameBetween 18 = .ok (.if_icmp .ge 40, 3) := by decide +kernel
theorem dX8_nameBetween_21 : decode cX8_nameBetween 21 = .ok (.aload_n 0, 1) := by decide +kernel
theorem dX8_nameBetween_22 : decode cX8_nameBetween 22 = .ok (.iload 4, 2) := by decide +kernel
theorem dX8_nameBetween_24 : decode cX8_nameBetween 24 = .ok (.invokevirtual 32, 3) := by decide +kernel
theorem dX8_nameBetween_27 : decode cX8_nameBetween 27 = .ok (.istore 5, 2) := by decide +kernel
theorem dX8_nameBetween_29 : decode cX8_nameBetween 29 = .ok (.iload 5, 2) := by decide +kernel
theorem dX8_nameBetween_31 : decode cX8_nameBetween 31 = .ok (.invokestatic 36, 3) := by decide +kernel
theorem dX8_nameBetween_34 : decode cX8_nameBetween 34 = .ok (.iconst 1, 1) := by decide +kernel
theorem dX8_nameBetween_35 : decode cX8_nameBetween 35 = .ok (.if_icmp .eq 5, 3) := by decide +kernel
theorem dX8_nameBetween_38 : decode cX8_nameBetween 38 = .ok (.iconst 0, 1) := by decide +kernel
theorem dX8_nameBetween_39 : decode cX8_nameBetween 39 = .ok (.ireturn, 1) := by decide +kernel
theorem dX8_nameBetween_40 : decode cX8_nameBetween 40 = .ok (.iload_n 3, 1) := by decide +kernel
theorem dX8_nameBetween_41 : decode cX8_nameBetween 41 = .ok (.iconst 5, 1) := by decide +kernel
theorem dX8_nameBetween_42 : decode cX8_nameBetween 42 = .ok (.ishl, 1) := by decide +kernel
theorem dX8_nameBetween_43 : decode cX8_nameBetween 43 = .ok (.iload 5, 2) := by decide +kernel
theorem dX8_nameBetween_45 : decode cX8_nameBetween 45 = .ok (.bipush 97, 2) := by decide +kernel
theorem dX8_nameBetween_47 : decode cX8_nameBetween 47 = .ok (.isub, 1) := by decide +kernel
theorem dX8_nameBetween_48 : decode cX8_nameBetween 48 = .ok (.iconst 1, 1) := by decide +kernel
theorem dX8_nameBetween_49 : decode cX8_nameBetween 49 = .ok (.iadd, 1) := by decide +kernel
theorem dX8_nameBetween_50 : decode cX8_nameBetween 50 = .ok (.iadd, 1) := by decide +kernel
theorem dX8_nameBetween_51 : decode cX8_nameBetween 51 = .ok (.istore_n 3, 1) := by decide +kernel
theorem dX8_nameBetween_52 : decode cX8_nameBetween 52 = .ok (.iinc 4 1, 3) := by decide +kernel
theorem dX8_nameBetween_55 : decode cX8_nameBetween 55 = .ok (.goto (-40), 3) := by decide +kernel
theorem dX8_nameBetween_58 : decode cX8_nameBetween 58 = .ok (.iload_n 3, 1) := by decide +kernel
theorem dX8_nameBetween_59 : decode cX8_nameBetween 59 = .ok (.ireturn, 1) := by decide +kernel
theorem dX9_init_0 : decode cX9_init 0 = .ok (.aload_n 0, 1) := by decide +kernel
theorem dX9_init_1 : decode cX9_init 1 = .ok (.invokespecial 3, 3) := by decide +kernel
theorem dX9_init_4 : decode cX9_init 4 = .ok (.aload_n 0, 1) := by decide +kernel
theorem dX9_init_5 : decode cX9_init 5 = .ok (.aload_n 1, 1) := by decide +kernel
theorem dX9_init_6 : decode cX9_init 6 = .ok (.putfield 9, 3) := by decide +kernel
theorem dX9_init_9 : decode cX9_init 9 = .ok (.return_, 1) := by decide +kernel
theorem dX9_start_0 : decode cX9_start 0 = .ok (.aload_n 0, 1) := by decide +kernel
theorem dX9_start_1 : decode cX9_start 1 = .ok (.iconst 0, 1) := by decide +kernel
theorem dX9_start_2 : decode cX9_start 2 = .ok (.putfield 15, 3) := by decide +kernel
theorem dX9_start_5 : decode cX9_start 5 = .ok (.aload_n 0, 1) := by decide +kernel
theorem dX9_start_6 : decode cX9_start 6 = .ok (.iconst (-1), 1) := by decide +kernel
theorem dX9_start_7 : decode cX9_start 7 = .ok (.putfield 19, 3) := by decide +kernel
theorem dX9_start_10 : decode cX9_start 10 = .ok (.aload_n 0, 1) := by decide +kernel
theorem dX9_start_11 : decode cX9_start 11 = .ok (.iconst 0, 1) := by decide +kernel
theorem dX9_start_12 : decode cX9_start 12 = .ok (.putfield 22, 3) := by decide +kernel
theorem dX9_start_15 : decode cX9_start 15 = .ok (.aload_n 0, 1) := by decide +kernel
theorem dX9_start_16 : decode cX9_start 16 = .ok (.invokevirtual 25, 3) := by decide +kernel
theorem dX9_start_19 : decode cX9_start 19 = .ok (.return_, 1) := by decide +kernel
theorem dX9_step_0 : decode cX9_step 0 = .ok (.aload_n 0, 1) := by decide +kernel
theorem dX9_step_1 : decode cX9_step 1 = .ok (.aload_n 0, 1) := by decide +kernel
theorem dX9_step_2 : decode cX9_step 2 = .ok (.getfield 22, 3) := by decide +kernel
theorem dX9_step_5 : decode cX9_step 5 = .ok (.putfield 28, 3) := by decide +kernel
theorem dX9_step_8 : decode cX9_step 8 = .ok (.aload_n 0, 1) := by decide +kernel
theorem dX9_step_9 : decode cX9_step 9 = .ok (.getfield 28, 3) := by decide +kernel
theorem dX9_step_12 : decode cX9_step 12 = .ok (.aload_n 0, 1) := by decide +kernel
theorem dX9_step_13 : decode cX9_step 13 = .ok (.getfield 9, 3) := by decide +kernel
theorem dX9_step_16 : decode cX9_step 16 = .ok (.getfield 31, 3) := by decide +kernel
theorem dX9_step_19 : decode cX9_step 19 = .ok (.if_icmp .ge 34, 3) := by decide +kernel
theorem dX9_step_22 : decode cX9_step 22 = .ok (.aload_n 0, 1) := by decide +kernel
theorem dX9_step_23 : decode cX9_step 23 = .ok (.getfield 9, 3) := by decide +kernel
theorem dX9_step_26 : decode cX9_step 26 = .ok (.aload_n 0, 1) := by decide +kernel
theorem dX9_step_27 : decode cX9_step 27 = .ok (.getfield 28, 3) := by decide +kernel
theorem dX9_step_30 : decode cX9_step 30 = .ok (.invokevirtual 36, 3) := by decide +kernel
theorem dX9_step_33 : decode cX9_step 33 = .ok (.invokestatic 40, 3) := by decide +kernel
theorem dX9_step_36 : decode cX9_step 36 = .ok (.iconst 4, 1) := by decide +kernel
theorem dX9_step_37 : decode cX9_step 37 = .ok (.if_icmp .ne 16, 3) := by decide +kernel
theorem dX9_step_40 : decode cX9_step 40 = .ok (.aload_n 0, 1) := by decide +kernel
theorem dX9_step_41 : decode cX9_step 41 = .ok (.dup, 1) := by decide +kernel
theorem dX9_step_42 : decode cX9_step 42 = .ok (.getfield 28, 3) := by decide +kernel
theorem dX9_step_45 : decode cX9_step 45 = .ok (.iconst 1, 1) := by decide +kernel
theorem dX9_step_46 : decode cX9_step 46 = .ok (.iadd, 1) := by decide +kernel
theorem dX9_step_47 : decode cX9_step 47 = .ok (.putfield 28, 3) := by decide +kernel
theorem dX9_step_50 : decode cX9_step 50 = .ok (.goto (-42), 3) := by decide +kernel
theorem dX9_step_53 : decode cX9_step 53 = .ok (.aload_n 0, 1) := by decide +kernel
theorem dX9_step_54 : decode cX9_step 54 = .ok (.aload_n 0, 1) := by decide +kernel
theorem dX9_step_55 : decode cX9_step 55 = .ok (.getfield 9, 3) := by decide +kernel
theorem dX9_step_58 : decode cX9_step 58 = .ok (.aload_n 0, 1) := by decide +kernel
theorem dX9_step_59 : decode cX9_step 59 = .ok (.getfield 28, 3) := by decide +kernel
theorem dX9_step_62 : decode cX9_step 62 = .ok (.invokevirtual 36, 3) := by decide +kernel
theorem dX9_step_65 : decode cX9_step 65 = .ok (.invokestatic 40, 3) := by decide +kernel
theorem dX9_step_68 : decode cX9_step 68 = .ok (.putfield 43, 3) := by decide +kernel
theorem dX9_step_71 : decode cX9_step 71 = .ok (.aload_n 0, 1) := by decide +kernel
theorem dX9_step_72 : decode cX9_step 72 = .ok (.aload_n 0, 1) := by decide +kernel
theorem dX9_step_73 : decode cX9_step 73 = .ok (.getfield 43, 3) := by decide +kernel
theorem dX9_step_76 : decode cX9_step 76 = .ok (.iconst 3, 1) := by decide +kernel
theorem dX9_step_77 : decode cX9_step 77 = .ok (.if_icmp .ne 12, 3) := by decide +kernel
theorem dX9_step_80 : decode cX9_step 80 = .ok (.aload_n 0, 1) := by decide +kernel
theorem dX9_step_81 : decode cX9_step 81 = .ok (.getfield 28, 3) := by decide +kernel
theorem dX9_step_84 : decode cX9_step 84 = .ok (.iconst 1, 1) := by decide +kernel
theorem dX9_step_85 : decode cX9_step 85 = .ok (.iadd, 1) := by decide +kernel
theorem dX9_step_86 : decode cX9_step 86 = .ok (.goto 7, 3) := by decide +kernel
theorem dX9_step_89 : decode cX9_step 89 = .ok (.aload_n 0, 1) := by decide +kernel
theorem dX9_step_90 : decode cX9_step 90 = .ok (.getfield 28, 3) := by decide +kernel
theorem dX9_step_93 : decode cX9_step 93 = .ok (.putfield 22, 3) := by decide +kernel
theorem dX9_step_96 : decode cX9_step 96 = .ok (.aload_n 0, 1) := by decide +kernel
theorem dX9_step_97 : decode cX9_step 97 = .ok (.getfield 43, 3) := by decide +kernel
theorem dX9_step_100 : decode cX9_step 100 = .ok (.iconst 1, 1) := by decide +kernel
theorem dX9_step_101 : decode cX9_step 101 = .ok (.if_icmp .eq 11, 3) := by decide +kernel
theorem dX9_step_104 : decode cX9_step 104 = .ok (.aload_n 0, 1) := by decide +kernel
theorem dX9_step_105 : decode cX9_step 105 = .ok (.getfield 43, 3) := by decide +kernel
theorem dX9_step_108 : decode cX9_step 108 = .ok (.iconst 2, 1) := by decide +kernel
theorem dX9_step_109 : decode cX9_step 109 = .ok (.if_icmp .ne 7, 3) := by decide +kernel
theorem dX9_step_112 : decode cX9_step 112 = .ok (.iconst 1, 1) := by decide +kernel
theorem dX9_step_113 : decode cX9_step 113 = .ok (.goto 4, 3) := by decide +kernel
theorem dX9_step_116 : decode cX9_step 116 = .ok (.iconst 0, 1) := by decide +kernel
theorem dX9_step_117 : decode cX9_step 117 = .ok (.istore_n 1, 1) := by decide +kernel
theorem dX9_step_118 : decode cX9_step 118 = .ok (.iload_n 1, 1) := by decide +kernel
theorem dX9_step_119 : decode cX9_step 119 = .ok (.ifCond .eq 51, 3) := by decide +kernel
theorem dX9_step_122 : decode cX9_step 122 = .ok (.aload_n 0, 1) := by decide +kernel
theorem dX9_step_123 : decode cX9_step 123 = .ok (.getfield 22, 3) := by decide +kernel
theorem dX9_step_126 : decode cX9_step 126 = .ok (.aload_n 0, 1) := by decide +kernel
theorem dX9_step_127 : decode cX9_step 127 = .ok (.getfield 9, 3) := by decide +kernel
theorem dX9_step_130 : decode cX9_step 130 = .ok (.getfield 31, 3) := by decide +kernel
theorem dX9_step_133 : decode cX9_step 133 = .ok (.if_icmp .ge 37, 3) := by decide +kernel
theorem dX9_step_136 : decode cX9_step 136 = .ok (.aload_n 0, 1) := by decide +kernel
theorem dX9_step_137 : decode cX9_step 137 = .ok (.getfield 9, 3) := by decide +kernel
theorem dX9_step_140 : decode cX9_step 140 = .ok (.aload_n 0, 1) := by decide +kernel
theorem dX9_step_141 : decode cX9_step 141 = .ok (.getfield 22, 3) := by decide +kernel
theorem dX9_step_144 : decode cX9_step 144 = .ok (.invokevirtual 36, 3) := by decide +kernel
theorem dX9_step_147 : decode cX9_step 147 = .ok (.invokestatic 40, 3) := by decide +kernel
theorem dX9_step_150 : decode cX9_step 150 = .ok (.aload_n 0, 1) := by decide +kernel
theorem dX9_step_151 : decode cX9_step 151 = .ok (.getfield 43, 3) := by decide +kernel
theorem dX9_step_154 : decode cX9_step 154 = .ok (.if_icmp .ne 16, 3) := by decide +kernel
theorem dX9_step_157 : decode cX9_step 157 = .ok (.aload_n 0, 1) := by decide +kernel
theorem dX9_step_158 : decode cX9_step 158 = .ok (.dup, 1) := by decide +kernel
theorem dX9_step_159 : decode cX9_step 159 = .ok (.getfield 22, 3) := by decide +kernel
theorem dX9_step_162 : decode cX9_step 162 = .ok (.iconst 1, 1) := by decide +kernel
theorem dX9_step_163 : decode cX9_step 163 = .ok (.iadd, 1) := by decide +kernel
theorem dX9_step_164 : decode cX9_step 164 = .ok (.putfield 22, 3) := by decide +kernel
theorem dX9_step_167 : decode cX9_step 167 = .ok (.goto (-49), 3) := by decide +kernel
theorem dX9_step_170 : decode cX9_step 170 = .ok (.return_, 1) := by decide +kernel
theorem dX9_kindOf_0 : decode cX9_kindOf 0 = .ok (.iload_n 0, 1) := by decide +kernel
theorem dX9_kindOf_1 : decode cX9_kindOf 1 = .ok (.ifCond .ne 5, 3) := by decide +kernel
theorem dX9_kindOf_4 : decode cX9_kindOf 4 = .ok (.iconst 0, 1) := by decide +kernel
theorem dX9_kindOf_5 : decode cX9_kindOf 5 = .ok (.ireturn, 1) := by decide +kernel
theorem dX9_kindOf_6 : decode cX9_kindOf 6 = .ok (.iload_n 0, 1) := by decide +kernel
theorem dX9_kindOf_7 : decode cX9_kindOf 7 = .ok (.bipush 32, 2) := by decide +kernel
theorem dX9_kindOf_9 : decode cX9_kindOf 9 = .ok (.if_icmp .eq 9, 3) := by decide +kernel
theorem dX9_kindOf_12 : decode cX9_kindOf 12 = .ok (.iload_n 0, 1) := by decide +kernel
theorem dX9_kindOf_13 : decode cX9_kindOf 13 = .ok (.bipush 10, 2) := by decide +kernel
theorem dX9_kindOf_15 : decode cX9_kindOf 15 = .ok (.if_icmp .ne 5, 3) := by decide +kernel
theorem dX9_kindOf_18 : decode cX9_kindOf 18 = .ok (.iconst 4, 1) := by decide +kernel
theorem dX9_kindOf_19 : decode cX9_kindOf 19 = .ok (.ireturn, 1) := by decide +kernel
theorem dX9_kindOf_20 : decode cX9_kindOf 20 = .ok (.iload_n 0, 1) := by decide +kernel
theorem dX9_kindOf_21 : decode cX9_kindOf 21 = .ok (.bipush 97, 2) := by decide +kernel
theorem dX9_kindOf_23 : decode cX9_kindOf 23 = .ok (.if_icmp .lt 11, 3) := by decide +kernel
theorem dX9_kindOf_26 : decode cX9_kindOf 26 = .ok (.iload_n 0, 1) := by decide +kernel
theorem dX9_kindOf_27 : decode cX9_kindOf 27 = .ok (.bipush 122, 2) := by decide +kernel
theorem dX9_kindOf_29 : decode cX9_kindOf 29 = .ok (.if_icmp .gt 5, 3) := by decide +kernel
theorem dX9_kindOf_32 : decode cX9_kindOf 32 = .ok (.iconst 1, 1) := by decide +kernel
theorem dX9_kindOf_33 : decode cX9_kindOf 33 = .ok (.ireturn, 1) := by decide +kernel
theorem dX9_kindOf_34 : decode cX9_kindOf 34 = .ok (.iload_n 0, 1) := by decide +kernel
theorem dX9_kindOf_35 : decode cX9_kindOf 35 = .ok (.bipush 48, 2) := by decide +kernel
theorem dX9_kindOf_37 : decode cX9_kindOf 37 = .ok (.if_icmp .lt 13, 3) := by decide +kernel
theorem dX9_kindOf_40 : decode cX9_kindOf 40 = .ok (.iload_n 0, 1) := by decide +kernel
theorem dX9_kindOf_41 : decode cX9_kindOf 41 = .ok (.bipush 57, 2) := by decide +kernel
theorem dX9_kindOf_43 : decode cX9_kindOf 43 = .ok (.if_icmp .gt 7, 3) := by decide +kernel
theorem dX9_kindOf_46 : decode cX9_kindOf 46 = .ok (.iconst 2, 1) := by decide +kernel
theorem dX9_kindOf_47 : decode cX9_kindOf 47 = .ok (.goto 4, 3) := by decide +kernel
theorem dX9_kindOf_50 : decode cX9_kindOf 50 = .ok (.iconst 3, 1) := by decide +kernel
theorem dX9_kindOf_51 : decode cX9_kindOf 51 = .ok (.ireturn, 1) := by decide +kernel
theorem dX9_isFine_0 : decode cX9_isFine 0 = .ok (.aload_n 0, 1) := by decide +kernel
theorem dX9_isFine_1 : decode cX9_isFine 1 = .ok (.getfield 15, 3) := by decide +kernel
theorem dX9_isFine_4 : decode cX9_isFine 4 = .ok (.ifCond .ne 7, 3) := by decide +kernel
theorem dX9_isFine_7 : decode cX9_isFine 7 = .ok (.iconst 1, 1) := by decide +kernel
theorem dX9_isFine_8 : decode cX9_isFine 8 = .ok (.goto 4, 3) := by decide +kernel
theorem dX9_isFine_11 : decode cX9_isFine 11 = .ok (.iconst 0, 1) := by decide +kernel
theorem dX9_isFine_12 : decode cX9_isFine 12 = .ok (.ireturn, 1) := by decide +kernel
theorem dX9_isAtEnd_0 : decode cX9_isAtEnd 0 = .ok (.aload_n 0, 1) := by decide +kernel
theorem dX9_isAtEnd_1 : decode cX9_isAtEnd 1 = .ok (.getfield 43, 3) := by decide +kernel
theorem dX9_isAtEnd_4 : decode cX9_isAtEnd 4 = .ok (.ifCond .ne 7, 3) := by decide +kernel
theorem dX9_isAtEnd_7 : decode cX9_isAtEnd 7 = .ok (.iconst 1, 1) := by decide +kernel
theorem dX9_isAtEnd_8 : decode cX9_isAtEnd 8 = .ok (.goto 4, 3) := by decide +kernel
theorem dX9_isAtEnd_11 : decode cX9_isAtEnd 11 = .ok (.iconst 0, 1) := by decide +kernel
theorem dX9_isAtEnd_12 : decode cX9_isAtEnd 12 = .ok (.ireturn, 1) := by decide +kernel
theorem dX9_isAtWord__0 : decode cX9_isAtWord_ 0 = .ok (.aload_n 0, 1) := by decide +kernel
theorem dX9_isAtWord__1 : decode cX9_isAtWord_ 1 = .ok (.getfield 43, 3) := by decide +kernel
theorem dX9_isAtWord__4 : decode cX9_isAtWord_ 4 = .ok (.iconst 1, 1) := by decide +kernel
theorem dX9_isAtWord__5 : decode cX9_isAtWord_ 5 = .ok (.if_icmp .ne 19, 3) := by decide +kernel
theorem dX9_isAtWord__8 : decode cX9_isAtWord_ 8 = .ok (.aload_n 0, 1) := by decide +kernel
theorem dX9_isAtWord__9 : decode cX9_isAtWord_ 9 = .ok (.getfield 22, 3) := by decide +kernel
theorem dX9_isAtWord__12 : decode cX9_isAtWord_ 12 = .ok (.aload_n 0, 1) := by decide +kernel
theorem dX9_isAtWord__13 : decode cX9_isAtWord_ 13 = .ok (.getfield 28, 3) := by decide +kernel
theorem dX9_isAtWord__16 : decode cX9_isAtWord_ 16 = .ok (.isub, 1) := by decide +kernel
theorem dX9_isAtWord__17 : decode cX9_isAtWord_ 17 = .ok (.aload_n 1, 1) := by decide +kernel
theorem dX9_isAtWord__18 : decode cX9_isAtWord_ 18 = .ok (.invokevirtual 46, 3) := by decide +kernel
theorem dX9_isAtWord__21 : decode cX9_isAtWord_ 21 = .ok (.if_icmp .eq 5, 3) := by decide +kernel
theorem dX9_isAtWord__24 : decode cX9_isAtWord_ 24 = .ok (.iconst 0, 1) := by decide +kernel
theorem dX9_isAtWord__25 : decode cX9_isAtWord_ 25 = .ok (.ireturn, 1) := by decide +kernel
theorem dX9_isAtWord__26 : decode cX9_isAtWord_ 26 = .ok (.iconst 0, 1) := by decide +kernel
theorem dX9_isAtWord__27 : decode cX9_isAtWord_ 27 = .ok (.istore_n 2, 1) := by decide +kernel
theorem dX9_isAtWord__28 : decode cX9_isAtWord_ 28 = .ok (.iload_n 2, 1) := by decide +kernel
theorem dX9_isAtWord__29 : decode cX9_isAtWord_ 29 = .ok (.aload_n 1, 1) := by decide +kernel
theorem dX9_isAtWord__30 : decode cX9_isAtWord_ 30 = .ok (.invokevirtual 46, 3) := by decide +kernel
theorem dX9_isAtWord__33 : decode cX9_isAtWord_ 33 = .ok (.if_icmp .ge 32, 3) := by decide +kernel
theorem dX9_isAtWord__36 : decode cX9_isAtWord_ 36 = .ok (.aload_n 0, 1) := by decide +kernel
theorem dX9_isAtWord__37 : decode cX9_isAtWord_ 37 = .ok (.getfield 9, 3) := by decide +kernel
theorem dX9_isAtWord__40 : decode cX9_isAtWord_ 40 = .ok (.aload_n 0, 1) := by decide +kernel
theorem dX9_isAtWord__41 : decode cX9_isAtWord_ 41 = .ok (.getfield 28, 3) := by decide +kernel
theorem dX9_isAtWord__44 : decode cX9_isAtWord_ 44 = .ok (.iload_n 2, 1) := by decide +kernel
theorem dX9_isAtWord__45 : decode cX9_isAtWord_ 45 = .ok (.iadd, 1) := by decide +kernel
theorem dX9_isAtWord__46 : decode cX9_isAtWord_ 46 = .ok (.invokevirtual 36, 3) := by decide +kernel
theorem dX9_isAtWord__49 : decode cX9_isAtWord_ 49 = .ok (.aload_n 1, 1) := by decide +kernel
theorem dX9_isAtWord__50 : decode cX9_isAtWord_ 50 = .ok (.iload_n 2, 1) := by decide +kernel
theorem dX9_isAtWord__51 : decode cX9_isAtWord_ 51 = .ok (.invokevirtual 51, 3) := by decide +kernel
theorem dX9_isAtWord__54 : decode cX9_isAtWord_ 54 = .ok (.if_icmp .eq 5, 3) := by decide +kernel
theorem dX9_isAtWord__57 : decode cX9_isAtWord_ 57 = .ok (.iconst 0, 1) := by decide +kernel
theorem dX9_isAtWord__58 : decode cX9_isAtWord_ 58 = .ok (.ireturn, 1) := by decide +kernel
theorem dX9_isAtWord__59 : decode cX9_isAtWord_ 59 = .ok (.iinc 2 1, 3) := by decide +kernel
theorem dX9_isAtWord__62 : decode cX9_isAtWord_ 62 = .ok (.goto (-34), 3) := by decide +kernel
theorem dX9_isAtWord__65 : decode cX9_isAtWord_ 65 = .ok (.iconst 1, 1) := by decide +kernel
theorem dX9_isAtWord__66 : decode cX9_isAtWord_ 66 = .ok (.ireturn, 1) := by decide +kernel
theorem dX9_isAtSign_0 : decode cX9_isAtSign 0 = .ok (.aload_n 0, 1) := by decide +kernel
theorem dX9_isAtSign_1 : decode cX9_isAtSign 1 = .ok (.getfield 43, 3) := by decide +kernel
theorem dX9_isAtSign_4 : decode cX9_isAtSign 4 = .ok (.iconst 3, 1) := by decide +kernel
theorem dX9_isAtSign_5 : decode cX9_isAtSign 5 = .ok (.if_icmp .ne 22, 3) := by decide +kernel
theorem dX9_isAtSign_8 : decode cX9_isAtSign 8 = .ok (.aload_n 0, 1) := by decide +kernel
theorem dX9_isAtSign_9 : decode cX9_isAtSign 9 = .ok (.getfield 9, 3) := by decide +kernel
theorem dX9_isAtSign_12 : decode cX9_isAtSign 12 = .ok (.aload_n 0, 1) := by decide +kernel
theorem dX9_isAtSign_13 : decode cX9_isAtSign 13 = .ok (.getfield 28, 3) := by decide +kernel
theorem dX9_isAtSign_16 : decode cX9_isAtSign 16 = .ok (.invokevirtual 36, 3) := by decide +kernel
theorem dX9_isAtSign_19 : decode cX9_isAtSign 19 = .ok (.iload_n 1, 1) := by decide +kernel
theorem dX9_isAtSign_20 : decode cX9_isAtSign 20 = .ok (.if_icmp .ne 7, 3) := by decide +kernel
theorem dX9_isAtSign_23 : decode cX9_isAtSign 23 = .ok (.iconst 1, 1) := by decide +kernel
theorem dX9_isAtSign_24 : decode cX9_isAtSign 24 = .ok (.goto 4, 3) := by decide +kernel
theorem dX9_isAtSign_27 : decode cX9_isAtSign 27 = .ok (.iconst 0, 1) := by decide +kernel
theorem dX9_isAtSign_28 : decode cX9_isAtSign 28 = .ok (.ireturn, 1) := by decide +kernel
theorem dX9_take_0 : decode cX9_take 0 = .ok (.aload_n 0, 1) := by decide +kernel
theorem dX9_take_1 : decode cX9_take 1 = .ok (.invokevirtual 55, 3) := by decide +kernel
theorem dX9_take_4 : decode cX9_take 4 = .ok (.ifCond .ne 4, 3) := by decide +kernel
theorem dX9_take_7 : decode cX9_take 7 = .ok (.return_, 1) := by decide +kernel
theorem dX9_take_8 : decode cX9_take 8 = .ok (.iload_n 1, 1) := by decide +kernel
theorem dX9_take_9 : decode cX9_take 9 = .ok (.ifCond .ne 10, 3) := by decide +kernel
theorem dX9_take_12 : decode cX9_take 12 = .ok (.aload_n 0, 1) := by decide +kernel
theorem dX9_take_13 : decode cX9_take 13 = .ok (.invokevirtual 25, 3) := by decide +kernel
theorem dX9_take_16 : decode cX9_take 16 = .ok (.goto 16, 3) := by decide +kernel
theorem dX9_take_19 : decode cX9_take 19 = .ok (.aload_n 0, 1) := by decide +kernel
theorem dX9_take_20 : decode cX9_take 20 = .ok (.iload_n 1, 1) := by decide +kernel
theorem dX9_take_21 : decode cX9_take 21 = .ok (.putfield 15, 3) := by decide +kernel
theorem dX9_take_24 : decode cX9_take 24 = .ok (.aload_n 0, 1) := by decide +kernel
theorem dX9_take_25 : decode cX9_take 25 = .ok (.aload_n 0, 1) := by decide +kernel
theorem dX9_take_26 : decode cX9_take 26 = .ok (.getfield 28, 3) := by decide +kernel
theorem dX9_take_29 : decode cX9_take 29 = .ok (.putfield 19, 3) := by decide +kernel
theorem dX9_take_32 : decode cX9_take 32 = .ok (.return_, 1) := by decide +kernel
theorem dX9_takeWord_0 : decode cX9_takeWord 0 = .ok (.aload_n 0, 1) := by decide +kernel
theorem dX9_takeWord_1 : decode cX9_takeWord 1 = .ok (.aload_n 0, 1) := by decide +kernel
theorem dX9_takeWord_2 : decode cX9_takeWord 2 = .ok (.aload_n 1, 1) := by decide +kernel
theorem dX9_takeWord_3 : decode cX9_takeWord 3 = .ok (.invokevirtual 59, 3) := by decide +kernel
theorem dX9_takeWord_6 : decode cX9_takeWord 6 = .ok (.ifCond .eq 7, 3) := by decide +kernel
theorem dX9_takeWord_9 : decode cX9_takeWord 9 = .ok (.iconst 0, 1) := by decide +kernel
theorem dX9_takeWord_10 : decode cX9_takeWord 10 = .ok (.goto 4, 3) := by decide +kernel
theorem dX9_takeWord_13 : decode cX9_takeWord 13 = .ok (.iconst 1, 1) := by decide +kernel
theorem dX9_takeWord_14 : decode cX9_takeWord 14 = .ok (.invokevirtual 63, 3) := by decide +kernel
theorem dX9_takeWord_17 : decode cX9_takeWord 17 = .ok (.return_, 1) := by decide +kernel
theorem dX9_takeSign_0 : decode cX9_takeSign 0 = .ok (.aload_n 0, 1) := by decide +kernel
theorem dX9_takeSign_1 : decode cX9_takeSign 1 = .ok (.aload_n 0, 1) := by decide +kernel
theorem dX9_takeSign_2 : decode cX9_takeSign 2 = .ok (.iload_n 1, 1) := by decide +kernel
theorem dX9_takeSign_3 : decode cX9_takeSign 3 = .ok (.invokevirtual 67, 3) := by decide +kernel
theorem dX9_takeSign_6 : decode cX9_takeSign 6 = .ok (.ifCond .eq 7, 3) := by decide +kernel
theorem dX9_takeSign_9 : decode cX9_takeSign 9 = .ok (.iconst 0, 1) := by decide +kernel
theorem dX9_takeSign_10 : decode cX9_takeSign 10 = .ok (.goto 4, 3) := by decide +kernel
theorem dX9_takeSign_13 : decode cX9_takeSign 13 = .ok (.iconst 1, 1) := by decide +kernel
theorem dX9_takeSign_14 : decode cX9_takeSign 14 = .ok (.invokevirtual 63, 3) := by decide +kernel
theorem dX9_takeSign_17 : decode cX9_takeSign 17 = .ok (.return_, 1) := by decide +kernel
theorem dX9_takeNumber_0 : decode cX9_takeNumber 0 = .ok (.aload_n 0, 1) := by decide +kernel
theorem dX9_takeNumber_1 : decode cX9_takeNumber 1 = .ok (.invokevirtual 74, 3) := by decide +kernel
theorem dX9_takeNumber_4 : decode cX9_takeNumber 4 = .ok (.istore_n 3, 1) := by decide +kernel
theorem dX9_takeNumber_5 : decode cX9_takeNumber 5 = .ok (.aload_n 0, 1) := by decide +kernel
theorem dX9_takeNumber_6 : decode cX9_takeNumber 6 = .ok (.getfield 43, 3) := by decide +kernel
theorem dX9_takeNumber_9 : decode cX9_takeNumber 9 = .ok (.iconst 2, 1) := by decide +kernel
theorem dX9_takeNumber_10 : decode cX9_takeNumber 10 = .ok (.if_icmp .eq 11, 3) := by decide +kernel
theorem dX9_takeNumber_13 : decode cX9_takeNumber 13 = .ok (.aload_n 0, 1) := by decide +kernel
theorem dX9_takeNumber_14 : decode cX9_takeNumber 14 = .ok (.iconst 1, 1) := by decide +kernel
theorem dX9_takeNumber_15 : decode cX9_takeNumber 15 = .ok (.invokevirtual 63, 3) := by decide +kernel
theorem dX9_takeNumber_18 : decode cX9_takeNumber 18 = .ok (.goto 26, 3) := by decide +kernel
theorem dX9_takeNumber_21 : decode cX9_takeNumber 21 = .ok (.iload_n 3, 1) := by decide +kernel
theorem dX9_takeNumber_22 : decode cX9_takeNumber 22 = .ok (.iload_n 1, 1) := by decide +kernel
theorem dX9_takeNumber_23 : decode cX9_takeNumber 23 = .ok (.if_icmp .lt 8, 3) := by decide +kernel
theorem dX9_takeNumber_26 : decode cX9_takeNumber 26 = .ok (.iload_n 3, 1) := by decide +kernel
theorem dX9_takeNumber_27 : decode cX9_takeNumber 27 = .ok (.iload_n 2, 1) := by decide +kernel
theorem dX9_takeNumber_28 : decode cX9_takeNumber 28 = .ok (.if_icmp .le 11, 3) := by decide +kernel
theorem dX9_takeNumber_31 : decode cX9_takeNumber 31 = .ok (.aload_n 0, 1) := by decide +kernel
theorem dX9_takeNumber_32 : decode cX9_takeNumber 32 = .ok (.iconst 2, 1) := by decide +kernel
theorem dX9_takeNumber_33 : decode cX9_takeNumber 33 = .ok (.invokevirtual 63, 3) := by decide +kernel
theorem dX9_takeNumber_36 : decode cX9_takeNumber 36 = .ok (.goto 8, 3) := by decide +kernel
theorem dX9_takeNumber_39 : decode cX9_takeNumber 39 = .ok (.aload_n 0, 1) := by decide +kernel
theorem dX9_takeNumber_40 : decode cX9_takeNumber 40 = .ok (.iconst 0, 1) := by decide +kernel
theorem dX9_takeNumber_41 : decode cX9_takeNumber 41 = .ok (.invokevirtual 63, 3) := by decide +kernel
theorem dX9_takeNumber_44 : decode cX9_takeNumber 44 = .ok (.aload_n 0, 1) := by decide +kernel
theorem dX9_takeNumber_45 : decode cX9_takeNumber 45 = .ok (.invokevirtual 55, 3) := by decide +kernel
theorem dX9_takeNumber_48 : decode cX9_takeNumber 48 = .ok (.ifCond .eq 7, 3) := by decide +kernel
theorem dX9_takeNumber_51 : decode cX9_takeNumber 51 = .ok (.iload_n 3, 1) := by decide +kernel
theorem dX9_takeNumber_52 : decode cX9_takeNumber 52 = .ok (.goto 4, 3) := by decide +kernel
theorem dX9_takeNumber_55 : decode cX9_takeNumber 55 = .ok (.iload_n 1, 1) := by decide +kernel
theorem dX9_takeNumber_56 : decode cX9_takeNumber 56 = .ok (.ireturn, 1) := by decide +kernel
theorem dX9_number_0 : decode cX9_number 0 = .ok (.iconst 0, 1) := by decide +kernel
theorem dX9_number_1 : decode cX9_number 1 = .ok (.istore_n 1, 1) := by decide +kernel
theorem dX9_number_2 : decode cX9_number 2 = .ok (.aload_n 0, 1) := by decide +kernel
theorem dX9_number_3 : decode cX9_number 3 = .ok (.getfield 28, 3) := by decide +kernel
theorem dX9_number_6 : decode cX9_number 6 = .ok (.istore_n 2, 1) := by decide +kernel
theorem dX9_number_7 : decode cX9_number 7 = .ok (.iload_n 2, 1) := by decide +kernel
theorem dX9_number_8 : decode cX9_number 8 = .ok (.aload_n 0, 1) := by decide +kernel
theorem dX9_number_9 : decode cX9_number 9 = .ok (.getfield 22, 3) := by decide +kernel
theorem dX9_number_12 : decode cX9_number 12 = .ok (.if_icmp .ge 32, 3) := by decide +kernel
theorem dX9_number_15 : decode cX9_number 15 = .ok (.iload_n 1, 1) := by decide +kernel
theorem dX9_number_16 : decode cX9_number 16 = .ok (.bipush 10, 2) := by decide +kernel
theorem dX9_number_18 : decode cX9_number 18 = .ok (.imul, 1) := by decide +kernel
theorem dX9_number_19 : decode cX9_number 19 = .ok (.aload_n 0, 1) := by decide +kernel
theorem dX9_number_20 : decode cX9_number 20 = .ok (.getfield 9, 3) := by decide +kernel
theorem dX9_number_23 : decode cX9_number 23 = .ok (.iload_n 2, 1) := by decide +kernel
theorem dX9_number_24 : decode cX9_number 24 = .ok (.invokevirtual 36, 3) := by decide +kernel
theorem dX9_number_27 : decode cX9_number 27 = .ok (.iadd, 1) := by decide +kernel
theorem dX9_number_28 : decode cX9_number 28 = .ok (.bipush 48, 2) := by decide +kernel
theorem dX9_number_30 : decode cX9_number 30 = .ok (.isub, 1) := by decide +kernel
theorem dX9_number_31 : decode cX9_number 31 = .ok (.sipush 1000, 3) := by decide +kernel
theorem dX9_number_34 : decode cX9_number 34 = .ok (.invokestatic 77, 3) := by decide +kernel
theorem dX9_number_37 : decode cX9_number 37 = .ok (.istore_n 1, 1) := by decide +kernel
theorem dX9_number_38 : decode cX9_number 38 = .ok (.iinc 2 1, 3) := by decide +kernel
theorem dX9_number_41 : decode cX9_number 41 = .ok (.goto (-34), 3) := by decide +kernel
theorem dX9_number_44 : decode cX9_number 44 = .ok (.iload_n 1, 1) := by decide +kernel
theorem dX9_number_45 : decode cX9_number 45 = .ok (.ireturn, 1) := by decide +kernel
theorem dX9_errorAsName_0 : decode cX9_errorAsName 0 = .ok (.aload_n 0, 1) := by decide +kernel
theorem dX9_errorAsName_1 : decode cX9_errorAsName 1 = .ok (.getfield 43, 3) := by decide +kernel
theorem dX9_errorAsName_4 : decode cX9_errorAsName 4 = .ok (.iconst 1, 1) := by decide +kernel
theorem dX9_errorAsName_5 : decode cX9_errorAsName 5 = .ok (.if_icmp .eq 5, 3) := by decide +kernel
theorem dX9_errorAsName_8 : decode cX9_errorAsName 8 = .ok (.iconst 1, 1) := by decide +kernel
theorem dX9_errorAsName_9 : decode cX9_errorAsName 9 = .ok (.ireturn, 1) := by decide +kernel
theorem dX9_errorAsName_10 : decode cX9_errorAsName 10 = .ok (.aload_n 0, 1) := by decide +kernel
theorem dX9_errorAsName_11 : decode cX9_errorAsName 11 = .ok (.getfield 22, 3) := by decide +kernel
theorem dX9_errorAsName_14 : decode cX9_errorAsName 14 = .ok (.aload_n 0, 1) := by decide +kernel
theorem dX9_errorAsName_15 : decode cX9_errorAsName 15 = .ok (.getfield 28, 3) := by decide +kernel
theorem dX9_errorAsName_18 : decode cX9_errorAsName 18 = .ok (.isub, 1) := by decide +kernel
theorem dX9_errorAsName_19 : decode cX9_errorAsName 19 = .ok (.bipush 6, 2) := by decide +kernel
theorem dX9_errorAsName_21 : decode cX9_errorAsName 21 = .ok (.if_icmp .le 7, 3) := by decide +kernel
theorem dX9_errorAsName_24 : decode cX9_errorAsName 24 = .ok (.iconst 2, 1) := by decide +kernel
theorem dX9_errorAsName_25 : decode cX9_errorAsName 25 = .ok (.goto 4, 3) := by decide +kernel
theorem dX9_errorAsName_28 : decode cX9_errorAsName 28 = .ok (.iconst 0, 1) := by decide +kernel
theorem dX9_errorAsName_29 : decode cX9_errorAsName 29 = .ok (.ireturn, 1) := by decide +kernel
theorem dX9_name_0 : decode cX9_name 0 = .ok (.aload_n 0, 1) := by decide +kernel
theorem dX9_name_1 : decode cX9_name 1 = .ok (.getfield 9, 3) := by decide +kernel
theorem dX9_name_4 : decode cX9_name 4 = .ok (.aload_n 0, 1) := by decide +kernel
theorem dX9_name_5 : decode cX9_name 5 = .ok (.getfield 28, 3) := by decide +kernel
theorem dX9_name_8 : decode cX9_name 8 = .ok (.aload_n 0, 1) := by decide +kernel
theorem dX9_name_9 : decode cX9_name 9 = .ok (.getfield 22, 3) := by decide +kernel
theorem dX9_name_12 : decode cX9_name 12 = .ok (.invokevirtual 83, 3) := by decide +kernel
theorem dX9_name_15 : decode cX9_name 15 = .ok (.ireturn, 1) := by decide +kernel
theorem dX10_init_0 : decode cX10_init 0 = .ok (.aload_n 0, 1) := by decide +kernel
theorem dX10_init_1 : decode cX10_init 1 = .ok (.invokespecial 1, 3) := by decide +kernel
theorem dX10_init_4 : decode cX10_init 4 = .ok (.aload_n 0, 1) := by decide +kernel
theorem dX10_init_5 : decode cX10_init 5 = .ok (.new 7, 3) := by decide +kernel
theorem dX10_init_8 : decode cX10_init 8 = .ok (.dup, 1) := by decide +kernel
theorem dX10_init_9 : decode cX10_init 9 = .ok (.invokespecial 9, 3) := by decide +kernel
theorem dX10_init_12 : decode cX10_init 12 = .ok (.putfield 10, 3) := by decide +kernel
theorem dX10_init_15 : decode cX10_init 15 = .ok (.aload_n 0, 1) := by decide +kernel
theorem dX10_init_16 : decode cX10_init 16 = .ok (.new 16, 3) := by decide +kernel
theorem dX10_init_19 : decode cX10_init 19 = .ok (.dup, 1) := by decide +kernel
theorem dX10_init_20 : decode cX10_init 20 = .ok (.aload_n 0, 1) := by decide +kernel
theorem dX10_init_21 : decode cX10_init 21 = .ok (.getfield 10, 3) := by decide +kernel
theorem dX10_init_24 : decode cX10_init 24 = .ok (.invokespecial 18, 3) := by decide +kernel
theorem dX10_init_27 : decode cX10_init 27 = .ok (.putfield 21, 3) := by decide +kernel
theorem dX10_init_30 : decode cX10_init 30 = .ok (.aload_n 0, 1) := by decide +kernel
theorem dX10_init_31 : decode cX10_init 31 = .ok (.new 25, 3) := by decide +kernel
theorem dX10_init_34 : decode cX10_init 34 = .ok (.dup, 1) := by decide +kernel
theorem dX10_init_35 : decode cX10_init 35 = .ok (.invokespecial 27, 3) := by decide +kernel
theorem dX10_init_38 : decode cX10_init 38 = .ok (.putfield 28, 3) := by decide +kernel
theorem dX10_init_41 : decode cX10_init 41 = .ok (.aload_n 0, 1) := by decide +kernel
theorem dX10_init_42 : decode cX10_init 42 = .ok (.new 32, 3) := by decide +kernel
theorem dX10_init_45 : decode cX10_init 45 = .ok (.dup, 1) := by decide +kernel
theorem dX10_init_46 : decode cX10_init 46 = .ok (.invokespecial 34, 3) := by decide +kernel
theorem dX10_init_49 : decode cX10_init 49 = .ok (.putfield 35, 3) := by decide +kernel
theorem dX10_init_52 : decode cX10_init 52 = .ok (.aload_n 0, 1) := by decide +kernel
theorem dX10_init_53 : decode cX10_init 53 = .ok (.new 32, 3) := by decide +kernel
theorem dX10_init_56 : decode cX10_init 56 = .ok (.dup, 1) := by decide +kernel
theorem dX10_init_57 : decode cX10_init 57 = .ok (.invokespecial 34, 3) := by decide +kernel
theorem dX10_init_60 : decode cX10_init 60 = .ok (.putfield 39, 3) := by decide +kernel
theorem dX10_init_63 : decode cX10_init 63 = .ok (.aload_n 0, 1) := by decide +kernel
theorem dX10_init_64 : decode cX10_init 64 = .ok (.new 42, 3) := by decide +kernel
theorem dX10_init_67 : decode cX10_init 67 = .ok (.dup, 1) := by decide +kernel
theorem dX10_init_68 : decode cX10_init 68 = .ok (.aload_n 0, 1) := by decide +kernel
theorem dX10_init_69 : decode cX10_init 69 = .ok (.getfield 35, 3) := by decide +kernel
theorem dX10_init_72 : decode cX10_init 72 = .ok (.invokespecial 44, 3) := by decide +kernel
theorem dX10_init_75 : decode cX10_init 75 = .ok (.putfield 47, 3) := by decide +kernel
theorem dX10_init_78 : decode cX10_init 78 = .ok (.aload_n 0, 1) := by decide +kernel
theorem dX10_init_79 : decode cX10_init 79 = .ok (.new 42, 3) := by decide +kernel
theorem dX10_init_82 : decode cX10_init 82 = .ok (.dup, 1) := by decide +kernel
theorem dX10_init_83 : decode cX10_init 83 = .ok (.aload_n 0, 1) := by decide +kernel
theorem dX10_init_84 : decode cX10_init 84 = .ok (.getfield 35, 3) := by decide +kernel
theorem dX10_init_87 : decode cX10_init 87 = .ok (.invokespecial 44, 3) := by decide +kernel
theorem dX10_init_90 : decode cX10_init 90 = .ok (.putfield 51, 3) := by decide +kernel
theorem dX10_init_93 : decode cX10_init 93 = .ok (.aload_n 0, 1) := by decide +kernel
theorem dX10_init_94 : decode cX10_init 94 = .ok (.new 54, 3) := by decide +kernel
theorem dX10_init_97 : decode cX10_init 97 = .ok (.dup, 1) := by decide +kernel
theorem dX10_init_98 : decode cX10_init 98 = .ok (.aload_n 0, 1) := by decide +kernel
theorem dX10_init_99 : decode cX10_init 99 = .ok (.getfield 35, 3) := by decide +kernel
theorem dX10_init_102 : decode cX10_init 102 = .ok (.invokespecial 56, 3) := by decide +kernel
theorem dX10_init_105 : decode cX10_init 105 = .ok (.putfield 57, 3) := by decide +kernel
theorem dX10_init_108 : decode cX10_init 108 = .ok (.aload_n 0, 1) := by decide +kernel
theorem dX10_init_109 : decode cX10_init 109 = .ok (.iconst 2, 1) := by decide +kernel
theorem dX10_init_110 : decode cX10_init 110 = .ok (.anewarray 42, 3) := by decide +kernel
theorem dX10_init_113 : decode cX10_init 113 = .ok (.dup, 1) := by decide +kernel
theorem dX10_init_114 : decode cX10_init 114 = .ok (.iconst 0, 1) := by decide +kernel
theorem dX10_init_115 : decode cX10_init 115 = .ok (.new 42, 3) := by decide +kernel
theorem dX10_init_118 : decode cX10_init 118 = .ok (.dup, 1) := by decide +kernel
theorem dX10_init_119 : decode cX10_init 119 = .ok (.aload_n 0, 1) := by decide +kernel
theorem dX10_init_120 : decode cX10_init 120 = .ok (.getfield 35, 3) := by decide +kernel
theorem dX10_init_123 : decode cX10_init 123 = .ok (.invokespecial 44, 3) := by decide +kernel
theorem dX10_init_126 : decode cX10_init 126 = .ok (.aastore, 1) := by decide +kernel
theorem dX10_init_127 : decode cX10_init 127 = .ok (.dup, 1) := by decide +kernel
theorem dX10_init_128 : decode cX10_init 128 = .ok (.iconst 1, 1) := by decide +kernel
theorem dX10_init_129 : decode cX10_init 129 = .ok (.new 42, 3) := by decide +kernel
theorem dX10_init_132 : decode cX10_init 132 = .ok (.dup, 1) := by decide +kernel
theorem dX10_init_133 : decode cX10_init 133 = .ok (.aload_n 0, 1) := by decide +kernel
theorem dX10_init_134 : decode cX10_init 134 = .ok (.getfield 35, 3) := by decide +kernel
theorem dX10_init_137 : decode cX10_init 137 = .ok (.invokespecial 44, 3) := by decide +kernel
theorem dX10_init_140 : decode cX10_init 140 = .ok (.aastore, 1) := by decide +kernel
theorem dX10_init_141 : decode cX10_init 141 = .ok (.putfield 61, 3) := by decide +kernel
theorem dX10_init_144 : decode cX10_init 144 = .ok (.aload_n 0, 1) := by decide +kernel
theorem dX10_init_145 : decode cX10_init 145 = .ok (.iconst 2, 1) := by decide +kernel
theorem dX10_init_146 : decode cX10_init 146 = .ok (.newarray .boolean, 2) := by decide +kernel
theorem dX10_init_148 : decode cX10_init 148 = .ok (.putfield 65, 3) := by decide +kernel
theorem dX10_init_151 : decode cX10_init 151 = .ok (.aload_n 0, 1) := by decide +kernel
theorem dX10_init_152 : decode cX10_init 152 = .ok (.new 69, 3) := by decide +kernel
theorem dX10_init_155 : decode cX10_init 155 = .ok (.dup, 1) := by decide +kernel
theorem dX10_init_156 : decode cX10_init 156 = .ok (.invokespecial 71, 3) := by decide +kernel
theorem dX10_init_159 : decode cX10_init 159 = .ok (.putfield 72, 3) := by decide +kernel
theorem dX10_init_162 : decode cX10_init 162 = .ok (.aload_n 0, 1) := by decide +kernel
theorem dX10_init_163 : decode cX10_init 163 = .ok (.getfield 10, 3) := by decide +kernel
theorem dX10_init_166 : decode cX10_init 166 = .ok (.ldc 76, 2) := by decide +kernel
theorem dX10_init_168 : decode cX10_init 168 = .ok (.invokevirtual 78, 3) := by decide +kernel
theorem dX10_init_171 : decode cX10_init 171 = .ok (.aload_n 0, 1) := by decide +kernel
theorem dX10_init_172 : decode cX10_init 172 = .ok (.invokevirtual 82, 3) := by decide +kernel
theorem dX10_init_175 : decode cX10_init 175 = .ok (.return_, 1) := by decide +kernel
theorem dX10_append_0 : decode cX10_append 0 = .ok (.iload_n 1, 1) := by decide +kernel
theorem dX10_append_1 : decode cX10_append 1 = .ok (.invokestatic 85, 3) := by decide +kernel
theorem dX10_append_4 : decode cX10_append 4 = .ok (.iload_n 2, 1) := by decide +kernel
theorem dX10_append_5 : decode cX10_append 5 = .ok (.invokestatic 85, 3) := by decide +kernel
theorem dX10_append_8 : decode cX10_append 8 = .ok (.iadd, 1) := by decide +kernel
theorem dX10_append_9 : decode cX10_append 9 = .ok (.iload_n 3, 1) := by decide +kernel
theorem dX10_append_10 : decode cX10_append 10 = .ok (.invokestatic 85, 3) := by decide +kernel
theorem dX10_append_13 : decode cX10_append 13 = .ok (.iadd, 1) := by decide +kernel
theorem dX10_append_14 : decode cX10_append 14 = .ok (.iload 4, 2) := by decide +kernel
theorem dX10_append_16 : decode cX10_append 16 = .ok (.invokestatic 85, 3) := by decide +kernel
theorem dX10_append_19 : decode cX10_append 19 = .ok (.iadd, 1) := by decide +kernel
theorem dX10_append_20 : decode cX10_append 20 = .ok (.iload 5, 2) := by decide +kernel
theorem dX10_append_22 : decode cX10_append 22 = .ok (.invokestatic 85, 3) := by decide +kernel
theorem dX10_append_25 : decode cX10_append 25 = .ok (.iadd, 1) := by decide +kernel
theorem dX10_append_26 : decode cX10_append 26 = .ok (.istore 6, 2) := by decide +kernel
theorem dX10_append_28 : decode cX10_append 28 = .ok (.aload_n 0, 1) := by decide +kernel
theorem dX10_append_29 : decode cX10_append 29 = .ok (.getfield 10, 3) := by decide +kernel
theorem dX10_append_32 : decode cX10_append 32 = .ok (.getfield 89, 3) := by decide +kernel
theorem dX10_append_35 : decode cX10_append 35 = .ok (.iload 6, 2) := by decide +kernel
theorem dX10_append_37 : decode cX10_append 37 = .ok (.iadd, 1) := by decide +kernel
theorem dX10_append_38 : decode cX10_append 38 = .ok (.sipush 700, 3) := by decide +kernel
theorem dX10_append_41 : decode cX10_append 41 = .ok (.if_icmp .le 13, 3) := by decide +kernel
theorem dX10_append_44 : decode cX10_append 44 = .ok (.new 93, 3) := by decide +kernel
theorem dX10_append_47 : decode cX10_append 47 = .ok (.dup, 1) := by decide +kernel
theorem dX10_append_48 : decode cX10_append 48 = .ok (.ldc 95, 2) := by decide +kernel
theorem dX10_append_50 : decode cX10_append 50 = .ok (.invokespecial 97, 3) := by decide +kernel
theorem dX10_append_53 : decode cX10_append 53 = .ok (.athrow, 1) := by decide +kernel
theorem dX10_append_54 : decode cX10_append 54 = .ok (.aload_n 0, 1) := by decide +kernel
theorem dX10_append_55 : decode cX10_append 55 = .ok (.getfield 10, 3) := by decide +kernel
theorem dX10_append_58 : decode cX10_append 58 = .ok (.iload_n 1, 1) := by decide +kernel
theorem dX10_append_59 : decode cX10_append 59 = .ok (.invokevirtual 99, 3) := by decide +kernel
theorem dX10_append_62 : decode cX10_append 62 = .ok (.aload_n 0, 1) := by decide +kernel
theorem dX10_append_63 : decode cX10_append 63 = .ok (.getfield 10, 3) := by decide +kernel
theorem dX10_append_66 : decode cX10_append 66 = .ok (.iload_n 2, 1) := by decide +kernel
theorem dX10_append_67 : decode cX10_append 67 = .ok (.invokevirtual 99, 3) := by decide +kernel
theorem dX10_append_70 : decode cX10_append 70 = .ok (.aload_n 0, 1) := by decide +kernel
theorem dX10_append_71 : decode cX10_append 71 = .ok (.getfield 10, 3) := by decide +kernel
theorem dX10_append_74 : decode cX10_append 74 = .ok (.iload_n 3, 1) := by decide +kernel
theorem dX10_append_75 : decode cX10_append 75 = .ok (.invokevirtual 99, 3) := by decide +kernel
theorem dX10_append_78 : decode cX10_append 78 = .ok (.aload_n 0, 1) := by decide +kernel
theorem dX10_append_79 : decode cX10_append 79 = .ok (.getfield 10, 3) := by decide +kernel
theorem dX10_append_82 : decode cX10_append 82 = .ok (.iload 4, 2) := by decide +kernel
theorem dX10_append_84 : decode cX10_append 84 = .ok (.invokevirtual 99, 3) := by decide +kernel
theorem dX10_append_87 : decode cX10_append 87 = .ok (.aload_n 0, 1) := by decide +kernel
theorem dX10_append_88 : decode cX10_append 88 = .ok (.getfield 10, 3) := by decide +kernel
theorem dX10_append_91 : decode cX10_append 91 = .ok (.iload 5, 2) := by decide +kernel
theorem dX10_append_93 : decode cX10_append 93 = .ok (.invokevirtual 99, 3) := by decide +kernel
theorem dX10_append_96 : decode cX10_append 96 = .ok (.aload_n 0, 1) := by decide +kernel
theorem dX10_append_97 : decode cX10_append 97 = .ok (.getfield 10, 3) := by decide +kernel
theorem dX10_append_100 : decode cX10_append 100 = .ok (.getfield 89, 3) := by decide +kernel
theorem dX10_append_103 : decode cX10_append 103 = .ok (.ireturn, 1) := by decide +kernel
theorem dX10_load_0 : decode cX10_load 0 = .ok (.aload_n 0, 1) := by decide +kernel
theorem dX10_load_1 : decode cX10_load 1 = .ok (.invokevirtual 82, 3) := by decide +kernel
theorem dX10_load_4 : decode cX10_load 4 = .ok (.aload_n 0, 1) := by decide +kernel
theorem dX10_load_5 : decode cX10_load 5 = .ok (.getfield 21, 3) := by decide +kernel
theorem dX10_load_8 : decode cX10_load 8 = .ok (.getfield 108, 3) := by decide +kernel
theorem dX10_load_11 : decode cX10_load 11 = .ok (.ireturn, 1) := by decide +kernel
theorem dX10_takeSetup_0 : decode cX10_takeSetup 0 = .ok (.aload_n 0, 1) := by decide +kernel
theorem dX10_takeSetup_1 : decode cX10_takeSetup 1 = .ok (.getfield 21, 3) := by decide +kernel
theorem dX10_takeSetup_4 : decode cX10_takeSetup 4 = .ok (.invokevirtual 111, 3) := by decide +kernel
theorem dX10_takeSetup_7 : decode cX10_takeSetup 7 = .ok (.aload_n 0, 1) := by decide +kernel
theorem dX10_takeSetup_8 : decode cX10_takeSetup 8 = .ok (.getfield 39, 3) := by decide +kernel
theorem dX10_takeSetup_11 : decode cX10_takeSetup 11 = .ok (.aload_n 0, 1) := by decide +kernel
theorem dX10_takeSetup_12 : decode cX10_takeSetup 12 = .ok (.getfield 21, 3) := by decide +kernel
theorem dX10_takeSetup_15 : decode cX10_takeSetup 15 = .ok (.invokevirtual 114, 3) := by decide +kernel
theorem dX10_takeSetup_18 : decode cX10_takeSetup 18 = .ok (.aload_n 0, 1) := by decide +kernel
theorem dX10_takeSetup_19 : decode cX10_takeSetup 19 = .ok (.getfield 10, 3) := by decide +kernel
theorem dX10_takeSetup_22 : decode cX10_takeSetup 22 = .ok (.iconst 0, 1) := by decide +kernel
theorem dX10_takeSetup_23 : decode cX10_takeSetup 23 = .ok (.putfield 89, 3) := by decide +kernel
theorem dX10_takeSetup_26 : decode cX10_takeSetup 26 = .ok (.aload_n 0, 1) := by decide +kernel
theorem dX10_takeSetup_27 : decode cX10_takeSetup 27 = .ok (.getfield 21, 3) := by decide +kernel
theorem dX10_takeSetup_30 : decode cX10_takeSetup 30 = .ok (.invokevirtual 118, 3) := by decide +kernel
theorem dX10_takeSetup_33 : decode cX10_takeSetup 33 = .ok (.ifCond .eq 48, 3) := by decide +kernel
theorem dX10_takeSetup_36 : decode cX10_takeSetup 36 = .ok (.aload_n 0, 1) := by decide +kernel
theorem dX10_takeSetup_37 : decode cX10_takeSetup 37 = .ok (.getfield 35, 3) := by decide +kernel
theorem dX10_takeSetup_40 : decode cX10_takeSetup 40 = .ok (.aload_n 0, 1) := by decide +kernel
theorem dX10_takeSetup_41 : decode cX10_takeSetup 41 = .ok (.getfield 39, 3) := by decide +kernel
theorem dX10_takeSetup_44 : decode cX10_takeSetup 44 = .ok (.invokevirtual 122, 3) := by decide +kernel
theorem dX10_takeSetup_47 : decode cX10_takeSetup 47 = .ok (.aload_n 0, 1) := by decide +kernel
theorem dX10_takeSetup_48 : decode cX10_takeSetup 48 = .ok (.getfield 47, 3) := by decide +kernel
theorem dX10_takeSetup_51 : decode cX10_takeSetup 51 = .ok (.invokevirtual 125, 3) := by decide +kernel
theorem dX10_takeSetup_54 : decode cX10_takeSetup 54 = .ok (.aload_n 0, 1) := by decide +kernel
theorem dX10_takeSetup_55 : decode cX10_takeSetup 55 = .ok (.getfield 57, 3) := by decide +kernel
theorem dX10_takeSetup_58 : decode cX10_takeSetup 58 = .ok (.invokevirtual 128, 3) := by decide +kernel
theorem dX10_takeSetup_61 : decode cX10_takeSetup 61 = .ok (.iconst 0, 1) := by decide +kernel
theorem dX10_takeSetup_62 : decode cX10_takeSetup 62 = .ok (.istore_n 1, 1) := by decide +kernel
theorem dX10_takeSetup_63 : decode cX10_takeSetup 63 = .ok (.iload_n 1, 1) := by decide +kernel
theorem dX10_takeSetup_64 : decode cX10_takeSetup 64 = .ok (.iconst 2, 1) := by decide +kernel
theorem dX10_takeSetup_65 : decode cX10_takeSetup 65 = .ok (.if_icmp .ge 16, 3) := by decide +kernel
theorem dX10_takeSetup_68 : decode cX10_takeSetup 68 = .ok (.aload_n 0, 1) := by decide +kernel
theorem dX10_takeSetup_69 : decode cX10_takeSetup 69 = .ok (.getfield 65, 3) := by decide +kernel
theorem dX10_takeSetup_72 : decode cX10_takeSetup 72 = .ok (.iload_n 1, 1) := by decide +kernel
theorem dX10_takeSetup_73 : decode cX10_takeSetup 73 = .ok (.iconst 0, 1) := by decide +kernel
theorem dX10_takeSetup_74 : decode cX10_takeSetup 74 = .ok (.bastore, 1) := by decide +kernel
theorem dX10_takeSetup_75 : decode cX10_takeSetup 75 = .ok (.iinc 1 1, 3) := by decide +kernel
theorem dX10_takeSetup_78 : decode cX10_takeSetup 78 = .ok (.goto (-15), 3) := by decide +kernel
theorem dX10_takeSetup_81 : decode cX10_takeSetup 81 = .ok (.return_, 1) := by decide +kernel
theorem dX10_errorPosition_0 : decode cX10_errorPosition 0 = .ok (.aload_n 0, 1) := by decide +kernel
theorem dX10_errorPosition_1 : decode cX10_errorPosition 1 = .ok (.getfield 21, 3) := by decide +kernel
theorem dX10_errorPosition_4 : decode cX10_errorPosition 4 = .ok (.getfield 153, 3) := by decide +kernel
theorem dX10_errorPosition_7 : decode cX10_errorPosition 7 = .ok (.ireturn, 1) := by decide +kernel
theorem dX10_memberCount_0 : decode cX10_memberCount 0 = .ok (.aload_n 0, 1) := by decide +kernel
theorem dX10_memberCount_1 : decode cX10_memberCount 1 = .ok (.getfield 35, 3) := by decide +kernel
theorem dX10_memberCount_4 : decode cX10_memberCount 4 = .ok (.getfield 156, 3) := by decide +kernel
theorem dX10_memberCount_7 : decode cX10_memberCount 7 = .ok (.ireturn, 1) := by decide +kernel
theorem dX10_weight_0 : decode cX10_weight 0 = .ok (.aload_n 0, 1) := by decide +kernel
theorem dX10_weight_1 : decode cX10_weight 1 = .ok (.iload_n 1, 1) := by decide +kernel
theorem dX10_weight_2 : decode cX10_weight 2 = .ok (.invokevirtual 166, 3) := by decide +kernel
theorem dX10_weight_5 : decode cX10_weight 5 = .ok (.aload_n 0, 1) := by decide +kernel
theorem dX10_weight_6 : decode cX10_weight 6 = .ok (.getfield 35, 3) := by decide +kernel
theorem dX10_weight_9 : decode cX10_weight 9 = .ok (.getfield 169, 3) := by decide +kernel
theorem dX10_weight_12 : decode cX10_weight 12 = .ok (.iload_n 1, 1) := by decide +kernel
theorem dX10_weight_13 : decode cX10_weight 13 = .ok (.iaload, 1) := by decide +kernel
theorem dX10_weight_14 : decode cX10_weight 14 = .ok (.ireturn, 1) := by decide +kernel
theorem dX10_purse_0 : decode cX10_purse 0 = .ok (.aload_n 0, 1) := by decide +kernel
theorem dX10_purse_1 : decode cX10_purse 1 = .ok (.iload_n 1, 1) := by decide +kernel
theorem dX10_purse_2 : decode cX10_purse 2 = .ok (.invokevirtual 166, 3) := by decide +kernel
theorem dX10_purse_5 : decode cX10_purse 5 = .ok (.aload_n 0, 1) := by decide +kernel
theorem dX10_purse_6 : decode cX10_purse 6 = .ok (.getfield 47, 3) := by decide +kernel
theorem dX10_purse_9 : decode cX10_purse 9 = .ok (.getfield 173, 3) := by decide +kernel
theorem dX10_purse_12 : decode cX10_purse 12 = .ok (.getfield 177, 3) := by decide +kernel
theorem dX10_purse_15 : decode cX10_purse 15 = .ok (.iload_n 1, 1) := by decide +kernel
theorem dX10_purse_16 : decode cX10_purse 16 = .ok (.iaload, 1) := by decide +kernel
theorem dX10_purse_17 : decode cX10_purse 17 = .ok (.ireturn, 1) := by decide +kernel
theorem dX10_sharpness_0 : decode cX10_sharpness 0 = .ok (.aload_n 0, 1) := by decide +kernel
theorem dX10_sharpness_1 : decode cX10_sharpness 1 = .ok (.iload_n 1, 1) := by decide +kernel
theorem dX10_sharpness_2 : decode cX10_sharpness 2 = .ok (.invokevirtual 166, 3) := by decide +kernel
theorem dX10_sharpness_5 : decode cX10_sharpness 5 = .ok (.aload_n 0, 1) := by decide +kernel
theorem dX10_sharpness_6 : decode cX10_sharpness 6 = .ok (.getfield 47, 3) := by decide +kernel
theorem dX10_sharpness_9 : decode cX10_sharpness 9 = .ok (.getfield 173, 3) := by decide +kernel
theorem dX10_sharpness_12 : decode cX10_sharpness 12 = .ok (.getfield 182, 3) := by decide +kernel
theorem dX10_sharpness_15 : decode cX10_sharpness 15 = .ok (.iload_n 1, 1) := by decide +kernel
theorem dX10_sharpness_16 : decode cX10_sharpness 16 = .ok (.iaload, 1) := by decide +kernel
theorem dX10_sharpness_17 : decode cX10_sharpness 17 = .ok (.ireturn, 1) := by decide +kernel
theorem dX10_speechesOf_0 : decode cX10_speechesOf 0 = .ok (.aload_n 0, 1) := by decide +kernel
theorem dX10_speechesOf_1 : decode cX10_speechesOf 1 = .ok (.iload_n 1, 1) := by decide +kernel
theorem dX10_speechesOf_2 : decode cX10_speechesOf 2 = .ok (.invokevirtual 166, 3) := by decide +kernel
theorem dX10_speechesOf_5 : decode cX10_speechesOf 5 = .ok (.aload_n 0, 1) := by decide +kernel
theorem dX10_speechesOf_6 : decode cX10_speechesOf 6 = .ok (.getfield 47, 3) := by decide +kernel
theorem dX10_speechesOf_9 : decode cX10_speechesOf 9 = .ok (.getfield 173, 3) := by decide +kernel
theorem dX10_speechesOf_12 : decode cX10_speechesOf 12 = .ok (.getfield 185, 3) := by decide +kernel
theorem dX10_speechesOf_15 : decode cX10_speechesOf 15 = .ok (.iload_n 1, 1) := by decide +kernel
theorem dX10_speechesOf_16 : decode cX10_speechesOf 16 = .ok (.iaload, 1) := by decide +kernel
theorem dX10_speechesOf_17 : decode cX10_speechesOf 17 = .ok (.ireturn, 1) := by decide +kernel
theorem dX10_leaning_0 : decode cX10_leaning 0 = .ok (.aload_n 0, 1) := by decide +kernel
theorem dX10_leaning_1 : decode cX10_leaning 1 = .ok (.iload_n 1, 1) := by decide +kernel
theorem dX10_leaning_2 : decode cX10_leaning 2 = .ok (.invokevirtual 166, 3) := by decide +kernel
theorem dX10_leaning_5 : decode cX10_leaning 5 = .ok (.aload_n 0, 1) := by decide +kernel
theorem dX10_leaning_6 : decode cX10_leaning 6 = .ok (.iload_n 2, 1) := by decide +kernel
theorem dX10_leaning_7 : decode cX10_leaning 7 = .ok (.invokevirtual 188, 3) := by decide +kernel
theorem dX10_leaning_10 : decode cX10_leaning 10 = .ok (.aload_n 0, 1) := by decide +kernel
theorem dX10_leaning_11 : decode cX10_leaning 11 = .ok (.getfield 47, 3) := by decide +kernel
theorem dX10_leaning_14 : decode cX10_leaning 14 = .ok (.getfield 191, 3) := by decide +kernel
theorem dX10_leaning_17 : decode cX10_leaning 17 = .ok (.iload_n 1, 1) := by decide +kernel
theorem dX10_leaning_18 : decode cX10_leaning 18 = .ok (.iload_n 2, 1) := by decide +kernel
theorem dX10_leaning_19 : decode cX10_leaning 19 = .ok (.invokevirtual 195, 3) := by decide +kernel
theorem dX10_leaning_22 : decode cX10_leaning 22 = .ok (.ireturn, 1) := by decide +kernel
theorem dX10_chairOf_0 : decode cX10_chairOf 0 = .ok (.aload_n 0, 1) := by decide +kernel
theorem dX10_chairOf_1 : decode cX10_chairOf 1 = .ok (.iload_n 1, 1) := by decide +kernel
theorem dX10_chairOf_2 : decode cX10_chairOf 2 = .ok (.invokevirtual 166, 3) := by decide +kernel
theorem dX10_chairOf_5 : decode cX10_chairOf 5 = .ok (.aload_n 0, 1) := by decide +kernel
theorem dX10_chairOf_6 : decode cX10_chairOf 6 = .ok (.getfield 47, 3) := by decide +kernel
theorem dX10_chairOf_9 : decode cX10_chairOf 9 = .ok (.getfield 200, 3) := by decide +kernel
theorem dX10_chairOf_12 : decode cX10_chairOf 12 = .ok (.iload_n 1, 1) := by decide +kernel
theorem dX10_chairOf_13 : decode cX10_chairOf 13 = .ok (.invokevirtual 204, 3) := by decide +kernel
theorem dX10_chairOf_16 : decode cX10_chairOf 16 = .ok (.ireturn, 1) := by decide +kernel
theorem dX10_placeInList_0 : decode cX10_placeInList 0 = .ok (.aload_n 0, 1) := by decide +kernel
theorem dX10_placeInList_1 : decode cX10_placeInList 1 = .ok (.iload_n 1, 1) := by decide +kernel
theorem dX10_placeInList_2 : decode cX10_placeInList 2 = .ok (.invokevirtual 166, 3) := by decide +kernel
theorem dX10_placeInList_5 : decode cX10_placeInList 5 = .ok (.aload_n 0, 1) := by decide +kernel
theorem dX10_placeInList_6 : decode cX10_placeInList 6 = .ok (.getfield 47, 3) := by decide +kernel
theorem dX10_placeInList_9 : decode cX10_placeInList 9 = .ok (.getfield 209, 3) := by decide +kernel
theorem dX10_placeInList_12 : decode cX10_placeInList 12 = .ok (.iload_n 1, 1) := by decide +kernel
theorem dX10_placeInList_13 : decode cX10_placeInList 13 = .ok (.invokevirtual 213, 3) := by decide +kernel
theorem dX10_placeInList_16 : decode cX10_placeInList 16 = .ok (.ireturn, 1) := by decide +kernel
theorem dX10_motionCount_0 : decode cX10_motionCount 0 = .ok (.aload_n 0, 1) := by decide +kernel
theorem dX10_motionCount_1 : decode cX10_motionCount 1 = .ok (.getfield 47, 3) := by decide +kernel
theorem dX10_motionCount_4 : decode cX10_motionCount 4 = .ok (.getfield 191, 3) := by decide +kernel
theorem dX10_motionCount_7 : decode cX10_motionCount 7 = .ok (.getfield 218, 3) := by decide +kernel
theorem dX10_motionCount_10 : decode cX10_motionCount 10 = .ok (.ireturn, 1) := by decide +kernel
theorem dX10_proposer_0 : decode cX10_proposer 0 = .ok (.aload_n 0, 1) := by decide +kernel
theorem dX10_proposer_1 : decode cX10_proposer 1 = .ok (.iload_n 1, 1) := by decide +kernel
theorem dX10_proposer_2 : decode cX10_proposer 2 = .ok (.invokevirtual 188, 3) := by decide +kernel
theorem dX10_proposer_5 : decode cX10_proposer 5 = .ok (.aload_n 0, 1) := by decide +kernel
theorem dX10_proposer_6 : decode cX10_proposer 6 = .ok (.getfield 47, 3) := by decide +kernel
theorem dX10_proposer_9 : decode cX10_proposer 9 = .ok (.getfield 191, 3) := by decide +kernel
theorem dX10_proposer_12 : decode cX10_proposer 12 = .ok (.getfield 219, 3) := by decide +kernel
theorem dX10_proposer_15 : decode cX10_proposer 15 = .ok (.iload_n 1, 1) := by decide +kernel
theorem dX10_proposer_16 : decode cX10_proposer 16 = .ok (.iaload, 1) := by decide +kernel
theorem dX10_proposer_17 : decode cX10_proposer 17 = .ok (.ireturn, 1) := by decide +kernel
theorem dX10_motionState_0 : decode cX10_motionState 0 = .ok (.aload_n 0, 1) := by decide +kernel
theorem dX10_motionState_1 : decode cX10_motionState 1 = .ok (.iload_n 1, 1) := by decide +kernel
theorem dX10_motionState_2 : decode cX10_motionState 2 = .ok (.invokevirtual 188, 3) := by decide +kernel
theorem dX10_motionState_5 : decode cX10_motionState 5 = .ok (.aload_n 0, 1) := by decide +kernel
theorem dX10_motionState_6 : decode cX10_motionState 6 = .ok (.getfield 47, 3) := by decide +kernel
theorem dX10_motionState_9 : decode cX10_motionState 9 = .ok (.getfield 191, 3) := by decide +kernel
theorem dX10_motionState_12 : decode cX10_motionState 12 = .ok (.getfield 222, 3) := by decide +kernel
theorem dX10_motionState_15 : decode cX10_motionState 15 = .ok (.iload_n 1, 1) := by decide +kernel
theorem dX10_motionState_16 : decode cX10_motionState 16 = .ok (.iaload, 1) := by decide +kernel
theorem dX10_motionState_17 : decode cX10_motionState 17 = .ok (.ireturn, 1) := by decide +kernel
theorem dX10_lather_0 : decode cX10_lather 0 = .ok (.aload_n 0, 1) := by decide +kernel
theorem dX10_lather_1 : decode cX10_lather 1 = .ok (.iload_n 1, 1) := by decide +kernel
theorem dX10_lather_2 : decode cX10_lather 2 = .ok (.invokevirtual 188, 3) := by decide +kernel
theorem dX10_lather_5 : decode cX10_lather 5 = .ok (.aload_n 0, 1) := by decide +kernel
theorem dX10_lather_6 : decode cX10_lather 6 = .ok (.getfield 47, 3) := by decide +kernel
theorem dX10_lather_9 : decode cX10_lather 9 = .ok (.getfield 191, 3) := by decide +kernel
theorem dX10_lather_12 : decode cX10_lather 12 = .ok (.getfield 225, 3) := by decide +kernel
theorem dX10_lather_15 : decode cX10_lather 15 = .ok (.iload_n 1, 1) := by decide +kernel
theorem dX10_lather_16 : decode cX10_lather 16 = .ok (.iaload, 1) := by decide +kernel
theorem dX10_lather_17 : decode cX10_lather 17 = .ok (.ireturn, 1) := by decide +kernel
theorem dX10_weightFor_0 : decode cX10_weightFor 0 = .ok (.aload_n 0, 1) := by decide +kernel
theorem dX10_weightFor_1 : decode cX10_weightFor 1 = .ok (.iload_n 1, 1) := by decide +kernel
theorem dX10_weightFor_2 : decode cX10_weightFor 2 = .ok (.invokevirtual 188, 3) := by decide +kernel
theorem dX10_weightFor_5 : decode cX10_weightFor 5 = .ok (.aload_n 0, 1) := by decide +kernel
theorem dX10_weightFor_6 : decode cX10_weightFor 6 = .ok (.getfield 47, 3) := by decide +kernel
theorem dX10_weightFor_9 : decode cX10_weightFor 9 = .ok (.iload_n 1, 1) := by decide +kernel
theorem dX10_weightFor_10 : decode cX10_weightFor 10 = .ok (.iconst 1, 1) := by decide +kernel
theorem dX10_weightFor_11 : decode cX10_weightFor 11 = .ok (.invokevirtual 228, 3) := by decide +kernel
theorem dX10_weightFor_14 : decode cX10_weightFor 14 = .ok (.ireturn, 1) := by decide +kernel
theorem dX10_weightAgainst_0 : decode cX10_weightAgainst 0 = .ok (.aload_n 0, 1) := by decide +kernel
theorem dX10_weightAgainst_1 : decode cX10_weightAgainst 1 = .ok (.iload_n 1, 1) := by decide +kernel
theorem dX10_weightAgainst_2 : decode cX10_weightAgainst 2 = .ok (.invokevirtual 188, 3) := by decide +kernel
theorem dX10_weightAgainst_5 : decode cX10_weightAgainst 5 = .ok (.aload_n 0, 1) := by decide +kernel
theorem dX10_weightAgainst_6 : decode cX10_weightAgainst 6 = .ok (.getfield 47, 3) := by decide +kernel
theorem dX10_weightAgainst_9 : decode cX10_weightAgainst 9 = .ok (.iload_n 1, 1) := by decide +kernel
theorem dX10_weightAgainst_10 : decode cX10_weightAgainst 10 = .ok (.iconst (-1), 1) := by decide +kernel
theorem dX10_weightAgainst_11 : decode cX10_weightAgainst 11 = .ok (.invokevirtual 228, 3) := by decide +kernel
theorem dX10_weightAgainst_14 : decode cX10_weightAgainst 14 = .ok (.ireturn, 1) := by decide +kernel
theorem dX10_voterCount_0 : decode cX10_voterCount 0 = .ok (.aload_n 0, 1) := by decide +kernel
theorem dX10_voterCount_1 : decode cX10_voterCount 1 = .ok (.iload_n 1, 1) := by decide +kernel
theorem dX10_voterCount_2 : decode cX10_voterCount 2 = .ok (.invokevirtual 188, 3) := by decide +kernel
theorem dX10_voterCount_5 : decode cX10_voterCount 5 = .ok (.aload_n 0, 1) := by decide +kernel
theorem dX10_voterCount_6 : decode cX10_voterCount 6 = .ok (.getfield 47, 3) := by decide +kernel
theorem dX10_voterCount_9 : decode cX10_voterCount 9 = .ok (.iload_n 1, 1) := by decide +kernel
theorem dX10_voterCount_10 : decode cX10_voterCount 10 = .ok (.invokevirtual 231, 3) := by decide +kernel
theorem dX10_voterCount_13 : decode cX10_voterCount 13 = .ok (.ireturn, 1) := by decide +kernel
theorem dX10_obstacle_0 : decode cX10_obstacle 0 = .ok (.aload_n 0, 1) := by decide +kernel
theorem dX10_obstacle_1 : decode cX10_obstacle 1 = .ok (.iload_n 1, 1) := by decide +kernel
theorem dX10_obstacle_2 : decode cX10_obstacle 2 = .ok (.invokevirtual 188, 3) := by decide +kernel
theorem dX10_obstacle_5 : decode cX10_obstacle 5 = .ok (.aload_n 0, 1) := by decide +kernel
theorem dX10_obstacle_6 : decode cX10_obstacle 6 = .ok (.getfield 47, 3) := by decide +kernel
theorem dX10_obstacle_9 : decode cX10_obstacle 9 = .ok (.iload_n 1, 1) := by decide +kernel
theorem dX10_obstacle_10 : decode cX10_obstacle 10 = .ok (.invokevirtual 234, 3) := by decide +kernel
theorem dX10_obstacle_13 : decode cX10_obstacle 13 = .ok (.ireturn, 1) := by decide +kernel
theorem dX10_wouldPass_0 : decode cX10_wouldPass 0 = .ok (.aload_n 0, 1) := by decide +kernel
theorem dX10_wouldPass_1 : decode cX10_wouldPass 1 = .ok (.iload_n 1, 1) := by decide +kernel
theorem dX10_wouldPass_2 : decode cX10_wouldPass 2 = .ok (.invokevirtual 188, 3) := by decide +kernel
theorem dX10_wouldPass_5 : decode cX10_wouldPass 5 = .ok (.aload_n 0, 1) := by decide +kernel
theorem dX10_wouldPass_6 : decode cX10_wouldPass 6 = .ok (.getfield 47, 3) := by decide +kernel
theorem dX10_wouldPass_9 : decode cX10_wouldPass 9 = .ok (.iload_n 1, 1) := by decide +kernel
theorem dX10_wouldPass_10 : decode cX10_wouldPass 10 = .ok (.invokevirtual 237, 3) := by decide +kernel
theorem dX10_wouldPass_13 : decode cX10_wouldPass 13 = .ok (.ifCond .le 7, 3) := by decide +kernel
theorem dX10_wouldPass_16 : decode cX10_wouldPass 16 = .ok (.iconst 1, 1) := by decide +kernel
theorem dX10_wouldPass_17 : decode cX10_wouldPass 17 = .ok (.goto 4, 3) := by decide +kernel
theorem dX10_wouldPass_20 : decode cX10_wouldPass 20 = .ok (.iconst 0, 1) := by decide +kernel
theorem dX10_wouldPass_21 : decode cX10_wouldPass 21 = .ok (.ireturn, 1) := by decide +kernel
theorem dX10_decisiveVoter_0 : decode cX10_decisiveVoter 0 = .ok (.aload_n 0, 1) := by decide +kernel
theorem dX10_decisiveVoter_1 : decode cX10_decisiveVoter 1 = .ok (.iload_n 1, 1) := by decide +kernel
theorem dX10_decisiveVoter_2 : decode cX10_decisiveVoter 2 = .ok (.invokevirtual 188, 3) := by decide +kernel
theorem dX10_decisiveVoter_5 : decode cX10_decisiveVoter 5 = .ok (.aload_n 0, 1) := by decide +kernel
theorem dX10_decisiveVoter_6 : decode cX10_decisiveVoter 6 = .ok (.getfield 47, 3) := by decide +kernel
theorem dX10_decisiveVoter_9 : decode cX10_decisiveVoter 9 = .ok (.iload_n 1, 1) := by decide +kernel
theorem dX10_decisiveVoter_10 : decode cX10_decisiveVoter 10 = .ok (.invokevirtual 240, 3) := by decide +kernel
theorem dX10_decisiveVoter_13 : decode cX10_decisiveVoter 13 = .ok (.ireturn, 1) := by decide +kernel
theorem dX10_chairCount_0 : decode cX10_chairCount 0 = .ok (.aload_n 0, 1) := by decide +kernel
theorem dX10_chairCount_1 : decode cX10_chairCount 1 = .ok (.getfield 35, 3) := by decide +kernel
theorem dX10_chairCount_4 : decode cX10_chairCount 4 = .ok (.getfield 243, 3) := by decide +kernel
theorem dX10_chairCount_7 : decode cX10_chairCount 7 = .ok (.ireturn, 1) := by decide +kernel
theorem dX10_minute_0 : decode cX10_minute 0 = .ok (.aload_n 0, 1) := by decide +kernel
theorem dX10_minute_1 : decode cX10_minute 1 = .ok (.getfield 47, 3) := by decide +kernel
theorem dX10_minute_4 : decode cX10_minute 4 = .ok (.getfield 245, 3) := by decide +kernel
theorem dX10_minute_7 : decode cX10_minute 7 = .ok (.ireturn, 1) := by decide +kernel
theorem dX10_freeMirrors_0 : decode cX10_freeMirrors 0 = .ok (.aload_n 0, 1) := by decide +kernel
theorem dX10_freeMirrors_1 : decode cX10_freeMirrors 1 = .ok (.getfield 47, 3) := by decide +kernel
theorem dX10_freeMirrors_4 : decode cX10_freeMirrors 4 = .ok (.invokevirtual 248, 3) := by decide +kernel
theorem dX10_freeMirrors_7 : decode cX10_freeMirrors 7 = .ok (.ireturn, 1) := by decide +kernel
theorem dX10_ranking_0 : decode cX10_ranking 0 = .ok (.aload_n 0, 1) := by decide +kernel
theorem dX10_ranking_1 : decode cX10_ranking 1 = .ok (.getfield 47, 3) := by decide +kernel
theorem dX10_ranking_4 : decode cX10_ranking 4 = .ok (.getfield 252, 3) := by decide +kernel
theorem dX10_ranking_7 : decode cX10_ranking 7 = .ok (.ireturn, 1) := by decide +kernel
theorem dX10_requestCount_0 : decode cX10_requestCount 0 = .ok (.aload_n 0, 1) := by decide +kernel
theorem dX10_requestCount_1 : decode cX10_requestCount 1 = .ok (.getfield 47, 3) := by decide +kernel
theorem dX10_requestCount_4 : decode cX10_requestCount 4 = .ok (.getfield 209, 3) := by decide +kernel
theorem dX10_requestCount_7 : decode cX10_requestCount 7 = .ok (.getfield 255, 3) := by decide +kernel
theorem dX10_requestCount_10 : decode cX10_requestCount 10 = .ok (.ireturn, 1) := by decide +kernel
theorem dX10_speaker_0 : decode cX10_speaker 0 = .ok (.aload_n 0, 1) := by decide +kernel
theorem dX10_speaker_1 : decode cX10_speaker 1 = .ok (.iload_n 1, 1) := by decide +kernel
theorem dX10_speaker_2 : decode cX10_speaker 2 = .ok (.invokevirtual 256, 3) := by decide +kernel
theorem dX10_speaker_5 : decode cX10_speaker 5 = .ok (.aload_n 0, 1) := by decide +kernel
theorem dX10_speaker_6 : decode cX10_speaker 6 = .ok (.getfield 47, 3) := by decide +kernel
theorem dX10_speaker_9 : decode cX10_speaker 9 = .ok (.getfield 200, 3) := by decide +kernel
theorem dX10_speaker_12 : decode cX10_speaker 12 = .ok (.getfield 259, 3) := by decide +kernel
theorem dX10_speaker_15 : decode cX10_speaker 15 = .ok (.iload_n 1, 1) := by decide +kernel
theorem dX10_speaker_16 : decode cX10_speaker 16 = .ok (.iaload, 1) := by decide +kernel
theorem dX10_speaker_17 : decode cX10_speaker 17 = .ok (.ireturn, 1) := by decide +kernel
theorem dX10_speechMotion_0 : decode cX10_speechMotion 0 = .ok (.aload_n 0, 1) := by decide +kernel
theorem dX10_speechMotion_1 : decode cX10_speechMotion 1 = .ok (.iload_n 1, 1) := by decide +kernel
theorem dX10_speechMotion_2 : decode cX10_speechMotion 2 = .ok (.invokevirtual 256, 3) := by decide +kernel
theorem dX10_speechMotion_5 : decode cX10_speechMotion 5 = .ok (.aload_n 0, 1) := by decide +kernel
theorem dX10_speechMotion_6 : decode cX10_speechMotion 6 = .ok (.getfield 47, 3) := by decide +kernel
theorem dX10_speechMotion_9 : decode cX10_speechMotion 9 = .ok (.getfield 200, 3) := by decide +kernel
theorem dX10_speechMotion_12 : decode cX10_speechMotion 12 = .ok (.iload_n 1, 1) := by decide +kernel
theorem dX10_speechMotion_13 : decode cX10_speechMotion 13 = .ok (.invokevirtual 262, 3) := by decide +kernel
theorem dX10_speechMotion_16 : decode cX10_speechMotion 16 = .ok (.ifCond .eq 14, 3) := by decide +kernel
theorem dX10_speechMotion_19 : decode cX10_speechMotion 19 = .ok (.new 266, 3) := by decide +kernel
theorem dX10_speechMotion_22 : decode cX10_speechMotion 22 = .ok (.dup, 1) := by decide +kernel
theorem dX10_speechMotion_23 : decode cX10_speechMotion 23 = .ok (.ldc_w 268, 3) := by decide +kernel
theorem dX10_speechMotion_26 : decode cX10_speechMotion 26 = .ok (.invokespecial 270, 3) := by decide +kernel
theorem dX10_speechMotion_29 : decode cX10_speechMotion 29 = .ok (.athrow, 1) := by decide +kernel
theorem dX10_speechMotion_30 : decode cX10_speechMotion 30 = .ok (.aload_n 0, 1) := by decide +kernel
theorem dX10_speechMotion_31 : decode cX10_speechMotion 31 = .ok (.getfield 47, 3) := by decide +kernel
theorem dX10_speechMotion_34 : decode cX10_speechMotion 34 = .ok (.getfield 200, 3) := by decide +kernel
theorem dX10_speechMotion_37 : decode cX10_speechMotion 37 = .ok (.getfield 271, 3) := by decide +kernel
theorem dX10_speechMotion_40 : decode cX10_speechMotion 40 = .ok (.iload_n 1, 1) := by decide +kernel
theorem dX10_speechMotion_41 : decode cX10_speechMotion 41 = .ok (.iaload, 1) := by decide +kernel
theorem dX10_speechMotion_42 : decode cX10_speechMotion 42 = .ok (.ireturn, 1) := by decide +kernel
theorem dX10_remainingTime_0 : decode cX10_remainingTime 0 = .ok (.aload_n 0, 1) := by decide +kernel
theorem dX10_remainingTime_1 : decode cX10_remainingTime 1 = .ok (.iload_n 1, 1) := by decide +kernel
theorem dX10_remainingTime_2 : decode cX10_remainingTime 2 = .ok (.invokevirtual 256, 3) := by decide +kernel
theorem dX10_remainingTime_5 : decode cX10_remainingTime 5 = .ok (.aload_n 0, 1) := by decide +kernel
theorem dX10_remainingTime_6 : decode cX10_remainingTime 6 = .ok (.getfield 47, 3) := by decide +kernel
theorem dX10_remainingTime_9 : decode cX10_remainingTime 9 = .ok (.getfield 200, 3) := by decide +kernel
theorem dX10_remainingTime_12 : decode cX10_remainingTime 12 = .ok (.getfield 274, 3) := by decide +kernel
theorem dX10_remainingTime_15 : decode cX10_remainingTime 15 = .ok (.iload_n 1, 1) := by decide +kernel
theorem dX10_remainingTime_16 : decode cX10_remainingTime 16 = .ok (.iaload, 1) := by decide +kernel
theorem dX10_remainingTime_17 : decode cX10_remainingTime 17 = .ok (.ireturn, 1) := by decide +kernel
theorem dX10_isRebutted_0 : decode cX10_isRebutted 0 = .ok (.aload_n 0, 1) := by decide +kernel
theorem dX10_isRebutted_1 : decode cX10_isRebutted 1 = .ok (.iload_n 1, 1) := by decide +kernel
theorem dX10_isRebutted_2 : decode cX10_isRebutted 2 = .ok (.invokevirtual 256, 3) := by decide +kernel
theorem dX10_isRebutted_5 : decode cX10_isRebutted 5 = .ok (.aload_n 0, 1) := by decide +kernel
theorem dX10_isRebutted_6 : decode cX10_isRebutted 6 = .ok (.getfield 47, 3) := by decide +kernel
theorem dX10_isRebutted_9 : decode cX10_isRebutted 9 = .ok (.getfield 200, 3) := by decide +kernel
theorem dX10_isRebutted_12 : decode cX10_isRebutted 12 = .ok (.iload_n 1, 1) := by decide +kernel
theorem dX10_isRebutted_13 : decode cX10_isRebutted 13 = .ok (.invokevirtual 277, 3) := by decide +kernel
theorem dX10_isRebutted_16 : decode cX10_isRebutted 16 = .ok (.ireturn, 1) := by decide +kernel
theorem dX10_firstBy_0 : decode cX10_firstBy 0 = .ok (.iload_n 1, 1) := by decide +kernel
theorem dX10_firstBy_1 : decode cX10_firstBy 1 = .ok (.invokestatic 280, 3) := by decide +kernel
theorem dX10_firstBy_4 : decode cX10_firstBy 4 = .ok (.invokestatic 283, 3) := by decide +kernel
theorem dX10_firstBy_7 : decode cX10_firstBy 7 = .ok (.aload_n 0, 1) := by decide +kernel
theorem dX10_firstBy_8 : decode cX10_firstBy 8 = .ok (.getfield 47, 3) := by decide +kernel
theorem dX10_firstBy_11 : decode cX10_firstBy 11 = .ok (.iload_n 1, 1) := by decide +kernel
theorem dX10_firstBy_12 : decode cX10_firstBy 12 = .ok (.invokevirtual 286, 3) := by decide +kernel
theorem dX10_firstBy_15 : decode cX10_firstBy 15 = .ok (.istore_n 2, 1) := by decide +kernel
theorem dX10_firstBy_16 : decode cX10_firstBy 16 = .ok (.iload_n 2, 1) := by decide +kernel
theorem dX10_firstBy_17 : decode cX10_firstBy 17 = .ok (.iconst (-1), 1) := by decide +kernel
theorem dX10_firstBy_18 : decode cX10_firstBy 18 = .ok (.if_icmp .ne 7, 3) := by decide +kernel
theorem dX10_firstBy_21 : decode cX10_firstBy 21 = .ok (.iconst (-1), 1) := by decide +kernel
theorem dX10_firstBy_22 : decode cX10_firstBy 22 = .ok (.goto 15, 3) := by decide +kernel
theorem dX10_firstBy_25 : decode cX10_firstBy 25 = .ok (.aload_n 0, 1) := by decide +kernel
theorem dX10_firstBy_26 : decode cX10_firstBy 26 = .ok (.getfield 47, 3) := by decide +kernel
theorem dX10_firstBy_29 : decode cX10_firstBy 29 = .ok (.getfield 209, 3) := by decide +kernel
theorem dX10_firstBy_32 : decode cX10_firstBy 32 = .ok (.getfield 289, 3) := by decide +kernel
theorem dX10_firstBy_35 : decode cX10_firstBy 35 = .ok (.iload_n 2, 1) := by decide +kernel
theorem dX10_firstBy_36 : decode cX10_firstBy 36 = .ok (.iaload, 1) := by decide +kernel
theorem dX10_firstBy_37 : decode cX10_firstBy 37 = .ok (.ireturn, 1) := by decide +kernel
theorem dX10_tips_0 : decode cX10_tips 0 = .ok (.aload_n 0, 1) := by decide +kernel
theorem dX10_tips_1 : decode cX10_tips 1 = .ok (.getfield 47, 3) := by decide +kernel
theorem dX10_tips_4 : decode cX10_tips 4 = .ok (.getfield 292, 3) := by decide +kernel
theorem dX10_tips_7 : decode cX10_tips 7 = .ok (.ireturn, 1) := by decide +kernel
theorem dX10_voteCount_0 : decode cX10_voteCount 0 = .ok (.aload_n 0, 1) := by decide +kernel
theorem dX10_voteCount_1 : decode cX10_voteCount 1 = .ok (.getfield 47, 3) := by decide +kernel
theorem dX10_voteCount_4 : decode cX10_voteCount 4 = .ok (.getfield 295, 3) := by decide +kernel
theorem dX10_voteCount_7 : decode cX10_voteCount 7 = .ok (.ireturn, 1) := by decide +kernel
theorem dX10_rebuttalCount_0 : decode cX10_rebuttalCount 0 = .ok (.aload_n 0, 1) := by decide +kernel
theorem dX10_rebuttalCount_1 : decode cX10_rebuttalCount 1 = .ok (.getfield 47, 3) := by decide +kernel
theorem dX10_rebuttalCount_4 : decode cX10_rebuttalCount 4 = .ok (.getfield 298, 3) := by decide +kernel
theorem dX10_rebuttalCount_7 : decode cX10_rebuttalCount 7 = .ok (.ireturn, 1) := by decide +kernel
theorem dX10_meanLeaning_0 : decode cX10_meanLeaning 0 = .ok (.aload_n 0, 1) := by decide +kernel
theorem dX10_meanLeaning_1 : decode cX10_meanLeaning 1 = .ok (.iload_n 1, 1) := by decide +kernel
theorem dX10_meanLeaning_2 : decode cX10_meanLeaning 2 = .ok (.invokevirtual 188, 3) := by decide +kernel
theorem dX10_meanLeaning_5 : decode cX10_meanLeaning 5 = .ok (.iconst 0, 1) := by decide +kernel
theorem dX10_meanLeaning_6 : decode cX10_meanLeaning 6 = .ok (.istore_n 2, 1) := by decide +kernel
theorem dX10_meanLeaning_7 : decode cX10_meanLeaning 7 = .ok (.iconst 0, 1) := by decide +kernel
theorem dX10_meanLeaning_8 : decode cX10_meanLeaning 8 = .ok (.istore_n 3, 1) := by decide +kernel
theorem dX10_meanLeaning_9 : decode cX10_meanLeaning 9 = .ok (.iload_n 3, 1) := by decide +kernel
theorem dX10_meanLeaning_10 : decode cX10_meanLeaning 10 = .ok (.aload_n 0, 1) := by decide +kernel
theorem dX10_meanLeaning_11 : decode cX10_meanLeaning 11 = .ok (.getfield 35, 3) := by decide +kernel
theorem dX10_meanLeaning_14 : decode cX10_meanLeaning 14 = .ok (.getfield 156, 3) := by decide +kernel
theorem dX10_meanLeaning_17 : decode cX10_meanLeaning 17 = .ok (.if_icmp .ge 24, 3) := by decide +kernel
theorem dX10_meanLeaning_20 : decode cX10_meanLeaning 20 = .ok (.iload_n 2, 1) := by decide +kernel
theorem dX10_meanLeaning_21 : decode cX10_meanLeaning 21 = .ok (.aload_n 0, 1) := by decide +kernel
theorem dX10_meanLeaning_22 : decode cX10_meanLeaning 22 = .ok (.getfield 47, 3) := by decide +kernel
theorem dX10_meanLeaning_25 : decode cX10_meanLeaning 25 = .ok (.getfield 191, 3) := by decide +kernel
theorem dX10_meanLeaning_28 : decode cX10_meanLeaning 28 = .ok (.iload_n 3, 1) := by decide +kernel
theorem dX10_meanLeaning_29 : decode cX10_meanLeaning 29 = .ok (.iload_n 1, 1) := by decide +kernel
theorem dX10_meanLeaning_30 : decode cX10_meanLeaning 30 = .ok (.invokevirtual 195, 3) := by decide +kernel
theorem dX10_meanLeaning_33 : decode cX10_meanLeaning 33 = .ok (.iadd, 1) := by decide +kernel
theorem dX10_meanLeaning_34 : decode cX10_meanLeaning 34 = .ok (.istore_n 2, 1) := by decide +kernel
theorem dX10_meanLeaning_35 : decode cX10_meanLeaning 35 = .ok (.iinc 3 1, 3) := by decide +kernel
theorem dX10_meanLeaning_38 : decode cX10_meanLeaning 38 = .ok (.goto (-29), 3) := by decide +kernel
theorem dX10_meanLeaning_41 : decode cX10_meanLeaning 41 = .ok (.iload_n 2, 1) := by decide +kernel
theorem dX10_meanLeaning_42 : decode cX10_meanLeaning 42 = .ok (.i2d, 1) := by decide +kernel
theorem dX10_meanLeaning_43 : decode cX10_meanLeaning 43 = .ok (.iconst 1, 1) := by decide +kernel
theorem dX10_meanLeaning_44 : decode cX10_meanLeaning 44 = .ok (.aload_n 0, 1) := by decide +kernel
theorem dX10_meanLeaning_45 : decode cX10_meanLeaning 45 = .ok (.getfield 35, 3) := by decide +kernel
theorem dX10_meanLeaning_48 : decode cX10_meanLeaning 48 = .ok (.getfield 156, 3) := by decide +kernel
theorem dX10_meanLeaning_51 : decode cX10_meanLeaning 51 = .ok (.invokestatic 301, 3) := by decide +kernel
theorem dX10_meanLeaning_54 : decode cX10_meanLeaning 54 = .ok (.i2d, 1) := by decide +kernel
theorem dX10_meanLeaning_55 : decode cX10_meanLeaning 55 = .ok (.ddiv, 1) := by decide +kernel
theorem dX10_meanLeaning_56 : decode cX10_meanLeaning 56 = .ok (.dreturn, 1) := by decide +kernel
theorem dX10_weightShare_0 : decode cX10_weightShare 0 = .ok (.aload_n 0, 1) := by decide +kernel
theorem dX10_weightShare_1 : decode cX10_weightShare 1 = .ok (.iload_n 1, 1) := by decide +kernel
theorem dX10_weightShare_2 : decode cX10_weightShare 2 = .ok (.invokevirtual 166, 3) := by decide +kernel
theorem dX10_weightShare_5 : decode cX10_weightShare 5 = .ok (.aload_n 0, 1) := by decide +kernel
theorem dX10_weightShare_6 : decode cX10_weightShare 6 = .ok (.getfield 35, 3) := by decide +kernel
theorem dX10_weightShare_9 : decode cX10_weightShare 9 = .ok (.getfield 169, 3) := by decide +kernel
theorem dX10_weightShare_12 : decode cX10_weightShare 12 = .ok (.iload_n 1, 1) := by decide +kernel
theorem dX10_weightShare_13 : decode cX10_weightShare 13 = .ok (.iaload, 1) := by decide +kernel
theorem dX10_weightShare_14 : decode cX10_weightShare 14 = .ok (.i2f, 1) := by decide +kernel
theorem dX10_weightShare_15 : decode cX10_weightShare 15 = .ok (.iconst 1, 1) := by decide +kernel
theorem dX10_weightShare_16 : decode cX10_weightShare 16 = .ok (.aload_n 0, 1) := by decide +kernel
theorem dX10_weightShare_17 : decode cX10_weightShare 17 = .ok (.getfield 35, 3) := by decide +kernel
theorem dX10_weightShare_20 : decode cX10_weightShare 20 = .ok (.invokevirtual 306, 3) := by decide +kernel
theorem dX10_weightShare_23 : decode cX10_weightShare 23 = .ok (.invokestatic 301, 3) := by decide +kernel
theorem dX10_weightShare_26 : decode cX10_weightShare 26 = .ok (.i2f, 1) := by decide +kernel
theorem dX10_weightShare_27 : decode cX10_weightShare 27 = .ok (.fdiv, 1) := by decide +kernel
theorem dX10_weightShare_28 : decode cX10_weightShare 28 = .ok (.freturn, 1) := by decide +kernel
theorem dX10_contradictions_0 : decode cX10_contradictions 0 = .ok (.aload_n 0, 1) := by decide +kernel
theorem dX10_contradictions_1 : decode cX10_contradictions 1 = .ok (.getfield 47, 3) := by decide +kernel
theorem dX10_contradictions_4 : decode cX10_contradictions 4 = .ok (.invokevirtual 309, 3) := by decide +kernel
theorem dX10_contradictions_7 : decode cX10_contradictions 7 = .ok (.ireturn, 1) := by decide +kernel
theorem dX10_minutesUntilSpeech_0 : decode cX10_minutesUntilSpeech 0 = .ok (.aload_n 0, 1) := by decide +kernel
theorem dX10_minutesUntilSpeech_1 : decode cX10_minutesUntilSpeech 1 = .ok (.iload_n 1, 1) := by decide +kernel
theorem dX10_minutesUntilSpeech_2 : decode cX10_minutesUntilSpeech 2 = .ok (.invokevirtual 166, 3) := by decide +kernel
theorem dX10_minutesUntilSpeech_5 : decode cX10_minutesUntilSpeech 5 = .ok (.aload_n 0, 1) := by decide +kernel
theorem dX10_minutesUntilSpeech_6 : decode cX10_minutesUntilSpeech 6 = .ok (.getfield 47, 3) := by decide +kernel
theorem dX10_minutesUntilSpeech_9 : decode cX10_minutesUntilSpeech 9 = .ok (.getfield 209, 3) := by decide +kernel
theorem dX10_minutesUntilSpeech_12 : decode cX10_minutesUntilSpeech 12 = .ok (.iload_n 1, 1) := by decide +kernel
theorem dX10_minutesUntilSpeech_13 : decode cX10_minutesUntilSpeech 13 = .ok (.invokevirtual 213, 3) := by decide +kernel
theorem dX10_minutesUntilSpeech_16 : decode cX10_minutesUntilSpeech 16 = .ok (.iconst (-1), 1) := by decide +kernel
theorem dX10_minutesUntilSpeech_17 : decode cX10_minutesUntilSpeech 17 = .ok (.if_icmp .ne 5, 3) := by decide +kernel
theorem dX10_minutesUntilSpeech_20 : decode cX10_minutesUntilSpeech 20 = .ok (.iconst (-1), 1) := by decide +kernel
theorem dX10_minutesUntilSpeech_21 : decode cX10_minutesUntilSpeech 21 = .ok (.ireturn, 1) := by decide +kernel
theorem dX10_minutesUntilSpeech_22 : decode cX10_minutesUntilSpeech 22 = .ok (.aload_n 0, 1) := by decide +kernel
theorem dX10_minutesUntilSpeech_23 : decode cX10_minutesUntilSpeech 23 = .ok (.getfield 51, 3) := by decide +kernel
theorem dX10_minutesUntilSpeech_26 : decode cX10_minutesUntilSpeech 26 = .ok (.aload_n 0, 1) := by decide +kernel
theorem dX10_minutesUntilSpeech_27 : decode cX10_minutesUntilSpeech 27 = .ok (.getfield 47, 3) := by decide +kernel
theorem dX10_minutesUntilSpeech_30 : decode cX10_minutesUntilSpeech 30 = .ok (.invokevirtual 312, 3) := by decide +kernel
theorem dX10_minutesUntilSpeech_33 : decode cX10_minutesUntilSpeech 33 = .ok (.iconst 1, 1) := by decide +kernel
theorem dX10_minutesUntilSpeech_34 : decode cX10_minutesUntilSpeech 34 = .ok (.istore_n 2, 1) := by decide +kernel
theorem dX10_minutesUntilSpeech_35 : decode cX10_minutesUntilSpeech 35 = .ok (.iload_n 2, 1) := by decide +kernel
theorem dX10_minutesUntilSpeech_36 : decode cX10_minutesUntilSpeech 36 = .ok (.sipush 300, 3) := by decide +kernel
theorem dX10_minutesUntilSpeech_39 : decode cX10_minutesUntilSpeech 39 = .ok (.if_icmp .gt 34, 3) := by decide +kernel
theorem dX10_minutesUntilSpeech_42 : decode cX10_minutesUntilSpeech 42 = .ok (.aload_n 0, 1) := by decide +kernel
theorem dX10_minutesUntilSpeech_43 : decode cX10_minutesUntilSpeech 43 = .ok (.getfield 51, 3) := by decide +kernel
theorem dX10_minutesUntilSpeech_46 : decode cX10_minutesUntilSpeech 46 = .ok (.invokevirtual 314, 3) := by decide +kernel
theorem dX10_minutesUntilSpeech_49 : decode cX10_minutesUntilSpeech 49 = .ok (.pop, 1) := by decide +kernel
theorem dX10_minutesUntilSpeech_50 : decode cX10_minutesUntilSpeech 50 = .ok (.aload_n 0, 1) := by decide +kernel
theorem dX10_minutesUntilSpeech_51 : decode cX10_minutesUntilSpeech 51 = .ok (.getfield 51, 3) := by decide +kernel
theorem dX10_minutesUntilSpeech_54 : decode cX10_minutesUntilSpeech 54 = .ok (.getfield 209, 3) := by decide +kernel
theorem dX10_minutesUntilSpeech_57 : decode cX10_minutesUntilSpeech 57 = .ok (.iload_n 1, 1) := by decide +kernel
theorem dX10_minutesUntilSpeech_58 : decode cX10_minutesUntilSpeech 58 = .ok (.invokevirtual 213, 3) := by decide +kernel
theorem dX10_minutesUntilSpeech_61 : decode cX10_minutesUntilSpeech 61 = .ok (.iconst (-1), 1) := by decide +kernel
theorem dX10_minutesUntilSpeech_62 : decode cX10_minutesUntilSpeech 62 = .ok (.if_icmp .ne 5, 3) := by decide +kernel
theorem dX10_minutesUntilSpeech_65 : decode cX10_minutesUntilSpeech 65 = .ok (.iload_n 2, 1) := by decide +kernel
theorem dX10_minutesUntilSpeech_66 : decode cX10_minutesUntilSpeech 66 = .ok (.ireturn, 1) := by decide +kernel
theorem dX10_minutesUntilSpeech_67 : decode cX10_minutesUntilSpeech 67 = .ok (.iinc 2 1, 3) := by decide +kernel
theorem dX10_minutesUntilSpeech_70 : decode cX10_minutesUntilSpeech 70 = .ok (.goto (-35), 3) := by decide +kernel
theorem dX10_minutesUntilSpeech_73 : decode cX10_minutesUntilSpeech 73 = .ok (.iconst (-1), 1) := by decide +kernel
theorem dX10_minutesUntilSpeech_74 : decode cX10_minutesUntilSpeech 74 = .ok (.ireturn, 1) := by decide +kernel
theorem dX10_latherAfter_0 : decode cX10_latherAfter 0 = .ok (.aload_n 0, 1) := by decide +kernel
theorem dX10_latherAfter_1 : decode cX10_latherAfter 1 = .ok (.iload_n 1, 1) := by decide +kernel
theorem dX10_latherAfter_2 : decode cX10_latherAfter 2 = .ok (.invokevirtual 188, 3) := by decide +kernel
theorem dX10_latherAfter_5 : decode cX10_latherAfter 5 = .ok (.iload_n 2, 1) := by decide +kernel
theorem dX10_latherAfter_6 : decode cX10_latherAfter 6 = .ok (.ifCond .lt 10, 3) := by decide +kernel
theorem dX10_latherAfter_9 : decode cX10_latherAfter 9 = .ok (.iload_n 2, 1) := by decide +kernel
theorem dX10_latherAfter_10 : decode cX10_latherAfter 10 = .ok (.sipush 300, 3) := by decide +kernel
theorem dX10_latherAfter_13 : decode cX10_latherAfter 13 = .ok (.if_icmp .le 14, 3) := by decide +kernel
theorem dX10_latherAfter_16 : decode cX10_latherAfter 16 = .ok (.new 103, 3) := by decide +kernel
theorem dX10_latherAfter_19 : decode cX10_latherAfter 19 = .ok (.dup, 1) := by decide +kernel
theorem dX10_latherAfter_20 : decode cX10_latherAfter 20 = .ok (.ldc_w 317, 3) := by decide +kernel
theorem dX10_latherAfter_23 : decode cX10_latherAfter 23 = .ok (.invokespecial 107, 3) := by decide +kernel
theorem dX10_latherAfter_26 : decode cX10_latherAfter 26 = .ok (.athrow, 1) := by decide +kernel
theorem dX10_latherAfter_27 : decode cX10_latherAfter 27 = .ok (.aload_n 0, 1) := by decide +kernel
theorem dX10_latherAfter_28 : decode cX10_latherAfter 28 = .ok (.getfield 51, 3) := by decide +kernel
theorem dX10_latherAfter_31 : decode cX10_latherAfter 31 = .ok (.aload_n 0, 1) := by decide +kernel
theorem dX10_latherAfter_32 : decode cX10_latherAfter 32 = .ok (.getfield 47, 3) := by decide +kernel
theorem dX10_latherAfter_35 : decode cX10_latherAfter 35 = .ok (.invokevirtual 312, 3) := by decide +kernel
theorem dX10_latherAfter_38 : decode cX10_latherAfter 38 = .ok (.iconst 0, 1) := by decide +kernel
theorem dX10_latherAfter_39 : decode cX10_latherAfter 39 = .ok (.istore_n 3, 1) := by decide +kernel
theorem dX10_latherAfter_40 : decode cX10_latherAfter 40 = .ok (.iload_n 3, 1) := by decide +kernel
theorem dX10_latherAfter_41 : decode cX10_latherAfter 41 = .ok (.iload_n 2, 1) := by decide +kernel
theorem dX10_latherAfter_42 : decode cX10_latherAfter 42 = .ok (.if_icmp .ge 17, 3) := by decide +kernel
theorem dX10_latherAfter_45 : decode cX10_latherAfter 45 = .ok (.aload_n 0, 1) := by decide +kernel
theorem dX10_latherAfter_46 : decode cX10_latherAfter 46 = .ok (.getfield 51, 3) := by decide +kernel
theorem dX10_latherAfter_49 : decode cX10_latherAfter 49 = .ok (.invokevirtual 314, 3) := by decide +kernel
theorem dX10_latherAfter_52 : decode cX10_latherAfter 52 = .ok (.pop, 1) := by decide +kernel
theorem dX10_latherAfter_53 : decode cX10_latherAfter 53 = .ok (.iinc 3 1, 3) := by decide +kernel
theorem dX10_latherAfter_56 : decode cX10_latherAfter 56 = .ok (.goto (-16), 3) := by decide +kernel
theorem dX10_latherAfter_59 : decode cX10_latherAfter 59 = .ok (.aload_n 0, 1) := by decide +kernel
theorem dX10_latherAfter_60 : decode cX10_latherAfter 60 = .ok (.getfield 51, 3) := by decide +kernel
theorem dX10_latherAfter_63 : decode cX10_latherAfter 63 = .ok (.getfield 191, 3) := by decide +kernel
theorem dX10_latherAfter_66 : decode cX10_latherAfter 66 = .ok (.getfield 225, 3) := by decide +kernel
theorem dX10_latherAfter_69 : decode cX10_latherAfter 69 = .ok (.iload_n 1, 1) := by decide +kernel
theorem dX10_latherAfter_70 : decode cX10_latherAfter 70 = .ok (.iaload, 1) := by decide +kernel
theorem dX10_latherAfter_71 : decode cX10_latherAfter 71 = .ok (.ireturn, 1) := by decide +kernel
theorem dX10_minutesUntilVote_0 : decode cX10_minutesUntilVote 0 = .ok (.aload_n 0, 1) := by decide +kernel
theorem dX10_minutesUntilVote_1 : decode cX10_minutesUntilVote 1 = .ok (.iload_n 1, 1) := by decide +kernel
theorem dX10_minutesUntilVote_2 : decode cX10_minutesUntilVote 2 = .ok (.invokevirtual 188, 3) := by decide +kernel
theorem dX10_minutesUntilVote_5 : decode cX10_minutesUntilVote 5 = .ok (.aload_n 0, 1) := by decide +kernel
theorem dX10_minutesUntilVote_6 : decode cX10_minutesUntilVote 6 = .ok (.getfield 51, 3) := by decide +kernel
theorem dX10_minutesUntilVote_9 : decode cX10_minutesUntilVote 9 = .ok (.aload_n 0, 1) := by decide +kernel
theorem dX10_minutesUntilVote_10 : decode cX10_minutesUntilVote 10 = .ok (.getfield 47, 3) := by decide +kernel
theorem dX10_minutesUntilVote_13 : decode cX10_minutesUntilVote 13 = .ok (.invokevirtual 312, 3) := by decide +kernel
theorem dX10_minutesUntilVote_16 : decode cX10_minutesUntilVote 16 = .ok (.iconst 0, 1) := by decide +kernel
theorem dX10_minutesUntilVote_17 : decode cX10_minutesUntilVote 17 = .ok (.istore_n 2, 1) := by decide +kernel
theorem dX10_minutesUntilVote_18 : decode cX10_minutesUntilVote 18 = .ok (.iload_n 2, 1) := by decide +kernel
theorem dX10_minutesUntilVote_19 : decode cX10_minutesUntilVote 19 = .ok (.sipush 300, 3) := by decide +kernel
theorem dX10_minutesUntilVote_22 : decode cX10_minutesUntilVote 22 = .ok (.if_icmp .gt 30, 3) := by decide +kernel
theorem dX10_minutesUntilVote_25 : decode cX10_minutesUntilVote 25 = .ok (.aload_n 0, 1) := by decide +kernel
theorem dX10_minutesUntilVote_26 : decode cX10_minutesUntilVote 26 = .ok (.getfield 51, 3) := by decide +kernel
theorem dX10_minutesUntilVote_29 : decode cX10_minutesUntilVote 29 = .ok (.iload_n 1, 1) := by decide +kernel
theorem dX10_minutesUntilVote_30 : decode cX10_minutesUntilVote 30 = .ok (.invokevirtual 234, 3) := by decide +kernel
theorem dX10_minutesUntilVote_33 : decode cX10_minutesUntilVote 33 = .ok (.ifCond .ne 5, 3) := by decide +kernel
theorem dX10_minutesUntilVote_36 : decode cX10_minutesUntilVote 36 = .ok (.iload_n 2, 1) := by decide +kernel
theorem dX10_minutesUntilVote_37 : decode cX10_minutesUntilVote 37 = .ok (.ireturn, 1) := by decide +kernel
theorem dX10_minutesUntilVote_38 : decode cX10_minutesUntilVote 38 = .ok (.aload_n 0, 1) := by decide +kernel
theorem dX10_minutesUntilVote_39 : decode cX10_minutesUntilVote 39 = .ok (.getfield 51, 3) := by decide +kernel
theorem dX10_minutesUntilVote_42 : decode cX10_minutesUntilVote 42 = .ok (.invokevirtual 314, 3) := by decide +kernel
theorem dX10_minutesUntilVote_45 : decode cX10_minutesUntilVote 45 = .ok (.pop, 1) := by decide +kernel
theorem dX10_minutesUntilVote_46 : decode cX10_minutesUntilVote 46 = .ok (.iinc 2 1, 3) := by decide +kernel
theorem dX10_minutesUntilVote_49 : decode cX10_minutesUntilVote 49 = .ok (.goto (-31), 3) := by decide +kernel
theorem dX10_minutesUntilVote_52 : decode cX10_minutesUntilVote 52 = .ok (.iconst (-1), 1) := by decide +kernel
theorem dX10_minutesUntilVote_53 : decode cX10_minutesUntilVote 53 = .ok (.ireturn, 1) := by decide +kernel
theorem dX10_propose_0 : decode cX10_propose 0 = .ok (.aload_n 0, 1) := by decide +kernel
theorem dX10_propose_1 : decode cX10_propose 1 = .ok (.getfield 47, 3) := by decide +kernel
theorem dX10_propose_4 : decode cX10_propose 4 = .ok (.iload_n 1, 1) := by decide +kernel
theorem dX10_propose_5 : decode cX10_propose 5 = .ok (.iload_n 2, 1) := by decide +kernel
theorem dX10_propose_6 : decode cX10_propose 6 = .ok (.invokevirtual 319, 3) := by decide +kernel
theorem dX10_propose_9 : decode cX10_propose 9 = .ok (.invokestatic 283, 3) := by decide +kernel
theorem dX10_propose_12 : decode cX10_propose 12 = .ok (.aload_n 0, 1) := by decide +kernel
theorem dX10_propose_13 : decode cX10_propose 13 = .ok (.getfield 57, 3) := by decide +kernel
theorem dX10_propose_16 : decode cX10_propose 16 = .ok (.aload_n 0, 1) := by decide +kernel
theorem dX10_propose_17 : decode cX10_propose 17 = .ok (.getfield 47, 3) := by decide +kernel
theorem dX10_propose_20 : decode cX10_propose 20 = .ok (.invokevirtual 139, 3) := by decide +kernel
theorem dX10_propose_23 : decode cX10_propose 23 = .ok (.aload_n 0, 1) := by decide +kernel
theorem dX10_propose_24 : decode cX10_propose 24 = .ok (.getfield 47, 3) := by decide +kernel
theorem dX10_propose_27 : decode cX10_propose 27 = .ok (.iload_n 1, 1) := by decide +kernel
theorem dX10_propose_28 : decode cX10_propose 28 = .ok (.iload_n 2, 1) := by decide +kernel
theorem dX10_propose_29 : decode cX10_propose 29 = .ok (.invokevirtual 322, 3) := by decide +kernel
theorem dX10_propose_32 : decode cX10_propose 32 = .ok (.ireturn, 1) := by decide +kernel
theorem dX10_request_0 : decode cX10_request 0 = .ok (.aload_n 0, 1) := by decide +kernel
theorem dX10_request_1 : decode cX10_request 1 = .ok (.getfield 47, 3) := by decide +kernel
theorem dX10_request_4 : decode cX10_request 4 = .ok (.iload_n 1, 1) := by decide +kernel
theorem dX10_request_5 : decode cX10_request 5 = .ok (.iload_n 2, 1) := by decide +kernel
theorem dX10_request_6 : decode cX10_request 6 = .ok (.invokevirtual 325, 3) := by decide +kernel
theorem dX10_request_9 : decode cX10_request 9 = .ok (.invokestatic 283, 3) := by decide +kernel
theorem dX10_request_12 : decode cX10_request 12 = .ok (.aload_n 0, 1) := by decide +kernel
theorem dX10_request_13 : decode cX10_request 13 = .ok (.getfield 57, 3) := by decide +kernel
theorem dX10_request_16 : decode cX10_request 16 = .ok (.aload_n 0, 1) := by decide +kernel
theorem dX10_request_17 : decode cX10_request 17 = .ok (.getfield 47, 3) := by decide +kernel
theorem dX10_request_20 : decode cX10_request 20 = .ok (.invokevirtual 139, 3) := by decide +kernel
theorem dX10_request_23 : decode cX10_request 23 = .ok (.aload_n 0, 1) := by decide +kernel
theorem dX10_request_24 : decode cX10_request 24 = .ok (.getfield 47, 3) := by decide +kernel
theorem dX10_request_27 : decode cX10_request 27 = .ok (.getfield 209, 3) := by decide +kernel
theorem dX10_request_30 : decode cX10_request 30 = .ok (.iload_n 1, 1) := by decide +kernel
theorem dX10_request_31 : decode cX10_request 31 = .ok (.iload_n 2, 1) := by decide +kernel
theorem dX10_request_32 : decode cX10_request 32 = .ok (.iload_n 3, 1) := by decide +kernel
theorem dX10_request_33 : decode cX10_request 33 = .ok (.ifCond .eq 7, 3) := by decide +kernel
theorem dX10_request_36 : decode cX10_request 36 = .ok (.iconst 1, 1) := by decide +kernel
theorem dX10_request_37 : decode cX10_request 37 = .ok (.goto 4, 3) := by decide +kernel
theorem dX10_request_40 : decode cX10_request 40 = .ok (.iconst (-1), 1) := by decide +kernel
theorem dX10_request_41 : decode cX10_request 41 = .ok (.invokevirtual 328, 3) := by decide +kernel
theorem dX10_request_44 : decode cX10_request 44 = .ok (.ireturn, 1) := by decide +kernel
theorem dX10_rebut_0 : decode cX10_rebut 0 = .ok (.aload_n 0, 1) := by decide +kernel
theorem dX10_rebut_1 : decode cX10_rebut 1 = .ok (.getfield 47, 3) := by decide +kernel
theorem dX10_rebut_4 : decode cX10_rebut 4 = .ok (.iload_n 1, 1) := by decide +kernel
theorem dX10_rebut_5 : decode cX10_rebut 5 = .ok (.iload_n 2, 1) := by decide +kernel
theorem dX10_rebut_6 : decode cX10_rebut 6 = .ok (.invokevirtual 332, 3) := by decide +kernel
theorem dX10_rebut_9 : decode cX10_rebut 9 = .ok (.invokestatic 283, 3) := by decide +kernel
theorem dX10_rebut_12 : decode cX10_rebut 12 = .ok (.aload_n 0, 1) := by decide +kernel
theorem dX10_rebut_13 : decode cX10_rebut 13 = .ok (.getfield 57, 3) := by decide +kernel
theorem dX10_rebut_16 : decode cX10_rebut 16 = .ok (.aload_n 0, 1) := by decide +kernel
theorem dX10_rebut_17 : decode cX10_rebut 17 = .ok (.getfield 47, 3) := by decide +kernel
theorem dX10_rebut_20 : decode cX10_rebut 20 = .ok (.invokevirtual 139, 3) := by decide +kernel
theorem dX10_rebut_23 : decode cX10_rebut 23 = .ok (.aload_n 0, 1) := by decide +kernel
theorem dX10_rebut_24 : decode cX10_rebut 24 = .ok (.getfield 47, 3) := by decide +kernel
theorem dX10_rebut_27 : decode cX10_rebut 27 = .ok (.iload_n 2, 1) := by decide +kernel
theorem dX10_rebut_28 : decode cX10_rebut 28 = .ok (.invokevirtual 335, 3) := by decide +kernel
theorem dX10_rebut_31 : decode cX10_rebut 31 = .ok (.ireturn, 1) := by decide +kernel
theorem dX10_advance_0 : decode cX10_advance 0 = .ok (.aload_n 0, 1) := by decide +kernel
theorem dX10_advance_1 : decode cX10_advance 1 = .ok (.getfield 47, 3) := by decide +kernel
theorem dX10_advance_4 : decode cX10_advance 4 = .ok (.iload_n 1, 1) := by decide +kernel
theorem dX10_advance_5 : decode cX10_advance 5 = .ok (.invokevirtual 338, 3) := by decide +kernel
theorem dX10_advance_8 : decode cX10_advance 8 = .ok (.invokestatic 283, 3) := by decide +kernel
theorem dX10_advance_11 : decode cX10_advance 11 = .ok (.aload_n 0, 1) := by decide +kernel
theorem dX10_advance_12 : decode cX10_advance 12 = .ok (.getfield 57, 3) := by decide +kernel
theorem dX10_advance_15 : decode cX10_advance 15 = .ok (.aload_n 0, 1) := by decide +kernel
theorem dX10_advance_16 : decode cX10_advance 16 = .ok (.getfield 47, 3) := by decide +kernel
theorem dX10_advance_19 : decode cX10_advance 19 = .ok (.invokevirtual 139, 3) := by decide +kernel
theorem dX10_advance_22 : decode cX10_advance 22 = .ok (.aload_n 0, 1) := by decide +kernel
theorem dX10_advance_23 : decode cX10_advance 23 = .ok (.getfield 47, 3) := by decide +kernel
theorem dX10_advance_26 : decode cX10_advance 26 = .ok (.iload_n 1, 1) := by decide +kernel
theorem dX10_advance_27 : decode cX10_advance 27 = .ok (.invokevirtual 341, 3) := by decide +kernel
theorem dX10_advance_30 : decode cX10_advance 30 = .ok (.ireturn, 1) := by decide +kernel
theorem dX10_vote_0 : decode cX10_vote 0 = .ok (.aload_n 0, 1) := by decide +kernel
theorem dX10_vote_1 : decode cX10_vote 1 = .ok (.getfield 47, 3) := by decide +kernel
theorem dX10_vote_4 : decode cX10_vote 4 = .ok (.iload_n 1, 1) := by decide +kernel
theorem dX10_vote_5 : decode cX10_vote 5 = .ok (.invokevirtual 344, 3) := by decide +kernel
theorem dX10_vote_8 : decode cX10_vote 8 = .ok (.invokestatic 283, 3) := by decide +kernel
theorem dX10_vote_11 : decode cX10_vote 11 = .ok (.aload_n 0, 1) := by decide +kernel
theorem dX10_vote_12 : decode cX10_vote 12 = .ok (.getfield 57, 3) := by decide +kernel
theorem dX10_vote_15 : decode cX10_vote 15 = .ok (.aload_n 0, 1) := by decide +kernel
theorem dX10_vote_16 : decode cX10_vote 16 = .ok (.getfield 47, 3) := by decide +kernel
theorem dX10_vote_19 : decode cX10_vote 19 = .ok (.invokevirtual 139, 3) := by decide +kernel
theorem dX10_vote_22 : decode cX10_vote 22 = .ok (.aload_n 0, 1) := by decide +kernel
theorem dX10_vote_23 : decode cX10_vote 23 = .ok (.getfield 47, 3) := by decide +kernel
theorem dX10_vote_26 : decode cX10_vote 26 = .ok (.iload_n 1, 1) := by decide +kernel
theorem dX10_vote_27 : decode cX10_vote 27 = .ok (.invokevirtual 347, 3) := by decide +kernel
theorem dX10_vote_30 : decode cX10_vote 30 = .ok (.ireturn, 1) := by decide +kernel
theorem dX10_withdraw_0 : decode cX10_withdraw 0 = .ok (.aload_n 0, 1) := by decide +kernel
theorem dX10_withdraw_1 : decode cX10_withdraw 1 = .ok (.getfield 47, 3) := by decide +kernel
theorem dX10_withdraw_4 : decode cX10_withdraw 4 = .ok (.iload_n 1, 1) := by decide +kernel
theorem dX10_withdraw_5 : decode cX10_withdraw 5 = .ok (.invokevirtual 350, 3) := by decide +kernel
theorem dX10_withdraw_8 : decode cX10_withdraw 8 = .ok (.invokestatic 283, 3) := by decide +kernel
theorem dX10_withdraw_11 : decode cX10_withdraw 11 = .ok (.aload_n 0, 1) := by decide +kernel
theorem dX10_withdraw_12 : decode cX10_withdraw 12 = .ok (.getfield 57, 3) := by decide +kernel
theorem dX10_withdraw_15 : decode cX10_withdraw 15 = .ok (.aload_n 0, 1) := by decide +kernel
theorem dX10_withdraw_16 : decode cX10_withdraw 16 = .ok (.getfield 47, 3) := by decide +kernel
theorem dX10_withdraw_19 : decode cX10_withdraw 19 = .ok (.invokevirtual 139, 3) := by decide +kernel
theorem dX10_withdraw_22 : decode cX10_withdraw 22 = .ok (.aload_n 0, 1) := by decide +kernel
theorem dX10_withdraw_23 : decode cX10_withdraw 23 = .ok (.getfield 47, 3) := by decide +kernel
theorem dX10_withdraw_26 : decode cX10_withdraw 26 = .ok (.iload_n 1, 1) := by decide +kernel
theorem dX10_withdraw_27 : decode cX10_withdraw 27 = .ok (.iconst 3, 1) := by decide +kernel
theorem dX10_withdraw_28 : decode cX10_withdraw 28 = .ok (.invokevirtual 353, 3) := by decide +kernel
theorem dX10_withdraw_31 : decode cX10_withdraw 31 = .ok (.ireturn, 1) := by decide +kernel
theorem dX10_sharpen_0 : decode cX10_sharpen 0 = .ok (.aload_n 0, 1) := by decide +kernel
theorem dX10_sharpen_1 : decode cX10_sharpen 1 = .ok (.getfield 47, 3) := by decide +kernel
theorem dX10_sharpen_4 : decode cX10_sharpen 4 = .ok (.iload_n 1, 1) := by decide +kernel
theorem dX10_sharpen_5 : decode cX10_sharpen 5 = .ok (.invokevirtual 356, 3) := by decide +kernel
theorem dX10_sharpen_8 : decode cX10_sharpen 8 = .ok (.invokestatic 283, 3) := by decide +kernel
theorem dX10_sharpen_11 : decode cX10_sharpen 11 = .ok (.aload_n 0, 1) := by decide +kernel
theorem dX10_sharpen_12 : decode cX10_sharpen 12 = .ok (.getfield 57, 3) := by decide +kernel
theorem dX10_sharpen_15 : decode cX10_sharpen 15 = .ok (.aload_n 0, 1) := by decide +kernel
theorem dX10_sharpen_16 : decode cX10_sharpen 16 = .ok (.getfield 47, 3) := by decide +kernel
theorem dX10_sharpen_19 : decode cX10_sharpen 19 = .ok (.invokevirtual 139, 3) := by decide +kernel
theorem dX10_sharpen_22 : decode cX10_sharpen 22 = .ok (.aload_n 0, 1) := by decide +kernel
theorem dX10_sharpen_23 : decode cX10_sharpen 23 = .ok (.getfield 47, 3) := by decide +kernel
theorem dX10_sharpen_26 : decode cX10_sharpen 26 = .ok (.iload_n 1, 1) := by decide +kernel
theorem dX10_sharpen_27 : decode cX10_sharpen 27 = .ok (.invokevirtual 359, 3) := by decide +kernel
theorem dX10_sharpen_30 : decode cX10_sharpen 30 = .ok (.ireturn, 1) := by decide +kernel
theorem dX10_setRanking_0 : decode cX10_setRanking 0 = .ok (.iload_n 1, 1) := by decide +kernel
theorem dX10_setRanking_1 : decode cX10_setRanking 1 = .ok (.invokestatic 280, 3) := by decide +kernel
theorem dX10_setRanking_4 : decode cX10_setRanking 4 = .ok (.invokestatic 283, 3) := by decide +kernel
theorem dX10_setRanking_7 : decode cX10_setRanking 7 = .ok (.aload_n 0, 1) := by decide +kernel
theorem dX10_setRanking_8 : decode cX10_setRanking 8 = .ok (.getfield 57, 3) := by decide +kernel
theorem dX10_setRanking_11 : decode cX10_setRanking 11 = .ok (.aload_n 0, 1) := by decide +kernel
theorem dX10_setRanking_12 : decode cX10_setRanking 12 = .ok (.getfield 47, 3) := by decide +kernel
theorem dX10_setRanking_15 : decode cX10_setRanking 15 = .ok (.invokevirtual 139, 3) := by decide +kernel
theorem dX10_setRanking_18 : decode cX10_setRanking 18 = .ok (.aload_n 0, 1) := by decide +kernel
theorem dX10_setRanking_19 : decode cX10_setRanking 19 = .ok (.getfield 47, 3) := by decide +kernel
theorem dX10_setRanking_22 : decode cX10_setRanking 22 = .ok (.getfield 252, 3) := by decide +kernel
theorem dX10_setRanking_25 : decode cX10_setRanking 25 = .ok (.istore_n 2, 1) := by decide +kernel
theorem dX10_setRanking_26 : decode cX10_setRanking 26 = .ok (.aload_n 0, 1) := by decide +kernel
theorem dX10_setRanking_27 : decode cX10_setRanking 27 = .ok (.getfield 47, 3) := by decide +kernel
theorem dX10_setRanking_30 : decode cX10_setRanking 30 = .ok (.iload_n 1, 1) := by decide +kernel
theorem dX10_setRanking_31 : decode cX10_setRanking 31 = .ok (.putfield 252, 3) := by decide +kernel
theorem dX10_setRanking_34 : decode cX10_setRanking 34 = .ok (.iload_n 2, 1) := by decide +kernel
theorem dX10_setRanking_35 : decode cX10_setRanking 35 = .ok (.ireturn, 1) := by decide +kernel
theorem dX10_undoCount_0 : decode cX10_undoCount 0 = .ok (.aload_n 0, 1) := by decide +kernel
theorem dX10_undoCount_1 : decode cX10_undoCount 1 = .ok (.getfield 57, 3) := by decide +kernel
theorem dX10_undoCount_4 : decode cX10_undoCount 4 = .ok (.getfield 397, 3) := by decide +kernel
theorem dX10_undoCount_7 : decode cX10_undoCount 7 = .ok (.ireturn, 1) := by decide +kernel
theorem dX10_undo_0 : decode cX10_undo 0 = .ok (.aload_n 0, 1) := by decide +kernel
theorem dX10_undo_1 : decode cX10_undo 1 = .ok (.getfield 57, 3) := by decide +kernel
theorem dX10_undo_4 : decode cX10_undo 4 = .ok (.getfield 397, 3) := by decide +kernel
theorem dX10_undo_7 : decode cX10_undo 7 = .ok (.ifCond .ne 14, 3) := by decide +kernel
theorem dX10_undo_10 : decode cX10_undo 10 = .ok (.new 93, 3) := by decide +kernel
theorem dX10_undo_13 : decode cX10_undo 13 = .ok (.dup, 1) := by decide +kernel
theorem dX10_undo_14 : decode cX10_undo 14 = .ok (.ldc_w 398, 3) := by decide +kernel
theorem dX10_undo_17 : decode cX10_undo 17 = .ok (.invokespecial 97, 3) := by decide +kernel
theorem dX10_undo_20 : decode cX10_undo 20 = .ok (.athrow, 1) := by decide +kernel
theorem dX10_undo_21 : decode cX10_undo 21 = .ok (.aload_n 0, 1) := by decide +kernel
theorem dX10_undo_22 : decode cX10_undo 22 = .ok (.getfield 57, 3) := by decide +kernel
theorem dX10_undo_25 : decode cX10_undo 25 = .ok (.aload_n 0, 1) := by decide +kernel
theorem dX10_undo_26 : decode cX10_undo 26 = .ok (.getfield 47, 3) := by decide +kernel
theorem dX10_undo_29 : decode cX10_undo 29 = .ok (.invokevirtual 400, 3) := by decide +kernel
theorem dX10_undo_32 : decode cX10_undo 32 = .ok (.aload_n 0, 1) := by decide +kernel
theorem dX10_undo_33 : decode cX10_undo 33 = .ok (.getfield 57, 3) := by decide +kernel
theorem dX10_undo_36 : decode cX10_undo 36 = .ok (.getfield 397, 3) := by decide +kernel
theorem dX10_undo_39 : decode cX10_undo 39 = .ok (.ireturn, 1) := by decide +kernel
theorem dX10_requireMember_0 : decode cX10_requireMember 0 = .ok (.aload_n 0, 1) := by decide +kernel
theorem dX10_requireMember_1 : decode cX10_requireMember 1 = .ok (.getfield 35, 3) := by decide +kernel
theorem dX10_requireMember_4 : decode cX10_requireMember 4 = .ok (.iload_n 1, 1) := by decide +kernel
theorem dX10_requireMember_5 : decode cX10_requireMember 5 = .ok (.invokevirtual 408, 3) := by decide +kernel
theorem dX10_requireMember_8 : decode cX10_requireMember 8 = .ok (.ifCond .ne 14, 3) := by decide +kernel
theorem dX10_requireMember_11 : decode cX10_requireMember 11 = .ok (.new 411, 3) := by decide +kernel
theorem dX10_requireMember_14 : decode cX10_requireMember 14 = .ok (.dup, 1) := by decide +kernel
theorem dX10_requireMember_15 : decode cX10_requireMember 15 = .ok (.ldc_w 413, 3) := by decide +kernel
theorem dX10_requireMember_18 : decode cX10_requireMember 18 = .ok (.invokespecial 415, 3) := by decide +kernel
theorem dX10_requireMember_21 : decode cX10_requireMember 21 = .ok (.athrow, 1) := by decide +kernel
theorem dX10_requireMember_22 : decode cX10_requireMember 22 = .ok (.return_, 1) := by decide +kernel
theorem dX10_requireMotion_0 : decode cX10_requireMotion 0 = .ok (.aload_n 0, 1) := by decide +kernel
theorem dX10_requireMotion_1 : decode cX10_requireMotion 1 = .ok (.getfield 47, 3) := by decide +kernel
theorem dX10_requireMotion_4 : decode cX10_requireMotion 4 = .ok (.getfield 191, 3) := by decide +kernel
theorem dX10_requireMotion_7 : decode cX10_requireMotion 7 = .ok (.iload_n 1, 1) := by decide +kernel
theorem dX10_requireMotion_8 : decode cX10_requireMotion 8 = .ok (.invokevirtual 416, 3) := by decide +kernel
theorem dX10_requireMotion_11 : decode cX10_requireMotion 11 = .ok (.ifCond .ne 14, 3) := by decide +kernel
theorem dX10_requireMotion_14 : decode cX10_requireMotion 14 = .ok (.new 411, 3) := by decide +kernel
theorem dX10_requireMotion_17 : decode cX10_requireMotion 17 = .ok (.dup, 1) := by decide +kernel
theorem dX10_requireMotion_18 : decode cX10_requireMotion 18 = .ok (.ldc_w 419, 3) := by decide +kernel
theorem dX10_requireMotion_21 : decode cX10_requireMotion 21 = .ok (.invokespecial 415, 3) := by decide +kernel
theorem dX10_requireMotion_24 : decode cX10_requireMotion 24 = .ok (.athrow, 1) := by decide +kernel
theorem dX10_requireMotion_25 : decode cX10_requireMotion 25 = .ok (.return_, 1) := by decide +kernel
theorem dX10_requireChair_0 : decode cX10_requireChair 0 = .ok (.aload_n 0, 1) := by decide +kernel
theorem dX10_requireChair_1 : decode cX10_requireChair 1 = .ok (.getfield 35, 3) := by decide +kernel
theorem dX10_requireChair_4 : decode cX10_requireChair 4 = .ok (.iload_n 1, 1) := by decide +kernel
theorem dX10_requireChair_5 : decode cX10_requireChair 5 = .ok (.invokevirtual 421, 3) := by decide +kernel
theorem dX10_requireChair_8 : decode cX10_requireChair 8 = .ok (.ifCond .ne 14, 3) := by decide +kernel
theorem dX10_requireChair_11 : decode cX10_requireChair 11 = .ok (.new 411, 3) := by decide +kernel
theorem dX10_requireChair_14 : decode cX10_requireChair 14 = .ok (.dup, 1) := by decide +kernel
theorem dX10_requireChair_15 : decode cX10_requireChair 15 = .ok (.ldc_w 424, 3) := by decide +kernel
theorem dX10_requireChair_18 : decode cX10_requireChair 18 = .ok (.invokespecial 415, 3) := by decide +kernel
theorem dX10_requireChair_21 : decode cX10_requireChair 21 = .ok (.athrow, 1) := by decide +kernel
theorem dX10_requireChair_22 : decode cX10_requireChair 22 = .ok (.return_, 1) := by decide +kernel
theorem dX10_throwIfRefused_0 : decode cX10_throwIfRefused 0 = .ok (.iload_n 0, 1) := by decide +kernel
theorem dX10_throwIfRefused_1 : decode cX10_throwIfRefused 1 = .ok (.tableswitch 60 1 3 #[27, 38, 49], 27) := by decide +kernel
theorem dX10_throwIfRefused_28 : decode cX10_throwIfRefused 28 = .ok (.new 411, 3) := by decide +kernel
theorem dX10_throwIfRefused_31 : decode cX10_throwIfRefused 31 = .ok (.dup, 1) := by decide +kernel
theorem dX10_throwIfRefused_32 : decode cX10_throwIfRefused 32 = .ok (.ldc_w 428, 3) := by decide +kernel
theorem dX10_throwIfRefused_35 : decode cX10_throwIfRefused 35 = .ok (.invokespecial 415, 3) := by decide +kernel
theorem dX10_throwIfRefused_38 : decode cX10_throwIfRefused 38 = .ok (.athrow, 1) := by decide +kernel
theorem dX10_throwIfRefused_39 : decode cX10_throwIfRefused 39 = .ok (.new 103, 3) := by decide +kernel
theorem dX10_throwIfRefused_42 : decode cX10_throwIfRefused 42 = .ok (.dup, 1) := by decide +kernel
theorem dX10_throwIfRefused_43 : decode cX10_throwIfRefused 43 = .ok (.ldc_w 430, 3) := by decide +kernel
theorem dX10_throwIfRefused_46 : decode cX10_throwIfRefused 46 = .ok (.invokespecial 107, 3) := by decide +kernel
theorem dX10_throwIfRefused_49 : decode cX10_throwIfRefused 49 = .ok (.athrow, 1) := by decide +kernel
theorem dX10_throwIfRefused_50 : decode cX10_throwIfRefused 50 = .ok (.new 93, 3) := by decide +kernel
theorem dX10_throwIfRefused_53 : decode cX10_throwIfRefused 53 = .ok (.dup, 1) := by decide +kernel
theorem dX10_throwIfRefused_54 : decode cX10_throwIfRefused 54 = .ok (.ldc_w 432, 3) := by decide +kernel
theorem dX10_throwIfRefused_57 : decode cX10_throwIfRefused 57 = .ok (.invokespecial 97, 3) := by decide +kernel
theorem dX10_throwIfRefused_60 : decode cX10_throwIfRefused 60 = .ok (.athrow, 1) := by decide +kernel
theorem dX10_throwIfRefused_61 : decode cX10_throwIfRefused 61 = .ok (.return_, 1) := by decide +kernel
