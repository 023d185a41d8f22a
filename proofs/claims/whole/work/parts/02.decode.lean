theorem dX0_init_0 : decode cX0_init 0 = .ok (.aload_n 0, 1) := by decide +kernel
theorem dX0_init_1 : decode cX0_init 1 = .ok (.invokespecial 3, 3) := by decide +kernel
theorem dX0_init_4 : decode cX0_init 4 = .ok (.aload_n 0, 1) := by decide +kernel
theorem dX0_init_5 : decode cX0_init 5 = .ok (.iconst 4, 1) := by decide +kernel
theorem dX0_init_6 : decode cX0_init 6 = .ok (.newarray .int, 2) := by decide +kernel
theorem dX0_init_8 : decode cX0_init 8 = .ok (.putfield 9, 3) := by decide +kernel
theorem dX0_init_11 : decode cX0_init 11 = .ok (.aload_n 0, 1) := by decide +kernel
theorem dX0_init_12 : decode cX0_init 12 = .ok (.iconst 4, 1) := by decide +kernel
theorem dX0_init_13 : decode cX0_init 13 = .ok (.newarray .int, 2) := by decide +kernel
theorem dX0_init_15 : decode cX0_init 15 = .ok (.putfield 15, 3) := by decide +kernel
theorem dX0_init_18 : decode cX0_init 18 = .ok (.aload_n 0, 1) := by decide +kernel
theorem dX0_init_19 : decode cX0_init 19 = .ok (.iconst 4, 1) := by decide +kernel
theorem dX0_init_20 : decode cX0_init 20 = .ok (.newarray .int, 2) := by decide +kernel
theorem dX0_init_22 : decode cX0_init 22 = .ok (.putfield 18, 3) := by decide +kernel
theorem dX0_init_25 : decode cX0_init 25 = .ok (.aload_n 0, 1) := by decide +kernel
theorem dX0_init_26 : decode cX0_init 26 = .ok (.iconst 4, 1) := by decide +kernel
theorem dX0_init_27 : decode cX0_init 27 = .ok (.newarray .int, 2) := by decide +kernel
theorem dX0_init_29 : decode cX0_init 29 = .ok (.putfield 21, 3) := by decide +kernel
theorem dX0_init_32 : decode cX0_init 32 = .ok (.aload_n 0, 1) := by decide +kernel
theorem dX0_init_33 : decode cX0_init 33 = .ok (.iconst 4, 1) := by decide +kernel
theorem dX0_init_34 : decode cX0_init 34 = .ok (.newarray .int, 2) := by decide +kernel
theorem dX0_init_36 : decode cX0_init 36 = .ok (.putfield 24, 3) := by decide +kernel
theorem dX0_init_39 : decode cX0_init 39 = .ok (.return_, 1) := by decide +kernel
theorem dX0_clear_0 : decode cX0_clear 0 = .ok (.iconst 0, 1) := by decide +kernel
theorem dX0_clear_1 : decode cX0_clear 1 = .ok (.istore_n 1, 1) := by decide +kernel
theorem dX0_clear_2 : decode cX0_clear 2 = .ok (.iload_n 1, 1) := by decide +kernel
theorem dX0_clear_3 : decode cX0_clear 3 = .ok (.iconst 4, 1) := by decide +kernel
theorem dX0_clear_4 : decode cX0_clear 4 = .ok (.if_icmp .ge 14, 3) := by decide +kernel
theorem dX0_clear_7 : decode cX0_clear 7 = .ok (.aload_n 0, 1) := by decide +kernel
theorem dX0_clear_8 : decode cX0_clear 8 = .ok (.iload_n 1, 1) := by decide +kernel
theorem dX0_clear_9 : decode cX0_clear 9 = .ok (.invokevirtual 27, 3) := by decide +kernel
theorem dX0_clear_12 : decode cX0_clear 12 = .ok (.iinc 1 1, 3) := by decide +kernel
theorem dX0_clear_15 : decode cX0_clear 15 = .ok (.goto (-13), 3) := by decide +kernel
theorem dX0_clear_18 : decode cX0_clear 18 = .ok (.return_, 1) := by decide +kernel
theorem dX0_copyFrom_0 : decode cX0_copyFrom 0 = .ok (.aload_n 1, 1) := by decide +kernel
theorem dX0_copyFrom_1 : decode cX0_copyFrom 1 = .ok (.getfield 9, 3) := by decide +kernel
theorem dX0_copyFrom_4 : decode cX0_copyFrom 4 = .ok (.iconst 0, 1) := by decide +kernel
theorem dX0_copyFrom_5 : decode cX0_copyFrom 5 = .ok (.aload_n 0, 1) := by decide +kernel
theorem dX0_copyFrom_6 : decode cX0_copyFrom 6 = .ok (.getfield 9, 3) := by decide +kernel
theorem dX0_copyFrom_9 : decode cX0_copyFrom 9 = .ok (.iconst 0, 1) := by decide +kernel
theorem dX0_copyFrom_10 : decode cX0_copyFrom 10 = .ok (.iconst 4, 1) := by decide +kernel
theorem dX0_copyFrom_11 : decode cX0_copyFrom 11 = .ok (.invokestatic 31, 3) := by decide +kernel
theorem dX0_copyFrom_14 : decode cX0_copyFrom 14 = .ok (.aload_n 1, 1) := by decide +kernel
theorem dX0_copyFrom_15 : decode cX0_copyFrom 15 = .ok (.getfield 15, 3) := by decide +kernel
theorem dX0_copyFrom_18 : decode cX0_copyFrom 18 = .ok (.iconst 0, 1) := by decide +kernel
theorem dX0_copyFrom_19 : decode cX0_copyFrom 19 = .ok (.aload_n 0, 1) := by decide +kernel
theorem dX0_copyFrom_20 : decode cX0_copyFrom 20 = .ok (.getfield 15, 3) := by decide +kernel
theorem dX0_copyFrom_23 : decode cX0_copyFrom 23 = .ok (.iconst 0, 1) := by decide +kernel
theorem dX0_copyFrom_24 : decode cX0_copyFrom 24 = .ok (.iconst 4, 1) := by decide +kernel
theorem dX0_copyFrom_25 : decode cX0_copyFrom 25 = .ok (.invokestatic 31, 3) := by decide +kernel
theorem dX0_copyFrom_28 : decode cX0_copyFrom 28 = .ok (.aload_n 1, 1) := by decide +kernel
theorem dX0_copyFrom_29 : decode cX0_copyFrom 29 = .ok (.getfield 18, 3) := by decide +kernel
theorem dX0_copyFrom_32 : decode cX0_copyFrom 32 = .ok (.iconst 0, 1) := by decide +kernel
theorem dX0_copyFrom_33 : decode cX0_copyFrom 33 = .ok (.aload_n 0, 1) := by decide +kernel
theorem dX0_copyFrom_34 : decode cX0_copyFrom 34 = .ok (.getfield 18, 3) := by decide +kernel
theorem dX0_copyFrom_37 : decode cX0_copyFrom 37 = .ok (.iconst 0, 1) := by decide +kernel
theorem dX0_copyFrom_38 : decode cX0_copyFrom 38 = .ok (.iconst 4, 1) := by decide +kernel
theorem dX0_copyFrom_39 : decode cX0_copyFrom 39 = .ok (.invokestatic 31, 3) := by decide +kernel
theorem dX0_copyFrom_42 : decode cX0_copyFrom 42 = .ok (.aload_n 1, 1) := by decide +kernel
theorem dX0_copyFrom_43 : decode cX0_copyFrom 43 = .ok (.getfield 21, 3) := by decide +kernel
theorem dX0_copyFrom_46 : decode cX0_copyFrom 46 = .ok (.iconst 0, 1) := by decide +kernel
theorem dX0_copyFrom_47 : decode cX0_copyFrom 47 = .ok (.aload_n 0, 1) := by decide +kernel
theorem dX0_copyFrom_48 : decode cX0_copyFrom 48 = .ok (.getfield 21, 3) := by decide +kernel
theorem dX0_copyFrom_51 : decode cX0_copyFrom 51 = .ok (.iconst 0, 1) := by decide +kernel
theorem dX0_copyFrom_52 : decode cX0_copyFrom 52 = .ok (.iconst 4, 1) := by decide +kernel
theorem dX0_copyFrom_53 : decode cX0_copyFrom 53 = .ok (.invokestatic 31, 3) := by decide +kernel
theorem dX0_copyFrom_56 : decode cX0_copyFrom 56 = .ok (.aload_n 1, 1) := by decide +kernel
theorem dX0_copyFrom_57 : decode cX0_copyFrom 57 = .ok (.getfield 24, 3) := by decide +kernel
theorem dX0_copyFrom_60 : decode cX0_copyFrom 60 = .ok (.iconst 0, 1) := by decide +kernel
theorem dX0_copyFrom_61 : decode cX0_copyFrom 61 = .ok (.aload_n 0, 1) := by decide +kernel
theorem dX0_copyFrom_62 : decode cX0_copyFrom 62 = .ok (.getfield 24, 3) := by decide +kernel
theorem dX0_copyFrom_65 : decode cX0_copyFrom 65 = .ok (.iconst 0, 1) := by decide +kernel
theorem dX0_copyFrom_66 : decode cX0_copyFrom 66 = .ok (.iconst 4, 1) := by decide +kernel
theorem dX0_copyFrom_67 : decode cX0_copyFrom 67 = .ok (.invokestatic 31, 3) := by decide +kernel
theorem dX0_copyFrom_70 : decode cX0_copyFrom 70 = .ok (.return_, 1) := by decide +kernel
theorem dX0_leave_0 : decode cX0_leave 0 = .ok (.aload_n 0, 1) := by decide +kernel
theorem dX0_leave_1 : decode cX0_leave 1 = .ok (.getfield 9, 3) := by decide +kernel
theorem dX0_leave_4 : decode cX0_leave 4 = .ok (.iload_n 1, 1) := by decide +kernel
theorem dX0_leave_5 : decode cX0_leave 5 = .ok (.iconst (-1), 1) := by decide +kernel
theorem dX0_leave_6 : decode cX0_leave 6 = .ok (.iastore, 1) := by decide +kernel
theorem dX0_leave_7 : decode cX0_leave 7 = .ok (.aload_n 0, 1) := by decide +kernel
theorem dX0_leave_8 : decode cX0_leave 8 = .ok (.getfield 21, 3) := by decide +kernel
theorem dX0_leave_11 : decode cX0_leave 11 = .ok (.iload_n 1, 1) := by decide +kernel
theorem dX0_leave_12 : decode cX0_leave 12 = .ok (.iconst 0, 1) := by decide +kernel
theorem dX0_leave_13 : decode cX0_leave 13 = .ok (.iastore, 1) := by decide +kernel
theorem dX0_leave_14 : decode cX0_leave 14 = .ok (.aload_n 0, 1) := by decide +kernel
theorem dX0_leave_15 : decode cX0_leave 15 = .ok (.getfield 24, 3) := by decide +kernel
theorem dX0_leave_18 : decode cX0_leave 18 = .ok (.iload_n 1, 1) := by decide +kernel
theorem dX0_leave_19 : decode cX0_leave 19 = .ok (.iconst 0, 1) := by decide +kernel
theorem dX0_leave_20 : decode cX0_leave 20 = .ok (.iastore, 1) := by decide +kernel
theorem dX0_leave_21 : decode cX0_leave 21 = .ok (.return_, 1) := by decide +kernel
theorem dX0_isFree_0 : decode cX0_isFree 0 = .ok (.aload_n 0, 1) := by decide +kernel
theorem dX0_isFree_1 : decode cX0_isFree 1 = .ok (.getfield 9, 3) := by decide +kernel
theorem dX0_isFree_4 : decode cX0_isFree 4 = .ok (.iload_n 1, 1) := by decide +kernel
theorem dX0_isFree_5 : decode cX0_isFree 5 = .ok (.iaload, 1) := by decide +kernel
theorem dX0_isFree_6 : decode cX0_isFree 6 = .ok (.iconst (-1), 1) := by decide +kernel
theorem dX0_isFree_7 : decode cX0_isFree 7 = .ok (.if_icmp .ne 7, 3) := by decide +kernel
theorem dX0_isFree_10 : decode cX0_isFree 10 = .ok (.iconst 1, 1) := by decide +kernel
theorem dX0_isFree_11 : decode cX0_isFree 11 = .ok (.goto 4, 3) := by decide +kernel
theorem dX0_isFree_14 : decode cX0_isFree 14 = .ok (.iconst 0, 1) := by decide +kernel
theorem dX0_isFree_15 : decode cX0_isFree 15 = .ok (.ireturn, 1) := by decide +kernel
theorem dX0_takenBy_0 : decode cX0_takenBy 0 = .ok (.iconst 0, 1) := by decide +kernel
theorem dX0_takenBy_1 : decode cX0_takenBy 1 = .ok (.istore_n 2, 1) := by decide +kernel
theorem dX0_takenBy_2 : decode cX0_takenBy 2 = .ok (.iload_n 2, 1) := by decide +kernel
theorem dX0_takenBy_3 : decode cX0_takenBy 3 = .ok (.iconst 4, 1) := by decide +kernel
theorem dX0_takenBy_4 : decode cX0_takenBy 4 = .ok (.if_icmp .ge 21, 3) := by decide +kernel
theorem dX0_takenBy_7 : decode cX0_takenBy 7 = .ok (.aload_n 0, 1) := by decide +kernel
theorem dX0_takenBy_8 : decode cX0_takenBy 8 = .ok (.getfield 9, 3) := by decide +kernel
theorem dX0_takenBy_11 : decode cX0_takenBy 11 = .ok (.iload_n 2, 1) := by decide +kernel
theorem dX0_takenBy_12 : decode cX0_takenBy 12 = .ok (.iaload, 1) := by decide +kernel
theorem dX0_takenBy_13 : decode cX0_takenBy 13 = .ok (.iload_n 1, 1) := by decide +kernel
theorem dX0_takenBy_14 : decode cX0_takenBy 14 = .ok (.if_icmp .ne 5, 3) := by decide +kernel
theorem dX0_takenBy_17 : decode cX0_takenBy 17 = .ok (.iload_n 2, 1) := by decide +kernel
theorem dX0_takenBy_18 : decode cX0_takenBy 18 = .ok (.ireturn, 1) := by decide +kernel
theorem dX0_takenBy_19 : decode cX0_takenBy 19 = .ok (.iinc 2 1, 3) := by decide +kernel
theorem dX0_takenBy_22 : decode cX0_takenBy 22 = .ok (.goto (-20), 3) := by decide +kernel
theorem dX0_takenBy_25 : decode cX0_takenBy 25 = .ok (.iconst (-1), 1) := by decide +kernel
theorem dX0_takenBy_26 : decode cX0_takenBy 26 = .ok (.ireturn, 1) := by decide +kernel
theorem dX0_isSpeechAbout_0 : decode cX0_isSpeechAbout 0 = .ok (.iconst 0, 1) := by decide +kernel
theorem dX0_isSpeechAbout_1 : decode cX0_isSpeechAbout 1 = .ok (.istore_n 2, 1) := by decide +kernel
theorem dX0_isSpeechAbout_2 : decode cX0_isSpeechAbout 2 = .ok (.iload_n 2, 1) := by decide +kernel
theorem dX0_isSpeechAbout_3 : decode cX0_isSpeechAbout 3 = .ok (.iconst 4, 1) := by decide +kernel
theorem dX0_isSpeechAbout_4 : decode cX0_isSpeechAbout 4 = .ok (.if_icmp .ge 29, 3) := by decide +kernel
theorem dX0_isSpeechAbout_7 : decode cX0_isSpeechAbout 7 = .ok (.aload_n 0, 1) := by decide +kernel
theorem dX0_isSpeechAbout_8 : decode cX0_isSpeechAbout 8 = .ok (.iload_n 2, 1) := by decide +kernel
theorem dX0_isSpeechAbout_9 : decode cX0_isSpeechAbout 9 = .ok (.invokevirtual 37, 3) := by decide +kernel
theorem dX0_isSpeechAbout_12 : decode cX0_isSpeechAbout 12 = .ok (.ifCond .ne 15, 3) := by decide +kernel
theorem dX0_isSpeechAbout_15 : decode cX0_isSpeechAbout 15 = .ok (.aload_n 0, 1) := by decide +kernel
theorem dX0_isSpeechAbout_16 : decode cX0_isSpeechAbout 16 = .ok (.getfield 15, 3) := by decide +kernel
theorem dX0_isSpeechAbout_19 : decode cX0_isSpeechAbout 19 = .ok (.iload_n 2, 1) := by decide +kernel
theorem dX0_isSpeechAbout_20 : decode cX0_isSpeechAbout 20 = .ok (.iaload, 1) := by decide +kernel
theorem dX0_isSpeechAbout_21 : decode cX0_isSpeechAbout 21 = .ok (.iload_n 1, 1) := by decide +kernel
theorem dX0_isSpeechAbout_22 : decode cX0_isSpeechAbout 22 = .ok (.if_icmp .ne 5, 3) := by decide +kernel
theorem dX0_isSpeechAbout_25 : decode cX0_isSpeechAbout 25 = .ok (.iconst 1, 1) := by decide +kernel
theorem dX0_isSpeechAbout_26 : decode cX0_isSpeechAbout 26 = .ok (.ireturn, 1) := by decide +kernel
theorem dX0_isSpeechAbout_27 : decode cX0_isSpeechAbout 27 = .ok (.iinc 2 1, 3) := by decide +kernel
theorem dX0_isSpeechAbout_30 : decode cX0_isSpeechAbout 30 = .ok (.goto (-28), 3) := by decide +kernel
theorem dX0_isSpeechAbout_33 : decode cX0_isSpeechAbout 33 = .ok (.iconst 0, 1) := by decide +kernel
theorem dX0_isSpeechAbout_34 : decode cX0_isSpeechAbout 34 = .ok (.ireturn, 1) := by decide +kernel
theorem dX0_isRebuttedAt_0 : decode cX0_isRebuttedAt 0 = .ok (.aload_n 0, 1) := by decide +kernel
theorem dX0_isRebuttedAt_1 : decode cX0_isRebuttedAt 1 = .ok (.getfield 24, 3) := by decide +kernel
theorem dX0_isRebuttedAt_4 : decode cX0_isRebuttedAt 4 = .ok (.iload_n 1, 1) := by decide +kernel
theorem dX0_isRebuttedAt_5 : decode cX0_isRebuttedAt 5 = .ok (.iaload, 1) := by decide +kernel
theorem dX0_isRebuttedAt_6 : decode cX0_isRebuttedAt 6 = .ok (.ifCond .le 7, 3) := by decide +kernel
theorem dX0_isRebuttedAt_9 : decode cX0_isRebuttedAt 9 = .ok (.iconst 1, 1) := by decide +kernel
theorem dX0_isRebuttedAt_10 : decode cX0_isRebuttedAt 10 = .ok (.goto 4, 3) := by decide +kernel
theorem dX0_isRebuttedAt_13 : decode cX0_isRebuttedAt 13 = .ok (.iconst 0, 1) := by decide +kernel
theorem dX0_isRebuttedAt_14 : decode cX0_isRebuttedAt 14 = .ok (.ireturn, 1) := by decide +kernel
theorem dX0_countMirrors_0 : decode cX0_countMirrors 0 = .ok (.iconst 0, 1) := by decide +kernel
theorem dX0_countMirrors_1 : decode cX0_countMirrors 1 = .ok (.istore_n 1, 1) := by decide +kernel
theorem dX0_countMirrors_2 : decode cX0_countMirrors 2 = .ok (.iconst 0, 1) := by decide +kernel
theorem dX0_countMirrors_3 : decode cX0_countMirrors 3 = .ok (.istore_n 2, 1) := by decide +kernel
theorem dX0_countMirrors_4 : decode cX0_countMirrors 4 = .ok (.iload_n 2, 1) := by decide +kernel
theorem dX0_countMirrors_5 : decode cX0_countMirrors 5 = .ok (.iconst 4, 1) := by decide +kernel
theorem dX0_countMirrors_6 : decode cX0_countMirrors 6 = .ok (.if_icmp .ge 18, 3) := by decide +kernel
theorem dX0_countMirrors_9 : decode cX0_countMirrors 9 = .ok (.iload_n 1, 1) := by decide +kernel
theorem dX0_countMirrors_10 : decode cX0_countMirrors 10 = .ok (.aload_n 0, 1) := by decide +kernel
theorem dX0_countMirrors_11 : decode cX0_countMirrors 11 = .ok (.getfield 24, 3) := by decide +kernel
theorem dX0_countMirrors_14 : decode cX0_countMirrors 14 = .ok (.iload_n 2, 1) := by decide +kernel
theorem dX0_countMirrors_15 : decode cX0_countMirrors 15 = .ok (.iaload, 1) := by decide +kernel
theorem dX0_countMirrors_16 : decode cX0_countMirrors 16 = .ok (.iadd, 1) := by decide +kernel
theorem dX0_countMirrors_17 : decode cX0_countMirrors 17 = .ok (.istore_n 1, 1) := by decide +kernel
theorem dX0_countMirrors_18 : decode cX0_countMirrors 18 = .ok (.iinc 2 1, 3) := by decide +kernel
theorem dX0_countMirrors_21 : decode cX0_countMirrors 21 = .ok (.goto (-17), 3) := by decide +kernel
theorem dX0_countMirrors_24 : decode cX0_countMirrors 24 = .ok (.iload_n 1, 1) := by decide +kernel
theorem dX0_countMirrors_25 : decode cX0_countMirrors 25 = .ok (.ireturn, 1) := by decide +kernel
theorem dX1_init_0 : decode cX1_init 0 = .ok (.aload_n 0, 1) := by decide +kernel
theorem dX1_init_1 : decode cX1_init 1 = .ok (.invokespecial 3, 3) := by decide +kernel
theorem dX1_init_4 : decode cX1_init 4 = .ok (.aload_n 0, 1) := by decide +kernel
theorem dX1_init_5 : decode cX1_init 5 = .ok (.new 9, 3) := by decide +kernel
theorem dX1_init_8 : decode cX1_init 8 = .ok (.dup, 1) := by decide +kernel
theorem dX1_init_9 : decode cX1_init 9 = .ok (.invokespecial 11, 3) := by decide +kernel
theorem dX1_init_12 : decode cX1_init 12 = .ok (.putfield 12, 3) := by decide +kernel
theorem dX1_init_15 : decode cX1_init 15 = .ok (.aload_n 0, 1) := by decide +kernel
theorem dX1_init_16 : decode cX1_init 16 = .ok (.new 18, 3) := by decide +kernel
theorem dX1_init_19 : decode cX1_init 19 = .ok (.dup, 1) := by decide +kernel
theorem dX1_init_20 : decode cX1_init 20 = .ok (.invokespecial 20, 3) := by decide +kernel
theorem dX1_init_23 : decode cX1_init 23 = .ok (.putfield 21, 3) := by decide +kernel
theorem dX1_init_26 : decode cX1_init 26 = .ok (.aload_n 0, 1) := by decide +kernel
theorem dX1_init_27 : decode cX1_init 27 = .ok (.new 25, 3) := by decide +kernel
theorem dX1_init_30 : decode cX1_init 30 = .ok (.dup, 1) := by decide +kernel
theorem dX1_init_31 : decode cX1_init 31 = .ok (.invokespecial 27, 3) := by decide +kernel
theorem dX1_init_34 : decode cX1_init 34 = .ok (.putfield 28, 3) := by decide +kernel
theorem dX1_init_37 : decode cX1_init 37 = .ok (.aload_n 0, 1) := by decide +kernel
theorem dX1_init_38 : decode cX1_init 38 = .ok (.new 32, 3) := by decide +kernel
theorem dX1_init_41 : decode cX1_init 41 = .ok (.dup, 1) := by decide +kernel
theorem dX1_init_42 : decode cX1_init 42 = .ok (.invokespecial 34, 3) := by decide +kernel
theorem dX1_init_45 : decode cX1_init 45 = .ok (.putfield 35, 3) := by decide +kernel
theorem dX1_init_48 : decode cX1_init 48 = .ok (.aload_n 0, 1) := by decide +kernel
theorem dX1_init_49 : decode cX1_init 49 = .ok (.aload_n 1, 1) := by decide +kernel
theorem dX1_init_50 : decode cX1_init 50 = .ok (.putfield 39, 3) := by decide +kernel
theorem dX1_init_53 : decode cX1_init 53 = .ok (.return_, 1) := by decide +kernel
theorem dX1_clear_0 : decode cX1_clear 0 = .ok (.aload_n 0, 1) := by decide +kernel
theorem dX1_clear_1 : decode cX1_clear 1 = .ok (.getfield 12, 3) := by decide +kernel
theorem dX1_clear_4 : decode cX1_clear 4 = .ok (.aload_n 0, 1) := by decide +kernel
theorem dX1_clear_5 : decode cX1_clear 5 = .ok (.getfield 39, 3) := by decide +kernel
theorem dX1_clear_8 : decode cX1_clear 8 = .ok (.invokevirtual 43, 3) := by decide +kernel
theorem dX1_clear_11 : decode cX1_clear 11 = .ok (.aload_n 0, 1) := by decide +kernel
theorem dX1_clear_12 : decode cX1_clear 12 = .ok (.getfield 21, 3) := by decide +kernel
theorem dX1_clear_15 : decode cX1_clear 15 = .ok (.iconst 0, 1) := by decide +kernel
theorem dX1_clear_16 : decode cX1_clear 16 = .ok (.putfield 47, 3) := by decide +kernel
theorem dX1_clear_19 : decode cX1_clear 19 = .ok (.aload_n 0, 1) := by decide +kernel
theorem dX1_clear_20 : decode cX1_clear 20 = .ok (.getfield 28, 3) := by decide +kernel
theorem dX1_clear_23 : decode cX1_clear 23 = .ok (.iconst 0, 1) := by decide +kernel
theorem dX1_clear_24 : decode cX1_clear 24 = .ok (.putfield 51, 3) := by decide +kernel
theorem dX1_clear_27 : decode cX1_clear 27 = .ok (.aload_n 0, 1) := by decide +kernel
theorem dX1_clear_28 : decode cX1_clear 28 = .ok (.getfield 35, 3) := by decide +kernel
theorem dX1_clear_31 : decode cX1_clear 31 = .ok (.invokevirtual 52, 3) := by decide +kernel
theorem dX1_clear_34 : decode cX1_clear 34 = .ok (.aload_n 0, 1) := by decide +kernel
theorem dX1_clear_35 : decode cX1_clear 35 = .ok (.iconst 0, 1) := by decide +kernel
theorem dX1_clear_36 : decode cX1_clear 36 = .ok (.putfield 54, 3) := by decide +kernel
theorem dX1_clear_39 : decode cX1_clear 39 = .ok (.aload_n 0, 1) := by decide +kernel
theorem dX1_clear_40 : decode cX1_clear 40 = .ok (.iconst 0, 1) := by decide +kernel
theorem dX1_clear_41 : decode cX1_clear 41 = .ok (.putfield 57, 3) := by decide +kernel
theorem dX1_clear_44 : decode cX1_clear 44 = .ok (.aload_n 0, 1) := by decide +kernel
theorem dX1_clear_45 : decode cX1_clear 45 = .ok (.iconst 0, 1) := by decide +kernel
theorem dX1_clear_46 : decode cX1_clear 46 = .ok (.putfield 60, 3) := by decide +kernel
theorem dX1_clear_49 : decode cX1_clear 49 = .ok (.aload_n 0, 1) := by decide +kernel
theorem dX1_clear_50 : decode cX1_clear 50 = .ok (.iconst 0, 1) := by decide +kernel
theorem dX1_clear_51 : decode cX1_clear 51 = .ok (.putfield 63, 3) := by decide +kernel
theorem dX1_clear_54 : decode cX1_clear 54 = .ok (.aload_n 0, 1) := by decide +kernel
theorem dX1_clear_55 : decode cX1_clear 55 = .ok (.iconst 0, 1) := by decide +kernel
theorem dX1_clear_56 : decode cX1_clear 56 = .ok (.putfield 66, 3) := by decide +kernel
theorem dX1_clear_59 : decode cX1_clear 59 = .ok (.aload_n 0, 1) := by decide +kernel
theorem dX1_clear_60 : decode cX1_clear 60 = .ok (.iconst 0, 1) := by decide +kernel
theorem dX1_clear_61 : decode cX1_clear 61 = .ok (.putfield 69, 3) := by decide +kernel
theorem dX1_clear_64 : decode cX1_clear 64 = .ok (.return_, 1) := by decide +kernel
theorem dX1_copyFrom_0 : decode cX1_copyFrom 0 = .ok (.aload_n 0, 1) := by decide +kernel
theorem dX1_copyFrom_1 : decode cX1_copyFrom 1 = .ok (.getfield 12, 3) := by decide +kernel
theorem dX1_copyFrom_4 : decode cX1_copyFrom 4 = .ok (.aload_n 1, 1) := by decide +kernel
theorem dX1_copyFrom_5 : decode cX1_copyFrom 5 = .ok (.getfield 12, 3) := by decide +kernel
theorem dX1_copyFrom_8 : decode cX1_copyFrom 8 = .ok (.invokevirtual 72, 3) := by decide +kernel
theorem dX1_copyFrom_11 : decode cX1_copyFrom 11 = .ok (.aload_n 0, 1) := by decide +kernel
theorem dX1_copyFrom_12 : decode cX1_copyFrom 12 = .ok (.getfield 21, 3) := by decide +kernel
theorem dX1_copyFrom_15 : decode cX1_copyFrom 15 = .ok (.aload_n 1, 1) := by decide +kernel
theorem dX1_copyFrom_16 : decode cX1_copyFrom 16 = .ok (.getfield 21, 3) := by decide +kernel
theorem dX1_copyFrom_19 : decode cX1_copyFrom 19 = .ok (.invokevirtual 76, 3) := by decide +kernel
theorem dX1_copyFrom_22 : decode cX1_copyFrom 22 = .ok (.aload_n 0, 1) := by decide +kernel
theorem dX1_copyFrom_23 : decode cX1_copyFrom 23 = .ok (.getfield 28, 3) := by decide +kernel
theorem dX1_copyFrom_26 : decode cX1_copyFrom 26 = .ok (.aload_n 1, 1) := by decide +kernel
theorem dX1_copyFrom_27 : decode cX1_copyFrom 27 = .ok (.getfield 28, 3) := by decide +kernel
theorem dX1_copyFrom_30 : decode cX1_copyFrom 30 = .ok (.invokevirtual 79, 3) := by decide +kernel
theorem dX1_copyFrom_33 : decode cX1_copyFrom 33 = .ok (.aload_n 0, 1) := by decide +kernel
theorem dX1_copyFrom_34 : decode cX1_copyFrom 34 = .ok (.getfield 35, 3) := by decide +kernel
theorem dX1_copyFrom_37 : decode cX1_copyFrom 37 = .ok (.aload_n 1, 1) := by decide +kernel
theorem dX1_copyFrom_38 : decode cX1_copyFrom 38 = .ok (.getfield 35, 3) := by decide +kernel
theorem dX1_copyFrom_41 : decode cX1_copyFrom 41 = .ok (.invokevirtual 82, 3) := by decide +kernel
theorem dX1_copyFrom_44 : decode cX1_copyFrom 44 = .ok (.aload_n 0, 1) := by decide +kernel
theorem dX1_copyFrom_45 : decode cX1_copyFrom 45 = .ok (.aload_n 1, 1) := by decide +kernel
theorem dX1_copyFrom_46 : decode cX1_copyFrom 46 = .ok (.getfield 54, 3) := by decide +kernel
theorem dX1_copyFrom_49 : decode cX1_copyFrom 49 = .ok (.putfield 54, 3) := by decide +kernel
theorem dX1_copyFrom_52 : decode cX1_copyFrom 52 = .ok (.aload_n 0, 1) := by decide +kernel
theorem dX1_copyFrom_53 : decode cX1_copyFrom 53 = .ok (.aload_n 1, 1) := by decide +kernel
theorem dX1_copyFrom_54 : decode cX1_copyFrom 54 = .ok (.getfield 57, 3) := by decide +kernel
theorem dX1_copyFrom_57 : decode cX1_copyFrom 57 = .ok (.putfield 57, 3) := by decide +kernel
theorem dX1_copyFrom_60 : decode cX1_copyFrom 60 = .ok (.aload_n 0, 1) := by decide +kernel
theorem dX1_copyFrom_61 : decode cX1_copyFrom 61 = .ok (.aload_n 1, 1) := by decide +kernel
theorem dX1_copyFrom_62 : decode cX1_copyFrom 62 = .ok (.getfield 60, 3) := by decide +kernel
theorem dX1_copyFrom_65 : decode cX1_copyFrom 65 = .ok (.putfield 60, 3) := by decide +kernel
theorem dX1_copyFrom_68 : decode cX1_copyFrom 68 = .ok (.aload_n 0, 1) := by decide +kernel
theorem dX1_copyFrom_69 : decode cX1_copyFrom 69 = .ok (.aload_n 1, 1) := by decide +kernel
theorem dX1_copyFrom_70 : decode cX1_copyFrom 70 = .ok (.getfield 63, 3) := by decide +kernel
theorem dX1_copyFrom_73 : decode cX1_copyFrom 73 = .ok (.putfield 63, 3) := by decide +kernel
theorem dX1_copyFrom_76 : decode cX1_copyFrom 76 = .ok (.aload_n 0, 1) := by decide +kernel
theorem dX1_copyFrom_77 : decode cX1_copyFrom 77 = .ok (.aload_n 1, 1) := by decide +kernel
theorem dX1_copyFrom_78 : decode cX1_copyFrom 78 = .ok (.getfield 66, 3) := by decide +kernel
theorem dX1_copyFrom_81 : decode cX1_copyFrom 81 = .ok (.putfield 66, 3) := by decide +kernel
theorem dX1_copyFrom_84 : decode cX1_copyFrom 84 = .ok (.aload_n 0, 1) := by decide +kernel
theorem dX1_copyFrom_85 : decode cX1_copyFrom 85 = .ok (.aload_n 1, 1) := by decide +kernel
theorem dX1_copyFrom_86 : decode cX1_copyFrom 86 = .ok (.getfield 69, 3) := by decide +kernel
theorem dX1_copyFrom_89 : decode cX1_copyFrom 89 = .ok (.putfield 69, 3) := by decide +kernel
theorem dX1_copyFrom_92 : decode cX1_copyFrom 92 = .ok (.return_, 1) := by decide +kernel
theorem dX1_refusalOfMotion_0 : decode cX1_refusalOfMotion 0 = .ok (.aload_n 0, 1) := by decide +kernel
theorem dX1_refusalOfMotion_1 : decode cX1_refusalOfMotion 1 = .ok (.getfield 39, 3) := by decide +kernel
theorem dX1_refusalOfMotion_4 : decode cX1_refusalOfMotion 4 = .ok (.iload_n 1, 1) := by decide +kernel
theorem dX1_refusalOfMotion_5 : decode cX1_refusalOfMotion 5 = .ok (.invokevirtual 85, 3) := by decide +kernel
theorem dX1_refusalOfMotion_8 : decode cX1_refusalOfMotion 8 = .ok (.ifCond .ne 5, 3) := by decide +kernel
theorem dX1_refusalOfMotion_11 : decode cX1_refusalOfMotion 11 = .ok (.iconst 1, 1) := by decide +kernel
theorem dX1_refusalOfMotion_12 : decode cX1_refusalOfMotion 12 = .ok (.ireturn, 1) := by decide +kernel
theorem dX1_refusalOfMotion_13 : decode cX1_refusalOfMotion 13 = .ok (.iload_n 2, 1) := by decide +kernel
theorem dX1_refusalOfMotion_14 : decode cX1_refusalOfMotion 14 = .ok (.ifCond .lt 9, 3) := by decide +kernel
theorem dX1_refusalOfMotion_17 : decode cX1_refusalOfMotion 17 = .ok (.iload_n 2, 1) := by decide +kernel
theorem dX1_refusalOfMotion_18 : decode cX1_refusalOfMotion 18 = .ok (.bipush 20, 2) := by decide +kernel
theorem dX1_refusalOfMotion_20 : decode cX1_refusalOfMotion 20 = .ok (.if_icmp .le 5, 3) := by decide +kernel
theorem dX1_refusalOfMotion_23 : decode cX1_refusalOfMotion 23 = .ok (.iconst 2, 1) := by decide +kernel
theorem dX1_refusalOfMotion_24 : decode cX1_refusalOfMotion 24 = .ok (.ireturn, 1) := by decide +kernel
theorem dX1_refusalOfMotion_25 : decode cX1_refusalOfMotion 25 = .ok (.aload_n 0, 1) := by decide +kernel
theorem dX1_refusalOfMotion_26 : decode cX1_refusalOfMotion 26 = .ok (.getfield 21, 3) := by decide +kernel
theorem dX1_refusalOfMotion_29 : decode cX1_refusalOfMotion 29 = .ok (.getfield 47, 3) := by decide +kernel
theorem dX1_refusalOfMotion_32 : decode cX1_refusalOfMotion 32 = .ok (.bipush 16, 2) := by decide +kernel
theorem dX1_refusalOfMotion_34 : decode cX1_refusalOfMotion 34 = .ok (.if_icmp .lt 7, 3) := by decide +kernel
theorem dX1_refusalOfMotion_37 : decode cX1_refusalOfMotion 37 = .ok (.iconst 3, 1) := by decide +kernel
theorem dX1_refusalOfMotion_38 : decode cX1_refusalOfMotion 38 = .ok (.goto 4, 3) := by decide +kernel
theorem dX1_refusalOfMotion_41 : decode cX1_refusalOfMotion 41 = .ok (.iconst 0, 1) := by decide +kernel
theorem dX1_refusalOfMotion_42 : decode cX1_refusalOfMotion 42 = .ok (.ireturn, 1) := by decide +kernel
theorem dX1_addMotion_0 : decode cX1_addMotion 0 = .ok (.aload_n 0, 1) := by decide +kernel
theorem dX1_addMotion_1 : decode cX1_addMotion 1 = .ok (.getfield 21, 3) := by decide +kernel
theorem dX1_addMotion_4 : decode cX1_addMotion 4 = .ok (.getfield 47, 3) := by decide +kernel
theorem dX1_addMotion_7 : decode cX1_addMotion 7 = .ok (.istore_n 3, 1) := by decide +kernel
theorem dX1_addMotion_8 : decode cX1_addMotion 8 = .ok (.aload_n 0, 1) := by decide +kernel
theorem dX1_addMotion_9 : decode cX1_addMotion 9 = .ok (.getfield 21, 3) := by decide +kernel
theorem dX1_addMotion_12 : decode cX1_addMotion 12 = .ok (.getfield 91, 3) := by decide +kernel
theorem dX1_addMotion_15 : decode cX1_addMotion 15 = .ok (.iload_n 3, 1) := by decide +kernel
theorem dX1_addMotion_16 : decode cX1_addMotion 16 = .ok (.iload_n 1, 1) := by decide +kernel
theorem dX1_addMotion_17 : decode cX1_addMotion 17 = .ok (.iastore, 1) := by decide +kernel
theorem dX1_addMotion_18 : decode cX1_addMotion 18 = .ok (.aload_n 0, 1) := by decide +kernel
theorem dX1_addMotion_19 : decode cX1_addMotion 19 = .ok (.getfield 21, 3) := by decide +kernel
theorem dX1_addMotion_22 : decode cX1_addMotion 22 = .ok (.getfield 95, 3) := by decide +kernel
theorem dX1_addMotion_25 : decode cX1_addMotion 25 = .ok (.iload_n 3, 1) := by decide +kernel
theorem dX1_addMotion_26 : decode cX1_addMotion 26 = .ok (.iconst 0, 1) := by decide +kernel
theorem dX1_addMotion_27 : decode cX1_addMotion 27 = .ok (.iastore, 1) := by decide +kernel
theorem dX1_addMotion_28 : decode cX1_addMotion 28 = .ok (.aload_n 0, 1) := by decide +kernel
theorem dX1_addMotion_29 : decode cX1_addMotion 29 = .ok (.getfield 21, 3) := by decide +kernel
theorem dX1_addMotion_32 : decode cX1_addMotion 32 = .ok (.getfield 98, 3) := by decide +kernel
theorem dX1_addMotion_35 : decode cX1_addMotion 35 = .ok (.iload_n 3, 1) := by decide +kernel
theorem dX1_addMotion_36 : decode cX1_addMotion 36 = .ok (.iconst 0, 1) := by decide +kernel
theorem dX1_addMotion_37 : decode cX1_addMotion 37 = .ok (.iastore, 1) := by decide +kernel
theorem dX1_addMotion_38 : decode cX1_addMotion 38 = .ok (.aload_n 0, 1) := by decide +kernel
theorem dX1_addMotion_39 : decode cX1_addMotion 39 = .ok (.getfield 21, 3) := by decide +kernel
theorem dX1_addMotion_42 : decode cX1_addMotion 42 = .ok (.getfield 101, 3) := by decide +kernel
theorem dX1_addMotion_45 : decode cX1_addMotion 45 = .ok (.iload_n 3, 1) := by decide +kernel
theorem dX1_addMotion_46 : decode cX1_addMotion 46 = .ok (.iconst 0, 1) := by decide +kernel
theorem dX1_addMotion_47 : decode cX1_addMotion 47 = .ok (.iastore, 1) := by decide +kernel
theorem dX1_addMotion_48 : decode cX1_addMotion 48 = .ok (.iconst 0, 1) := by decide +kernel
theorem dX1_addMotion_49 : decode cX1_addMotion 49 = .ok (.istore 4, 2) := by decide +kernel
theorem dX1_addMotion_51 : decode cX1_addMotion 51 = .ok (.iload 4, 2) := by decide +kernel
theorem dX1_addMotion_53 : decode cX1_addMotion 53 = .ok (.aload_n 0, 1) := by decide +kernel
theorem dX1_addMotion_54 : decode cX1_addMotion 54 = .ok (.getfield 39, 3) := by decide +kernel
theorem dX1_addMotion_57 : decode cX1_addMotion 57 = .ok (.getfield 104, 3) := by decide +kernel
theorem dX1_addMotion_60 : decode cX1_addMotion 60 = .ok (.if_icmp .ge 36, 3) := by decide +kernel
theorem dX1_addMotion_63 : decode cX1_addMotion 63 = .ok (.aload_n 0, 1) := by decide +kernel
theorem dX1_addMotion_64 : decode cX1_addMotion 64 = .ok (.getfield 21, 3) := by decide +kernel
theorem dX1_addMotion_67 : decode cX1_addMotion 67 = .ok (.iload 4, 2) := by decide +kernel
theorem dX1_addMotion_69 : decode cX1_addMotion 69 = .ok (.iload_n 3, 1) := by decide +kernel
theorem dX1_addMotion_70 : decode cX1_addMotion 70 = .ok (.iconst 5, 1) := by decide +kernel
theorem dX1_addMotion_71 : decode cX1_addMotion 71 = .ok (.aload_n 0, 1) := by decide +kernel
theorem dX1_addMotion_72 : decode cX1_addMotion 72 = .ok (.getfield 39, 3) := by decide +kernel
theorem dX1_addMotion_75 : decode cX1_addMotion 75 = .ok (.getfield 107, 3) := by decide +kernel
theorem dX1_addMotion_78 : decode cX1_addMotion 78 = .ok (.iload 4, 2) := by decide +kernel
theorem dX1_addMotion_80 : decode cX1_addMotion 80 = .ok (.iaload, 1) := by decide +kernel
theorem dX1_addMotion_81 : decode cX1_addMotion 81 = .ok (.iload_n 2, 1) := by decide +kernel
theorem dX1_addMotion_82 : decode cX1_addMotion 82 = .ok (.isub, 1) := by decide +kernel
theorem dX1_addMotion_83 : decode cX1_addMotion 83 = .ok (.invokestatic 110, 3) := by decide +kernel
theorem dX1_addMotion_86 : decode cX1_addMotion 86 = .ok (.isub, 1) := by decide +kernel
theorem dX1_addMotion_87 : decode cX1_addMotion 87 = .ok (.invokevirtual 116, 3) := by decide +kernel
theorem dX1_addMotion_90 : decode cX1_addMotion 90 = .ok (.iinc 4 1, 3) := by decide +kernel
theorem dX1_addMotion_93 : decode cX1_addMotion 93 = .ok (.goto (-42), 3) := by decide +kernel
theorem dX1_addMotion_96 : decode cX1_addMotion 96 = .ok (.aload_n 0, 1) := by decide +kernel
theorem dX1_addMotion_97 : decode cX1_addMotion 97 = .ok (.getfield 21, 3) := by decide +kernel
theorem dX1_addMotion_100 : decode cX1_addMotion 100 = .ok (.dup, 1) := by decide +kernel
theorem dX1_addMotion_101 : decode cX1_addMotion 101 = .ok (.getfield 47, 3) := by decide +kernel
theorem dX1_addMotion_104 : decode cX1_addMotion 104 = .ok (.iconst 1, 1) := by decide +kernel
theorem dX1_addMotion_105 : decode cX1_addMotion 105 = .ok (.iadd, 1) := by decide +kernel
theorem dX1_addMotion_106 : decode cX1_addMotion 106 = .ok (.putfield 47, 3) := by decide +kernel
theorem dX1_addMotion_109 : decode cX1_addMotion 109 = .ok (.iload_n 3, 1) := by decide +kernel
theorem dX1_addMotion_110 : decode cX1_addMotion 110 = .ok (.ireturn, 1) := by decide +kernel
theorem dX1_refusalOfWithdrawal_0 : decode cX1_refusalOfWithdrawal 0 = .ok (.aload_n 0, 1) := by decide +kernel
theorem dX1_refusalOfWithdrawal_1 : decode cX1_refusalOfWithdrawal 1 = .ok (.getfield 21, 3) := by decide +kernel
theorem dX1_refusalOfWithdrawal_4 : decode cX1_refusalOfWithdrawal 4 = .ok (.iload_n 1, 1) := by decide +kernel
theorem dX1_refusalOfWithdrawal_5 : decode cX1_refusalOfWithdrawal 5 = .ok (.invokevirtual 120, 3) := by decide +kernel
theorem dX1_refusalOfWithdrawal_8 : decode cX1_refusalOfWithdrawal 8 = .ok (.ifCond .ne 5, 3) := by decide +kernel
theorem dX1_refusalOfWithdrawal_11 : decode cX1_refusalOfWithdrawal 11 = .ok (.iconst 1, 1) := by decide +kernel
theorem dX1_refusalOfWithdrawal_12 : decode cX1_refusalOfWithdrawal 12 = .ok (.ireturn, 1) := by decide +kernel
theorem dX1_refusalOfWithdrawal_13 : decode cX1_refusalOfWithdrawal 13 = .ok (.aload_n 0, 1) := by decide +kernel
theorem dX1_refusalOfWithdrawal_14 : decode cX1_refusalOfWithdrawal 14 = .ok (.getfield 21, 3) := by decide +kernel
theorem dX1_refusalOfWithdrawal_17 : decode cX1_refusalOfWithdrawal 17 = .ok (.iload_n 1, 1) := by decide +kernel
theorem dX1_refusalOfWithdrawal_18 : decode cX1_refusalOfWithdrawal 18 = .ok (.invokevirtual 123, 3) := by decide +kernel
theorem dX1_refusalOfWithdrawal_21 : decode cX1_refusalOfWithdrawal 21 = .ok (.ifCond .eq 14, 3) := by decide +kernel
theorem dX1_refusalOfWithdrawal_24 : decode cX1_refusalOfWithdrawal 24 = .ok (.aload_n 0, 1) := by decide +kernel
theorem dX1_refusalOfWithdrawal_25 : decode cX1_refusalOfWithdrawal 25 = .ok (.getfield 35, 3) := by decide +kernel
theorem dX1_refusalOfWithdrawal_28 : decode cX1_refusalOfWithdrawal 28 = .ok (.iload_n 1, 1) := by decide +kernel
theorem dX1_refusalOfWithdrawal_29 : decode cX1_refusalOfWithdrawal 29 = .ok (.invokevirtual 126, 3) := by decide +kernel
theorem dX1_refusalOfWithdrawal_32 : decode cX1_refusalOfWithdrawal 32 = .ok (.ifCond .eq 7, 3) := by decide +kernel
theorem dX1_refusalOfWithdrawal_35 : decode cX1_refusalOfWithdrawal 35 = .ok (.iconst 3, 1) := by decide +kernel
theorem dX1_refusalOfWithdrawal_36 : decode cX1_refusalOfWithdrawal 36 = .ok (.goto 4, 3) := by decide +kernel
theorem dX1_refusalOfWithdrawal_39 : decode cX1_refusalOfWithdrawal 39 = .ok (.iconst 0, 1) := by decide +kernel
theorem dX1_refusalOfWithdrawal_40 : decode cX1_refusalOfWithdrawal 40 = .ok (.ireturn, 1) := by decide +kernel
theorem dX1_closeMotion_0 : decode cX1_closeMotion 0 = .ok (.aload_n 0, 1) := by decide +kernel
theorem dX1_closeMotion_1 : decode cX1_closeMotion 1 = .ok (.getfield 21, 3) := by decide +kernel
theorem dX1_closeMotion_4 : decode cX1_closeMotion 4 = .ok (.getfield 95, 3) := by decide +kernel
theorem dX1_closeMotion_7 : decode cX1_closeMotion 7 = .ok (.iload_n 1, 1) := by decide +kernel
theorem dX1_closeMotion_8 : decode cX1_closeMotion 8 = .ok (.iload_n 2, 1) := by decide +kernel
theorem dX1_closeMotion_9 : decode cX1_closeMotion 9 = .ok (.iastore, 1) := by decide +kernel
theorem dX1_closeMotion_10 : decode cX1_closeMotion 10 = .ok (.aload_n 0, 1) := by decide +kernel
theorem dX1_closeMotion_11 : decode cX1_closeMotion 11 = .ok (.getfield 28, 3) := by decide +kernel
theorem dX1_closeMotion_14 : decode cX1_closeMotion 14 = .ok (.iload_n 1, 1) := by decide +kernel
theorem dX1_closeMotion_15 : decode cX1_closeMotion 15 = .ok (.invokevirtual 129, 3) := by decide +kernel
theorem dX1_closeMotion_18 : decode cX1_closeMotion 18 = .ok (.ireturn, 1) := by decide +kernel
theorem dX1_refusalOfRequest_0 : decode cX1_refusalOfRequest 0 = .ok (.aload_n 0, 1) := by decide +kernel
theorem dX1_refusalOfRequest_1 : decode cX1_refusalOfRequest 1 = .ok (.getfield 39, 3) := by decide +kernel
theorem dX1_refusalOfRequest_4 : decode cX1_refusalOfRequest 4 = .ok (.iload_n 1, 1) := by decide +kernel
theorem dX1_refusalOfRequest_5 : decode cX1_refusalOfRequest 5 = .ok (.invokevirtual 85, 3) := by decide +kernel
theorem dX1_refusalOfRequest_8 : decode cX1_refusalOfRequest 8 = .ok (.ifCond .eq 14, 3) := by decide +kernel
theorem dX1_refusalOfRequest_11 : decode cX1_refusalOfRequest 11 = .ok (.aload_n 0, 1) := by decide +kernel
theorem dX1_refusalOfRequest_12 : decode cX1_refusalOfRequest 12 = .ok (.getfield 21, 3) := by decide +kernel
theorem dX1_refusalOfRequest_15 : decode cX1_refusalOfRequest 15 = .ok (.iload_n 2, 1) := by decide +kernel
theorem dX1_refusalOfRequest_16 : decode cX1_refusalOfRequest 16 = .ok (.invokevirtual 120, 3) := by decide +kernel
theorem dX1_refusalOfRequest_19 : decode cX1_refusalOfRequest 19 = .ok (.ifCond .ne 5, 3) := by decide +kernel
theorem dX1_refusalOfRequest_22 : decode cX1_refusalOfRequest 22 = .ok (.iconst 1, 1) := by decide +kernel
theorem dX1_refusalOfRequest_23 : decode cX1_refusalOfRequest 23 = .ok (.ireturn, 1) := by decide +kernel
theorem dX1_refusalOfRequest_24 : decode cX1_refusalOfRequest 24 = .ok (.aload_n 0, 1) := by decide +kernel
theorem dX1_refusalOfRequest_25 : decode cX1_refusalOfRequest 25 = .ok (.getfield 28, 3) := by decide +kernel
theorem dX1_refusalOfRequest_28 : decode cX1_refusalOfRequest 28 = .ok (.iload_n 1, 1) := by decide +kernel
theorem dX1_refusalOfRequest_29 : decode cX1_refusalOfRequest 29 = .ok (.invokevirtual 132, 3) := by decide +kernel
theorem dX1_refusalOfRequest_32 : decode cX1_refusalOfRequest 32 = .ok (.iconst (-1), 1) := by decide +kernel
theorem dX1_refusalOfRequest_33 : decode cX1_refusalOfRequest 33 = .ok (.if_icmp .eq 7, 3) := by decide +kernel
theorem dX1_refusalOfRequest_36 : decode cX1_refusalOfRequest 36 = .ok (.iconst 1, 1) := by decide +kernel
theorem dX1_refusalOfRequest_37 : decode cX1_refusalOfRequest 37 = .ok (.goto 4, 3) := by decide +kernel
theorem dX1_refusalOfRequest_40 : decode cX1_refusalOfRequest 40 = .ok (.iconst 0, 1) := by decide +kernel
theorem dX1_refusalOfRequest_41 : decode cX1_refusalOfRequest 41 = .ok (.istore_n 3, 1) := by decide +kernel
theorem dX1_refusalOfRequest_42 : decode cX1_refusalOfRequest 42 = .ok (.aload_n 0, 1) := by decide +kernel
theorem dX1_refusalOfRequest_43 : decode cX1_refusalOfRequest 43 = .ok (.getfield 35, 3) := by decide +kernel
theorem dX1_refusalOfRequest_46 : decode cX1_refusalOfRequest 46 = .ok (.iload_n 1, 1) := by decide +kernel
theorem dX1_refusalOfRequest_47 : decode cX1_refusalOfRequest 47 = .ok (.invokevirtual 135, 3) := by decide +kernel
theorem dX1_refusalOfRequest_50 : decode cX1_refusalOfRequest 50 = .ok (.iconst (-1), 1) := by decide +kernel
theorem dX1_refusalOfRequest_51 : decode cX1_refusalOfRequest 51 = .ok (.if_icmp .eq 7, 3) := by decide +kernel
theorem dX1_refusalOfRequest_54 : decode cX1_refusalOfRequest 54 = .ok (.iconst 1, 1) := by decide +kernel
theorem dX1_refusalOfRequest_55 : decode cX1_refusalOfRequest 55 = .ok (.goto 4, 3) := by decide +kernel
theorem dX1_refusalOfRequest_58 : decode cX1_refusalOfRequest 58 = .ok (.iconst 0, 1) := by decide +kernel
theorem dX1_refusalOfRequest_59 : decode cX1_refusalOfRequest 59 = .ok (.istore 4, 2) := by decide +kernel
theorem dX1_refusalOfRequest_61 : decode cX1_refusalOfRequest 61 = .ok (.aload_n 0, 1) := by decide +kernel
theorem dX1_refusalOfRequest_62 : decode cX1_refusalOfRequest 62 = .ok (.getfield 21, 3) := by decide +kernel
theorem dX1_refusalOfRequest_65 : decode cX1_refusalOfRequest 65 = .ok (.iload_n 2, 1) := by decide +kernel
theorem dX1_refusalOfRequest_66 : decode cX1_refusalOfRequest 66 = .ok (.invokevirtual 123, 3) := by decide +kernel
theorem dX1_refusalOfRequest_69 : decode cX1_refusalOfRequest 69 = .ok (.ifCond .eq 12, 3) := by decide +kernel
theorem dX1_refusalOfRequest_72 : decode cX1_refusalOfRequest 72 = .ok (.iload_n 3, 1) := by decide +kernel
theorem dX1_refusalOfRequest_73 : decode cX1_refusalOfRequest 73 = .ok (.ifCond .ne 8, 3) := by decide +kernel
theorem dX1_refusalOfRequest_76 : decode cX1_refusalOfRequest 76 = .ok (.iload 4, 2) := by decide +kernel
theorem dX1_refusalOfRequest_78 : decode cX1_refusalOfRequest 78 = .ok (.ifCond .eq 7, 3) := by decide +kernel
theorem dX1_refusalOfRequest_81 : decode cX1_refusalOfRequest 81 = .ok (.iconst 3, 1) := by decide +kernel
theorem dX1_refusalOfRequest_82 : decode cX1_refusalOfRequest 82 = .ok (.goto 4, 3) := by decide +kernel
theorem dX1_refusalOfRequest_85 : decode cX1_refusalOfRequest 85 = .ok (.iconst 0, 1) := by decide +kernel
theorem dX1_refusalOfRequest_86 : decode cX1_refusalOfRequest 86 = .ok (.ireturn, 1) := by decide +kernel
theorem dX1_countFreeMirrors_0 : decode cX1_countFreeMirrors 0 = .ok (.aload_n 0, 1) := by decide +kernel
theorem dX1_countFreeMirrors_1 : decode cX1_countFreeMirrors 1 = .ok (.getfield 39, 3) := by decide +kernel
theorem dX1_countFreeMirrors_4 : decode cX1_countFreeMirrors 4 = .ok (.getfield 138, 3) := by decide +kernel
theorem dX1_countFreeMirrors_7 : decode cX1_countFreeMirrors 7 = .ok (.aload_n 0, 1) := by decide +kernel
theorem dX1_countFreeMirrors_8 : decode cX1_countFreeMirrors 8 = .ok (.getfield 35, 3) := by decide +kernel
theorem dX1_countFreeMirrors_11 : decode cX1_countFreeMirrors 11 = .ok (.invokevirtual 141, 3) := by decide +kernel
theorem dX1_countFreeMirrors_14 : decode cX1_countFreeMirrors 14 = .ok (.isub, 1) := by decide +kernel
theorem dX1_countFreeMirrors_15 : decode cX1_countFreeMirrors 15 = .ok (.ireturn, 1) := by decide +kernel
theorem dX1_refusalOfRebuttal_0 : decode cX1_refusalOfRebuttal 0 = .ok (.aload_n 0, 1) := by decide +kernel
theorem dX1_refusalOfRebuttal_1 : decode cX1_refusalOfRebuttal 1 = .ok (.getfield 39, 3) := by decide +kernel
theorem dX1_refusalOfRebuttal_4 : decode cX1_refusalOfRebuttal 4 = .ok (.iload_n 1, 1) := by decide +kernel
theorem dX1_refusalOfRebuttal_5 : decode cX1_refusalOfRebuttal 5 = .ok (.invokevirtual 85, 3) := by decide +kernel
theorem dX1_refusalOfRebuttal_8 : decode cX1_refusalOfRebuttal 8 = .ok (.ifCond .eq 14, 3) := by decide +kernel
theorem dX1_refusalOfRebuttal_11 : decode cX1_refusalOfRebuttal 11 = .ok (.aload_n 0, 1) := by decide +kernel
theorem dX1_refusalOfRebuttal_12 : decode cX1_refusalOfRebuttal 12 = .ok (.getfield 39, 3) := by decide +kernel
theorem dX1_refusalOfRebuttal_15 : decode cX1_refusalOfRebuttal 15 = .ok (.iload_n 2, 1) := by decide +kernel
theorem dX1_refusalOfRebuttal_16 : decode cX1_refusalOfRebuttal 16 = .ok (.invokevirtual 145, 3) := by decide +kernel
theorem dX1_refusalOfRebuttal_19 : decode cX1_refusalOfRebuttal 19 = .ok (.ifCond .ne 5, 3) := by decide +kernel
theorem dX1_refusalOfRebuttal_22 : decode cX1_refusalOfRebuttal 22 = .ok (.iconst 1, 1) := by decide +kernel
theorem dX1_refusalOfRebuttal_23 : decode cX1_refusalOfRebuttal 23 = .ok (.ireturn, 1) := by decide +kernel
theorem dX1_refusalOfRebuttal_24 : decode cX1_refusalOfRebuttal 24 = .ok (.aload_n 0, 1) := by decide +kernel
theorem dX1_refusalOfRebuttal_25 : decode cX1_refusalOfRebuttal 25 = .ok (.getfield 35, 3) := by decide +kernel
theorem dX1_refusalOfRebuttal_28 : decode cX1_refusalOfRebuttal 28 = .ok (.iload_n 2, 1) := by decide +kernel
theorem dX1_refusalOfRebuttal_29 : decode cX1_refusalOfRebuttal 29 = .ok (.invokevirtual 148, 3) := by decide +kernel
theorem dX1_refusalOfRebuttal_32 : decode cX1_refusalOfRebuttal 32 = .ok (.ifCond .ne 21, 3) := by decide +kernel
theorem dX1_refusalOfRebuttal_35 : decode cX1_refusalOfRebuttal 35 = .ok (.aload_n 0, 1) := by decide +kernel
theorem dX1_refusalOfRebuttal_36 : decode cX1_refusalOfRebuttal 36 = .ok (.getfield 35, 3) := by decide +kernel
theorem dX1_refusalOfRebuttal_39 : decode cX1_refusalOfRebuttal 39 = .ok (.iload_n 2, 1) := by decide +kernel
theorem dX1_refusalOfRebuttal_40 : decode cX1_refusalOfRebuttal 40 = .ok (.invokevirtual 151, 3) := by decide +kernel
theorem dX1_refusalOfRebuttal_43 : decode cX1_refusalOfRebuttal 43 = .ok (.ifCond .ne 10, 3) := by decide +kernel
theorem dX1_refusalOfRebuttal_46 : decode cX1_refusalOfRebuttal 46 = .ok (.aload_n 0, 1) := by decide +kernel
theorem dX1_refusalOfRebuttal_47 : decode cX1_refusalOfRebuttal 47 = .ok (.invokevirtual 154, 3) := by decide +kernel
theorem dX1_refusalOfRebuttal_50 : decode cX1_refusalOfRebuttal 50 = .ok (.ifCond .gt 5, 3) := by decide +kernel
theorem dX1_refusalOfRebuttal_53 : decode cX1_refusalOfRebuttal 53 = .ok (.iconst 3, 1) := by decide +kernel
theorem dX1_refusalOfRebuttal_54 : decode cX1_refusalOfRebuttal 54 = .ok (.ireturn, 1) := by decide +kernel
theorem dX1_refusalOfRebuttal_55 : decode cX1_refusalOfRebuttal 55 = .ok (.aload_n 0, 1) := by decide +kernel
theorem dX1_refusalOfRebuttal_56 : decode cX1_refusalOfRebuttal 56 = .ok (.getfield 35, 3) := by decide +kernel
theorem dX1_refusalOfRebuttal_59 : decode cX1_refusalOfRebuttal 59 = .ok (.iload_n 1, 1) := by decide +kernel
theorem dX1_refusalOfRebuttal_60 : decode cX1_refusalOfRebuttal 60 = .ok (.invokevirtual 135, 3) := by decide +kernel
theorem dX1_refusalOfRebuttal_63 : decode cX1_refusalOfRebuttal 63 = .ok (.iconst (-1), 1) := by decide +kernel
theorem dX1_refusalOfRebuttal_64 : decode cX1_refusalOfRebuttal 64 = .ok (.if_icmp .eq 5, 3) := by decide +kernel
theorem dX1_refusalOfRebuttal_67 : decode cX1_refusalOfRebuttal 67 = .ok (.iconst 3, 1) := by decide +kernel
theorem dX1_refusalOfRebuttal_68 : decode cX1_refusalOfRebuttal 68 = .ok (.ireturn, 1) := by decide +kernel
theorem dX1_refusalOfRebuttal_69 : decode cX1_refusalOfRebuttal 69 = .ok (.aload_n 0, 1) := by decide +kernel
theorem dX1_refusalOfRebuttal_70 : decode cX1_refusalOfRebuttal 70 = .ok (.getfield 21, 3) := by decide +kernel
theorem dX1_refusalOfRebuttal_73 : decode cX1_refusalOfRebuttal 73 = .ok (.iload_n 1, 1) := by decide +kernel
theorem dX1_refusalOfRebuttal_74 : decode cX1_refusalOfRebuttal 74 = .ok (.aload_n 0, 1) := by decide +kernel
theorem dX1_refusalOfRebuttal_75 : decode cX1_refusalOfRebuttal 75 = .ok (.getfield 35, 3) := by decide +kernel
theorem dX1_refusalOfRebuttal_78 : decode cX1_refusalOfRebuttal 78 = .ok (.getfield 157, 3) := by decide +kernel
theorem dX1_refusalOfRebuttal_81 : decode cX1_refusalOfRebuttal 81 = .ok (.iload_n 2, 1) := by decide +kernel
theorem dX1_refusalOfRebuttal_82 : decode cX1_refusalOfRebuttal 82 = .ok (.iaload, 1) := by decide +kernel
theorem dX1_refusalOfRebuttal_83 : decode cX1_refusalOfRebuttal 83 = .ok (.invokevirtual 160, 3) := by decide +kernel
theorem dX1_refusalOfRebuttal_86 : decode cX1_refusalOfRebuttal 86 = .ok (.aload_n 0, 1) := by decide +kernel
theorem dX1_refusalOfRebuttal_87 : decode cX1_refusalOfRebuttal 87 = .ok (.getfield 35, 3) := by decide +kernel
theorem dX1_refusalOfRebuttal_90 : decode cX1_refusalOfRebuttal 90 = .ok (.getfield 164, 3) := by decide +kernel
theorem dX1_refusalOfRebuttal_93 : decode cX1_refusalOfRebuttal 93 = .ok (.iload_n 2, 1) := by decide +kernel
theorem dX1_refusalOfRebuttal_94 : decode cX1_refusalOfRebuttal 94 = .ok (.iaload, 1) := by decide +kernel
theorem dX1_refusalOfRebuttal_95 : decode cX1_refusalOfRebuttal 95 = .ok (.imul, 1) := by decide +kernel
theorem dX1_refusalOfRebuttal_96 : decode cX1_refusalOfRebuttal 96 = .ok (.istore_n 3, 1) := by decide +kernel
theorem dX1_refusalOfRebuttal_97 : decode cX1_refusalOfRebuttal 97 = .ok (.iload_n 3, 1) := by decide +kernel
theorem dX1_refusalOfRebuttal_98 : decode cX1_refusalOfRebuttal 98 = .ok (.ifCond .ge 7, 3) := by decide +kernel
theorem dX1_refusalOfRebuttal_101 : decode cX1_refusalOfRebuttal 101 = .ok (.iconst 0, 1) := by decide +kernel
theorem dX1_refusalOfRebuttal_102 : decode cX1_refusalOfRebuttal 102 = .ok (.goto 4, 3) := by decide +kernel
theorem dX1_refusalOfRebuttal_105 : decode cX1_refusalOfRebuttal 105 = .ok (.iconst 3, 1) := by decide +kernel
theorem dX1_refusalOfRebuttal_106 : decode cX1_refusalOfRebuttal 106 = .ok (.ireturn, 1) := by decide +kernel
theorem dX1_addRebuttal_0 : decode cX1_addRebuttal 0 = .ok (.aload_n 0, 1) := by decide +kernel
theorem dX1_addRebuttal_1 : decode cX1_addRebuttal 1 = .ok (.getfield 35, 3) := by decide +kernel
theorem dX1_addRebuttal_4 : decode cX1_addRebuttal 4 = .ok (.getfield 167, 3) := by decide +kernel
theorem dX1_addRebuttal_7 : decode cX1_addRebuttal 7 = .ok (.iload_n 1, 1) := by decide +kernel
theorem dX1_addRebuttal_8 : decode cX1_addRebuttal 8 = .ok (.iconst 1, 1) := by decide +kernel
theorem dX1_addRebuttal_9 : decode cX1_addRebuttal 9 = .ok (.iastore, 1) := by decide +kernel
theorem dX1_addRebuttal_10 : decode cX1_addRebuttal 10 = .ok (.aload_n 0, 1) := by decide +kernel
theorem dX1_addRebuttal_11 : decode cX1_addRebuttal 11 = .ok (.dup, 1) := by decide +kernel
theorem dX1_addRebuttal_12 : decode cX1_addRebuttal 12 = .ok (.getfield 66, 3) := by decide +kernel
theorem dX1_addRebuttal_15 : decode cX1_addRebuttal 15 = .ok (.iconst 1, 1) := by decide +kernel
theorem dX1_addRebuttal_16 : decode cX1_addRebuttal 16 = .ok (.iadd, 1) := by decide +kernel
theorem dX1_addRebuttal_17 : decode cX1_addRebuttal 17 = .ok (.putfield 66, 3) := by decide +kernel
theorem dX1_addRebuttal_20 : decode cX1_addRebuttal 20 = .ok (.aload_n 0, 1) := by decide +kernel
theorem dX1_addRebuttal_21 : decode cX1_addRebuttal 21 = .ok (.invokevirtual 154, 3) := by decide +kernel
theorem dX1_addRebuttal_24 : decode cX1_addRebuttal 24 = .ok (.ireturn, 1) := by decide +kernel
theorem dX1_refusalOfRanking_0 : decode cX1_refusalOfRanking 0 = .ok (.iload_n 0, 1) := by decide +kernel
theorem dX1_refusalOfRanking_1 : decode cX1_refusalOfRanking 1 = .ok (.ifCond .lt 8, 3) := by decide +kernel
theorem dX1_refusalOfRanking_4 : decode cX1_refusalOfRanking 4 = .ok (.iload_n 0, 1) := by decide +kernel
theorem dX1_refusalOfRanking_5 : decode cX1_refusalOfRanking 5 = .ok (.iconst 3, 1) := by decide +kernel
theorem dX1_refusalOfRanking_6 : decode cX1_refusalOfRanking 6 = .ok (.if_icmp .le 7, 3) := by decide +kernel
theorem dX1_refusalOfRanking_9 : decode cX1_refusalOfRanking 9 = .ok (.iconst 1, 1) := by decide +kernel
theorem dX1_refusalOfRanking_10 : decode cX1_refusalOfRanking 10 = .ok (.goto 4, 3) := by decide +kernel
theorem dX1_refusalOfRanking_13 : decode cX1_refusalOfRanking 13 = .ok (.iconst 0, 1) := by decide +kernel
theorem dX1_refusalOfRanking_14 : decode cX1_refusalOfRanking 14 = .ok (.ireturn, 1) := by decide +kernel
theorem dX1_firstPlace_0 : decode cX1_firstPlace 0 = .ok (.iconst (-1), 1) := by decide +kernel
theorem dX1_firstPlace_1 : decode cX1_firstPlace 1 = .ok (.istore_n 2, 1) := by decide +kernel
theorem dX1_firstPlace_2 : decode cX1_firstPlace 2 = .ok (.iconst 0, 1) := by decide +kernel
theorem dX1_firstPlace_3 : decode cX1_firstPlace 3 = .ok (.istore_n 3, 1) := by decide +kernel
theorem dX1_firstPlace_4 : decode cX1_firstPlace 4 = .ok (.iconst 0, 1) := by decide +kernel
theorem dX1_firstPlace_5 : decode cX1_firstPlace 5 = .ok (.istore 4, 2) := by decide +kernel
theorem dX1_firstPlace_7 : decode cX1_firstPlace 7 = .ok (.iload 4, 2) := by decide +kernel
theorem dX1_firstPlace_9 : decode cX1_firstPlace 9 = .ok (.aload_n 0, 1) := by decide +kernel
theorem dX1_firstPlace_10 : decode cX1_firstPlace 10 = .ok (.getfield 28, 3) := by decide +kernel
theorem dX1_firstPlace_13 : decode cX1_firstPlace 13 = .ok (.getfield 51, 3) := by decide +kernel
theorem dX1_firstPlace_16 : decode cX1_firstPlace 16 = .ok (.if_icmp .ge 35, 3) := by decide +kernel
theorem dX1_firstPlace_19 : decode cX1_firstPlace 19 = .ok (.aload_n 0, 1) := by decide +kernel
theorem dX1_firstPlace_20 : decode cX1_firstPlace 20 = .ok (.iload 4, 2) := by decide +kernel
theorem dX1_firstPlace_22 : decode cX1_firstPlace 22 = .ok (.iload_n 1, 1) := by decide +kernel
theorem dX1_firstPlace_23 : decode cX1_firstPlace 23 = .ok (.invokevirtual 169, 3) := by decide +kernel
theorem dX1_firstPlace_26 : decode cX1_firstPlace 26 = .ok (.istore 5, 2) := by decide +kernel
theorem dX1_firstPlace_28 : decode cX1_firstPlace 28 = .ok (.iload_n 2, 1) := by decide +kernel
theorem dX1_firstPlace_29 : decode cX1_firstPlace 29 = .ok (.iconst (-1), 1) := by decide +kernel
theorem dX1_firstPlace_30 : decode cX1_firstPlace 30 = .ok (.if_icmp .eq 9, 3) := by decide +kernel
theorem dX1_firstPlace_33 : decode cX1_firstPlace 33 = .ok (.iload 5, 2) := by decide +kernel
theorem dX1_firstPlace_35 : decode cX1_firstPlace 35 = .ok (.iload_n 3, 1) := by decide +kernel
theorem dX1_firstPlace_36 : decode cX1_firstPlace 36 = .ok (.if_icmp .ge 9, 3) := by decide +kernel
theorem dX1_firstPlace_39 : decode cX1_firstPlace 39 = .ok (.iload 4, 2) := by decide +kernel
theorem dX1_firstPlace_41 : decode cX1_firstPlace 41 = .ok (.istore_n 2, 1) := by decide +kernel
theorem dX1_firstPlace_42 : decode cX1_firstPlace 42 = .ok (.iload 5, 2) := by decide +kernel
theorem dX1_firstPlace_44 : decode cX1_firstPlace 44 = .ok (.istore_n 3, 1) := by decide +kernel
theorem dX1_firstPlace_45 : decode cX1_firstPlace 45 = .ok (.iinc 4 1, 3) := by decide +kernel
theorem dX1_firstPlace_48 : decode cX1_firstPlace 48 = .ok (.goto (-41), 3) := by decide +kernel
theorem dX1_firstPlace_51 : decode cX1_firstPlace 51 = .ok (.iload_n 2, 1) := by decide +kernel
theorem dX1_firstPlace_52 : decode cX1_firstPlace 52 = .ok (.ireturn, 1) := by decide +kernel
theorem dX1_rankOf_0 : decode cX1_rankOf 0 = .ok (.aload_n 0, 1) := by decide +kernel
theorem dX1_rankOf_1 : decode cX1_rankOf 1 = .ok (.getfield 28, 3) := by decide +kernel
theorem dX1_rankOf_4 : decode cX1_rankOf 4 = .ok (.getfield 172, 3) := by decide +kernel
theorem dX1_rankOf_7 : decode cX1_rankOf 7 = .ok (.iload_n 1, 1) := by decide +kernel
theorem dX1_rankOf_8 : decode cX1_rankOf 8 = .ok (.iaload, 1) := by decide +kernel
theorem dX1_rankOf_9 : decode cX1_rankOf 9 = .ok (.istore_n 3, 1) := by decide +kernel
theorem dX1_rankOf_10 : decode cX1_rankOf 10 = .ok (.iload_n 2, 1) := by decide +kernel
theorem dX1_rankOf_11 : decode cX1_rankOf 11 = .ok (.tableswitch 86 1 3 #[25, 36, 46], 25) := by decide +kernel
theorem dX1_rankOf_36 : decode cX1_rankOf 36 = .ok (.aload_n 0, 1) := by decide +kernel
theorem dX1_rankOf_37 : decode cX1_rankOf 37 = .ok (.getfield 39, 3) := by decide +kernel
theorem dX1_rankOf_40 : decode cX1_rankOf 40 = .ok (.getfield 175, 3) := by decide +kernel
theorem dX1_rankOf_43 : decode cX1_rankOf 43 = .ok (.iload_n 3, 1) := by decide +kernel
theorem dX1_rankOf_44 : decode cX1_rankOf 44 = .ok (.iaload, 1) := by decide +kernel
theorem dX1_rankOf_45 : decode cX1_rankOf 45 = .ok (.ineg, 1) := by decide +kernel
theorem dX1_rankOf_46 : decode cX1_rankOf 46 = .ok (.ireturn, 1) := by decide +kernel
theorem dX1_rankOf_47 : decode cX1_rankOf 47 = .ok (.aload_n 0, 1) := by decide +kernel
theorem dX1_rankOf_48 : decode cX1_rankOf 48 = .ok (.getfield 12, 3) := by decide +kernel
theorem dX1_rankOf_51 : decode cX1_rankOf 51 = .ok (.getfield 178, 3) := by decide +kernel
theorem dX1_rankOf_54 : decode cX1_rankOf 54 = .ok (.iload_n 3, 1) := by decide +kernel
theorem dX1_rankOf_55 : decode cX1_rankOf 55 = .ok (.iaload, 1) := by decide +kernel
theorem dX1_rankOf_56 : decode cX1_rankOf 56 = .ok (.ireturn, 1) := by decide +kernel
theorem dX1_rankOf_57 : decode cX1_rankOf 57 = .ok (.aload_n 0, 1) := by decide +kernel
theorem dX1_rankOf_58 : decode cX1_rankOf 58 = .ok (.getfield 21, 3) := by decide +kernel
theorem dX1_rankOf_61 : decode cX1_rankOf 61 = .ok (.getfield 101, 3) := by decide +kernel
theorem dX1_rankOf_64 : decode cX1_rankOf 64 = .ok (.aload_n 0, 1) := by decide +kernel
theorem dX1_rankOf_65 : decode cX1_rankOf 65 = .ok (.getfield 28, 3) := by decide +kernel
theorem dX1_rankOf_68 : decode cX1_rankOf 68 = .ok (.getfield 181, 3) := by decide +kernel
theorem dX1_rankOf_71 : decode cX1_rankOf 71 = .ok (.iload_n 1, 1) := by decide +kernel
theorem dX1_rankOf_72 : decode cX1_rankOf 72 = .ok (.iaload, 1) := by decide +kernel
theorem dX1_rankOf_73 : decode cX1_rankOf 73 = .ok (.iaload, 1) := by decide +kernel
theorem dX1_rankOf_74 : decode cX1_rankOf 74 = .ok (.istore 4, 2) := by decide +kernel
theorem dX1_rankOf_76 : decode cX1_rankOf 76 = .ok (.iload 4, 2) := by decide +kernel
theorem dX1_rankOf_78 : decode cX1_rankOf 78 = .ok (.aload_n 0, 1) := by decide +kernel
theorem dX1_rankOf_79 : decode cX1_rankOf 79 = .ok (.getfield 28, 3) := by decide +kernel
theorem dX1_rankOf_82 : decode cX1_rankOf 82 = .ok (.getfield 182, 3) := by decide +kernel
theorem dX1_rankOf_85 : decode cX1_rankOf 85 = .ok (.iload_n 1, 1) := by decide +kernel
theorem dX1_rankOf_86 : decode cX1_rankOf 86 = .ok (.iaload, 1) := by decide +kernel
theorem dX1_rankOf_87 : decode cX1_rankOf 87 = .ok (.ineg, 1) := by decide +kernel
theorem dX1_rankOf_88 : decode cX1_rankOf 88 = .ok (.if_icmp .ne 7, 3) := by decide +kernel
theorem dX1_rankOf_91 : decode cX1_rankOf 91 = .ok (.iconst 0, 1) := by decide +kernel
theorem dX1_rankOf_92 : decode cX1_rankOf 92 = .ok (.goto 4, 3) := by decide +kernel
theorem dX1_rankOf_95 : decode cX1_rankOf 95 = .ok (.iconst 1, 1) := by decide +kernel
theorem dX1_rankOf_96 : decode cX1_rankOf 96 = .ok (.ireturn, 1) := by decide +kernel
theorem dX1_rankOf_97 : decode cX1_rankOf 97 = .ok (.iconst 0, 1) := by decide +kernel
theorem dX1_rankOf_98 : decode cX1_rankOf 98 = .ok (.ireturn, 1) := by decide +kernel
theorem dX1_startSpeech_0 : decode cX1_startSpeech 0 = .ok (.aload_n 0, 1) := by decide +kernel
theorem dX1_startSpeech_1 : decode cX1_startSpeech 1 = .ok (.getfield 28, 3) := by decide +kernel
theorem dX1_startSpeech_4 : decode cX1_startSpeech 4 = .ok (.getfield 172, 3) := by decide +kernel
theorem dX1_startSpeech_7 : decode cX1_startSpeech 7 = .ok (.iload_n 2, 1) := by decide +kernel
theorem dX1_startSpeech_8 : decode cX1_startSpeech 8 = .ok (.iaload, 1) := by decide +kernel
theorem dX1_startSpeech_9 : decode cX1_startSpeech 9 = .ok (.istore_n 3, 1) := by decide +kernel
theorem dX1_startSpeech_10 : decode cX1_startSpeech 10 = .ok (.aload_n 0, 1) := by decide +kernel
theorem dX1_startSpeech_11 : decode cX1_startSpeech 11 = .ok (.getfield 28, 3) := by decide +kernel
theorem dX1_startSpeech_14 : decode cX1_startSpeech 14 = .ok (.getfield 181, 3) := by decide +kernel
theorem dX1_startSpeech_17 : decode cX1_startSpeech 17 = .ok (.iload_n 2, 1) := by decide +kernel
theorem dX1_startSpeech_18 : decode cX1_startSpeech 18 = .ok (.iaload, 1) := by decide +kernel
theorem dX1_startSpeech_19 : decode cX1_startSpeech 19 = .ok (.istore 4, 2) := by decide +kernel
theorem dX1_startSpeech_21 : decode cX1_startSpeech 21 = .ok (.aload_n 0, 1) := by decide +kernel
theorem dX1_startSpeech_22 : decode cX1_startSpeech 22 = .ok (.getfield 28, 3) := by decide +kernel
theorem dX1_startSpeech_25 : decode cX1_startSpeech 25 = .ok (.getfield 182, 3) := by decide +kernel
theorem dX1_startSpeech_28 : decode cX1_startSpeech 28 = .ok (.iload_n 2, 1) := by decide +kernel
theorem dX1_startSpeech_29 : decode cX1_startSpeech 29 = .ok (.iaload, 1) := by decide +kernel
theorem dX1_startSpeech_30 : decode cX1_startSpeech 30 = .ok (.istore 5, 2) := by decide +kernel
theorem dX1_startSpeech_32 : decode cX1_startSpeech 32 = .ok (.aload_n 0, 1) := by decide +kernel
theorem dX1_startSpeech_33 : decode cX1_startSpeech 33 = .ok (.getfield 28, 3) := by decide +kernel
theorem dX1_startSpeech_36 : decode cX1_startSpeech 36 = .ok (.iload_n 2, 1) := by decide +kernel
theorem dX1_startSpeech_37 : decode cX1_startSpeech 37 = .ok (.invokevirtual 183, 3) := by decide +kernel
theorem dX1_startSpeech_40 : decode cX1_startSpeech 40 = .ok (.aload_n 0, 1) := by decide +kernel
theorem dX1_startSpeech_41 : decode cX1_startSpeech 41 = .ok (.getfield 35, 3) := by decide +kernel
theorem dX1_startSpeech_44 : decode cX1_startSpeech 44 = .ok (.getfield 187, 3) := by decide +kernel
theorem dX1_startSpeech_47 : decode cX1_startSpeech 47 = .ok (.iload_n 1, 1) := by decide +kernel
theorem dX1_startSpeech_48 : decode cX1_startSpeech 48 = .ok (.iload_n 3, 1) := by decide +kernel
theorem dX1_startSpeech_49 : decode cX1_startSpeech 49 = .ok (.iastore, 1) := by decide +kernel
theorem dX1_startSpeech_50 : decode cX1_startSpeech 50 = .ok (.aload_n 0, 1) := by decide +kernel
theorem dX1_startSpeech_51 : decode cX1_startSpeech 51 = .ok (.getfield 35, 3) := by decide +kernel
theorem dX1_startSpeech_54 : decode cX1_startSpeech 54 = .ok (.getfield 157, 3) := by decide +kernel
theorem dX1_startSpeech_57 : decode cX1_startSpeech 57 = .ok (.iload_n 1, 1) := by decide +kernel
theorem dX1_startSpeech_58 : decode cX1_startSpeech 58 = .ok (.iload 4, 2) := by decide +kernel
theorem dX1_startSpeech_60 : decode cX1_startSpeech 60 = .ok (.iastore, 1) := by decide +kernel
theorem dX1_startSpeech_61 : decode cX1_startSpeech 61 = .ok (.aload_n 0, 1) := by decide +kernel
theorem dX1_startSpeech_62 : decode cX1_startSpeech 62 = .ok (.getfield 35, 3) := by decide +kernel
theorem dX1_startSpeech_65 : decode cX1_startSpeech 65 = .ok (.getfield 164, 3) := by decide +kernel
theorem dX1_startSpeech_68 : decode cX1_startSpeech 68 = .ok (.iload_n 1, 1) := by decide +kernel
theorem dX1_startSpeech_69 : decode cX1_startSpeech 69 = .ok (.iload 5, 2) := by decide +kernel
theorem dX1_startSpeech_71 : decode cX1_startSpeech 71 = .ok (.iastore, 1) := by decide +kernel
theorem dX1_startSpeech_72 : decode cX1_startSpeech 72 = .ok (.aload_n 0, 1) := by decide +kernel
theorem dX1_startSpeech_73 : decode cX1_startSpeech 73 = .ok (.getfield 35, 3) := by decide +kernel
theorem dX1_startSpeech_76 : decode cX1_startSpeech 76 = .ok (.getfield 190, 3) := by decide +kernel
theorem dX1_startSpeech_79 : decode cX1_startSpeech 79 = .ok (.iload_n 1, 1) := by decide +kernel
theorem dX1_startSpeech_80 : decode cX1_startSpeech 80 = .ok (.aload_n 0, 1) := by decide +kernel
theorem dX1_startSpeech_81 : decode cX1_startSpeech 81 = .ok (.getfield 39, 3) := by decide +kernel
theorem dX1_startSpeech_84 : decode cX1_startSpeech 84 = .ok (.getfield 193, 3) := by decide +kernel
theorem dX1_startSpeech_87 : decode cX1_startSpeech 87 = .ok (.iastore, 1) := by decide +kernel
theorem dX1_startSpeech_88 : decode cX1_startSpeech 88 = .ok (.aload_n 0, 1) := by decide +kernel
theorem dX1_startSpeech_89 : decode cX1_startSpeech 89 = .ok (.getfield 21, 3) := by decide +kernel
theorem dX1_startSpeech_92 : decode cX1_startSpeech 92 = .ok (.getfield 101, 3) := by decide +kernel
theorem dX1_startSpeech_95 : decode cX1_startSpeech 95 = .ok (.iload 4, 2) := by decide +kernel
theorem dX1_startSpeech_97 : decode cX1_startSpeech 97 = .ok (.iload 5, 2) := by decide +kernel
theorem dX1_startSpeech_99 : decode cX1_startSpeech 99 = .ok (.iastore, 1) := by decide +kernel
theorem dX1_startSpeech_100 : decode cX1_startSpeech 100 = .ok (.aload_n 0, 1) := by decide +kernel
theorem dX1_startSpeech_101 : decode cX1_startSpeech 101 = .ok (.getfield 12, 3) := by decide +kernel
theorem dX1_startSpeech_104 : decode cX1_startSpeech 104 = .ok (.getfield 178, 3) := by decide +kernel
theorem dX1_startSpeech_107 : decode cX1_startSpeech 107 = .ok (.iload_n 3, 1) := by decide +kernel
theorem dX1_startSpeech_108 : decode cX1_startSpeech 108 = .ok (.dup2, 1) := by decide +kernel
theorem dX1_startSpeech_109 : decode cX1_startSpeech 109 = .ok (.iaload, 1) := by decide +kernel
theorem dX1_startSpeech_110 : decode cX1_startSpeech 110 = .ok (.iconst 1, 1) := by decide +kernel
theorem dX1_startSpeech_111 : decode cX1_startSpeech 111 = .ok (.iadd, 1) := by decide +kernel
theorem dX1_startSpeech_112 : decode cX1_startSpeech 112 = .ok (.iastore, 1) := by decide +kernel
theorem dX1_startSpeech_113 : decode cX1_startSpeech 113 = .ok (.return_, 1) := by decide +kernel
theorem dX1_endSpeech_0 : decode cX1_endSpeech 0 = .ok (.aload_n 0, 1) := by decide +kernel
theorem dX1_endSpeech_1 : decode cX1_endSpeech 1 = .ok (.getfield 35, 3) := by decide +kernel
theorem dX1_endSpeech_4 : decode cX1_endSpeech 4 = .ok (.getfield 187, 3) := by decide +kernel
theorem dX1_endSpeech_7 : decode cX1_endSpeech 7 = .ok (.iload_n 1, 1) := by decide +kernel
theorem dX1_endSpeech_8 : decode cX1_endSpeech 8 = .ok (.iaload, 1) := by decide +kernel
theorem dX1_endSpeech_9 : decode cX1_endSpeech 9 = .ok (.istore_n 2, 1) := by decide +kernel
theorem dX1_endSpeech_10 : decode cX1_endSpeech 10 = .ok (.aload_n 0, 1) := by decide +kernel
theorem dX1_endSpeech_11 : decode cX1_endSpeech 11 = .ok (.getfield 35, 3) := by decide +kernel
theorem dX1_endSpeech_14 : decode cX1_endSpeech 14 = .ok (.getfield 157, 3) := by decide +kernel
theorem dX1_endSpeech_17 : decode cX1_endSpeech 17 = .ok (.iload_n 1, 1) := by decide +kernel
theorem dX1_endSpeech_18 : decode cX1_endSpeech 18 = .ok (.iaload, 1) := by decide +kernel
theorem dX1_endSpeech_19 : decode cX1_endSpeech 19 = .ok (.istore_n 3, 1) := by decide +kernel
theorem dX1_endSpeech_20 : decode cX1_endSpeech 20 = .ok (.aload_n 0, 1) := by decide +kernel
theorem dX1_endSpeech_21 : decode cX1_endSpeech 21 = .ok (.getfield 35, 3) := by decide +kernel
theorem dX1_endSpeech_24 : decode cX1_endSpeech 24 = .ok (.getfield 164, 3) := by decide +kernel
theorem dX1_endSpeech_27 : decode cX1_endSpeech 27 = .ok (.iload_n 1, 1) := by decide +kernel
theorem dX1_endSpeech_28 : decode cX1_endSpeech 28 = .ok (.iaload, 1) := by decide +kernel
theorem dX1_endSpeech_29 : decode cX1_endSpeech 29 = .ok (.aload_n 0, 1) := by decide +kernel
theorem dX1_endSpeech_30 : decode cX1_endSpeech 30 = .ok (.getfield 35, 3) := by decide +kernel
theorem dX1_endSpeech_33 : decode cX1_endSpeech 33 = .ok (.iload_n 1, 1) := by decide +kernel
theorem dX1_endSpeech_34 : decode cX1_endSpeech 34 = .ok (.invokevirtual 151, 3) := by decide +kernel
theorem dX1_endSpeech_37 : decode cX1_endSpeech 37 = .ok (.ifCond .eq 7, 3) := by decide +kernel
theorem dX1_endSpeech_40 : decode cX1_endSpeech 40 = .ok (.iconst 1, 1) := by decide +kernel
theorem dX1_endSpeech_41 : decode cX1_endSpeech 41 = .ok (.goto 4, 3) := by decide +kernel
theorem dX1_endSpeech_44 : decode cX1_endSpeech 44 = .ok (.iconst 2, 1) := by decide +kernel
theorem dX1_endSpeech_45 : decode cX1_endSpeech 45 = .ok (.imul, 1) := by decide +kernel
theorem dX1_endSpeech_46 : decode cX1_endSpeech 46 = .ok (.istore 4, 2) := by decide +kernel
theorem dX1_endSpeech_48 : decode cX1_endSpeech 48 = .ok (.iconst 0, 1) := by decide +kernel
theorem dX1_endSpeech_49 : decode cX1_endSpeech 49 = .ok (.istore 5, 2) := by decide +kernel
theorem dX1_endSpeech_51 : decode cX1_endSpeech 51 = .ok (.iload 5, 2) := by decide +kernel
theorem dX1_endSpeech_53 : decode cX1_endSpeech 53 = .ok (.aload_n 0, 1) := by decide +kernel
theorem dX1_endSpeech_54 : decode cX1_endSpeech 54 = .ok (.getfield 39, 3) := by decide +kernel
theorem dX1_endSpeech_57 : decode cX1_endSpeech 57 = .ok (.getfield 104, 3) := by decide +kernel
theorem dX1_endSpeech_60 : decode cX1_endSpeech 60 = .ok (.if_icmp .ge 51, 3) := by decide +kernel
theorem dX1_endSpeech_63 : decode cX1_endSpeech 63 = .ok (.iload 5, 2) := by decide +kernel
theorem dX1_endSpeech_65 : decode cX1_endSpeech 65 = .ok (.iload_n 2, 1) := by decide +kernel
theorem dX1_endSpeech_66 : decode cX1_endSpeech 66 = .ok (.if_icmp .eq 39, 3) := by decide +kernel
theorem dX1_endSpeech_69 : decode cX1_endSpeech 69 = .ok (.aload_n 0, 1) := by decide +kernel
theorem dX1_endSpeech_70 : decode cX1_endSpeech 70 = .ok (.getfield 39, 3) := by decide +kernel
theorem dX1_endSpeech_73 : decode cX1_endSpeech 73 = .ok (.iload 5, 2) := by decide +kernel
theorem dX1_endSpeech_75 : decode cX1_endSpeech 75 = .ok (.iload_n 2, 1) := by decide +kernel
theorem dX1_endSpeech_76 : decode cX1_endSpeech 76 = .ok (.invokevirtual 196, 3) := by decide +kernel
theorem dX1_endSpeech_79 : decode cX1_endSpeech 79 = .ok (.ifCond .eq 26, 3) := by decide +kernel
theorem dX1_endSpeech_82 : decode cX1_endSpeech 82 = .ok (.aload_n 0, 1) := by decide +kernel
theorem dX1_endSpeech_83 : decode cX1_endSpeech 83 = .ok (.getfield 21, 3) := by decide +kernel
theorem dX1_endSpeech_86 : decode cX1_endSpeech 86 = .ok (.iload 5, 2) := by decide +kernel
theorem dX1_endSpeech_88 : decode cX1_endSpeech 88 = .ok (.iload_n 3, 1) := by decide +kernel
theorem dX1_endSpeech_89 : decode cX1_endSpeech 89 = .ok (.aload_n 0, 1) := by decide +kernel
theorem dX1_endSpeech_90 : decode cX1_endSpeech 90 = .ok (.getfield 21, 3) := by decide +kernel
theorem dX1_endSpeech_93 : decode cX1_endSpeech 93 = .ok (.iload 5, 2) := by decide +kernel
theorem dX1_endSpeech_95 : decode cX1_endSpeech 95 = .ok (.iload_n 3, 1) := by decide +kernel
theorem dX1_endSpeech_96 : decode cX1_endSpeech 96 = .ok (.invokevirtual 160, 3) := by decide +kernel
theorem dX1_endSpeech_99 : decode cX1_endSpeech 99 = .ok (.iload 4, 2) := by decide +kernel
theorem dX1_endSpeech_101 : decode cX1_endSpeech 101 = .ok (.iadd, 1) := by decide +kernel
theorem dX1_endSpeech_102 : decode cX1_endSpeech 102 = .ok (.invokevirtual 116, 3) := by decide +kernel
theorem dX1_endSpeech_105 : decode cX1_endSpeech 105 = .ok (.iinc 5 1, 3) := by decide +kernel
theorem dX1_endSpeech_108 : decode cX1_endSpeech 108 = .ok (.goto (-57), 3) := by decide +kernel
theorem dX1_endSpeech_111 : decode cX1_endSpeech 111 = .ok (.aload_n 0, 1) := by decide +kernel
theorem dX1_endSpeech_112 : decode cX1_endSpeech 112 = .ok (.getfield 21, 3) := by decide +kernel
theorem dX1_endSpeech_115 : decode cX1_endSpeech 115 = .ok (.getfield 98, 3) := by decide +kernel
theorem dX1_endSpeech_118 : decode cX1_endSpeech 118 = .ok (.iload_n 3, 1) := by decide +kernel
theorem dX1_endSpeech_119 : decode cX1_endSpeech 119 = .ok (.aload_n 0, 1) := by decide +kernel
theorem dX1_endSpeech_120 : decode cX1_endSpeech 120 = .ok (.getfield 21, 3) := by decide +kernel
theorem dX1_endSpeech_123 : decode cX1_endSpeech 123 = .ok (.getfield 98, 3) := by decide +kernel
theorem dX1_endSpeech_126 : decode cX1_endSpeech 126 = .ok (.iload_n 3, 1) := by decide +kernel
theorem dX1_endSpeech_127 : decode cX1_endSpeech 127 = .ok (.iaload, 1) := by decide +kernel
theorem dX1_endSpeech_128 : decode cX1_endSpeech 128 = .ok (.iconst 1, 1) := by decide +kernel
theorem dX1_endSpeech_129 : decode cX1_endSpeech 129 = .ok (.iadd, 1) := by decide +kernel
theorem dX1_endSpeech_130 : decode cX1_endSpeech 130 = .ok (.bipush 9, 2) := by decide +kernel
theorem dX1_endSpeech_132 : decode cX1_endSpeech 132 = .ok (.invokestatic 200, 3) := by decide +kernel
theorem dX1_endSpeech_135 : decode cX1_endSpeech 135 = .ok (.iastore, 1) := by decide +kernel
theorem dX1_endSpeech_136 : decode cX1_endSpeech 136 = .ok (.aload_n 0, 1) := by decide +kernel
theorem dX1_endSpeech_137 : decode cX1_endSpeech 137 = .ok (.getfield 35, 3) := by decide +kernel
theorem dX1_endSpeech_140 : decode cX1_endSpeech 140 = .ok (.iload_n 1, 1) := by decide +kernel
theorem dX1_endSpeech_141 : decode cX1_endSpeech 141 = .ok (.invokevirtual 203, 3) := by decide +kernel
theorem dX1_endSpeech_144 : decode cX1_endSpeech 144 = .ok (.return_, 1) := by decide +kernel
theorem dX1_refusalOfWait_0 : decode cX1_refusalOfWait 0 = .ok (.iload_n 1, 1) := by decide +kernel
theorem dX1_refusalOfWait_1 : decode cX1_refusalOfWait 1 = .ok (.iconst 1, 1) := by decide +kernel
theorem dX1_refusalOfWait_2 : decode cX1_refusalOfWait 2 = .ok (.if_icmp .lt 9, 3) := by decide +kernel
theorem dX1_refusalOfWait_5 : decode cX1_refusalOfWait 5 = .ok (.iload_n 1, 1) := by decide +kernel
theorem dX1_refusalOfWait_6 : decode cX1_refusalOfWait 6 = .ok (.bipush 60, 2) := by decide +kernel
theorem dX1_refusalOfWait_8 : decode cX1_refusalOfWait 8 = .ok (.if_icmp .le 5, 3) := by decide +kernel
theorem dX1_refusalOfWait_11 : decode cX1_refusalOfWait 11 = .ok (.iconst 2, 1) := by decide +kernel
theorem dX1_refusalOfWait_12 : decode cX1_refusalOfWait 12 = .ok (.ireturn, 1) := by decide +kernel
theorem dX1_refusalOfWait_13 : decode cX1_refusalOfWait 13 = .ok (.aload_n 0, 1) := by decide +kernel
theorem dX1_refusalOfWait_14 : decode cX1_refusalOfWait 14 = .ok (.getfield 54, 3) := by decide +kernel
theorem dX1_refusalOfWait_17 : decode cX1_refusalOfWait 17 = .ok (.iload_n 1, 1) := by decide +kernel
theorem dX1_refusalOfWait_18 : decode cX1_refusalOfWait 18 = .ok (.iadd, 1) := by decide +kernel
theorem dX1_refusalOfWait_19 : decode cX1_refusalOfWait 19 = .ok (.sipush 9999, 3) := by decide +kernel
theorem dX1_refusalOfWait_22 : decode cX1_refusalOfWait 22 = .ok (.if_icmp .le 7, 3) := by decide +kernel
theorem dX1_refusalOfWait_25 : decode cX1_refusalOfWait 25 = .ok (.iconst 3, 1) := by decide +kernel
theorem dX1_refusalOfWait_26 : decode cX1_refusalOfWait 26 = .ok (.goto 4, 3) := by decide +kernel
theorem dX1_refusalOfWait_29 : decode cX1_refusalOfWait 29 = .ok (.iconst 0, 1) := by decide +kernel
theorem dX1_refusalOfWait_30 : decode cX1_refusalOfWait 30 = .ok (.ireturn, 1) := by decide +kernel
theorem dX1_passMinutes_0 : decode cX1_passMinutes 0 = .ok (.iconst 0, 1) := by decide +kernel
theorem dX1_passMinutes_1 : decode cX1_passMinutes 1 = .ok (.istore_n 2, 1) := by decide +kernel
theorem dX1_passMinutes_2 : decode cX1_passMinutes 2 = .ok (.iconst 0, 1) := by decide +kernel
theorem dX1_passMinutes_3 : decode cX1_passMinutes 3 = .ok (.istore_n 3, 1) := by decide +kernel
theorem dX1_passMinutes_4 : decode cX1_passMinutes 4 = .ok (.iload_n 3, 1) := by decide +kernel
theorem dX1_passMinutes_5 : decode cX1_passMinutes 5 = .ok (.iload_n 1, 1) := by decide +kernel
theorem dX1_passMinutes_6 : decode cX1_passMinutes 6 = .ok (.if_icmp .ge 16, 3) := by decide +kernel
theorem dX1_passMinutes_9 : decode cX1_passMinutes 9 = .ok (.iload_n 2, 1) := by decide +kernel
theorem dX1_passMinutes_10 : decode cX1_passMinutes 10 = .ok (.aload_n 0, 1) := by decide +kernel
theorem dX1_passMinutes_11 : decode cX1_passMinutes 11 = .ok (.invokevirtual 206, 3) := by decide +kernel
theorem dX1_passMinutes_14 : decode cX1_passMinutes 14 = .ok (.iadd, 1) := by decide +kernel
theorem dX1_passMinutes_15 : decode cX1_passMinutes 15 = .ok (.istore_n 2, 1) := by decide +kernel
theorem dX1_passMinutes_16 : decode cX1_passMinutes 16 = .ok (.iinc 3 1, 3) := by decide +kernel
theorem dX1_passMinutes_19 : decode cX1_passMinutes 19 = .ok (.goto (-15), 3) := by decide +kernel
theorem dX1_passMinutes_22 : decode cX1_passMinutes 22 = .ok (.iload_n 2, 1) := by decide +kernel
theorem dX1_passMinutes_23 : decode cX1_passMinutes 23 = .ok (.ireturn, 1) := by decide +kernel
theorem dX1_passMinute_0 : decode cX1_passMinute 0 = .ok (.aload_n 0, 1) := by decide +kernel
theorem dX1_passMinute_1 : decode cX1_passMinute 1 = .ok (.dup, 1) := by decide +kernel
theorem dX1_passMinute_2 : decode cX1_passMinute 2 = .ok (.getfield 54, 3) := by decide +kernel
theorem dX1_passMinute_5 : decode cX1_passMinute 5 = .ok (.iconst 1, 1) := by decide +kernel
theorem dX1_passMinute_6 : decode cX1_passMinute 6 = .ok (.iadd, 1) := by decide +kernel
theorem dX1_passMinute_7 : decode cX1_passMinute 7 = .ok (.putfield 54, 3) := by decide +kernel
theorem dX1_passMinute_10 : decode cX1_passMinute 10 = .ok (.aload_n 0, 1) := by decide +kernel
theorem dX1_passMinute_11 : decode cX1_passMinute 11 = .ok (.getfield 39, 3) := by decide +kernel
theorem dX1_passMinute_14 : decode cX1_passMinute 14 = .ok (.getfield 209, 3) := by decide +kernel
theorem dX1_passMinute_17 : decode cX1_passMinute 17 = .ok (.ifCond .le 25, 3) := by decide +kernel
theorem dX1_passMinute_20 : decode cX1_passMinute 20 = .ok (.aload_n 0, 1) := by decide +kernel
theorem dX1_passMinute_21 : decode cX1_passMinute 21 = .ok (.getfield 54, 3) := by decide +kernel
theorem dX1_passMinute_24 : decode cX1_passMinute 24 = .ok (.aload_n 0, 1) := by decide +kernel
theorem dX1_passMinute_25 : decode cX1_passMinute 25 = .ok (.getfield 39, 3) := by decide +kernel
theorem dX1_passMinute_28 : decode cX1_passMinute 28 = .ok (.getfield 209, 3) := by decide +kernel
theorem dX1_passMinute_31 : decode cX1_passMinute 31 = .ok (.irem, 1) := by decide +kernel
theorem dX1_passMinute_32 : decode cX1_passMinute 32 = .ok (.ifCond .ne 10, 3) := by decide +kernel
theorem dX1_passMinute_35 : decode cX1_passMinute 35 = .ok (.aload_n 0, 1) := by decide +kernel
theorem dX1_passMinute_36 : decode cX1_passMinute 36 = .ok (.getfield 21, 3) := by decide +kernel
theorem dX1_passMinute_39 : decode cX1_passMinute 39 = .ok (.invokevirtual 212, 3) := by decide +kernel
theorem dX1_passMinute_42 : decode cX1_passMinute 42 = .ok (.iconst 0, 1) := by decide +kernel
theorem dX1_passMinute_43 : decode cX1_passMinute 43 = .ok (.istore_n 1, 1) := by decide +kernel
theorem dX1_passMinute_44 : decode cX1_passMinute 44 = .ok (.iconst 0, 1) := by decide +kernel
theorem dX1_passMinute_45 : decode cX1_passMinute 45 = .ok (.istore_n 2, 1) := by decide +kernel
theorem dX1_passMinute_46 : decode cX1_passMinute 46 = .ok (.iload_n 2, 1) := by decide +kernel
theorem dX1_passMinute_47 : decode cX1_passMinute 47 = .ok (.aload_n 0, 1) := by decide +kernel
theorem dX1_passMinute_48 : decode cX1_passMinute 48 = .ok (.getfield 39, 3) := by decide +kernel
theorem dX1_passMinute_51 : decode cX1_passMinute 51 = .ok (.getfield 215, 3) := by decide +kernel
theorem dX1_passMinute_54 : decode cX1_passMinute 54 = .ok (.if_icmp .ge 53, 3) := by decide +kernel
theorem dX1_passMinute_57 : decode cX1_passMinute 57 = .ok (.aload_n 0, 1) := by decide +kernel
theorem dX1_passMinute_58 : decode cX1_passMinute 58 = .ok (.getfield 35, 3) := by decide +kernel
theorem dX1_passMinute_61 : decode cX1_passMinute 61 = .ok (.iload_n 2, 1) := by decide +kernel
theorem dX1_passMinute_62 : decode cX1_passMinute 62 = .ok (.invokevirtual 148, 3) := by decide +kernel
theorem dX1_passMinute_65 : decode cX1_passMinute 65 = .ok (.ifCond .ne 36, 3) := by decide +kernel
theorem dX1_passMinute_68 : decode cX1_passMinute 68 = .ok (.aload_n 0, 1) := by decide +kernel
theorem dX1_passMinute_69 : decode cX1_passMinute 69 = .ok (.getfield 35, 3) := by decide +kernel
theorem dX1_passMinute_72 : decode cX1_passMinute 72 = .ok (.getfield 190, 3) := by decide +kernel
theorem dX1_passMinute_75 : decode cX1_passMinute 75 = .ok (.iload_n 2, 1) := by decide +kernel
theorem dX1_passMinute_76 : decode cX1_passMinute 76 = .ok (.dup2, 1) := by decide +kernel
theorem dX1_passMinute_77 : decode cX1_passMinute 77 = .ok (.iaload, 1) := by decide +kernel
theorem dX1_passMinute_78 : decode cX1_passMinute 78 = .ok (.iconst 1, 1) := by decide +kernel
theorem dX1_passMinute_79 : decode cX1_passMinute 79 = .ok (.isub, 1) := by decide +kernel
theorem dX1_passMinute_80 : decode cX1_passMinute 80 = .ok (.iastore, 1) := by decide +kernel
theorem dX1_passMinute_81 : decode cX1_passMinute 81 = .ok (.aload_n 0, 1) := by decide +kernel
theorem dX1_passMinute_82 : decode cX1_passMinute 82 = .ok (.getfield 35, 3) := by decide +kernel
theorem dX1_passMinute_85 : decode cX1_passMinute 85 = .ok (.getfield 190, 3) := by decide +kernel
theorem dX1_passMinute_88 : decode cX1_passMinute 88 = .ok (.iload_n 2, 1) := by decide +kernel
theorem dX1_passMinute_89 : decode cX1_passMinute 89 = .ok (.iaload, 1) := by decide +kernel
theorem dX1_passMinute_90 : decode cX1_passMinute 90 = .ok (.ifCond .ne 11, 3) := by decide +kernel
theorem dX1_passMinute_93 : decode cX1_passMinute 93 = .ok (.aload_n 0, 1) := by decide +kernel
theorem dX1_passMinute_94 : decode cX1_passMinute 94 = .ok (.iload_n 2, 1) := by decide +kernel
theorem dX1_passMinute_95 : decode cX1_passMinute 95 = .ok (.invokevirtual 217, 3) := by decide +kernel
theorem dX1_passMinute_98 : decode cX1_passMinute 98 = .ok (.iinc 1 1, 3) := by decide +kernel
theorem dX1_passMinute_101 : decode cX1_passMinute 101 = .ok (.iinc 2 1, 3) := by decide +kernel
theorem dX1_passMinute_104 : decode cX1_passMinute 104 = .ok (.goto (-58), 3) := by decide +kernel
theorem dX1_passMinute_107 : decode cX1_passMinute 107 = .ok (.iconst 0, 1) := by decide +kernel
theorem dX1_passMinute_108 : decode cX1_passMinute 108 = .ok (.istore_n 2, 1) := by decide +kernel
theorem dX1_passMinute_109 : decode cX1_passMinute 109 = .ok (.iload_n 2, 1) := by decide +kernel
theorem dX1_passMinute_110 : decode cX1_passMinute 110 = .ok (.aload_n 0, 1) := by decide +kernel
theorem dX1_passMinute_111 : decode cX1_passMinute 111 = .ok (.getfield 39, 3) := by decide +kernel
theorem dX1_passMinute_114 : decode cX1_passMinute 114 = .ok (.getfield 215, 3) := by decide +kernel
theorem dX1_passMinute_117 : decode cX1_passMinute 117 = .ok (.if_icmp .ge 40, 3) := by decide +kernel
theorem dX1_passMinute_120 : decode cX1_passMinute 120 = .ok (.aload_n 0, 1) := by decide +kernel
theorem dX1_passMinute_121 : decode cX1_passMinute 121 = .ok (.aload_n 0, 1) := by decide +kernel
theorem dX1_passMinute_122 : decode cX1_passMinute 122 = .ok (.getfield 57, 3) := by decide +kernel
theorem dX1_passMinute_125 : decode cX1_passMinute 125 = .ok (.invokevirtual 220, 3) := by decide +kernel
theorem dX1_passMinute_128 : decode cX1_passMinute 128 = .ok (.istore_n 3, 1) := by decide +kernel
theorem dX1_passMinute_129 : decode cX1_passMinute 129 = .ok (.aload_n 0, 1) := by decide +kernel
theorem dX1_passMinute_130 : decode cX1_passMinute 130 = .ok (.getfield 35, 3) := by decide +kernel
theorem dX1_passMinute_133 : decode cX1_passMinute 133 = .ok (.iload_n 2, 1) := by decide +kernel
theorem dX1_passMinute_134 : decode cX1_passMinute 134 = .ok (.invokevirtual 148, 3) := by decide +kernel
theorem dX1_passMinute_137 : decode cX1_passMinute 137 = .ok (.ifCond .eq 14, 3) := by decide +kernel
theorem dX1_passMinute_140 : decode cX1_passMinute 140 = .ok (.iload_n 3, 1) := by decide +kernel
theorem dX1_passMinute_141 : decode cX1_passMinute 141 = .ok (.iconst (-1), 1) := by decide +kernel
theorem dX1_passMinute_142 : decode cX1_passMinute 142 = .ok (.if_icmp .eq 9, 3) := by decide +kernel
theorem dX1_passMinute_145 : decode cX1_passMinute 145 = .ok (.aload_n 0, 1) := by decide +kernel
theorem dX1_passMinute_146 : decode cX1_passMinute 146 = .ok (.iload_n 2, 1) := by decide +kernel
theorem dX1_passMinute_147 : decode cX1_passMinute 147 = .ok (.iload_n 3, 1) := by decide +kernel
theorem dX1_passMinute_148 : decode cX1_passMinute 148 = .ok (.invokevirtual 223, 3) := by decide +kernel
theorem dX1_passMinute_151 : decode cX1_passMinute 151 = .ok (.iinc 2 1, 3) := by decide +kernel
theorem dX1_passMinute_154 : decode cX1_passMinute 154 = .ok (.goto (-45), 3) := by decide +kernel
theorem dX1_passMinute_157 : decode cX1_passMinute 157 = .ok (.iload_n 1, 1) := by decide +kernel
theorem dX1_passMinute_158 : decode cX1_passMinute 158 = .ok (.ireturn, 1) := by decide +kernel
theorem dX1_voteOf_0 : decode cX1_voteOf 0 = .ok (.aload_n 0, 1) := by decide +kernel
theorem dX1_voteOf_1 : decode cX1_voteOf 1 = .ok (.getfield 21, 3) := by decide +kernel
theorem dX1_voteOf_4 : decode cX1_voteOf 4 = .ok (.iload_n 1, 1) := by decide +kernel
theorem dX1_voteOf_5 : decode cX1_voteOf 5 = .ok (.iload_n 2, 1) := by decide +kernel
theorem dX1_voteOf_6 : decode cX1_voteOf 6 = .ok (.invokevirtual 160, 3) := by decide +kernel
theorem dX1_voteOf_9 : decode cX1_voteOf 9 = .ok (.istore_n 3, 1) := by decide +kernel
theorem dX1_voteOf_10 : decode cX1_voteOf 10 = .ok (.aload_n 0, 1) := by decide +kernel
theorem dX1_voteOf_11 : decode cX1_voteOf 11 = .ok (.getfield 12, 3) := by decide +kernel
theorem dX1_voteOf_14 : decode cX1_voteOf 14 = .ok (.getfield 227, 3) := by decide +kernel
theorem dX1_voteOf_17 : decode cX1_voteOf 17 = .ok (.iload_n 1, 1) := by decide +kernel
theorem dX1_voteOf_18 : decode cX1_voteOf 18 = .ok (.iaload, 1) := by decide +kernel
theorem dX1_voteOf_19 : decode cX1_voteOf 19 = .ok (.ifCond .eq 7, 3) := by decide +kernel
theorem dX1_voteOf_22 : decode cX1_voteOf 22 = .ok (.iload_n 3, 1) := by decide +kernel
theorem dX1_voteOf_23 : decode cX1_voteOf 23 = .ok (.ifCond .ne 5, 3) := by decide +kernel
theorem dX1_voteOf_26 : decode cX1_voteOf 26 = .ok (.iconst 0, 1) := by decide +kernel
theorem dX1_voteOf_27 : decode cX1_voteOf 27 = .ok (.ireturn, 1) := by decide +kernel
theorem dX1_voteOf_28 : decode cX1_voteOf 28 = .ok (.iload_n 3, 1) := by decide +kernel
theorem dX1_voteOf_29 : decode cX1_voteOf 29 = .ok (.ifCond .le 7, 3) := by decide +kernel
theorem dX1_voteOf_32 : decode cX1_voteOf 32 = .ok (.iconst 1, 1) := by decide +kernel
theorem dX1_voteOf_33 : decode cX1_voteOf 33 = .ok (.goto 4, 3) := by decide +kernel
theorem dX1_voteOf_36 : decode cX1_voteOf 36 = .ok (.iconst (-1), 1) := by decide +kernel
theorem dX1_voteOf_37 : decode cX1_voteOf 37 = .ok (.ireturn, 1) := by decide +kernel
theorem dX1_countVoters_0 : decode cX1_countVoters 0 = .ok (.iconst 0, 1) := by decide +kernel
theorem dX1_countVoters_1 : decode cX1_countVoters 1 = .ok (.istore_n 2, 1) := by decide +kernel
theorem dX1_countVoters_2 : decode cX1_countVoters 2 = .ok (.iconst 0, 1) := by decide +kernel
theorem dX1_countVoters_3 : decode cX1_countVoters 3 = .ok (.istore_n 3, 1) := by decide +kernel
theorem dX1_countVoters_4 : decode cX1_countVoters 4 = .ok (.iload_n 3, 1) := by decide +kernel
theorem dX1_countVoters_5 : decode cX1_countVoters 5 = .ok (.aload_n 0, 1) := by decide +kernel
theorem dX1_countVoters_6 : decode cX1_countVoters 6 = .ok (.getfield 39, 3) := by decide +kernel
theorem dX1_countVoters_9 : decode cX1_countVoters 9 = .ok (.getfield 104, 3) := by decide +kernel
theorem dX1_countVoters_12 : decode cX1_countVoters 12 = .ok (.if_icmp .ge 21, 3) := by decide +kernel
theorem dX1_countVoters_15 : decode cX1_countVoters 15 = .ok (.aload_n 0, 1) := by decide +kernel
theorem dX1_countVoters_16 : decode cX1_countVoters 16 = .ok (.iload_n 3, 1) := by decide +kernel
theorem dX1_countVoters_17 : decode cX1_countVoters 17 = .ok (.iload_n 1, 1) := by decide +kernel
theorem dX1_countVoters_18 : decode cX1_countVoters 18 = .ok (.invokevirtual 230, 3) := by decide +kernel
theorem dX1_countVoters_21 : decode cX1_countVoters 21 = .ok (.ifCond .eq 6, 3) := by decide +kernel
theorem dX1_countVoters_24 : decode cX1_countVoters 24 = .ok (.iinc 2 1, 3) := by decide +kernel
theorem dX1_countVoters_27 : decode cX1_countVoters 27 = .ok (.iinc 3 1, 3) := by decide +kernel
theorem dX1_countVoters_30 : decode cX1_countVoters 30 = .ok (.goto (-26), 3) := by decide +kernel
theorem dX1_countVoters_33 : decode cX1_countVoters 33 = .ok (.iload_n 2, 1) := by decide +kernel
theorem dX1_countVoters_34 : decode cX1_countVoters 34 = .ok (.ireturn, 1) := by decide +kernel
theorem dX1_weightOfVotes_0 : decode cX1_weightOfVotes 0 = .ok (.iconst 0, 1) := by decide +kernel
theorem dX1_weightOfVotes_1 : decode cX1_weightOfVotes 1 = .ok (.istore_n 3, 1) := by decide +kernel
theorem dX1_weightOfVotes_2 : decode cX1_weightOfVotes 2 = .ok (.iconst 0, 1) := by decide +kernel
theorem dX1_weightOfVotes_3 : decode cX1_weightOfVotes 3 = .ok (.istore 4, 2) := by decide +kernel
theorem dX1_weightOfVotes_5 : decode cX1_weightOfVotes 5 = .ok (.iload 4, 2) := by decide +kernel
theorem dX1_weightOfVotes_7 : decode cX1_weightOfVotes 7 = .ok (.aload_n 0, 1) := by decide +kernel
theorem dX1_weightOfVotes_8 : decode cX1_weightOfVotes 8 = .ok (.getfield 39, 3) := by decide +kernel
theorem dX1_weightOfVotes_11 : decode cX1_weightOfVotes 11 = .ok (.getfield 104, 3) := by decide +kernel
theorem dX1_weightOfVotes_14 : decode cX1_weightOfVotes 14 = .ok (.if_icmp .ge 33, 3) := by decide +kernel
theorem dX1_weightOfVotes_17 : decode cX1_weightOfVotes 17 = .ok (.aload_n 0, 1) := by decide +kernel
theorem dX1_weightOfVotes_18 : decode cX1_weightOfVotes 18 = .ok (.iload 4, 2) := by decide +kernel
theorem dX1_weightOfVotes_20 : decode cX1_weightOfVotes 20 = .ok (.iload_n 1, 1) := by decide +kernel
theorem dX1_weightOfVotes_21 : decode cX1_weightOfVotes 21 = .ok (.invokevirtual 230, 3) := by decide +kernel
theorem dX1_weightOfVotes_24 : decode cX1_weightOfVotes 24 = .ok (.iload_n 2, 1) := by decide +kernel
theorem dX1_weightOfVotes_25 : decode cX1_weightOfVotes 25 = .ok (.if_icmp .ne 16, 3) := by decide +kernel
theorem dX1_weightOfVotes_28 : decode cX1_weightOfVotes 28 = .ok (.iload_n 3, 1) := by decide +kernel
theorem dX1_weightOfVotes_29 : decode cX1_weightOfVotes 29 = .ok (.aload_n 0, 1) := by decide +kernel
theorem dX1_weightOfVotes_30 : decode cX1_weightOfVotes 30 = .ok (.getfield 39, 3) := by decide +kernel
theorem dX1_weightOfVotes_33 : decode cX1_weightOfVotes 33 = .ok (.getfield 175, 3) := by decide +kernel
theorem dX1_weightOfVotes_36 : decode cX1_weightOfVotes 36 = .ok (.iload 4, 2) := by decide +kernel
theorem dX1_weightOfVotes_38 : decode cX1_weightOfVotes 38 = .ok (.iaload, 1) := by decide +kernel
theorem dX1_weightOfVotes_39 : decode cX1_weightOfVotes 39 = .ok (.iadd, 1) := by decide +kernel
theorem dX1_weightOfVotes_40 : decode cX1_weightOfVotes 40 = .ok (.istore_n 3, 1) := by decide +kernel
theorem dX1_weightOfVotes_41 : decode cX1_weightOfVotes 41 = .ok (.iinc 4 1, 3) := by decide +kernel
theorem dX1_weightOfVotes_44 : decode cX1_weightOfVotes 44 = .ok (.goto (-39), 3) := by decide +kernel
theorem dX1_weightOfVotes_47 : decode cX1_weightOfVotes 47 = .ok (.iload_n 3, 1) := by decide +kernel
theorem dX1_weightOfVotes_48 : decode cX1_weightOfVotes 48 = .ok (.ireturn, 1) := by decide +kernel
theorem dX1_marginOf_0 : decode cX1_marginOf 0 = .ok (.aload_n 0, 1) := by decide +kernel
theorem dX1_marginOf_1 : decode cX1_marginOf 1 = .ok (.iload_n 1, 1) := by decide +kernel
theorem dX1_marginOf_2 : decode cX1_marginOf 2 = .ok (.iconst 1, 1) := by decide +kernel
theorem dX1_marginOf_3 : decode cX1_marginOf 3 = .ok (.invokevirtual 233, 3) := by decide +kernel
theorem dX1_marginOf_6 : decode cX1_marginOf 6 = .ok (.aload_n 0, 1) := by decide +kernel
theorem dX1_marginOf_7 : decode cX1_marginOf 7 = .ok (.iload_n 1, 1) := by decide +kernel
theorem dX1_marginOf_8 : decode cX1_marginOf 8 = .ok (.iconst (-1), 1) := by decide +kernel
theorem dX1_marginOf_9 : decode cX1_marginOf 9 = .ok (.invokevirtual 233, 3) := by decide +kernel
theorem dX1_marginOf_12 : decode cX1_marginOf 12 = .ok (.isub, 1) := by decide +kernel
theorem dX1_marginOf_13 : decode cX1_marginOf 13 = .ok (.ireturn, 1) := by decide +kernel
theorem dX1_lightestTurner_0 : decode cX1_lightestTurner 0 = .ok (.aload_n 0, 1) := by decide +kernel
theorem dX1_lightestTurner_1 : decode cX1_lightestTurner 1 = .ok (.iload_n 1, 1) := by decide +kernel
theorem dX1_lightestTurner_2 : decode cX1_lightestTurner 2 = .ok (.invokevirtual 236, 3) := by decide +kernel
theorem dX1_lightestTurner_5 : decode cX1_lightestTurner 5 = .ok (.istore_n 2, 1) := by decide +kernel
theorem dX1_lightestTurner_6 : decode cX1_lightestTurner 6 = .ok (.iconst (-1), 1) := by decide +kernel
theorem dX1_lightestTurner_7 : decode cX1_lightestTurner 7 = .ok (.istore_n 3, 1) := by decide +kernel
theorem dX1_lightestTurner_8 : decode cX1_lightestTurner 8 = .ok (.iconst 0, 1) := by decide +kernel
theorem dX1_lightestTurner_9 : decode cX1_lightestTurner 9 = .ok (.istore 4, 2) := by decide +kernel
theorem dX1_lightestTurner_11 : decode cX1_lightestTurner 11 = .ok (.iconst 0, 1) := by decide +kernel
theorem dX1_lightestTurner_12 : decode cX1_lightestTurner 12 = .ok (.istore 5, 2) := by decide +kernel
theorem dX1_lightestTurner_14 : decode cX1_lightestTurner 14 = .ok (.iload 5, 2) := by decide +kernel
theorem dX1_lightestTurner_16 : decode cX1_lightestTurner 16 = .ok (.aload_n 0, 1) := by decide +kernel
theorem dX1_lightestTurner_17 : decode cX1_lightestTurner 17 = .ok (.getfield 39, 3) := by decide +kernel
theorem dX1_lightestTurner_20 : decode cX1_lightestTurner 20 = .ok (.getfield 104, 3) := by decide +kernel
theorem dX1_lightestTurner_23 : decode cX1_lightestTurner 23 = .ok (.if_icmp .ge 94, 3) := by decide +kernel
theorem dX1_lightestTurner_26 : decode cX1_lightestTurner 26 = .ok (.aload_n 0, 1) := by decide +kernel
theorem dX1_lightestTurner_27 : decode cX1_lightestTurner 27 = .ok (.iload 5, 2) := by decide +kernel
theorem dX1_lightestTurner_29 : decode cX1_lightestTurner 29 = .ok (.iload_n 1, 1) := by decide +kernel
theorem dX1_lightestTurner_30 : decode cX1_lightestTurner 30 = .ok (.invokevirtual 230, 3) := by decide +kernel
theorem dX1_lightestTurner_33 : decode cX1_lightestTurner 33 = .ok (.istore 6, 2) := by decide +kernel
theorem dX1_lightestTurner_35 : decode cX1_lightestTurner 35 = .ok (.aload_n 0, 1) := by decide +kernel
theorem dX1_lightestTurner_36 : decode cX1_lightestTurner 36 = .ok (.getfield 39, 3) := by decide +kernel
theorem dX1_lightestTurner_39 : decode cX1_lightestTurner 39 = .ok (.getfield 175, 3) := by decide +kernel
theorem dX1_lightestTurner_42 : decode cX1_lightestTurner 42 = .ok (.iload 5, 2) := by decide +kernel
theorem dX1_lightestTurner_44 : decode cX1_lightestTurner 44 = .ok (.iaload, 1) := by decide +kernel
theorem dX1_lightestTurner_45 : decode cX1_lightestTurner 45 = .ok (.istore 7, 2) := by decide +kernel
theorem dX1_lightestTurner_47 : decode cX1_lightestTurner 47 = .ok (.iload_n 2, 1) := by decide +kernel
theorem dX1_lightestTurner_48 : decode cX1_lightestTurner 48 = .ok (.iconst 2, 1) := by decide +kernel
theorem dX1_lightestTurner_49 : decode cX1_lightestTurner 49 = .ok (.iload 6, 2) := by decide +kernel
theorem dX1_lightestTurner_51 : decode cX1_lightestTurner 51 = .ok (.imul, 1) := by decide +kernel
theorem dX1_lightestTurner_52 : decode cX1_lightestTurner 52 = .ok (.iload 7, 2) := by decide +kernel
theorem dX1_lightestTurner_54 : decode cX1_lightestTurner 54 = .ok (.imul, 1) := by decide +kernel
theorem dX1_lightestTurner_55 : decode cX1_lightestTurner 55 = .ok (.isub, 1) := by decide +kernel
theorem dX1_lightestTurner_56 : decode cX1_lightestTurner 56 = .ok (.istore 8, 2) := by decide +kernel
theorem dX1_lightestTurner_58 : decode cX1_lightestTurner 58 = .ok (.iload 8, 2) := by decide +kernel
theorem dX1_lightestTurner_60 : decode cX1_lightestTurner 60 = .ok (.ifCond .le 7, 3) := by decide +kernel
theorem dX1_lightestTurner_63 : decode cX1_lightestTurner 63 = .ok (.iconst 1, 1) := by decide +kernel
theorem dX1_lightestTurner_64 : decode cX1_lightestTurner 64 = .ok (.goto 4, 3) := by decide +kernel
theorem dX1_lightestTurner_67 : decode cX1_lightestTurner 67 = .ok (.iconst 0, 1) := by decide +kernel
theorem dX1_lightestTurner_68 : decode cX1_lightestTurner 68 = .ok (.iload_n 2, 1) := by decide +kernel
theorem dX1_lightestTurner_69 : decode cX1_lightestTurner 69 = .ok (.ifCond .le 7, 3) := by decide +kernel
theorem dX1_lightestTurner_72 : decode cX1_lightestTurner 72 = .ok (.iconst 1, 1) := by decide +kernel
theorem dX1_lightestTurner_73 : decode cX1_lightestTurner 73 = .ok (.goto 4, 3) := by decide +kernel
theorem dX1_lightestTurner_76 : decode cX1_lightestTurner 76 = .ok (.iconst 0, 1) := by decide +kernel
theorem dX1_lightestTurner_77 : decode cX1_lightestTurner 77 = .ok (.if_icmp .eq 7, 3) := by decide +kernel
theorem dX1_lightestTurner_80 : decode cX1_lightestTurner 80 = .ok (.iconst 1, 1) := by decide +kernel
theorem dX1_lightestTurner_81 : decode cX1_lightestTurner 81 = .ok (.goto 4, 3) := by decide +kernel
theorem dX1_lightestTurner_84 : decode cX1_lightestTurner 84 = .ok (.iconst 0, 1) := by decide +kernel
theorem dX1_lightestTurner_85 : decode cX1_lightestTurner 85 = .ok (.istore 9, 2) := by decide +kernel
theorem dX1_lightestTurner_87 : decode cX1_lightestTurner 87 = .ok (.iload 9, 2) := by decide +kernel
theorem dX1_lightestTurner_89 : decode cX1_lightestTurner 89 = .ok (.ifCond .eq 22, 3) := by decide +kernel
theorem dX1_lightestTurner_92 : decode cX1_lightestTurner 92 = .ok (.iload_n 3, 1) := by decide +kernel
theorem dX1_lightestTurner_93 : decode cX1_lightestTurner 93 = .ok (.iconst (-1), 1) := by decide +kernel
theorem dX1_lightestTurner_94 : decode cX1_lightestTurner 94 = .ok (.if_icmp .eq 10, 3) := by decide +kernel
theorem dX1_lightestTurner_97 : decode cX1_lightestTurner 97 = .ok (.iload 7, 2) := by decide +kernel
theorem dX1_lightestTurner_99 : decode cX1_lightestTurner 99 = .ok (.iload 4, 2) := by decide +kernel
theorem dX1_lightestTurner_101 : decode cX1_lightestTurner 101 = .ok (.if_icmp .ge 10, 3) := by decide +kernel
theorem dX1_lightestTurner_104 : decode cX1_lightestTurner 104 = .ok (.iload 5, 2) := by decide +kernel
theorem dX1_lightestTurner_106 : decode cX1_lightestTurner 106 = .ok (.istore_n 3, 1) := by decide +kernel
theorem dX1_lightestTurner_107 : decode cX1_lightestTurner 107 = .ok (.iload 7, 2) := by decide +kernel
theorem dX1_lightestTurner_109 : decode cX1_lightestTurner 109 = .ok (.istore 4, 2) := by decide +kernel
theorem dX1_lightestTurner_111 : decode cX1_lightestTurner 111 = .ok (.iinc 5 1, 3) := by decide +kernel
theorem dX1_lightestTurner_114 : decode cX1_lightestTurner 114 = .ok (.goto (-100), 3) := by decide +kernel
theorem dX1_lightestTurner_117 : decode cX1_lightestTurner 117 = .ok (.iload_n 3, 1) := by decide +kernel
theorem dX1_lightestTurner_118 : decode cX1_lightestTurner 118 = .ok (.ireturn, 1) := by decide +kernel
theorem dX1_obstacleTo_0 : decode cX1_obstacleTo 0 = .ok (.aload_n 0, 1) := by decide +kernel
theorem dX1_obstacleTo_1 : decode cX1_obstacleTo 1 = .ok (.getfield 21, 3) := by decide +kernel
theorem dX1_obstacleTo_4 : decode cX1_obstacleTo 4 = .ok (.iload_n 1, 1) := by decide +kernel
theorem dX1_obstacleTo_5 : decode cX1_obstacleTo 5 = .ok (.invokevirtual 123, 3) := by decide +kernel
theorem dX1_obstacleTo_8 : decode cX1_obstacleTo 8 = .ok (.ifCond .ne 5, 3) := by decide +kernel
theorem dX1_obstacleTo_11 : decode cX1_obstacleTo 11 = .ok (.iconst 1, 1) := by decide +kernel
theorem dX1_obstacleTo_12 : decode cX1_obstacleTo 12 = .ok (.ireturn, 1) := by decide +kernel
theorem dX1_obstacleTo_13 : decode cX1_obstacleTo 13 = .ok (.aload_n 0, 1) := by decide +kernel
theorem dX1_obstacleTo_14 : decode cX1_obstacleTo 14 = .ok (.getfield 21, 3) := by decide +kernel
theorem dX1_obstacleTo_17 : decode cX1_obstacleTo 17 = .ok (.getfield 98, 3) := by decide +kernel
theorem dX1_obstacleTo_20 : decode cX1_obstacleTo 20 = .ok (.iload_n 1, 1) := by decide +kernel
theorem dX1_obstacleTo_21 : decode cX1_obstacleTo 21 = .ok (.iaload, 1) := by decide +kernel
theorem dX1_obstacleTo_22 : decode cX1_obstacleTo 22 = .ok (.aload_n 0, 1) := by decide +kernel
theorem dX1_obstacleTo_23 : decode cX1_obstacleTo 23 = .ok (.getfield 39, 3) := by decide +kernel
theorem dX1_obstacleTo_26 : decode cX1_obstacleTo 26 = .ok (.getfield 239, 3) := by decide +kernel
theorem dX1_obstacleTo_29 : decode cX1_obstacleTo 29 = .ok (.if_icmp .ge 5, 3) := by decide +kernel
theorem dX1_obstacleTo_32 : decode cX1_obstacleTo 32 = .ok (.iconst 2, 1) := by decide +kernel
theorem dX1_obstacleTo_33 : decode cX1_obstacleTo 33 = .ok (.ireturn, 1) := by decide +kernel
theorem dX1_obstacleTo_34 : decode cX1_obstacleTo 34 = .ok (.aload_n 0, 1) := by decide +kernel
theorem dX1_obstacleTo_35 : decode cX1_obstacleTo 35 = .ok (.getfield 35, 3) := by decide +kernel
theorem dX1_obstacleTo_38 : decode cX1_obstacleTo 38 = .ok (.iload_n 1, 1) := by decide +kernel
theorem dX1_obstacleTo_39 : decode cX1_obstacleTo 39 = .ok (.invokevirtual 126, 3) := by decide +kernel
theorem dX1_obstacleTo_42 : decode cX1_obstacleTo 42 = .ok (.ifCond .eq 5, 3) := by decide +kernel
theorem dX1_obstacleTo_45 : decode cX1_obstacleTo 45 = .ok (.iconst 3, 1) := by decide +kernel
theorem dX1_obstacleTo_46 : decode cX1_obstacleTo 46 = .ok (.ireturn, 1) := by decide +kernel
theorem dX1_obstacleTo_47 : decode cX1_obstacleTo 47 = .ok (.aload_n 0, 1) := by decide +kernel
theorem dX1_obstacleTo_48 : decode cX1_obstacleTo 48 = .ok (.iload_n 1, 1) := by decide +kernel
theorem dX1_obstacleTo_49 : decode cX1_obstacleTo 49 = .ok (.invokevirtual 242, 3) := by decide +kernel
theorem dX1_obstacleTo_52 : decode cX1_obstacleTo 52 = .ok (.aload_n 0, 1) := by decide +kernel
theorem dX1_obstacleTo_53 : decode cX1_obstacleTo 53 = .ok (.getfield 39, 3) := by decide +kernel
theorem dX1_obstacleTo_56 : decode cX1_obstacleTo 56 = .ok (.getfield 245, 3) := by decide +kernel
theorem dX1_obstacleTo_59 : decode cX1_obstacleTo 59 = .ok (.if_icmp .ge 7, 3) := by decide +kernel
theorem dX1_obstacleTo_62 : decode cX1_obstacleTo 62 = .ok (.iconst 4, 1) := by decide +kernel
theorem dX1_obstacleTo_63 : decode cX1_obstacleTo 63 = .ok (.goto 4, 3) := by decide +kernel
theorem dX1_obstacleTo_66 : decode cX1_obstacleTo 66 = .ok (.iconst 0, 1) := by decide +kernel
theorem dX1_obstacleTo_67 : decode cX1_obstacleTo 67 = .ok (.ireturn, 1) := by decide +kernel
theorem dX1_refusalOfVote_0 : decode cX1_refusalOfVote 0 = .ok (.aload_n 0, 1) := by decide +kernel
theorem dX1_refusalOfVote_1 : decode cX1_refusalOfVote 1 = .ok (.getfield 21, 3) := by decide +kernel
theorem dX1_refusalOfVote_4 : decode cX1_refusalOfVote 4 = .ok (.iload_n 1, 1) := by decide +kernel
theorem dX1_refusalOfVote_5 : decode cX1_refusalOfVote 5 = .ok (.invokevirtual 120, 3) := by decide +kernel
theorem dX1_refusalOfVote_8 : decode cX1_refusalOfVote 8 = .ok (.ifCond .ne 5, 3) := by decide +kernel
theorem dX1_refusalOfVote_11 : decode cX1_refusalOfVote 11 = .ok (.iconst 1, 1) := by decide +kernel
theorem dX1_refusalOfVote_12 : decode cX1_refusalOfVote 12 = .ok (.ireturn, 1) := by decide +kernel
theorem dX1_refusalOfVote_13 : decode cX1_refusalOfVote 13 = .ok (.aload_n 0, 1) := by decide +kernel
theorem dX1_refusalOfVote_14 : decode cX1_refusalOfVote 14 = .ok (.iload_n 1, 1) := by decide +kernel
theorem dX1_refusalOfVote_15 : decode cX1_refusalOfVote 15 = .ok (.invokevirtual 248, 3) := by decide +kernel
theorem dX1_refusalOfVote_18 : decode cX1_refusalOfVote 18 = .ok (.ifCond .ne 7, 3) := by decide +kernel
theorem dX1_refusalOfVote_21 : decode cX1_refusalOfVote 21 = .ok (.iconst 0, 1) := by decide +kernel
theorem dX1_refusalOfVote_22 : decode cX1_refusalOfVote 22 = .ok (.goto 4, 3) := by decide +kernel
theorem dX1_refusalOfVote_25 : decode cX1_refusalOfVote 25 = .ok (.iconst 3, 1) := by decide +kernel
theorem dX1_refusalOfVote_26 : decode cX1_refusalOfVote 26 = .ok (.ireturn, 1) := by decide +kernel
theorem dX1_holdVote_0 : decode cX1_holdVote 0 = .ok (.aload_n 0, 1) := by decide +kernel
theorem dX1_holdVote_1 : decode cX1_holdVote 1 = .ok (.iload_n 1, 1) := by decide +kernel
theorem dX1_holdVote_2 : decode cX1_holdVote 2 = .ok (.invokevirtual 236, 3) := by decide +kernel
theorem dX1_holdVote_5 : decode cX1_holdVote 5 = .ok (.ifCond .le 7, 3) := by decide +kernel
theorem dX1_holdVote_8 : decode cX1_holdVote 8 = .ok (.iconst 1, 1) := by decide +kernel
theorem dX1_holdVote_9 : decode cX1_holdVote 9 = .ok (.goto 4, 3) := by decide +kernel
theorem dX1_holdVote_12 : decode cX1_holdVote 12 = .ok (.iconst 0, 1) := by decide +kernel
theorem dX1_holdVote_13 : decode cX1_holdVote 13 = .ok (.istore_n 2, 1) := by decide +kernel
theorem dX1_holdVote_14 : decode cX1_holdVote 14 = .ok (.iload_n 2, 1) := by decide +kernel
theorem dX1_holdVote_15 : decode cX1_holdVote 15 = .ok (.ifCond .eq 7, 3) := by decide +kernel
theorem dX1_holdVote_18 : decode cX1_holdVote 18 = .ok (.iconst 1, 1) := by decide +kernel
theorem dX1_holdVote_19 : decode cX1_holdVote 19 = .ok (.goto 4, 3) := by decide +kernel
theorem dX1_holdVote_22 : decode cX1_holdVote 22 = .ok (.iconst (-1), 1) := by decide +kernel
theorem dX1_holdVote_23 : decode cX1_holdVote 23 = .ok (.istore_n 3, 1) := by decide +kernel
theorem dX1_holdVote_24 : decode cX1_holdVote 24 = .ok (.iconst 0, 1) := by decide +kernel
theorem dX1_holdVote_25 : decode cX1_holdVote 25 = .ok (.istore 4, 2) := by decide +kernel
theorem dX1_holdVote_27 : decode cX1_holdVote 27 = .ok (.iload 4, 2) := by decide +kernel
theorem dX1_holdVote_29 : decode cX1_holdVote 29 = .ok (.aload_n 0, 1) := by decide +kernel
theorem dX1_holdVote_30 : decode cX1_holdVote 30 = .ok (.getfield 39, 3) := by decide +kernel
theorem dX1_holdVote_33 : decode cX1_holdVote 33 = .ok (.getfield 104, 3) := by decide +kernel
theorem dX1_holdVote_36 : decode cX1_holdVote 36 = .ok (.if_icmp .ge 80, 3) := by decide +kernel
theorem dX1_holdVote_39 : decode cX1_holdVote 39 = .ok (.aload_n 0, 1) := by decide +kernel
theorem dX1_holdVote_40 : decode cX1_holdVote 40 = .ok (.iload 4, 2) := by decide +kernel
theorem dX1_holdVote_42 : decode cX1_holdVote 42 = .ok (.iload_n 1, 1) := by decide +kernel
theorem dX1_holdVote_43 : decode cX1_holdVote 43 = .ok (.invokevirtual 230, 3) := by decide +kernel
theorem dX1_holdVote_46 : decode cX1_holdVote 46 = .ok (.istore 5, 2) := by decide +kernel
theorem dX1_holdVote_48 : decode cX1_holdVote 48 = .ok (.iload 5, 2) := by decide +kernel
theorem dX1_holdVote_50 : decode cX1_holdVote 50 = .ok (.ifCond .eq 17, 3) := by decide +kernel
theorem dX1_holdVote_53 : decode cX1_holdVote 53 = .ok (.aload_n 0, 1) := by decide +kernel
theorem dX1_holdVote_54 : decode cX1_holdVote 54 = .ok (.getfield 12, 3) := by decide +kernel
theorem dX1_holdVote_57 : decode cX1_holdVote 57 = .ok (.getfield 227, 3) := by decide +kernel
theorem dX1_holdVote_60 : decode cX1_holdVote 60 = .ok (.iload 4, 2) := by decide +kernel
theorem dX1_holdVote_62 : decode cX1_holdVote 62 = .ok (.dup2, 1) := by decide +kernel
theorem dX1_holdVote_63 : decode cX1_holdVote 63 = .ok (.iaload, 1) := by decide +kernel
theorem dX1_holdVote_64 : decode cX1_holdVote 64 = .ok (.iconst 1, 1) := by decide +kernel
theorem dX1_holdVote_65 : decode cX1_holdVote 65 = .ok (.isub, 1) := by decide +kernel
theorem dX1_holdVote_66 : decode cX1_holdVote 66 = .ok (.iastore, 1) := by decide +kernel
theorem dX1_holdVote_67 : decode cX1_holdVote 67 = .ok (.iload 5, 2) := by decide +kernel
theorem dX1_holdVote_69 : decode cX1_holdVote 69 = .ok (.iload_n 3, 1) := by decide +kernel
theorem dX1_holdVote_70 : decode cX1_holdVote 70 = .ok (.if_icmp .ne 40, 3) := by decide +kernel
theorem dX1_holdVote_73 : decode cX1_holdVote 73 = .ok (.aload_n 0, 1) := by decide +kernel
theorem dX1_holdVote_74 : decode cX1_holdVote 74 = .ok (.getfield 12, 3) := by decide +kernel
theorem dX1_holdVote_77 : decode cX1_holdVote 77 = .ok (.getfield 251, 3) := by decide +kernel
theorem dX1_holdVote_80 : decode cX1_holdVote 80 = .ok (.iload 4, 2) := by decide +kernel
theorem dX1_holdVote_82 : decode cX1_holdVote 82 = .ok (.iaload, 1) := by decide +kernel
theorem dX1_holdVote_83 : decode cX1_holdVote 83 = .ok (.ifCond .le 27, 3) := by decide +kernel
theorem dX1_holdVote_86 : decode cX1_holdVote 86 = .ok (.aload_n 0, 1) := by decide +kernel
theorem dX1_holdVote_87 : decode cX1_holdVote 87 = .ok (.getfield 12, 3) := by decide +kernel
theorem dX1_holdVote_90 : decode cX1_holdVote 90 = .ok (.getfield 251, 3) := by decide +kernel
theorem dX1_holdVote_93 : decode cX1_holdVote 93 = .ok (.iload 4, 2) := by decide +kernel
theorem dX1_holdVote_95 : decode cX1_holdVote 95 = .ok (.dup2, 1) := by decide +kernel
theorem dX1_holdVote_96 : decode cX1_holdVote 96 = .ok (.iaload, 1) := by decide +kernel
theorem dX1_holdVote_97 : decode cX1_holdVote 97 = .ok (.iconst 1, 1) := by decide +kernel
theorem dX1_holdVote_98 : decode cX1_holdVote 98 = .ok (.isub, 1) := by decide +kernel
theorem dX1_holdVote_99 : decode cX1_holdVote 99 = .ok (.iastore, 1) := by decide +kernel
theorem dX1_holdVote_100 : decode cX1_holdVote 100 = .ok (.aload_n 0, 1) := by decide +kernel
theorem dX1_holdVote_101 : decode cX1_holdVote 101 = .ok (.dup, 1) := by decide +kernel
theorem dX1_holdVote_102 : decode cX1_holdVote 102 = .ok (.getfield 60, 3) := by decide +kernel
theorem dX1_holdVote_105 : decode cX1_holdVote 105 = .ok (.iconst 1, 1) := by decide +kernel
theorem dX1_holdVote_106 : decode cX1_holdVote 106 = .ok (.iadd, 1) := by decide +kernel
theorem dX1_holdVote_107 : decode cX1_holdVote 107 = .ok (.putfield 60, 3) := by decide +kernel
theorem dX1_holdVote_110 : decode cX1_holdVote 110 = .ok (.iinc 4 1, 3) := by decide +kernel
theorem dX1_holdVote_113 : decode cX1_holdVote 113 = .ok (.goto (-86), 3) := by decide +kernel
theorem dX1_holdVote_116 : decode cX1_holdVote 116 = .ok (.aload_n 0, 1) := by decide +kernel
theorem dX1_holdVote_117 : decode cX1_holdVote 117 = .ok (.iload_n 1, 1) := by decide +kernel
theorem dX1_holdVote_118 : decode cX1_holdVote 118 = .ok (.iload_n 2, 1) := by decide +kernel
theorem dX1_holdVote_119 : decode cX1_holdVote 119 = .ok (.ifCond .eq 7, 3) := by decide +kernel
theorem dX1_holdVote_122 : decode cX1_holdVote 122 = .ok (.iconst 1, 1) := by decide +kernel
theorem dX1_holdVote_123 : decode cX1_holdVote 123 = .ok (.goto 4, 3) := by decide +kernel
theorem dX1_holdVote_126 : decode cX1_holdVote 126 = .ok (.iconst 2, 1) := by decide +kernel
theorem dX1_holdVote_127 : decode cX1_holdVote 127 = .ok (.invokevirtual 254, 3) := by decide +kernel
theorem dX1_holdVote_130 : decode cX1_holdVote 130 = .ok (.pop, 1) := by decide +kernel
theorem dX1_holdVote_131 : decode cX1_holdVote 131 = .ok (.aload_n 0, 1) := by decide +kernel
theorem dX1_holdVote_132 : decode cX1_holdVote 132 = .ok (.dup, 1) := by decide +kernel
theorem dX1_holdVote_133 : decode cX1_holdVote 133 = .ok (.getfield 63, 3) := by decide +kernel
theorem dX1_holdVote_136 : decode cX1_holdVote 136 = .ok (.iconst 1, 1) := by decide +kernel
theorem dX1_holdVote_137 : decode cX1_holdVote 137 = .ok (.iadd, 1) := by decide +kernel
theorem dX1_holdVote_138 : decode cX1_holdVote 138 = .ok (.putfield 63, 3) := by decide +kernel
theorem dX1_holdVote_141 : decode cX1_holdVote 141 = .ok (.iload_n 2, 1) := by decide +kernel
theorem dX1_holdVote_142 : decode cX1_holdVote 142 = .ok (.ireturn, 1) := by decide +kernel
theorem dX1_refusalOfSharpening_0 : decode cX1_refusalOfSharpening 0 = .ok (.aload_n 0, 1) := by decide +kernel
theorem dX1_refusalOfSharpening_1 : decode cX1_refusalOfSharpening 1 = .ok (.getfield 39, 3) := by decide +kernel
theorem dX1_refusalOfSharpening_4 : decode cX1_refusalOfSharpening 4 = .ok (.iload_n 1, 1) := by decide +kernel
theorem dX1_refusalOfSharpening_5 : decode cX1_refusalOfSharpening 5 = .ok (.invokevirtual 85, 3) := by decide +kernel
theorem dX1_refusalOfSharpening_8 : decode cX1_refusalOfSharpening 8 = .ok (.ifCond .ne 5, 3) := by decide +kernel
theorem dX1_refusalOfSharpening_11 : decode cX1_refusalOfSharpening 11 = .ok (.iconst 1, 1) := by decide +kernel
theorem dX1_refusalOfSharpening_12 : decode cX1_refusalOfSharpening 12 = .ok (.ireturn, 1) := by decide +kernel
theorem dX1_refusalOfSharpening_13 : decode cX1_refusalOfSharpening 13 = .ok (.aload_n 0, 1) := by decide +kernel
theorem dX1_refusalOfSharpening_14 : decode cX1_refusalOfSharpening 14 = .ok (.getfield 12, 3) := by decide +kernel
theorem dX1_refusalOfSharpening_17 : decode cX1_refusalOfSharpening 17 = .ok (.getfield 227, 3) := by decide +kernel
theorem dX1_refusalOfSharpening_20 : decode cX1_refusalOfSharpening 20 = .ok (.iload_n 1, 1) := by decide +kernel
theorem dX1_refusalOfSharpening_21 : decode cX1_refusalOfSharpening 21 = .ok (.iaload, 1) := by decide +kernel
theorem dX1_refusalOfSharpening_22 : decode cX1_refusalOfSharpening 22 = .ok (.iconst 5, 1) := by decide +kernel
theorem dX1_refusalOfSharpening_23 : decode cX1_refusalOfSharpening 23 = .ok (.if_icmp .ne 7, 3) := by decide +kernel
theorem dX1_refusalOfSharpening_26 : decode cX1_refusalOfSharpening 26 = .ok (.iconst 1, 1) := by decide +kernel
theorem dX1_refusalOfSharpening_27 : decode cX1_refusalOfSharpening 27 = .ok (.goto 4, 3) := by decide +kernel
theorem dX1_refusalOfSharpening_30 : decode cX1_refusalOfSharpening 30 = .ok (.iconst 0, 1) := by decide +kernel
theorem dX1_refusalOfSharpening_31 : decode cX1_refusalOfSharpening 31 = .ok (.istore_n 2, 1) := by decide +kernel
theorem dX1_refusalOfSharpening_32 : decode cX1_refusalOfSharpening 32 = .ok (.iload_n 2, 1) := by decide +kernel
theorem dX1_refusalOfSharpening_33 : decode cX1_refusalOfSharpening 33 = .ok (.ifCond .ne 16, 3) := by decide +kernel
theorem dX1_refusalOfSharpening_36 : decode cX1_refusalOfSharpening 36 = .ok (.aload_n 0, 1) := by decide +kernel
theorem dX1_refusalOfSharpening_37 : decode cX1_refusalOfSharpening 37 = .ok (.getfield 12, 3) := by decide +kernel
theorem dX1_refusalOfSharpening_40 : decode cX1_refusalOfSharpening 40 = .ok (.getfield 251, 3) := by decide +kernel
theorem dX1_refusalOfSharpening_43 : decode cX1_refusalOfSharpening 43 = .ok (.iload_n 1, 1) := by decide +kernel
theorem dX1_refusalOfSharpening_44 : decode cX1_refusalOfSharpening 44 = .ok (.iaload, 1) := by decide +kernel
theorem dX1_refusalOfSharpening_45 : decode cX1_refusalOfSharpening 45 = .ok (.iconst 2, 1) := by decide +kernel
theorem dX1_refusalOfSharpening_46 : decode cX1_refusalOfSharpening 46 = .ok (.if_icmp .ge 7, 3) := by decide +kernel
theorem dX1_refusalOfSharpening_49 : decode cX1_refusalOfSharpening 49 = .ok (.iconst 3, 1) := by decide +kernel
theorem dX1_refusalOfSharpening_50 : decode cX1_refusalOfSharpening 50 = .ok (.goto 4, 3) := by decide +kernel
theorem dX1_refusalOfSharpening_53 : decode cX1_refusalOfSharpening 53 = .ok (.iconst 0, 1) := by decide +kernel
theorem dX1_refusalOfSharpening_54 : decode cX1_refusalOfSharpening 54 = .ok (.ireturn, 1) := by decide +kernel
theorem dX1_sharpenRazor_0 : decode cX1_sharpenRazor 0 = .ok (.aload_n 0, 1) := by decide +kernel
theorem dX1_sharpenRazor_1 : decode cX1_sharpenRazor 1 = .ok (.getfield 12, 3) := by decide +kernel
theorem dX1_sharpenRazor_4 : decode cX1_sharpenRazor 4 = .ok (.getfield 251, 3) := by decide +kernel
theorem dX1_sharpenRazor_7 : decode cX1_sharpenRazor 7 = .ok (.iload_n 1, 1) := by decide +kernel
theorem dX1_sharpenRazor_8 : decode cX1_sharpenRazor 8 = .ok (.dup2, 1) := by decide +kernel
theorem dX1_sharpenRazor_9 : decode cX1_sharpenRazor 9 = .ok (.iaload, 1) := by decide +kernel
theorem dX1_sharpenRazor_10 : decode cX1_sharpenRazor 10 = .ok (.iconst 2, 1) := by decide +kernel
theorem dX1_sharpenRazor_11 : decode cX1_sharpenRazor 11 = .ok (.isub, 1) := by decide +kernel
theorem dX1_sharpenRazor_12 : decode cX1_sharpenRazor 12 = .ok (.iastore, 1) := by decide +kernel
theorem dX1_sharpenRazor_13 : decode cX1_sharpenRazor 13 = .ok (.aload_n 0, 1) := by decide +kernel
theorem dX1_sharpenRazor_14 : decode cX1_sharpenRazor 14 = .ok (.getfield 12, 3) := by decide +kernel
theorem dX1_sharpenRazor_17 : decode cX1_sharpenRazor 17 = .ok (.getfield 227, 3) := by decide +kernel
theorem dX1_sharpenRazor_20 : decode cX1_sharpenRazor 20 = .ok (.iload_n 1, 1) := by decide +kernel
theorem dX1_sharpenRazor_21 : decode cX1_sharpenRazor 21 = .ok (.iconst 5, 1) := by decide +kernel
theorem dX1_sharpenRazor_22 : decode cX1_sharpenRazor 22 = .ok (.iastore, 1) := by decide +kernel
theorem dX1_sharpenRazor_23 : decode cX1_sharpenRazor 23 = .ok (.aload_n 0, 1) := by decide +kernel
theorem dX1_sharpenRazor_24 : decode cX1_sharpenRazor 24 = .ok (.dup, 1) := by decide +kernel
theorem dX1_sharpenRazor_25 : decode cX1_sharpenRazor 25 = .ok (.getfield 69, 3) := by decide +kernel
theorem dX1_sharpenRazor_28 : decode cX1_sharpenRazor 28 = .ok (.iconst 1, 1) := by decide +kernel
theorem dX1_sharpenRazor_29 : decode cX1_sharpenRazor 29 = .ok (.iadd, 1) := by decide +kernel
theorem dX1_sharpenRazor_30 : decode cX1_sharpenRazor 30 = .ok (.putfield 69, 3) := by decide +kernel
theorem dX1_sharpenRazor_33 : decode cX1_sharpenRazor 33 = .ok (.aload_n 0, 1) := by decide +kernel
theorem dX1_sharpenRazor_34 : decode cX1_sharpenRazor 34 = .ok (.getfield 12, 3) := by decide +kernel
theorem dX1_sharpenRazor_37 : decode cX1_sharpenRazor 37 = .ok (.getfield 251, 3) := by decide +kernel
theorem dX1_sharpenRazor_40 : decode cX1_sharpenRazor 40 = .ok (.iload_n 1, 1) := by decide +kernel
theorem dX1_sharpenRazor_41 : decode cX1_sharpenRazor 41 = .ok (.iaload, 1) := by decide +kernel
theorem dX1_sharpenRazor_42 : decode cX1_sharpenRazor 42 = .ok (.ireturn, 1) := by decide +kernel
theorem dX1_countContradictions_0 : decode cX1_countContradictions 0 = .ok (.aload_n 0, 1) := by decide +kernel
theorem dX1_countContradictions_1 : decode cX1_countContradictions 1 = .ok (.getfield 60, 3) := by decide +kernel
theorem dX1_countContradictions_4 : decode cX1_countContradictions 4 = .ok (.iconst 2, 1) := by decide +kernel
theorem dX1_countContradictions_5 : decode cX1_countContradictions 5 = .ok (.aload_n 0, 1) := by decide +kernel
theorem dX1_countContradictions_6 : decode cX1_countContradictions 6 = .ok (.getfield 69, 3) := by decide +kernel
theorem dX1_countContradictions_9 : decode cX1_countContradictions 9 = .ok (.imul, 1) := by decide +kernel
theorem dX1_countContradictions_10 : decode cX1_countContradictions 10 = .ok (.iadd, 1) := by decide +kernel
theorem dX1_countContradictions_11 : decode cX1_countContradictions 11 = .ok (.istore_n 1, 1) := by decide +kernel
theorem dX1_countContradictions_12 : decode cX1_countContradictions 12 = .ok (.iconst 0, 1) := by decide +kernel
theorem dX1_countContradictions_13 : decode cX1_countContradictions 13 = .ok (.istore_n 2, 1) := by decide +kernel
theorem dX1_countContradictions_14 : decode cX1_countContradictions 14 = .ok (.iconst 0, 1) := by decide +kernel
theorem dX1_countContradictions_15 : decode cX1_countContradictions 15 = .ok (.istore_n 3, 1) := by decide +kernel
theorem dX1_countContradictions_16 : decode cX1_countContradictions 16 = .ok (.iload_n 3, 1) := by decide +kernel
theorem dX1_countContradictions_17 : decode cX1_countContradictions 17 = .ok (.aload_n 0, 1) := by decide +kernel
theorem dX1_countContradictions_18 : decode cX1_countContradictions 18 = .ok (.getfield 39, 3) := by decide +kernel
theorem dX1_countContradictions_21 : decode cX1_countContradictions 21 = .ok (.getfield 104, 3) := by decide +kernel
theorem dX1_countContradictions_24 : decode cX1_countContradictions 24 = .ok (.if_icmp .ge 48, 3) := by decide +kernel
theorem dX1_countContradictions_27 : decode cX1_countContradictions 27 = .ok (.iload_n 1, 1) := by decide +kernel
theorem dX1_countContradictions_28 : decode cX1_countContradictions 28 = .ok (.aload_n 0, 1) := by decide +kernel
theorem dX1_countContradictions_29 : decode cX1_countContradictions 29 = .ok (.getfield 12, 3) := by decide +kernel
theorem dX1_countContradictions_32 : decode cX1_countContradictions 32 = .ok (.getfield 251, 3) := by decide +kernel
theorem dX1_countContradictions_35 : decode cX1_countContradictions 35 = .ok (.iload_n 3, 1) := by decide +kernel
theorem dX1_countContradictions_36 : decode cX1_countContradictions 36 = .ok (.iaload, 1) := by decide +kernel
theorem dX1_countContradictions_37 : decode cX1_countContradictions 37 = .ok (.iadd, 1) := by decide +kernel
theorem dX1_countContradictions_38 : decode cX1_countContradictions 38 = .ok (.istore_n 1, 1) := by decide +kernel
theorem dX1_countContradictions_39 : decode cX1_countContradictions 39 = .ok (.aload_n 0, 1) := by decide +kernel
theorem dX1_countContradictions_40 : decode cX1_countContradictions 40 = .ok (.getfield 28, 3) := by decide +kernel
theorem dX1_countContradictions_43 : decode cX1_countContradictions 43 = .ok (.iload_n 3, 1) := by decide +kernel
theorem dX1_countContradictions_44 : decode cX1_countContradictions 44 = .ok (.invokevirtual 132, 3) := by decide +kernel
theorem dX1_countContradictions_47 : decode cX1_countContradictions 47 = .ok (.iconst (-1), 1) := by decide +kernel
theorem dX1_countContradictions_48 : decode cX1_countContradictions 48 = .ok (.if_icmp .eq 18, 3) := by decide +kernel
theorem dX1_countContradictions_51 : decode cX1_countContradictions 51 = .ok (.aload_n 0, 1) := by decide +kernel
theorem dX1_countContradictions_52 : decode cX1_countContradictions 52 = .ok (.getfield 35, 3) := by decide +kernel
theorem dX1_countContradictions_55 : decode cX1_countContradictions 55 = .ok (.iload_n 3, 1) := by decide +kernel
theorem dX1_countContradictions_56 : decode cX1_countContradictions 56 = .ok (.invokevirtual 135, 3) := by decide +kernel
theorem dX1_countContradictions_59 : decode cX1_countContradictions 59 = .ok (.iconst (-1), 1) := by decide +kernel
theorem dX1_countContradictions_60 : decode cX1_countContradictions 60 = .ok (.if_icmp .eq 6, 3) := by decide +kernel
theorem dX1_countContradictions_63 : decode cX1_countContradictions 63 = .ok (.iinc 2 1, 3) := by decide +kernel
theorem dX1_countContradictions_66 : decode cX1_countContradictions 66 = .ok (.iinc 3 1, 3) := by decide +kernel
theorem dX1_countContradictions_69 : decode cX1_countContradictions 69 = .ok (.goto (-53), 3) := by decide +kernel
theorem dX1_countContradictions_72 : decode cX1_countContradictions 72 = .ok (.iconst 0, 1) := by decide +kernel
theorem dX1_countContradictions_73 : decode cX1_countContradictions 73 = .ok (.istore_n 3, 1) := by decide +kernel
theorem dX1_countContradictions_74 : decode cX1_countContradictions 74 = .ok (.iconst 0, 1) := by decide +kernel
theorem dX1_countContradictions_75 : decode cX1_countContradictions 75 = .ok (.istore 4, 2) := by decide +kernel
theorem dX1_countContradictions_77 : decode cX1_countContradictions 77 = .ok (.iload 4, 2) := by decide +kernel
theorem dX1_countContradictions_79 : decode cX1_countContradictions 79 = .ok (.aload_n 0, 1) := by decide +kernel
theorem dX1_countContradictions_80 : decode cX1_countContradictions 80 = .ok (.getfield 21, 3) := by decide +kernel
theorem dX1_countContradictions_83 : decode cX1_countContradictions 83 = .ok (.getfield 47, 3) := by decide +kernel
theorem dX1_countContradictions_86 : decode cX1_countContradictions 86 = .ok (.if_icmp .ge 40, 3) := by decide +kernel
theorem dX1_countContradictions_89 : decode cX1_countContradictions 89 = .ok (.aload_n 0, 1) := by decide +kernel
theorem dX1_countContradictions_90 : decode cX1_countContradictions 90 = .ok (.getfield 21, 3) := by decide +kernel
theorem dX1_countContradictions_93 : decode cX1_countContradictions 93 = .ok (.getfield 95, 3) := by decide +kernel
theorem dX1_countContradictions_96 : decode cX1_countContradictions 96 = .ok (.iload 4, 2) := by decide +kernel
theorem dX1_countContradictions_98 : decode cX1_countContradictions 98 = .ok (.iaload, 1) := by decide +kernel
theorem dX1_countContradictions_99 : decode cX1_countContradictions 99 = .ok (.iconst 1, 1) := by decide +kernel
theorem dX1_countContradictions_100 : decode cX1_countContradictions 100 = .ok (.if_icmp .eq 17, 3) := by decide +kernel
theorem dX1_countContradictions_103 : decode cX1_countContradictions 103 = .ok (.aload_n 0, 1) := by decide +kernel
theorem dX1_countContradictions_104 : decode cX1_countContradictions 104 = .ok (.getfield 21, 3) := by decide +kernel
theorem dX1_countContradictions_107 : decode cX1_countContradictions 107 = .ok (.getfield 95, 3) := by decide +kernel
theorem dX1_countContradictions_110 : decode cX1_countContradictions 110 = .ok (.iload 4, 2) := by decide +kernel
theorem dX1_countContradictions_112 : decode cX1_countContradictions 112 = .ok (.iaload, 1) := by decide +kernel
theorem dX1_countContradictions_113 : decode cX1_countContradictions 113 = .ok (.iconst 2, 1) := by decide +kernel
theorem dX1_countContradictions_114 : decode cX1_countContradictions 114 = .ok (.if_icmp .ne 6, 3) := by decide +kernel
theorem dX1_countContradictions_117 : decode cX1_countContradictions 117 = .ok (.iinc 3 1, 3) := by decide +kernel
theorem dX1_countContradictions_120 : decode cX1_countContradictions 120 = .ok (.iinc 4 1, 3) := by decide +kernel
theorem dX1_countContradictions_123 : decode cX1_countContradictions 123 = .ok (.goto (-46), 3) := by decide +kernel
theorem dX1_countContradictions_126 : decode cX1_countContradictions 126 = .ok (.iconst 0, 1) := by decide +kernel
theorem dX1_countContradictions_127 : decode cX1_countContradictions 127 = .ok (.istore 4, 2) := by decide +kernel
theorem dX1_countContradictions_129 : decode cX1_countContradictions 129 = .ok (.iconst 0, 1) := by decide +kernel
theorem dX1_countContradictions_130 : decode cX1_countContradictions 130 = .ok (.istore 5, 2) := by decide +kernel
theorem dX1_countContradictions_132 : decode cX1_countContradictions 132 = .ok (.iload 5, 2) := by decide +kernel
theorem dX1_countContradictions_134 : decode cX1_countContradictions 134 = .ok (.aload_n 0, 1) := by decide +kernel
theorem dX1_countContradictions_135 : decode cX1_countContradictions 135 = .ok (.getfield 28, 3) := by decide +kernel
theorem dX1_countContradictions_138 : decode cX1_countContradictions 138 = .ok (.getfield 51, 3) := by decide +kernel
theorem dX1_countContradictions_141 : decode cX1_countContradictions 141 = .ok (.if_icmp .ge 32, 3) := by decide +kernel
theorem dX1_countContradictions_144 : decode cX1_countContradictions 144 = .ok (.aload_n 0, 1) := by decide +kernel
theorem dX1_countContradictions_145 : decode cX1_countContradictions 145 = .ok (.getfield 21, 3) := by decide +kernel
theorem dX1_countContradictions_148 : decode cX1_countContradictions 148 = .ok (.aload_n 0, 1) := by decide +kernel
theorem dX1_countContradictions_149 : decode cX1_countContradictions 149 = .ok (.getfield 28, 3) := by decide +kernel
theorem dX1_countContradictions_152 : decode cX1_countContradictions 152 = .ok (.getfield 181, 3) := by decide +kernel
theorem dX1_countContradictions_155 : decode cX1_countContradictions 155 = .ok (.iload 5, 2) := by decide +kernel
theorem dX1_countContradictions_157 : decode cX1_countContradictions 157 = .ok (.iaload, 1) := by decide +kernel
theorem dX1_countContradictions_158 : decode cX1_countContradictions 158 = .ok (.invokevirtual 123, 3) := by decide +kernel
theorem dX1_countContradictions_161 : decode cX1_countContradictions 161 = .ok (.ifCond .ne 6, 3) := by decide +kernel
theorem dX1_countContradictions_164 : decode cX1_countContradictions 164 = .ok (.iinc 4 1, 3) := by decide +kernel
theorem dX1_countContradictions_167 : decode cX1_countContradictions 167 = .ok (.iinc 5 1, 3) := by decide +kernel
theorem dX1_countContradictions_170 : decode cX1_countContradictions 170 = .ok (.goto (-38), 3) := by decide +kernel
theorem dX1_countContradictions_173 : decode cX1_countContradictions 173 = .ok (.aload_n 0, 1) := by decide +kernel
theorem dX1_countContradictions_174 : decode cX1_countContradictions 174 = .ok (.getfield 39, 3) := by decide +kernel
theorem dX1_countContradictions_177 : decode cX1_countContradictions 177 = .ok (.invokevirtual 257, 3) := by decide +kernel
theorem dX1_countContradictions_180 : decode cX1_countContradictions 180 = .ok (.iload_n 1, 1) := by decide +kernel
theorem dX1_countContradictions_181 : decode cX1_countContradictions 181 = .ok (.isub, 1) := by decide +kernel
theorem dX1_countContradictions_182 : decode cX1_countContradictions 182 = .ok (.invokestatic 110, 3) := by decide +kernel
theorem dX1_countContradictions_185 : decode cX1_countContradictions 185 = .ok (.aload_n 0, 1) := by decide +kernel
theorem dX1_countContradictions_186 : decode cX1_countContradictions 186 = .ok (.getfield 63, 3) := by decide +kernel
theorem dX1_countContradictions_189 : decode cX1_countContradictions 189 = .ok (.iload_n 3, 1) := by decide +kernel
theorem dX1_countContradictions_190 : decode cX1_countContradictions 190 = .ok (.isub, 1) := by decide +kernel
theorem dX1_countContradictions_191 : decode cX1_countContradictions 191 = .ok (.invokestatic 110, 3) := by decide +kernel
theorem dX1_countContradictions_194 : decode cX1_countContradictions 194 = .ok (.iadd, 1) := by decide +kernel
theorem dX1_countContradictions_195 : decode cX1_countContradictions 195 = .ok (.iload_n 2, 1) := by decide +kernel
theorem dX1_countContradictions_196 : decode cX1_countContradictions 196 = .ok (.iadd, 1) := by decide +kernel
theorem dX1_countContradictions_197 : decode cX1_countContradictions 197 = .ok (.iload 4, 2) := by decide +kernel
theorem dX1_countContradictions_199 : decode cX1_countContradictions 199 = .ok (.iadd, 1) := by decide +kernel
theorem dX1_countContradictions_200 : decode cX1_countContradictions 200 = .ok (.ireturn, 1) := by decide +kernel
theorem dX2_init_0 : decode cX2_init 0 = .ok (.aload_n 0, 1) := by decide +kernel
theorem dX2_init_1 : decode cX2_init 1 = .ok (.invokespecial 3, 3) := by decide +kernel
theorem dX2_init_4 : decode cX2_init 4 = .ok (.aload_n 0, 1) := by decide +kernel
theorem dX2_init_5 : decode cX2_init 5 = .ok (.bipush 8, 2) := by decide +kernel
theorem dX2_init_7 : decode cX2_init 7 = .ok (.anewarray 9, 3) := by decide +kernel
theorem dX2_init_10 : decode cX2_init 10 = .ok (.putfield 11, 3) := by decide +kernel
theorem dX2_init_13 : decode cX2_init 13 = .ok (.iconst 0, 1) := by decide +kernel
theorem dX2_init_14 : decode cX2_init 14 = .ok (.istore_n 2, 1) := by decide +kernel
theorem dX2_init_15 : decode cX2_init 15 = .ok (.iload_n 2, 1) := by decide +kernel
theorem dX2_init_16 : decode cX2_init 16 = .ok (.bipush 8, 2) := by decide +kernel
theorem dX2_init_18 : decode cX2_init 18 = .ok (.if_icmp .ge 23, 3) := by decide +kernel
theorem dX2_init_21 : decode cX2_init 21 = .ok (.aload_n 0, 1) := by decide +kernel
theorem dX2_init_22 : decode cX2_init 22 = .ok (.getfield 11, 3) := by decide +kernel
theorem dX2_init_25 : decode cX2_init 25 = .ok (.iload_n 2, 1) := by decide +kernel
theorem dX2_init_26 : decode cX2_init 26 = .ok (.new 9, 3) := by decide +kernel
theorem dX2_init_29 : decode cX2_init 29 = .ok (.dup, 1) := by decide +kernel
theorem dX2_init_30 : decode cX2_init 30 = .ok (.aload_n 1, 1) := by decide +kernel
theorem dX2_init_31 : decode cX2_init 31 = .ok (.invokespecial 17, 3) := by decide +kernel
theorem dX2_init_34 : decode cX2_init 34 = .ok (.aastore, 1) := by decide +kernel
theorem dX2_init_35 : decode cX2_init 35 = .ok (.iinc 2 1, 3) := by decide +kernel
theorem dX2_init_38 : decode cX2_init 38 = .ok (.goto (-23), 3) := by decide +kernel
theorem dX2_init_41 : decode cX2_init 41 = .ok (.return_, 1) := by decide +kernel
theorem dX2_forget_0 : decode cX2_forget 0 = .ok (.aload_n 0, 1) := by decide +kernel
theorem dX2_forget_1 : decode cX2_forget 1 = .ok (.iconst 0, 1) := by decide +kernel
theorem dX2_forget_2 : decode cX2_forget 2 = .ok (.putfield 20, 3) := by decide +kernel
theorem dX2_forget_5 : decode cX2_forget 5 = .ok (.return_, 1) := by decide +kernel
theorem dX2_remember_0 : decode cX2_remember 0 = .ok (.aload_n 0, 1) := by decide +kernel
theorem dX2_remember_1 : decode cX2_remember 1 = .ok (.getfield 11, 3) := by decide +kernel
theorem dX2_remember_4 : decode cX2_remember 4 = .ok (.aload_n 0, 1) := by decide +kernel
theorem dX2_remember_5 : decode cX2_remember 5 = .ok (.getfield 24, 3) := by decide +kernel
theorem dX2_remember_8 : decode cX2_remember 8 = .ok (.aaload, 1) := by decide +kernel
theorem dX2_remember_9 : decode cX2_remember 9 = .ok (.aload_n 1, 1) := by decide +kernel
theorem dX2_remember_10 : decode cX2_remember 10 = .ok (.invokevirtual 27, 3) := by decide +kernel
theorem dX2_remember_13 : decode cX2_remember 13 = .ok (.aload_n 0, 1) := by decide +kernel
theorem dX2_remember_14 : decode cX2_remember 14 = .ok (.aload_n 0, 1) := by decide +kernel
theorem dX2_remember_15 : decode cX2_remember 15 = .ok (.getfield 24, 3) := by decide +kernel
theorem dX2_remember_18 : decode cX2_remember 18 = .ok (.bipush 7, 2) := by decide +kernel
theorem dX2_remember_20 : decode cX2_remember 20 = .ok (.if_icmp .ge 12, 3) := by decide +kernel
theorem dX2_remember_23 : decode cX2_remember 23 = .ok (.aload_n 0, 1) := by decide +kernel
theorem dX2_remember_24 : decode cX2_remember 24 = .ok (.getfield 24, 3) := by decide +kernel
theorem dX2_remember_27 : decode cX2_remember 27 = .ok (.iconst 1, 1) := by decide +kernel
theorem dX2_remember_28 : decode cX2_remember 28 = .ok (.iadd, 1) := by decide +kernel
theorem dX2_remember_29 : decode cX2_remember 29 = .ok (.goto 4, 3) := by decide +kernel
theorem dX2_remember_32 : decode cX2_remember 32 = .ok (.iconst 0, 1) := by decide +kernel
theorem dX2_remember_33 : decode cX2_remember 33 = .ok (.putfield 24, 3) := by decide +kernel
theorem dX2_remember_36 : decode cX2_remember 36 = .ok (.aload_n 0, 1) := by decide +kernel
theorem dX2_remember_37 : decode cX2_remember 37 = .ok (.aload_n 0, 1) := by decide +kernel
theorem dX2_remember_38 : decode cX2_remember 38 = .ok (.getfield 20, 3) := by decide +kernel
theorem dX2_remember_41 : decode cX2_remember 41 = .ok (.iconst 1, 1) := by decide +kernel
theorem dX2_remember_42 : decode cX2_remember 42 = .ok (.iadd, 1) := by decide +kernel
theorem dX2_remember_43 : decode cX2_remember 43 = .ok (.bipush 8, 2) := by decide +kernel
theorem dX2_remember_45 : decode cX2_remember 45 = .ok (.invokestatic 31, 3) := by decide +kernel
theorem dX2_remember_48 : decode cX2_remember 48 = .ok (.putfield 20, 3) := by decide +kernel
theorem dX2_remember_51 : decode cX2_remember 51 = .ok (.return_, 1) := by decide +kernel
theorem dX2_stepBack_0 : decode cX2_stepBack 0 = .ok (.aload_n 0, 1) := by decide +kernel
theorem dX2_stepBack_1 : decode cX2_stepBack 1 = .ok (.aload_n 0, 1) := by decide +kernel
theorem dX2_stepBack_2 : decode cX2_stepBack 2 = .ok (.getfield 24, 3) := by decide +kernel
theorem dX2_stepBack_5 : decode cX2_stepBack 5 = .ok (.ifCond .le 12, 3) := by decide +kernel
theorem dX2_stepBack_8 : decode cX2_stepBack 8 = .ok (.aload_n 0, 1) := by decide +kernel
theorem dX2_stepBack_9 : decode cX2_stepBack 9 = .ok (.getfield 24, 3) := by decide +kernel
theorem dX2_stepBack_12 : decode cX2_stepBack 12 = .ok (.iconst 1, 1) := by decide +kernel
theorem dX2_stepBack_13 : decode cX2_stepBack 13 = .ok (.isub, 1) := by decide +kernel
theorem dX2_stepBack_14 : decode cX2_stepBack 14 = .ok (.goto 5, 3) := by decide +kernel
theorem dX2_stepBack_17 : decode cX2_stepBack 17 = .ok (.bipush 7, 2) := by decide +kernel
theorem dX2_stepBack_19 : decode cX2_stepBack 19 = .ok (.putfield 24, 3) := by decide +kernel
theorem dX2_stepBack_22 : decode cX2_stepBack 22 = .ok (.aload_n 0, 1) := by decide +kernel
theorem dX2_stepBack_23 : decode cX2_stepBack 23 = .ok (.dup, 1) := by decide +kernel
theorem dX2_stepBack_24 : decode cX2_stepBack 24 = .ok (.getfield 20, 3) := by decide +kernel
theorem dX2_stepBack_27 : decode cX2_stepBack 27 = .ok (.iconst 1, 1) := by decide +kernel
theorem dX2_stepBack_28 : decode cX2_stepBack 28 = .ok (.isub, 1) := by decide +kernel
theorem dX2_stepBack_29 : decode cX2_stepBack 29 = .ok (.putfield 20, 3) := by decide +kernel
theorem dX2_stepBack_32 : decode cX2_stepBack 32 = .ok (.aload_n 1, 1) := by decide +kernel
theorem dX2_stepBack_33 : decode cX2_stepBack 33 = .ok (.aload_n 0, 1) := by decide +kernel
theorem dX2_stepBack_34 : decode cX2_stepBack 34 = .ok (.getfield 11, 3) := by decide +kernel
theorem dX2_stepBack_37 : decode cX2_stepBack 37 = .ok (.aload_n 0, 1) := by decide +kernel
theorem dX2_stepBack_38 : decode cX2_stepBack 38 = .ok (.getfield 24, 3) := by decide +kernel
theorem dX2_stepBack_41 : decode cX2_stepBack 41 = .ok (.aaload, 1) := by decide +kernel
theorem dX2_stepBack_42 : decode cX2_stepBack 42 = .ok (.invokevirtual 27, 3) := by decide +kernel
theorem dX2_stepBack_45 : decode cX2_stepBack 45 = .ok (.return_, 1) := by decide +kernel
theorem dX3_init_0 : decode cX3_init 0 = .ok (.aload_n 0, 1) := by decide +kernel
theorem dX3_init_1 : decode cX3_init 1 = .ok (.invokespecial 3, 3) := by decide +kernel
theorem dX3_init_4 : decode cX3_init 4 = .ok (.aload_n 0, 1) := by decide +kernel
theorem dX3_init_5 : decode cX3_init 5 = .ok (.bipush 12, 2) := by decide +kernel
theorem dX3_init_7 : decode cX3_init 7 = .ok (.newarray .int, 2) := by decide +kernel
theorem dX3_init_9 : decode cX3_init 9 = .ok (.putfield 9, 3) := by decide +kernel
theorem dX3_init_12 : decode cX3_init 12 = .ok (.aload_n 0, 1) := by decide +kernel
theorem dX3_init_13 : decode cX3_init 13 = .ok (.bipush 12, 2) := by decide +kernel
theorem dX3_init_15 : decode cX3_init 15 = .ok (.newarray .int, 2) := by decide +kernel
theorem dX3_init_17 : decode cX3_init 17 = .ok (.putfield 15, 3) := by decide +kernel
theorem dX3_init_20 : decode cX3_init 20 = .ok (.aload_n 0, 1) := by decide +kernel
theorem dX3_init_21 : decode cX3_init 21 = .ok (.bipush 12, 2) := by decide +kernel
theorem dX3_init_23 : decode cX3_init 23 = .ok (.newarray .int, 2) := by decide +kernel
theorem dX3_init_25 : decode cX3_init 25 = .ok (.putfield 18, 3) := by decide +kernel
theorem dX3_init_28 : decode cX3_init 28 = .ok (.return_, 1) := by decide +kernel
theorem dX3_clear_0 : decode cX3_clear 0 = .ok (.iconst 0, 1) := by decide +kernel
theorem dX3_clear_1 : decode cX3_clear 1 = .ok (.istore_n 2, 1) := by decide +kernel
theorem dX3_clear_2 : decode cX3_clear 2 = .ok (.iload_n 2, 1) := by decide +kernel
theorem dX3_clear_3 : decode cX3_clear 3 = .ok (.bipush 12, 2) := by decide +kernel
theorem dX3_clear_5 : decode cX3_clear 5 = .ok (.if_icmp .ge 35, 3) := by decide +kernel
theorem dX3_clear_8 : decode cX3_clear 8 = .ok (.aload_n 0, 1) := by decide +kernel
theorem dX3_clear_9 : decode cX3_clear 9 = .ok (.getfield 9, 3) := by decide +kernel
theorem dX3_clear_12 : decode cX3_clear 12 = .ok (.iload_n 2, 1) := by decide +kernel
theorem dX3_clear_13 : decode cX3_clear 13 = .ok (.aload_n 1, 1) := by decide +kernel
theorem dX3_clear_14 : decode cX3_clear 14 = .ok (.getfield 21, 3) := by decide +kernel
theorem dX3_clear_17 : decode cX3_clear 17 = .ok (.iload_n 2, 1) := by decide +kernel
theorem dX3_clear_18 : decode cX3_clear 18 = .ok (.iaload, 1) := by decide +kernel
theorem dX3_clear_19 : decode cX3_clear 19 = .ok (.iastore, 1) := by decide +kernel
theorem dX3_clear_20 : decode cX3_clear 20 = .ok (.aload_n 0, 1) := by decide +kernel
theorem dX3_clear_21 : decode cX3_clear 21 = .ok (.getfield 15, 3) := by decide +kernel
theorem dX3_clear_24 : decode cX3_clear 24 = .ok (.iload_n 2, 1) := by decide +kernel
theorem dX3_clear_25 : decode cX3_clear 25 = .ok (.iconst 5, 1) := by decide +kernel
theorem dX3_clear_26 : decode cX3_clear 26 = .ok (.iastore, 1) := by decide +kernel
theorem dX3_clear_27 : decode cX3_clear 27 = .ok (.aload_n 0, 1) := by decide +kernel
theorem dX3_clear_28 : decode cX3_clear 28 = .ok (.getfield 18, 3) := by decide +kernel
theorem dX3_clear_31 : decode cX3_clear 31 = .ok (.iload_n 2, 1) := by decide +kernel
theorem dX3_clear_32 : decode cX3_clear 32 = .ok (.iconst 0, 1) := by decide +kernel
theorem dX3_clear_33 : decode cX3_clear 33 = .ok (.iastore, 1) := by decide +kernel
theorem dX3_clear_34 : decode cX3_clear 34 = .ok (.iinc 2 1, 3) := by decide +kernel
theorem dX3_clear_37 : decode cX3_clear 37 = .ok (.goto (-35), 3) := by decide +kernel
theorem dX3_clear_40 : decode cX3_clear 40 = .ok (.return_, 1) := by decide +kernel
theorem dX3_copyFrom_0 : decode cX3_copyFrom 0 = .ok (.aload_n 1, 1) := by decide +kernel
theorem dX3_copyFrom_1 : decode cX3_copyFrom 1 = .ok (.getfield 9, 3) := by decide +kernel
theorem dX3_copyFrom_4 : decode cX3_copyFrom 4 = .ok (.iconst 0, 1) := by decide +kernel
theorem dX3_copyFrom_5 : decode cX3_copyFrom 5 = .ok (.aload_n 0, 1) := by decide +kernel
theorem dX3_copyFrom_6 : decode cX3_copyFrom 6 = .ok (.getfield 9, 3) := by decide +kernel
theorem dX3_copyFrom_9 : decode cX3_copyFrom 9 = .ok (.iconst 0, 1) := by decide +kernel
theorem dX3_copyFrom_10 : decode cX3_copyFrom 10 = .ok (.bipush 12, 2) := by decide +kernel
theorem dX3_copyFrom_12 : decode cX3_copyFrom 12 = .ok (.invokestatic 24, 3) := by decide +kernel
theorem dX3_copyFrom_15 : decode cX3_copyFrom 15 = .ok (.aload_n 1, 1) := by decide +kernel
theorem dX3_copyFrom_16 : decode cX3_copyFrom 16 = .ok (.getfield 15, 3) := by decide +kernel
theorem dX3_copyFrom_19 : decode cX3_copyFrom 19 = .ok (.iconst 0, 1) := by decide +kernel
theorem dX3_copyFrom_20 : decode cX3_copyFrom 20 = .ok (.aload_n 0, 1) := by decide +kernel
theorem dX3_copyFrom_21 : decode cX3_copyFrom 21 = .ok (.getfield 15, 3) := by decide +kernel
theorem dX3_copyFrom_24 : decode cX3_copyFrom 24 = .ok (.iconst 0, 1) := by decide +kernel
theorem dX3_copyFrom_25 : decode cX3_copyFrom 25 = .ok (.bipush 12, 2) := by decide +kernel
theorem dX3_copyFrom_27 : decode cX3_copyFrom 27 = .ok (.invokestatic 24, 3) := by decide +kernel
theorem dX3_copyFrom_30 : decode cX3_copyFrom 30 = .ok (.aload_n 1, 1) := by decide +kernel
theorem dX3_copyFrom_31 : decode cX3_copyFrom 31 = .ok (.getfield 18, 3) := by decide +kernel
theorem dX3_copyFrom_34 : decode cX3_copyFrom 34 = .ok (.iconst 0, 1) := by decide +kernel
theorem dX3_copyFrom_35 : decode cX3_copyFrom 35 = .ok (.aload_n 0, 1) := by decide +kernel
theorem dX3_copyFrom_36 : decode cX3_copyFrom 36 = .ok (.getfield 18, 3) := by decide +kernel
theorem dX3_copyFrom_39 : decode cX3_copyFrom 39 = .ok (.iconst 0, 1) := by decide +kernel
theorem dX3_copyFrom_40 : decode cX3_copyFrom 40 = .ok (.bipush 12, 2) := by decide +kernel
theorem dX3_copyFrom_42 : decode cX3_copyFrom 42 = .ok (.invokestatic 24, 3) := by decide +kernel
theorem dX3_copyFrom_45 : decode cX3_copyFrom 45 = .ok (.return_, 1) := by decide +kernel
theorem dX4_init_0 : decode cX4_init 0 = .ok (.aload_n 0, 1) := by decide +kernel
theorem dX4_init_1 : decode cX4_init 1 = .ok (.invokespecial 3, 3) := by decide +kernel
theorem dX4_init_4 : decode cX4_init 4 = .ok (.aload_n 0, 1) := by decide +kernel
theorem dX4_init_5 : decode cX4_init 5 = .ok (.bipush 16, 2) := by decide +kernel
theorem dX4_init_7 : decode cX4_init 7 = .ok (.newarray .int, 2) := by decide +kernel
theorem dX4_init_9 : decode cX4_init 9 = .ok (.putfield 9, 3) := by decide +kernel
theorem dX4_init_12 : decode cX4_init 12 = .ok (.aload_n 0, 1) := by decide +kernel
theorem dX4_init_13 : decode cX4_init 13 = .ok (.bipush 16, 2) := by decide +kernel
theorem dX4_init_15 : decode cX4_init 15 = .ok (.newarray .int, 2) := by decide +kernel
theorem dX4_init_17 : decode cX4_init 17 = .ok (.putfield 15, 3) := by decide +kernel
theorem dX4_init_20 : decode cX4_init 20 = .ok (.aload_n 0, 1) := by decide +kernel
theorem dX4_init_21 : decode cX4_init 21 = .ok (.bipush 16, 2) := by decide +kernel
theorem dX4_init_23 : decode cX4_init 23 = .ok (.newarray .int, 2) := by decide +kernel
theorem dX4_init_25 : decode cX4_init 25 = .ok (.putfield 18, 3) := by decide +kernel
theorem dX4_init_28 : decode cX4_init 28 = .ok (.aload_n 0, 1) := by decide +kernel
theorem dX4_init_29 : decode cX4_init 29 = .ok (.bipush 16, 2) := by decide +kernel
theorem dX4_init_31 : decode cX4_init 31 = .ok (.newarray .int, 2) := by decide +kernel
theorem dX4_init_33 : decode cX4_init 33 = .ok (.putfield 21, 3) := by decide +kernel
theorem dX4_init_36 : decode cX4_init 36 = .ok (.aload_n 0, 1) := by decide +kernel
theorem dX4_init_37 : decode cX4_init 37 = .ok (.sipush 192, 3) := by decide +kernel
theorem dX4_init_40 : decode cX4_init 40 = .ok (.newarray .int, 2) := by decide +kernel
theorem dX4_init_42 : decode cX4_init 42 = .ok (.putfield 24, 3) := by decide +kernel
theorem dX4_init_45 : decode cX4_init 45 = .ok (.return_, 1) := by decide +kernel
theorem dX4_copyFrom_0 : decode cX4_copyFrom 0 = .ok (.aload_n 0, 1) := by decide +kernel
theorem dX4_copyFrom_1 : decode cX4_copyFrom 1 = .ok (.aload_n 1, 1) := by decide +kernel
theorem dX4_copyFrom_2 : decode cX4_copyFrom 2 = .ok (.getfield 27, 3) := by decide +kernel
theorem dX4_copyFrom_5 : decode cX4_copyFrom 5 = .ok (.putfield 27, 3) := by decide +kernel
theorem dX4_copyFrom_8 : decode cX4_copyFrom 8 = .ok (.aload_n 1, 1) := by decide +kernel
theorem dX4_copyFrom_9 : decode cX4_copyFrom 9 = .ok (.getfield 9, 3) := by decide +kernel
theorem dX4_copyFrom_12 : decode cX4_copyFrom 12 = .ok (.iconst 0, 1) := by decide +kernel
theorem dX4_copyFrom_13 : decode cX4_copyFrom 13 = .ok (.aload_n 0, 1) := by decide +kernel
theorem dX4_copyFrom_14 : decode cX4_copyFrom 14 = .ok (.getfield 9, 3) := by decide +kernel
theorem dX4_copyFrom_17 : decode cX4_copyFrom 17 = .ok (.iconst 0, 1) := by decide +kernel
theorem dX4_copyFrom_18 : decode cX4_copyFrom 18 = .ok (.bipush 16, 2) := by decide +kernel
theorem dX4_copyFrom_20 : decode cX4_copyFrom 20 = .ok (.invokestatic 31, 3) := by decide +kernel
theorem dX4_copyFrom_23 : decode cX4_copyFrom 23 = .ok (.aload_n 1, 1) := by decide +kernel
theorem dX4_copyFrom_24 : decode cX4_copyFrom 24 = .ok (.getfield 15, 3) := by decide +kernel
theorem dX4_copyFrom_27 : decode cX4_copyFrom 27 = .ok (.iconst 0, 1) := by decide +kernel
theorem dX4_copyFrom_28 : decode cX4_copyFrom 28 = .ok (.aload_n 0, 1) := by decide +kernel
theorem dX4_copyFrom_29 : decode cX4_copyFrom 29 = .ok (.getfield 15, 3) := by decide +kernel
theorem dX4_copyFrom_32 : decode cX4_copyFrom 32 = .ok (.iconst 0, 1) := by decide +kernel
theorem dX4_copyFrom_33 : decode cX4_copyFrom 33 = .ok (.bipush 16, 2) := by decide +kernel
theorem dX4_copyFrom_35 : decode cX4_copyFrom 35 = .ok (.invokestatic 31, 3) := by decide +kernel
theorem dX4_copyFrom_38 : decode cX4_copyFrom 38 = .ok (.aload_n 1, 1) := by decide +kernel
theorem dX4_copyFrom_39 : decode cX4_copyFrom 39 = .ok (.getfield 18, 3) := by decide +kernel
theorem dX4_copyFrom_42 : decode cX4_copyFrom 42 = .ok (.iconst 0, 1) := by decide +kernel
theorem dX4_copyFrom_43 : decode cX4_copyFrom 43 = .ok (.aload_n 0, 1) := by decide +kernel
theorem dX4_copyFrom_44 : decode cX4_copyFrom 44 = .ok (.getfield 18, 3) := by decide +kernel
theorem dX4_copyFrom_47 : decode cX4_copyFrom 47 = .ok (.iconst 0, 1) := by decide +kernel
theorem dX4_copyFrom_48 : decode cX4_copyFrom 48 = .ok (.bipush 16, 2) := by decide +kernel
theorem dX4_copyFrom_50 : decode cX4_copyFrom 50 = .ok (.invokestatic 31, 3) := by decide +kernel
theorem dX4_copyFrom_53 : decode cX4_copyFrom 53 = .ok (.aload_n 1, 1) := by decide +kernel
theorem dX4_copyFrom_54 : decode cX4_copyFrom 54 = .ok (.getfield 21, 3) := by decide +kernel
theorem dX4_copyFrom_57 : decode cX4_copyFrom 57 = .ok (.iconst 0, 1) := by decide +kernel
theorem dX4_copyFrom_58 : decode cX4_copyFrom 58 = .ok (.aload_n 0, 1) := by decide +kernel
theorem dX4_copyFrom_59 : decode cX4_copyFrom 59 = .ok (.getfield 21, 3) := by decide +kernel
theorem dX4_copyFrom_62 : decode cX4_copyFrom 62 = .ok (.iconst 0, 1) := by decide +kernel
theorem dX4_copyFrom_63 : decode cX4_copyFrom 63 = .ok (.bipush 16, 2) := by decide +kernel
theorem dX4_copyFrom_65 : decode cX4_copyFrom 65 = .ok (.invokestatic 31, 3) := by decide +kernel
theorem dX4_copyFrom_68 : decode cX4_copyFrom 68 = .ok (.aload_n 1, 1) := by decide +kernel
theorem dX4_copyFrom_69 : decode cX4_copyFrom 69 = .ok (.getfield 24, 3) := by decide +kernel
theorem dX4_copyFrom_72 : decode cX4_copyFrom 72 = .ok (.iconst 0, 1) := by decide +kernel
theorem dX4_copyFrom_73 : decode cX4_copyFrom 73 = .ok (.aload_n 0, 1) := by decide +kernel
theorem dX4_copyFrom_74 : decode cX4_copyFrom 74 = .ok (.getfield 24, 3) := by decide +kernel
theorem dX4_copyFrom_77 : decode cX4_copyFrom 77 = .ok (.iconst 0, 1) := by decide +kernel
theorem dX4_copyFrom_78 : decode cX4_copyFrom 78 = .ok (.sipush 192, 3) := by decide +kernel
theorem dX4_copyFrom_81 : decode cX4_copyFrom 81 = .ok (.invokestatic 31, 3) := by decide +kernel
theorem dX4_copyFrom_84 : decode cX4_copyFrom 84 = .ok (.return_, 1) := by decide +kernel
theorem dX4_has_0 : decode cX4_has 0 = .ok (.iload_n 1, 1) := by decide +kernel
theorem dX4_has_1 : decode cX4_has 1 = .ok (.ifCond .lt 15, 3) := by decide +kernel
theorem dX4_has_4 : decode cX4_has 4 = .ok (.iload_n 1, 1) := by decide +kernel
theorem dX4_has_5 : decode cX4_has 5 = .ok (.aload_n 0, 1) := by decide +kernel
theorem dX4_has_6 : decode cX4_has 6 = .ok (.getfield 27, 3) := by decide +kernel
theorem dX4_has_9 : decode cX4_has 9 = .ok (.if_icmp .ge 7, 3) := by decide +kernel
theorem dX4_has_12 : decode cX4_has 12 = .ok (.iconst 1, 1) := by decide +kernel
theorem dX4_has_13 : decode cX4_has 13 = .ok (.goto 4, 3) := by decide +kernel
theorem dX4_has_16 : decode cX4_has 16 = .ok (.iconst 0, 1) := by decide +kernel
theorem dX4_has_17 : decode cX4_has 17 = .ok (.ireturn, 1) := by decide +kernel
theorem dX4_isOpen_0 : decode cX4_isOpen 0 = .ok (.aload_n 0, 1) := by decide +kernel
theorem dX4_isOpen_1 : decode cX4_isOpen 1 = .ok (.iload_n 1, 1) := by decide +kernel
theorem dX4_isOpen_2 : decode cX4_isOpen 2 = .ok (.invokevirtual 37, 3) := by decide +kernel
theorem dX4_isOpen_5 : decode cX4_isOpen 5 = .ok (.ifCond .eq 16, 3) := by decide +kernel
theorem dX4_isOpen_8 : decode cX4_isOpen 8 = .ok (.aload_n 0, 1) := by decide +kernel
theorem dX4_isOpen_9 : decode cX4_isOpen 9 = .ok (.getfield 15, 3) := by decide +kernel
theorem dX4_isOpen_12 : decode cX4_isOpen 12 = .ok (.iload_n 1, 1) := by decide +kernel
theorem dX4_isOpen_13 : decode cX4_isOpen 13 = .ok (.iaload, 1) := by decide +kernel
theorem dX4_isOpen_14 : decode cX4_isOpen 14 = .ok (.ifCond .ne 7, 3) := by decide +kernel
theorem dX4_isOpen_17 : decode cX4_isOpen 17 = .ok (.iconst 1, 1) := by decide +kernel
theorem dX4_isOpen_18 : decode cX4_isOpen 18 = .ok (.goto 4, 3) := by decide +kernel
theorem dX4_isOpen_21 : decode cX4_isOpen 21 = .ok (.iconst 0, 1) := by decide +kernel
theorem dX4_isOpen_22 : decode cX4_isOpen 22 = .ok (.ireturn, 1) := by decide +kernel
theorem dX4_leaningOf_0 : decode cX4_leaningOf 0 = .ok (.aload_n 0, 1) := by decide +kernel
theorem dX4_leaningOf_1 : decode cX4_leaningOf 1 = .ok (.getfield 24, 3) := by decide +kernel
theorem dX4_leaningOf_4 : decode cX4_leaningOf 4 = .ok (.iload_n 2, 1) := by decide +kernel
theorem dX4_leaningOf_5 : decode cX4_leaningOf 5 = .ok (.bipush 12, 2) := by decide +kernel
theorem dX4_leaningOf_7 : decode cX4_leaningOf 7 = .ok (.imul, 1) := by decide +kernel
theorem dX4_leaningOf_8 : decode cX4_leaningOf 8 = .ok (.iload_n 1, 1) := by decide +kernel
theorem dX4_leaningOf_9 : decode cX4_leaningOf 9 = .ok (.iadd, 1) := by decide +kernel
theorem dX4_leaningOf_10 : decode cX4_leaningOf 10 = .ok (.iaload, 1) := by decide +kernel
theorem dX4_leaningOf_11 : decode cX4_leaningOf 11 = .ok (.ireturn, 1) := by decide +kernel
theorem dX4_setLeaning_0 : decode cX4_setLeaning 0 = .ok (.aload_n 0, 1) := by decide +kernel
theorem dX4_setLeaning_1 : decode cX4_setLeaning 1 = .ok (.getfield 24, 3) := by decide +kernel
theorem dX4_setLeaning_4 : decode cX4_setLeaning 4 = .ok (.iload_n 2, 1) := by decide +kernel
theorem dX4_setLeaning_5 : decode cX4_setLeaning 5 = .ok (.bipush 12, 2) := by decide +kernel
theorem dX4_setLeaning_7 : decode cX4_setLeaning 7 = .ok (.imul, 1) := by decide +kernel
theorem dX4_setLeaning_8 : decode cX4_setLeaning 8 = .ok (.iload_n 1, 1) := by decide +kernel
theorem dX4_setLeaning_9 : decode cX4_setLeaning 9 = .ok (.iadd, 1) := by decide +kernel
theorem dX4_setLeaning_10 : decode cX4_setLeaning 10 = .ok (.bipush (-20), 2) := by decide +kernel
theorem dX4_setLeaning_12 : decode cX4_setLeaning 12 = .ok (.iload_n 3, 1) := by decide +kernel
theorem dX4_setLeaning_13 : decode cX4_setLeaning 13 = .ok (.bipush 20, 2) := by decide +kernel
theorem dX4_setLeaning_15 : decode cX4_setLeaning 15 = .ok (.invokestatic 41, 3) := by decide +kernel
theorem dX4_setLeaning_18 : decode cX4_setLeaning 18 = .ok (.invokestatic 47, 3) := by decide +kernel
theorem dX4_setLeaning_21 : decode cX4_setLeaning 21 = .ok (.iastore, 1) := by decide +kernel
theorem dX4_setLeaning_22 : decode cX4_setLeaning 22 = .ok (.return_, 1) := by decide +kernel
theorem dX4_dry_0 : decode cX4_dry 0 = .ok (.iconst 0, 1) := by decide +kernel
theorem dX4_dry_1 : decode cX4_dry 1 = .ok (.istore_n 1, 1) := by decide +kernel
theorem dX4_dry_2 : decode cX4_dry 2 = .ok (.iload_n 1, 1) := by decide +kernel
theorem dX4_dry_3 : decode cX4_dry 3 = .ok (.aload_n 0, 1) := by decide +kernel
theorem dX4_dry_4 : decode cX4_dry 4 = .ok (.getfield 27, 3) := by decide +kernel
theorem dX4_dry_7 : decode cX4_dry 7 = .ok (.if_icmp .ge 37, 3) := by decide +kernel
theorem dX4_dry_10 : decode cX4_dry 10 = .ok (.aload_n 0, 1) := by decide +kernel
theorem dX4_dry_11 : decode cX4_dry 11 = .ok (.getfield 15, 3) := by decide +kernel
theorem dX4_dry_14 : decode cX4_dry 14 = .ok (.iload_n 1, 1) := by decide +kernel
theorem dX4_dry_15 : decode cX4_dry 15 = .ok (.iaload, 1) := by decide +kernel
theorem dX4_dry_16 : decode cX4_dry 16 = .ok (.ifCond .ne 22, 3) := by decide +kernel
theorem dX4_dry_19 : decode cX4_dry 19 = .ok (.aload_n 0, 1) := by decide +kernel
theorem dX4_dry_20 : decode cX4_dry 20 = .ok (.getfield 18, 3) := by decide +kernel
theorem dX4_dry_23 : decode cX4_dry 23 = .ok (.iload_n 1, 1) := by decide +kernel
theorem dX4_dry_24 : decode cX4_dry 24 = .ok (.iaload, 1) := by decide +kernel
theorem dX4_dry_25 : decode cX4_dry 25 = .ok (.ifCond .le 13, 3) := by decide +kernel
theorem dX4_dry_28 : decode cX4_dry 28 = .ok (.aload_n 0, 1) := by decide +kernel
theorem dX4_dry_29 : decode cX4_dry 29 = .ok (.getfield 18, 3) := by decide +kernel
theorem dX4_dry_32 : decode cX4_dry 32 = .ok (.iload_n 1, 1) := by decide +kernel
theorem dX4_dry_33 : decode cX4_dry 33 = .ok (.dup2, 1) := by decide +kernel
theorem dX4_dry_34 : decode cX4_dry 34 = .ok (.iaload, 1) := by decide +kernel
theorem dX4_dry_35 : decode cX4_dry 35 = .ok (.iconst 1, 1) := by decide +kernel
theorem dX4_dry_36 : decode cX4_dry 36 = .ok (.isub, 1) := by decide +kernel
theorem dX4_dry_37 : decode cX4_dry 37 = .ok (.iastore, 1) := by decide +kernel
theorem dX4_dry_38 : decode cX4_dry 38 = .ok (.iinc 1 1, 3) := by decide +kernel
theorem dX4_dry_41 : decode cX4_dry 41 = .ok (.goto (-39), 3) := by decide +kernel
theorem dX4_dry_44 : decode cX4_dry 44 = .ok (.return_, 1) := by decide +kernel
theorem dX5_init_0 : decode cX5_init 0 = .ok (.aload_n 0, 1) := by decide +kernel
theorem dX5_init_1 : decode cX5_init 1 = .ok (.invokespecial 3, 3) := by decide +kernel
theorem dX5_init_4 : decode cX5_init 4 = .ok (.aload_n 0, 1) := by decide +kernel
theorem dX5_init_5 : decode cX5_init 5 = .ok (.bipush 12, 2) := by decide +kernel
theorem dX5_init_7 : decode cX5_init 7 = .ok (.newarray .int, 2) := by decide +kernel
theorem dX5_init_9 : decode cX5_init 9 = .ok (.putfield 9, 3) := by decide +kernel
theorem dX5_init_12 : decode cX5_init 12 = .ok (.aload_n 0, 1) := by decide +kernel
theorem dX5_init_13 : decode cX5_init 13 = .ok (.bipush 12, 2) := by decide +kernel
theorem dX5_init_15 : decode cX5_init 15 = .ok (.newarray .int, 2) := by decide +kernel
theorem dX5_init_17 : decode cX5_init 17 = .ok (.putfield 15, 3) := by decide +kernel
theorem dX5_init_20 : decode cX5_init 20 = .ok (.aload_n 0, 1) := by decide +kernel
theorem dX5_init_21 : decode cX5_init 21 = .ok (.bipush 12, 2) := by decide +kernel
theorem dX5_init_23 : decode cX5_init 23 = .ok (.newarray .int, 2) := by decide +kernel
theorem dX5_init_25 : decode cX5_init 25 = .ok (.putfield 18, 3) := by decide +kernel
theorem dX5_init_28 : decode cX5_init 28 = .ok (.return_, 1) := by decide +kernel
theorem dX5_copyFrom_0 : decode cX5_copyFrom 0 = .ok (.aload_n 0, 1) := by decide +kernel
theorem dX5_copyFrom_1 : decode cX5_copyFrom 1 = .ok (.aload_n 1, 1) := by decide +kernel
theorem dX5_copyFrom_2 : decode cX5_copyFrom 2 = .ok (.getfield 21, 3) := by decide +kernel
theorem dX5_copyFrom_5 : decode cX5_copyFrom 5 = .ok (.putfield 21, 3) := by decide +kernel
theorem dX5_copyFrom_8 : decode cX5_copyFrom 8 = .ok (.aload_n 1, 1) := by decide +kernel
theorem dX5_copyFrom_9 : decode cX5_copyFrom 9 = .ok (.getfield 9, 3) := by decide +kernel
theorem dX5_copyFrom_12 : decode cX5_copyFrom 12 = .ok (.iconst 0, 1) := by decide +kernel
theorem dX5_copyFrom_13 : decode cX5_copyFrom 13 = .ok (.aload_n 0, 1) := by decide +kernel
theorem dX5_copyFrom_14 : decode cX5_copyFrom 14 = .ok (.getfield 9, 3) := by decide +kernel
theorem dX5_copyFrom_17 : decode cX5_copyFrom 17 = .ok (.iconst 0, 1) := by decide +kernel
theorem dX5_copyFrom_18 : decode cX5_copyFrom 18 = .ok (.bipush 12, 2) := by decide +kernel
theorem dX5_copyFrom_20 : decode cX5_copyFrom 20 = .ok (.invokestatic 25, 3) := by decide +kernel
theorem dX5_copyFrom_23 : decode cX5_copyFrom 23 = .ok (.aload_n 1, 1) := by decide +kernel
theorem dX5_copyFrom_24 : decode cX5_copyFrom 24 = .ok (.getfield 15, 3) := by decide +kernel
theorem dX5_copyFrom_27 : decode cX5_copyFrom 27 = .ok (.iconst 0, 1) := by decide +kernel
theorem dX5_copyFrom_28 : decode cX5_copyFrom 28 = .ok (.aload_n 0, 1) := by decide +kernel
theorem dX5_copyFrom_29 : decode cX5_copyFrom 29 = .ok (.getfield 15, 3) := by decide +kernel
theorem dX5_copyFrom_32 : decode cX5_copyFrom 32 = .ok (.iconst 0, 1) := by decide +kernel
theorem dX5_copyFrom_33 : decode cX5_copyFrom 33 = .ok (.bipush 12, 2) := by decide +kernel
theorem dX5_copyFrom_35 : decode cX5_copyFrom 35 = .ok (.invokestatic 25, 3) := by decide +kernel
theorem dX5_copyFrom_38 : decode cX5_copyFrom 38 = .ok (.aload_n 1, 1) := by decide +kernel
theorem dX5_copyFrom_39 : decode cX5_copyFrom 39 = .ok (.getfield 18, 3) := by decide +kernel
theorem dX5_copyFrom_42 : decode cX5_copyFrom 42 = .ok (.iconst 0, 1) := by decide +kernel
theorem dX5_copyFrom_43 : decode cX5_copyFrom 43 = .ok (.aload_n 0, 1) := by decide +kernel
theorem dX5_copyFrom_44 : decode cX5_copyFrom 44 = .ok (.getfield 18, 3) := by decide +kernel
theorem dX5_copyFrom_47 : decode cX5_copyFrom 47 = .ok (.iconst 0, 1) := by decide +kernel
theorem dX5_copyFrom_48 : decode cX5_copyFrom 48 = .ok (.bipush 12, 2) := by decide +kernel
theorem dX5_copyFrom_50 : decode cX5_copyFrom 50 = .ok (.invokestatic 25, 3) := by decide +kernel
theorem dX5_copyFrom_53 : decode cX5_copyFrom 53 = .ok (.return_, 1) := by decide +kernel
theorem dX5_placeOf_0 : decode cX5_placeOf 0 = .ok (.iconst 0, 1) := by decide +kernel
theorem dX5_placeOf_1 : decode cX5_placeOf 1 = .ok (.istore_n 2, 1) := by decide +kernel
theorem dX5_placeOf_2 : decode cX5_placeOf 2 = .ok (.iload_n 2, 1) := by decide +kernel
theorem dX5_placeOf_3 : decode cX5_placeOf 3 = .ok (.aload_n 0, 1) := by decide +kernel
theorem dX5_placeOf_4 : decode cX5_placeOf 4 = .ok (.getfield 21, 3) := by decide +kernel
theorem dX5_placeOf_7 : decode cX5_placeOf 7 = .ok (.if_icmp .ge 21, 3) := by decide +kernel
theorem dX5_placeOf_10 : decode cX5_placeOf 10 = .ok (.aload_n 0, 1) := by decide +kernel
theorem dX5_placeOf_11 : decode cX5_placeOf 11 = .ok (.getfield 9, 3) := by decide +kernel
theorem dX5_placeOf_14 : decode cX5_placeOf 14 = .ok (.iload_n 2, 1) := by decide +kernel
theorem dX5_placeOf_15 : decode cX5_placeOf 15 = .ok (.iaload, 1) := by decide +kernel
theorem dX5_placeOf_16 : decode cX5_placeOf 16 = .ok (.iload_n 1, 1) := by decide +kernel
theorem dX5_placeOf_17 : decode cX5_placeOf 17 = .ok (.if_icmp .ne 5, 3) := by decide +kernel
theorem dX5_placeOf_20 : decode cX5_placeOf 20 = .ok (.iload_n 2, 1) := by decide +kernel
theorem dX5_placeOf_21 : decode cX5_placeOf 21 = .ok (.ireturn, 1) := by decide +kernel
theorem dX5_placeOf_22 : decode cX5_placeOf 22 = .ok (.iinc 2 1, 3) := by decide +kernel
theorem dX5_placeOf_25 : decode cX5_placeOf 25 = .ok (.goto (-23), 3) := by decide +kernel
theorem dX5_placeOf_28 : decode cX5_placeOf 28 = .ok (.iconst (-1), 1) := by decide +kernel
theorem dX5_placeOf_29 : decode cX5_placeOf 29 = .ok (.ireturn, 1) := by decide +kernel
theorem dX5_add_0 : decode cX5_add 0 = .ok (.aload_n 0, 1) := by decide +kernel
theorem dX5_add_1 : decode cX5_add 1 = .ok (.getfield 21, 3) := by decide +kernel
theorem dX5_add_4 : decode cX5_add 4 = .ok (.istore 4, 2) := by decide +kernel
theorem dX5_add_6 : decode cX5_add 6 = .ok (.iload 4, 2) := by decide +kernel
theorem dX5_add_8 : decode cX5_add 8 = .ok (.bipush 12, 2) := by decide +kernel
theorem dX5_add_10 : decode cX5_add 10 = .ok (.if_icmp .ge 37, 3) := by decide +kernel
theorem dX5_add_13 : decode cX5_add 13 = .ok (.aload_n 0, 1) := by decide +kernel
theorem dX5_add_14 : decode cX5_add 14 = .ok (.getfield 9, 3) := by decide +kernel
theorem dX5_add_17 : decode cX5_add 17 = .ok (.iload 4, 2) := by decide +kernel
theorem dX5_add_19 : decode cX5_add 19 = .ok (.iload_n 1, 1) := by decide +kernel
theorem dX5_add_20 : decode cX5_add 20 = .ok (.iastore, 1) := by decide +kernel
theorem dX5_add_21 : decode cX5_add 21 = .ok (.aload_n 0, 1) := by decide +kernel
theorem dX5_add_22 : decode cX5_add 22 = .ok (.getfield 15, 3) := by decide +kernel
theorem dX5_add_25 : decode cX5_add 25 = .ok (.iload 4, 2) := by decide +kernel
theorem dX5_add_27 : decode cX5_add 27 = .ok (.iload_n 2, 1) := by decide +kernel
theorem dX5_add_28 : decode cX5_add 28 = .ok (.iastore, 1) := by decide +kernel
theorem dX5_add_29 : decode cX5_add 29 = .ok (.aload_n 0, 1) := by decide +kernel
theorem dX5_add_30 : decode cX5_add 30 = .ok (.getfield 18, 3) := by decide +kernel
theorem dX5_add_33 : decode cX5_add 33 = .ok (.iload 4, 2) := by decide +kernel
theorem dX5_add_35 : decode cX5_add 35 = .ok (.iload_n 3, 1) := by decide +kernel
theorem dX5_add_36 : decode cX5_add 36 = .ok (.iastore, 1) := by decide +kernel
theorem dX5_add_37 : decode cX5_add 37 = .ok (.aload_n 0, 1) := by decide +kernel
theorem dX5_add_38 : decode cX5_add 38 = .ok (.dup, 1) := by decide +kernel
theorem dX5_add_39 : decode cX5_add 39 = .ok (.getfield 21, 3) := by decide +kernel
theorem dX5_add_42 : decode cX5_add 42 = .ok (.iconst 1, 1) := by decide +kernel
theorem dX5_add_43 : decode cX5_add 43 = .ok (.iadd, 1) := by decide +kernel
theorem dX5_add_44 : decode cX5_add 44 = .ok (.putfield 21, 3) := by decide +kernel
theorem dX5_add_47 : decode cX5_add 47 = .ok (.iload 4, 2) := by decide +kernel
theorem dX5_add_49 : decode cX5_add 49 = .ok (.ireturn, 1) := by decide +kernel
theorem dX5_removeAt_0 : decode cX5_removeAt 0 = .ok (.iload_n 1, 1) := by decide +kernel
theorem dX5_removeAt_1 : decode cX5_removeAt 1 = .ok (.iconst 1, 1) := by decide +kernel
theorem dX5_removeAt_2 : decode cX5_removeAt 2 = .ok (.iadd, 1) := by decide +kernel
theorem dX5_removeAt_3 : decode cX5_removeAt 3 = .ok (.istore_n 2, 1) := by decide +kernel
theorem dX5_removeAt_4 : decode cX5_removeAt 4 = .ok (.iload_n 2, 1) := by decide +kernel
theorem dX5_removeAt_5 : decode cX5_removeAt 5 = .ok (.aload_n 0, 1) := by decide +kernel
theorem dX5_removeAt_6 : decode cX5_removeAt 6 = .ok (.getfield 21, 3) := by decide +kernel
theorem dX5_removeAt_9 : decode cX5_removeAt 9 = .ok (.if_icmp .ge 17, 3) := by decide +kernel
theorem dX5_removeAt_12 : decode cX5_removeAt 12 = .ok (.aload_n 0, 1) := by decide +kernel
theorem dX5_removeAt_13 : decode cX5_removeAt 13 = .ok (.iload_n 2, 1) := by decide +kernel
theorem dX5_removeAt_14 : decode cX5_removeAt 14 = .ok (.iload_n 2, 1) := by decide +kernel
theorem dX5_removeAt_15 : decode cX5_removeAt 15 = .ok (.iconst 1, 1) := by decide +kernel
theorem dX5_removeAt_16 : decode cX5_removeAt 16 = .ok (.isub, 1) := by decide +kernel
theorem dX5_removeAt_17 : decode cX5_removeAt 17 = .ok (.invokevirtual 31, 3) := by decide +kernel
theorem dX5_removeAt_20 : decode cX5_removeAt 20 = .ok (.iinc 2 1, 3) := by decide +kernel
theorem dX5_removeAt_23 : decode cX5_removeAt 23 = .ok (.goto (-19), 3) := by decide +kernel
theorem dX5_removeAt_26 : decode cX5_removeAt 26 = .ok (.aload_n 0, 1) := by decide +kernel
theorem dX5_removeAt_27 : decode cX5_removeAt 27 = .ok (.dup, 1) := by decide +kernel
theorem dX5_removeAt_28 : decode cX5_removeAt 28 = .ok (.getfield 21, 3) := by decide +kernel
theorem dX5_removeAt_31 : decode cX5_removeAt 31 = .ok (.iconst 1, 1) := by decide +kernel
theorem dX5_removeAt_32 : decode cX5_removeAt 32 = .ok (.isub, 1) := by decide +kernel
theorem dX5_removeAt_33 : decode cX5_removeAt 33 = .ok (.putfield 21, 3) := by decide +kernel
theorem dX5_removeAt_36 : decode cX5_removeAt 36 = .ok (.return_, 1) := by decide +kernel
theorem dX5_removeAbout_0 : decode cX5_removeAbout 0 = .ok (.iconst 0, 1) := by decide +kernel
theorem dX5_removeAbout_1 : decode cX5_removeAbout 1 = .ok (.istore_n 2, 1) := by decide +kernel
theorem dX5_removeAbout_2 : decode cX5_removeAbout 2 = .ok (.iconst 0, 1) := by decide +kernel
theorem dX5_removeAbout_3 : decode cX5_removeAbout 3 = .ok (.istore_n 3, 1) := by decide +kernel
theorem dX5_removeAbout_4 : decode cX5_removeAbout 4 = .ok (.iload_n 3, 1) := by decide +kernel
theorem dX5_removeAbout_5 : decode cX5_removeAbout 5 = .ok (.aload_n 0, 1) := by decide +kernel
theorem dX5_removeAbout_6 : decode cX5_removeAbout 6 = .ok (.getfield 21, 3) := by decide +kernel
theorem dX5_removeAbout_9 : decode cX5_removeAbout 9 = .ok (.if_icmp .ge 28, 3) := by decide +kernel
theorem dX5_removeAbout_12 : decode cX5_removeAbout 12 = .ok (.aload_n 0, 1) := by decide +kernel
theorem dX5_removeAbout_13 : decode cX5_removeAbout 13 = .ok (.getfield 15, 3) := by decide +kernel
theorem dX5_removeAbout_16 : decode cX5_removeAbout 16 = .ok (.iload_n 3, 1) := by decide +kernel
theorem dX5_removeAbout_17 : decode cX5_removeAbout 17 = .ok (.iaload, 1) := by decide +kernel
theorem dX5_removeAbout_18 : decode cX5_removeAbout 18 = .ok (.iload_n 1, 1) := by decide +kernel
theorem dX5_removeAbout_19 : decode cX5_removeAbout 19 = .ok (.if_icmp .eq 12, 3) := by decide +kernel
theorem dX5_removeAbout_22 : decode cX5_removeAbout 22 = .ok (.aload_n 0, 1) := by decide +kernel
theorem dX5_removeAbout_23 : decode cX5_removeAbout 23 = .ok (.iload_n 3, 1) := by decide +kernel
theorem dX5_removeAbout_24 : decode cX5_removeAbout 24 = .ok (.iload_n 2, 1) := by decide +kernel
theorem dX5_removeAbout_25 : decode cX5_removeAbout 25 = .ok (.invokevirtual 31, 3) := by decide +kernel
theorem dX5_removeAbout_28 : decode cX5_removeAbout 28 = .ok (.iinc 2 1, 3) := by decide +kernel
theorem dX5_removeAbout_31 : decode cX5_removeAbout 31 = .ok (.iinc 3 1, 3) := by decide +kernel
theorem dX5_removeAbout_34 : decode cX5_removeAbout 34 = .ok (.goto (-30), 3) := by decide +kernel
theorem dX5_removeAbout_37 : decode cX5_removeAbout 37 = .ok (.aload_n 0, 1) := by decide +kernel
theorem dX5_removeAbout_38 : decode cX5_removeAbout 38 = .ok (.getfield 21, 3) := by decide +kernel
theorem dX5_removeAbout_41 : decode cX5_removeAbout 41 = .ok (.iload_n 2, 1) := by decide +kernel
theorem dX5_removeAbout_42 : decode cX5_removeAbout 42 = .ok (.isub, 1) := by decide +kernel
theorem dX5_removeAbout_43 : decode cX5_removeAbout 43 = .ok (.istore_n 3, 1) := by decide +kernel
theorem dX5_removeAbout_44 : decode cX5_removeAbout 44 = .ok (.aload_n 0, 1) := by decide +kernel
theorem dX5_removeAbout_45 : decode cX5_removeAbout 45 = .ok (.iload_n 2, 1) := by decide +kernel
theorem dX5_removeAbout_46 : decode cX5_removeAbout 46 = .ok (.putfield 21, 3) := by decide +kernel
theorem dX5_removeAbout_49 : decode cX5_removeAbout 49 = .ok (.iload_n 3, 1) := by decide +kernel
theorem dX5_removeAbout_50 : decode cX5_removeAbout 50 = .ok (.ireturn, 1) := by decide +kernel
theorem dX5_move_0 : decode cX5_move 0 = .ok (.aload_n 0, 1) := by decide +kernel
theorem dX5_move_1 : decode cX5_move 1 = .ok (.getfield 9, 3) := by decide +kernel
theorem dX5_move_4 : decode cX5_move 4 = .ok (.iload_n 2, 1) := by decide +kernel
theorem dX5_move_5 : decode cX5_move 5 = .ok (.aload_n 0, 1) := by decide +kernel
theorem dX5_move_6 : decode cX5_move 6 = .ok (.getfield 9, 3) := by decide +kernel
theorem dX5_move_9 : decode cX5_move 9 = .ok (.iload_n 1, 1) := by decide +kernel
theorem dX5_move_10 : decode cX5_move 10 = .ok (.iaload, 1) := by decide +kernel
theorem dX5_move_11 : decode cX5_move 11 = .ok (.iastore, 1) := by decide +kernel
theorem dX5_move_12 : decode cX5_move 12 = .ok (.aload_n 0, 1) := by decide +kernel
theorem dX5_move_13 : decode cX5_move 13 = .ok (.getfield 15, 3) := by decide +kernel
theorem dX5_move_16 : decode cX5_move 16 = .ok (.iload_n 2, 1) := by decide +kernel
theorem dX5_move_17 : decode cX5_move 17 = .ok (.aload_n 0, 1) := by decide +kernel
theorem dX5_move_18 : decode cX5_move 18 = .ok (.getfield 15, 3) := by decide +kernel
theorem dX5_move_21 : decode cX5_move 21 = .ok (.iload_n 1, 1) := by decide +kernel
theorem dX5_move_22 : decode cX5_move 22 = .ok (.iaload, 1) := by decide +kernel
theorem dX5_move_23 : decode cX5_move 23 = .ok (.iastore, 1) := by decide +kernel
theorem dX5_move_24 : decode cX5_move 24 = .ok (.aload_n 0, 1) := by decide +kernel
theorem dX5_move_25 : decode cX5_move 25 = .ok (.getfield 18, 3) := by decide +kernel
theorem dX5_move_28 : decode cX5_move 28 = .ok (.iload_n 2, 1) := by decide +kernel
theorem dX5_move_29 : decode cX5_move 29 = .ok (.aload_n 0, 1) := by decide +kernel
theorem dX5_move_30 : decode cX5_move 30 = .ok (.getfield 18, 3) := by decide +kernel
theorem dX5_move_33 : decode cX5_move 33 = .ok (.iload_n 1, 1) := by decide +kernel
theorem dX5_move_34 : decode cX5_move 34 = .ok (.iaload, 1) := by decide +kernel
theorem dX5_move_35 : decode cX5_move 35 = .ok (.iastore, 1) := by decide +kernel
theorem dX5_move_36 : decode cX5_move 36 = .ok (.return_, 1) := by decide +kernel
theorem dX6_init_0 : decode cX6_init 0 = .ok (.aload_n 0, 1) := by decide +kernel
theorem dX6_init_1 : decode cX6_init 1 = .ok (.invokespecial 3, 3) := by decide +kernel
theorem dX6_init_4 : decode cX6_init 4 = .ok (.aload_n 0, 1) := by decide +kernel
theorem dX6_init_5 : decode cX6_init 5 = .ok (.bipush 30, 2) := by decide +kernel
theorem dX6_init_7 : decode cX6_init 7 = .ok (.newarray .int, 2) := by decide +kernel
theorem dX6_init_9 : decode cX6_init 9 = .ok (.putfield 9, 3) := by decide +kernel
theorem dX6_init_12 : decode cX6_init 12 = .ok (.aload_n 0, 1) := by decide +kernel
theorem dX6_init_13 : decode cX6_init 13 = .ok (.bipush 30, 2) := by decide +kernel
theorem dX6_init_15 : decode cX6_init 15 = .ok (.newarray .int, 2) := by decide +kernel
theorem dX6_init_17 : decode cX6_init 17 = .ok (.putfield 15, 3) := by decide +kernel
theorem dX6_init_20 : decode cX6_init 20 = .ok (.aload_n 0, 1) := by decide +kernel
theorem dX6_init_21 : decode cX6_init 21 = .ok (.bipush 30, 2) := by decide +kernel
theorem dX6_init_23 : decode cX6_init 23 = .ok (.newarray .int, 2) := by decide +kernel
theorem dX6_init_25 : decode cX6_init 25 = .ok (.putfield 18, 3) := by decide +kernel
theorem dX6_init_28 : decode cX6_init 28 = .ok (.aload_n 0, 1) := by decide +kernel
theorem dX6_init_29 : decode cX6_init 29 = .ok (.bipush 30, 2) := by decide +kernel
theorem dX6_init_31 : decode cX6_init 31 = .ok (.newarray .int, 2) := by decide +kernel
theorem dX6_init_33 : decode cX6_init 33 = .ok (.putfield 21, 3) := by decide +kernel
theorem dX6_init_36 : decode cX6_init 36 = .ok (.aload_n 0, 1) := by decide +kernel
theorem dX6_init_37 : decode cX6_init 37 = .ok (.bipush 30, 2) := by decide +kernel
theorem dX6_init_39 : decode cX6_init 39 = .ok (.newarray .int, 2) := by decide +kernel
theorem dX6_init_41 : decode cX6_init 41 = .ok (.putfield 24, 3) := by decide +kernel
theorem dX6_init_44 : decode cX6_init 44 = .ok (.return_, 1) := by decide +kernel
theorem dX6_clear_0 : decode cX6_clear 0 = .ok (.aload_n 0, 1) := by decide +kernel
theorem dX6_clear_1 : decode cX6_clear 1 = .ok (.iconst 0, 1) := by decide +kernel
theorem dX6_clear_2 : decode cX6_clear 2 = .ok (.putfield 27, 3) := by decide +kernel
theorem dX6_clear_5 : decode cX6_clear 5 = .ok (.aload_n 0, 1) := by decide +kernel
theorem dX6_clear_6 : decode cX6_clear 6 = .ok (.iconst 0, 1) := by decide +kernel
theorem dX6_clear_7 : decode cX6_clear 7 = .ok (.putfield 31, 3) := by decide +kernel
theorem dX6_clear_10 : decode cX6_clear 10 = .ok (.aload_n 0, 1) := by decide +kernel
theorem dX6_clear_11 : decode cX6_clear 11 = .ok (.iconst 0, 1) := by decide +kernel
theorem dX6_clear_12 : decode cX6_clear 12 = .ok (.putfield 34, 3) := by decide +kernel
theorem dX6_clear_15 : decode cX6_clear 15 = .ok (.return_, 1) := by decide +kernel
theorem dX6_readBlock_0 : decode cX6_readBlock 0 = .ok (.iconst 0, 1) := by decide +kernel
theorem dX6_readBlock_1 : decode cX6_readBlock 1 = .ok (.istore 4, 2) := by decide +kernel
theorem dX6_readBlock_3 : decode cX6_readBlock 3 = .ok (.iload 4, 2) := by decide +kernel
theorem dX6_readBlock_5 : decode cX6_readBlock 5 = .ok (.bipush 30, 2) := by decide +kernel
theorem dX6_readBlock_7 : decode cX6_readBlock 7 = .ok (.if_icmp .gt 36, 3) := by decide +kernel
theorem dX6_readBlock_10 : decode cX6_readBlock 10 = .ok (.aload_n 1, 1) := by decide +kernel
theorem dX6_readBlock_11 : decode cX6_readBlock 11 = .ok (.invokevirtual 38, 3) := by decide +kernel
theorem dX6_readBlock_14 : decode cX6_readBlock 14 = .ok (.ifCond .eq 29, 3) := by decide +kernel
theorem dX6_readBlock_17 : decode cX6_readBlock 17 = .ok (.aload_n 1, 1) := by decide +kernel
theorem dX6_readBlock_18 : decode cX6_readBlock 18 = .ok (.invokevirtual 44, 3) := by decide +kernel
theorem dX6_readBlock_21 : decode cX6_readBlock 21 = .ok (.ifCond .eq 22, 3) := by decide +kernel
theorem dX6_readBlock_24 : decode cX6_readBlock 24 = .ok (.aload_n 0, 1) := by decide +kernel
theorem dX6_readBlock_25 : decode cX6_readBlock 25 = .ok (.aload_n 1, 1) := by decide +kernel
theorem dX6_readBlock_26 : decode cX6_readBlock 26 = .ok (.aload_n 2, 1) := by decide +kernel
theorem dX6_readBlock_27 : decode cX6_readBlock 27 = .ok (.iload_n 3, 1) := by decide +kernel
theorem dX6_readBlock_28 : decode cX6_readBlock 28 = .ok (.invokevirtual 47, 3) := by decide +kernel
theorem dX6_readBlock_31 : decode cX6_readBlock 31 = .ok (.aload_n 1, 1) := by decide +kernel
theorem dX6_readBlock_32 : decode cX6_readBlock 32 = .ok (.bipush 59, 2) := by decide +kernel
theorem dX6_readBlock_34 : decode cX6_readBlock 34 = .ok (.invokevirtual 51, 3) := by decide +kernel
theorem dX6_readBlock_37 : decode cX6_readBlock 37 = .ok (.iinc 4 1, 3) := by decide +kernel
theorem dX6_readBlock_40 : decode cX6_readBlock 40 = .ok (.goto (-37), 3) := by decide +kernel
theorem dX6_readBlock_43 : decode cX6_readBlock 43 = .ok (.return_, 1) := by decide +kernel
theorem dX6_readCommand_0 : decode cX6_readCommand 0 = .ok (.aload_n 1, 1) := by decide +kernel
theorem dX6_readCommand_1 : decode cX6_readCommand 1 = .ok (.invokestatic 55, 3) := by decide +kernel
theorem dX6_readCommand_4 : decode cX6_readCommand 4 = .ok (.istore 4, 2) := by decide +kernel
theorem dX6_readCommand_6 : decode cX6_readCommand 6 = .ok (.iload 4, 2) := by decide +kernel
theorem dX6_readCommand_8 : decode cX6_readCommand 8 = .ok (.iconst (-1), 1) := by decide +kernel
theorem dX6_readCommand_9 : decode cX6_readCommand 9 = .ok (.if_icmp .ne 11, 3) := by decide +kernel
theorem dX6_readCommand_12 : decode cX6_readCommand 12 = .ok (.aload_n 1, 1) := by decide +kernel
theorem dX6_readCommand_13 : decode cX6_readCommand 13 = .ok (.iconst 1, 1) := by decide +kernel
theorem dX6_readCommand_14 : decode cX6_readCommand 14 = .ok (.invokevirtual 59, 3) := by decide +kernel
theorem dX6_readCommand_17 : decode cX6_readCommand 17 = .ok (.goto 83, 3) := by decide +kernel
theorem dX6_readCommand_20 : decode cX6_readCommand 20 = .ok (.aload_n 0, 1) := by decide +kernel
theorem dX6_readCommand_21 : decode cX6_readCommand 21 = .ok (.getfield 27, 3) := by decide +kernel
theorem dX6_readCommand_24 : decode cX6_readCommand 24 = .ok (.bipush 30, 2) := by decide +kernel
theorem dX6_readCommand_26 : decode cX6_readCommand 26 = .ok (.if_icmp .lt 11, 3) := by decide +kernel
theorem dX6_readCommand_29 : decode cX6_readCommand 29 = .ok (.aload_n 1, 1) := by decide +kernel
theorem dX6_readCommand_30 : decode cX6_readCommand 30 = .ok (.iconst 4, 1) := by decide +kernel
theorem dX6_readCommand_31 : decode cX6_readCommand 31 = .ok (.invokevirtual 59, 3) := by decide +kernel
theorem dX6_readCommand_34 : decode cX6_readCommand 34 = .ok (.goto 66, 3) := by decide +kernel
theorem dX6_readCommand_37 : decode cX6_readCommand 37 = .ok (.aload_n 0, 1) := by decide +kernel
theorem dX6_readCommand_38 : decode cX6_readCommand 38 = .ok (.getfield 27, 3) := by decide +kernel
theorem dX6_readCommand_41 : decode cX6_readCommand 41 = .ok (.istore 5, 2) := by decide +kernel
theorem dX6_readCommand_43 : decode cX6_readCommand 43 = .ok (.aload_n 0, 1) := by decide +kernel
theorem dX6_readCommand_44 : decode cX6_readCommand 44 = .ok (.dup, 1) := by decide +kernel
theorem dX6_readCommand_45 : decode cX6_readCommand 45 = .ok (.getfield 27, 3) := by decide +kernel
theorem dX6_readCommand_48 : decode cX6_readCommand 48 = .ok (.iconst 1, 1) := by decide +kernel
theorem dX6_readCommand_49 : decode cX6_readCommand 49 = .ok (.iadd, 1) := by decide +kernel
theorem dX6_readCommand_50 : decode cX6_readCommand 50 = .ok (.putfield 27, 3) := by decide +kernel
theorem dX6_readCommand_53 : decode cX6_readCommand 53 = .ok (.aload_n 0, 1) := by decide +kernel
theorem dX6_readCommand_54 : decode cX6_readCommand 54 = .ok (.getfield 9, 3) := by decide +kernel
theorem dX6_readCommand_57 : decode cX6_readCommand 57 = .ok (.iload 5, 2) := by decide +kernel
theorem dX6_readCommand_59 : decode cX6_readCommand 59 = .ok (.iload 4, 2) := by decide +kernel
theorem dX6_readCommand_61 : decode cX6_readCommand 61 = .ok (.iastore, 1) := by decide +kernel
theorem dX6_readCommand_62 : decode cX6_readCommand 62 = .ok (.aload_n 1, 1) := by decide +kernel
theorem dX6_readCommand_63 : decode cX6_readCommand 63 = .ok (.iconst 0, 1) := by decide +kernel
theorem dX6_readCommand_64 : decode cX6_readCommand 64 = .ok (.invokevirtual 59, 3) := by decide +kernel
theorem dX6_readCommand_67 : decode cX6_readCommand 67 = .ok (.aload_n 0, 1) := by decide +kernel
theorem dX6_readCommand_68 : decode cX6_readCommand 68 = .ok (.aload_n 1, 1) := by decide +kernel
theorem dX6_readCommand_69 : decode cX6_readCommand 69 = .ok (.aload_n 2, 1) := by decide +kernel
theorem dX6_readCommand_70 : decode cX6_readCommand 70 = .ok (.iload 5, 2) := by decide +kernel
theorem dX6_readCommand_72 : decode cX6_readCommand 72 = .ok (.invokevirtual 63, 3) := by decide +kernel
theorem dX6_readCommand_75 : decode cX6_readCommand 75 = .ok (.iload 4, 2) := by decide +kernel
theorem dX6_readCommand_77 : decode cX6_readCommand 77 = .ok (.bipush 8, 2) := by decide +kernel
theorem dX6_readCommand_79 : decode cX6_readCommand 79 = .ok (.if_icmp .ne 10, 3) := by decide +kernel
theorem dX6_readCommand_82 : decode cX6_readCommand 82 = .ok (.aload_n 0, 1) := by decide +kernel
theorem dX6_readCommand_83 : decode cX6_readCommand 83 = .ok (.aload_n 1, 1) := by decide +kernel
theorem dX6_readCommand_84 : decode cX6_readCommand 84 = .ok (.aload_n 2, 1) := by decide +kernel
theorem dX6_readCommand_85 : decode cX6_readCommand 85 = .ok (.iload_n 3, 1) := by decide +kernel
theorem dX6_readCommand_86 : decode cX6_readCommand 86 = .ok (.invokevirtual 66, 3) := by decide +kernel
theorem dX6_readCommand_89 : decode cX6_readCommand 89 = .ok (.aload_n 0, 1) := by decide +kernel
theorem dX6_readCommand_90 : decode cX6_readCommand 90 = .ok (.getfield 24, 3) := by decide +kernel
theorem dX6_readCommand_93 : decode cX6_readCommand 93 = .ok (.iload 5, 2) := by decide +kernel
theorem dX6_readCommand_95 : decode cX6_readCommand 95 = .ok (.aload_n 0, 1) := by decide +kernel
theorem dX6_readCommand_96 : decode cX6_readCommand 96 = .ok (.getfield 27, 3) := by decide +kernel
theorem dX6_readCommand_99 : decode cX6_readCommand 99 = .ok (.iastore, 1) := by decide +kernel
theorem dX6_readCommand_100 : decode cX6_readCommand 100 = .ok (.return_, 1) := by decide +kernel
theorem dX6_kindOfWord_0 : decode cX6_kindOfWord 0 = .ok (.aload_n 0, 1) := by decide +kernel
theorem dX6_kindOfWord_1 : decode cX6_kindOfWord 1 = .ok (.ldc 69, 2) := by decide +kernel
theorem dX6_kindOfWord_3 : decode cX6_kindOfWord 3 = .ok (.invokevirtual 71, 3) := by decide +kernel
theorem dX6_kindOfWord_6 : decode cX6_kindOfWord 6 = .ok (.ifCond .eq 5, 3) := by decide +kernel
theorem dX6_kindOfWord_9 : decode cX6_kindOfWord 9 = .ok (.iconst 0, 1) := by decide +kernel
theorem dX6_kindOfWord_10 : decode cX6_kindOfWord 10 = .ok (.ireturn, 1) := by decide +kernel
theorem dX6_kindOfWord_11 : decode cX6_kindOfWord 11 = .ok (.aload_n 0, 1) := by decide +kernel
theorem dX6_kindOfWord_12 : decode cX6_kindOfWord 12 = .ok (.ldc 74, 2) := by decide +kernel
theorem dX6_kindOfWord_14 : decode cX6_kindOfWord 14 = .ok (.invokevirtual 71, 3) := by decide +kernel
theorem dX6_kindOfWord_17 : decode cX6_kindOfWord 17 = .ok (.ifCond .eq 5, 3) := by decide +kernel
theorem dX6_kindOfWord_20 : decode cX6_kindOfWord 20 = .ok (.iconst 1, 1) := by decide +kernel
theorem dX6_kindOfWord_21 : decode cX6_kindOfWord 21 = .ok (.ireturn, 1) := by decide +kernel
theorem dX6_kindOfWord_22 : decode cX6_kindOfWord 22 = .ok (.aload_n 0, 1) := by decide +kernel
theorem dX6_kindOfWord_23 : decode cX6_kindOfWord 23 = .ok (.ldc 76, 2) := by decide +kernel
theorem dX6_kindOfWord_25 : decode cX6_kindOfWord 25 = .ok (.invokevirtual 71, 3) := by decide +kernel
theorem dX6_kindOfWord_28 : decode cX6_kindOfWord 28 = .ok (.ifCond .eq 5, 3) := by decide +kernel
theorem dX6_kindOfWord_31 : decode cX6_kindOfWord 31 = .ok (.iconst 2, 1) := by decide +kernel
theorem dX6_kindOfWord_32 : decode cX6_kindOfWord 32 = .ok (.ireturn, 1) := by decide +kernel
theorem dX6_kindOfWord_33 : decode cX6_kindOfWord 33 = .ok (.aload_n 0, 1) := by decide +kernel
theorem dX6_kindOfWord_34 : decode cX6_kindOfWord 34 = .ok (.ldc 78, 2) := by decide +kernel
theorem dX6_kindOfWord_36 : decode cX6_kindOfWord 36 = .ok (.invokevirtual 71, 3) := by decide +kernel
theorem dX6_kindOfWord_39 : decode cX6_kindOfWord 39 = .ok (.ifCond .eq 5, 3) := by decide +kernel
theorem dX6_kindOfWord_42 : decode cX6_kindOfWord 42 = .ok (.iconst 3, 1) := by decide +kernel
theorem dX6_kindOfWord_43 : decode cX6_kindOfWord 43 = .ok (.ireturn, 1) := by decide +kernel
theorem dX6_kindOfWord_44 : decode cX6_kindOfWord 44 = .ok (.aload_n 0, 1) := by decide +kernel
theorem dX6_kindOfWord_45 : decode cX6_kindOfWord 45 = .ok (.ldc 80, 2) := by decide +kernel
theorem dX6_kindOfWord_47 : decode cX6_kindOfWord 47 = .ok (.invokevirtual 71, 3) := by decide +kernel
theorem dX6_kindOfWord_50 : decode cX6_kindOfWord 50 = .ok (.ifCond .eq 5, 3) := by decide +kernel
theorem dX6_kindOfWord_53 : decode cX6_kindOfWord 53 = .ok (.iconst 4, 1) := by decide +kernel
theorem dX6_kindOfWord_54 : decode cX6_kindOfWord 54 = .ok (.ireturn, 1) := by decide +kernel
theorem dX6_kindOfWord_55 : decode cX6_kindOfWord 55 = .ok (.aload_n 0, 1) := by decide +kernel
theorem dX6_kindOfWord_56 : decode cX6_kindOfWord 56 = .ok (.ldc 82, 2) := by decide +kernel
theorem dX6_kindOfWord_58 : decode cX6_kindOfWord 58 = .ok (.invokevirtual 71, 3) := by decide +kernel
theorem dX6_kindOfWord_61 : decode cX6_kindOfWord 61 = .ok (.ifCond .eq 5, 3) := by decide +kernel
theorem dX6_kindOfWord_64 : decode cX6_kindOfWord 64 = .ok (.iconst 5, 1) := by decide +kernel
theorem dX6_kindOfWord_65 : decode cX6_kindOfWord 65 = .ok (.ireturn, 1) := by decide +kernel
theorem dX6_kindOfWord_66 : decode cX6_kindOfWord 66 = .ok (.aload_n 0, 1) := by decide +kernel
theorem dX6_kindOfWord_67 : decode cX6_kindOfWord 67 = .ok (.ldc 84, 2) := by decide +kernel
theorem dX6_kindOfWord_69 : decode cX6_kindOfWord 69 = .ok (.invokevirtual 71, 3) := by decide +kernel
theorem dX6_kindOfWord_72 : decode cX6_kindOfWord 72 = .ok (.ifCond .eq 6, 3) := by decide +kernel
theorem dX6_kindOfWord_75 : decode cX6_kindOfWord 75 = .ok (.bipush 6, 2) := by decide +kernel
theorem dX6_kindOfWord_77 : decode cX6_kindOfWord 77 = .ok (.ireturn, 1) := by decide +kernel
theorem dX6_kindOfWord_78 : decode cX6_kindOfWord 78 = .ok (.aload_n 0, 1) := by decide +kernel
theorem dX6_kindOfWord_79 : decode cX6_kindOfWord 79 = .ok (.ldc 86, 2) := by decide +kernel
theorem dX6_kindOfWord_81 : decode cX6_kindOfWord 81 = .ok (.invokevirtual 71, 3) := by decide +kernel
theorem dX6_kindOfWord_84 : decode cX6_kindOfWord 84 = .ok (.ifCond .eq 6, 3) := by decide +kernel
theorem dX6_kindOfWord_87 : decode cX6_kindOfWord 87 = .ok (.bipush 7, 2) := by decide +kernel
theorem dX6_kindOfWord_89 : decode cX6_kindOfWord 89 = .ok (.ireturn, 1) := by decide +kernel
theorem dX6_kindOfWord_90 : decode cX6_kindOfWord 90 = .ok (.aload_n 0, 1) := by decide +kernel
theorem dX6_kindOfWord_91 : decode cX6_kindOfWord 91 = .ok (.ldc 88, 2) := by decide +kernel
theorem dX6_kindOfWord_93 : decode cX6_kindOfWord 93 = .ok (.invokevirtual 71, 3) := by decide +kernel
theorem dX6_kindOfWord_96 : decode cX6_kindOfWord 96 = .ok (.ifCond .eq 8, 3) := by decide +kernel
theorem dX6_kindOfWord_99 : decode cX6_kindOfWord 99 = .ok (.bipush 8, 2) := by decide +kernel
theorem dX6_kindOfWord_101 : decode cX6_kindOfWord 101 = .ok (.goto 4, 3) := by decide +kernel
theorem dX6_kindOfWord_104 : decode cX6_kindOfWord 104 = .ok (.iconst (-1), 1) := by decide +kernel
theorem dX6_kindOfWord_105 : decode cX6_kindOfWord 105 = .ok (.ireturn, 1) := by decide +kernel
theorem dX6_readOperands_0 : decode cX6_readOperands 0 = .ok (.aload_n 0, 1) := by decide +kernel
theorem dX6_readOperands_1 : decode cX6_readOperands 1 = .ok (.getfield 9, 3) := by decide +kernel
theorem dX6_readOperands_4 : decode cX6_readOperands 4 = .ok (.iload_n 3, 1) := by decide +kernel
theorem dX6_readOperands_5 : decode cX6_readOperands 5 = .ok (.iaload, 1) := by decide +kernel
theorem dX6_readOperands_6 : decode cX6_readOperands 6 = .ok (.tableswitch 199 0 8 #[50, 77, 114, 140, 199, 199, 156, 170, 183], 50) := by decide +kernel
theorem dX6_readOperands_56 : decode cX6_readOperands 56 = .ok (.aload_n 0, 1) := by decide +kernel
theorem dX6_readOperands_57 : decode cX6_readOperands 57 = .ok (.getfield 15, 3) := by decide +kernel
theorem dX6_readOperands_60 : decode cX6_readOperands 60 = .ok (.iload_n 3, 1) := by decide +kernel
theorem dX6_readOperands_61 : decode cX6_readOperands 61 = .ok (.aload_n 2, 1) := by decide +kernel
theorem dX6_readOperands_62 : decode cX6_readOperands 62 = .ok (.aload_n 1, 1) := by decide +kernel
theorem dX6_readOperands_63 : decode cX6_readOperands 63 = .ok (.invokevirtual 90, 3) := by decide +kernel
theorem dX6_readOperands_66 : decode cX6_readOperands 66 = .ok (.iastore, 1) := by decide +kernel
theorem dX6_readOperands_67 : decode cX6_readOperands 67 = .ok (.aload_n 0, 1) := by decide +kernel
theorem dX6_readOperands_68 : decode cX6_readOperands 68 = .ok (.getfield 21, 3) := by decide +kernel
theorem dX6_readOperands_71 : decode cX6_readOperands 71 = .ok (.iload_n 3, 1) := by decide +kernel
theorem dX6_readOperands_72 : decode cX6_readOperands 72 = .ok (.aload_n 1, 1) := by decide +kernel
theorem dX6_readOperands_73 : decode cX6_readOperands 73 = .ok (.iconst 0, 1) := by decide +kernel
theorem dX6_readOperands_74 : decode cX6_readOperands 74 = .ok (.bipush 20, 2) := by decide +kernel
theorem dX6_readOperands_76 : decode cX6_readOperands 76 = .ok (.invokevirtual 95, 3) := by decide +kernel
theorem dX6_readOperands_79 : decode cX6_readOperands 79 = .ok (.iastore, 1) := by decide +kernel
theorem dX6_readOperands_80 : decode cX6_readOperands 80 = .ok (.goto 138, 3) := by decide +kernel
theorem dX6_readOperands_83 : decode cX6_readOperands 83 = .ok (.aload_n 0, 1) := by decide +kernel
theorem dX6_readOperands_84 : decode cX6_readOperands 84 = .ok (.getfield 15, 3) := by decide +kernel
theorem dX6_readOperands_87 : decode cX6_readOperands 87 = .ok (.iload_n 3, 1) := by decide +kernel
theorem dX6_readOperands_88 : decode cX6_readOperands 88 = .ok (.aload_n 2, 1) := by decide +kernel
theorem dX6_readOperands_89 : decode cX6_readOperands 89 = .ok (.aload_n 1, 1) := by decide +kernel
theorem dX6_readOperands_90 : decode cX6_readOperands 90 = .ok (.invokevirtual 90, 3) := by decide +kernel
theorem dX6_readOperands_93 : decode cX6_readOperands 93 = .ok (.iastore, 1) := by decide +kernel
theorem dX6_readOperands_94 : decode cX6_readOperands 94 = .ok (.aload_n 0, 1) := by decide +kernel
theorem dX6_readOperands_95 : decode cX6_readOperands 95 = .ok (.getfield 18, 3) := by decide +kernel
theorem dX6_readOperands_98 : decode cX6_readOperands 98 = .ok (.iload_n 3, 1) := by decide +kernel
theorem dX6_readOperands_99 : decode cX6_readOperands 99 = .ok (.aload_n 1, 1) := by decide +kernel
theorem dX6_readOperands_100 : decode cX6_readOperands 100 = .ok (.invokestatic 99, 3) := by decide +kernel
theorem dX6_readOperands_103 : decode cX6_readOperands 103 = .ok (.iastore, 1) := by decide +kernel
theorem dX6_readOperands_104 : decode cX6_readOperands 104 = .ok (.aload_n 0, 1) := by decide +kernel
theorem dX6_readOperands_105 : decode cX6_readOperands 105 = .ok (.getfield 21, 3) := by decide +kernel
theorem dX6_readOperands_108 : decode cX6_readOperands 108 = .ok (.iload_n 3, 1) := by decide +kernel
theorem dX6_readOperands_109 : decode cX6_readOperands 109 = .ok (.aload_n 1, 1) := by decide +kernel
theorem dX6_readOperands_110 : decode cX6_readOperands 110 = .ok (.iconst 0, 1) := by decide +kernel
theorem dX6_readOperands_111 : decode cX6_readOperands 111 = .ok (.bipush 15, 2) := by decide +kernel
theorem dX6_readOperands_113 : decode cX6_readOperands 113 = .ok (.invokevirtual 95, 3) := by decide +kernel
theorem dX6_readOperands_116 : decode cX6_readOperands 116 = .ok (.iastore, 1) := by decide +kernel
theorem dX6_readOperands_117 : decode cX6_readOperands 117 = .ok (.goto 101, 3) := by decide +kernel
theorem dX6_readOperands_120 : decode cX6_readOperands 120 = .ok (.aload_n 0, 1) := by decide +kernel
theorem dX6_readOperands_121 : decode cX6_readOperands 121 = .ok (.getfield 15, 3) := by decide +kernel
theorem dX6_readOperands_124 : decode cX6_readOperands 124 = .ok (.iload_n 3, 1) := by decide +kernel
theorem dX6_readOperands_125 : decode cX6_readOperands 125 = .ok (.aload_n 2, 1) := by decide +kernel
theorem dX6_readOperands_126 : decode cX6_readOperands 126 = .ok (.aload_n 1, 1) := by decide +kernel
theorem dX6_readOperands_127 : decode cX6_readOperands 127 = .ok (.invokevirtual 90, 3) := by decide +kernel
theorem dX6_readOperands_130 : decode cX6_readOperands 130 = .ok (.iastore, 1) := by decide +kernel
theorem dX6_readOperands_131 : decode cX6_readOperands 131 = .ok (.aload_n 0, 1) := by decide +kernel
theorem dX6_readOperands_132 : decode cX6_readOperands 132 = .ok (.getfield 21, 3) := by decide +kernel
theorem dX6_readOperands_135 : decode cX6_readOperands 135 = .ok (.iload_n 3, 1) := by decide +kernel
theorem dX6_readOperands_136 : decode cX6_readOperands 136 = .ok (.aload_n 1, 1) := by decide +kernel
theorem dX6_readOperands_137 : decode cX6_readOperands 137 = .ok (.iconst 0, 1) := by decide +kernel
theorem dX6_readOperands_138 : decode cX6_readOperands 138 = .ok (.iconst 3, 1) := by decide +kernel
theorem dX6_readOperands_139 : decode cX6_readOperands 139 = .ok (.invokevirtual 95, 3) := by decide +kernel
theorem dX6_readOperands_142 : decode cX6_readOperands 142 = .ok (.iastore, 1) := by decide +kernel
theorem dX6_readOperands_143 : decode cX6_readOperands 143 = .ok (.goto 75, 3) := by decide +kernel
theorem dX6_readOperands_146 : decode cX6_readOperands 146 = .ok (.aload_n 0, 1) := by decide +kernel
theorem dX6_readOperands_147 : decode cX6_readOperands 147 = .ok (.getfield 21, 3) := by decide +kernel
theorem dX6_readOperands_150 : decode cX6_readOperands 150 = .ok (.iload_n 3, 1) := by decide +kernel
theorem dX6_readOperands_151 : decode cX6_readOperands 151 = .ok (.aload_n 1, 1) := by decide +kernel
theorem dX6_readOperands_152 : decode cX6_readOperands 152 = .ok (.iconst 1, 1) := by decide +kernel
theorem dX6_readOperands_153 : decode cX6_readOperands 153 = .ok (.bipush 60, 2) := by decide +kernel
theorem dX6_readOperands_155 : decode cX6_readOperands 155 = .ok (.invokevirtual 95, 3) := by decide +kernel
theorem dX6_readOperands_158 : decode cX6_readOperands 158 = .ok (.iastore, 1) := by decide +kernel
theorem dX6_readOperands_159 : decode cX6_readOperands 159 = .ok (.goto 59, 3) := by decide +kernel
theorem dX6_readOperands_162 : decode cX6_readOperands 162 = .ok (.aload_n 0, 1) := by decide +kernel
theorem dX6_readOperands_163 : decode cX6_readOperands 163 = .ok (.getfield 15, 3) := by decide +kernel
theorem dX6_readOperands_166 : decode cX6_readOperands 166 = .ok (.iload_n 3, 1) := by decide +kernel
theorem dX6_readOperands_167 : decode cX6_readOperands 167 = .ok (.aload_n 2, 1) := by decide +kernel
theorem dX6_readOperands_168 : decode cX6_readOperands 168 = .ok (.aload_n 1, 1) := by decide +kernel
theorem dX6_readOperands_169 : decode cX6_readOperands 169 = .ok (.invokevirtual 90, 3) := by decide +kernel
theorem dX6_readOperands_172 : decode cX6_readOperands 172 = .ok (.iastore, 1) := by decide +kernel
theorem dX6_readOperands_173 : decode cX6_readOperands 173 = .ok (.goto 45, 3) := by decide +kernel
theorem dX6_readOperands_176 : decode cX6_readOperands 176 = .ok (.aload_n 0, 1) := by decide +kernel
theorem dX6_readOperands_177 : decode cX6_readOperands 177 = .ok (.getfield 21, 3) := by decide +kernel
theorem dX6_readOperands_180 : decode cX6_readOperands 180 = .ok (.iload_n 3, 1) := by decide +kernel
theorem dX6_readOperands_181 : decode cX6_readOperands 181 = .ok (.aload_n 1, 1) := by decide +kernel
theorem dX6_readOperands_182 : decode cX6_readOperands 182 = .ok (.invokestatic 102, 3) := by decide +kernel
theorem dX6_readOperands_185 : decode cX6_readOperands 185 = .ok (.iastore, 1) := by decide +kernel
theorem dX6_readOperands_186 : decode cX6_readOperands 186 = .ok (.goto 32, 3) := by decide +kernel
theorem dX6_readOperands_189 : decode cX6_readOperands 189 = .ok (.aload_n 0, 1) := by decide +kernel
theorem dX6_readOperands_190 : decode cX6_readOperands 190 = .ok (.getfield 21, 3) := by decide +kernel
theorem dX6_readOperands_193 : decode cX6_readOperands 193 = .ok (.iload_n 3, 1) := by decide +kernel
theorem dX6_readOperands_194 : decode cX6_readOperands 194 = .ok (.aload_n 1, 1) := by decide +kernel
theorem dX6_readOperands_195 : decode cX6_readOperands 195 = .ok (.iconst 0, 1) := by decide +kernel
theorem dX6_readOperands_196 : decode cX6_readOperands 196 = .ok (.bipush 20, 2) := by decide +kernel
theorem dX6_readOperands_198 : decode cX6_readOperands 198 = .ok (.invokevirtual 95, 3) := by decide +kernel
theorem dX6_readOperands_201 : decode cX6_readOperands 201 = .ok (.iastore, 1) := by decide +kernel
theorem dX6_readOperands_202 : decode cX6_readOperands 202 = .ok (.goto 16, 3) := by decide +kernel
theorem dX6_readOperands_205 : decode cX6_readOperands 205 = .ok (.aload_n 0, 1) := by decide +kernel
theorem dX6_readOperands_206 : decode cX6_readOperands 206 = .ok (.getfield 21, 3) := by decide +kernel
theorem dX6_readOperands_209 : decode cX6_readOperands 209 = .ok (.iload_n 3, 1) := by decide +kernel
theorem dX6_readOperands_210 : decode cX6_readOperands 210 = .ok (.aload_n 1, 1) := by decide +kernel
theorem dX6_readOperands_211 : decode cX6_readOperands 211 = .ok (.iconst 0, 1) := by decide +kernel
theorem dX6_readOperands_212 : decode cX6_readOperands 212 = .ok (.bipush 15, 2) := by decide +kernel
theorem dX6_readOperands_214 : decode cX6_readOperands 214 = .ok (.invokevirtual 95, 3) := by decide +kernel
theorem dX6_readOperands_217 : decode cX6_readOperands 217 = .ok (.iastore, 1) := by decide +kernel
theorem dX6_readOperands_218 : decode cX6_readOperands 218 = .ok (.return_, 1) := by decide +kernel
theorem dX6_takeSide_0 : decode cX6_takeSide 0 = .ok (.aload_n 0, 1) := by decide +kernel
theorem dX6_takeSide_1 : decode cX6_takeSide 1 = .ok (.ldc 105, 2) := by decide +kernel
theorem dX6_takeSide_3 : decode cX6_takeSide 3 = .ok (.invokevirtual 71, 3) := by decide +kernel
theorem dX6_takeSide_6 : decode cX6_takeSide 6 = .ok (.istore_n 1, 1) := by decide +kernel
theorem dX6_takeSide_7 : decode cX6_takeSide 7 = .ok (.aload_n 0, 1) := by decide +kernel
theorem dX6_takeSide_8 : decode cX6_takeSide 8 = .ok (.iload_n 1, 1) := by decide +kernel
theorem dX6_takeSide_9 : decode cX6_takeSide 9 = .ok (.ifCond .ne 12, 3) := by decide +kernel
theorem dX6_takeSide_12 : decode cX6_takeSide 12 = .ok (.aload_n 0, 1) := by decide +kernel
theorem dX6_takeSide_13 : decode cX6_takeSide 13 = .ok (.ldc 107, 2) := by decide +kernel
theorem dX6_takeSide_15 : decode cX6_takeSide 15 = .ok (.invokevirtual 71, 3) := by decide +kernel
theorem dX6_takeSide_18 : decode cX6_takeSide 18 = .ok (.ifCond .eq 7, 3) := by decide +kernel
theorem dX6_takeSide_21 : decode cX6_takeSide 21 = .ok (.iconst 0, 1) := by decide +kernel
theorem dX6_takeSide_22 : decode cX6_takeSide 22 = .ok (.goto 4, 3) := by decide +kernel
theorem dX6_takeSide_25 : decode cX6_takeSide 25 = .ok (.iconst 1, 1) := by decide +kernel
theorem dX6_takeSide_26 : decode cX6_takeSide 26 = .ok (.invokevirtual 59, 3) := by decide +kernel
theorem dX6_takeSide_29 : decode cX6_takeSide 29 = .ok (.iload_n 1, 1) := by decide +kernel
theorem dX6_takeSide_30 : decode cX6_takeSide 30 = .ok (.ifCond .eq 7, 3) := by decide +kernel
theorem dX6_takeSide_33 : decode cX6_takeSide 33 = .ok (.iconst 1, 1) := by decide +kernel
theorem dX6_takeSide_34 : decode cX6_takeSide 34 = .ok (.goto 4, 3) := by decide +kernel
theorem dX6_takeSide_37 : decode cX6_takeSide 37 = .ok (.iconst (-1), 1) := by decide +kernel
theorem dX6_takeSide_38 : decode cX6_takeSide 38 = .ok (.ireturn, 1) := by decide +kernel
theorem dX6_takeRanking_0 : decode cX6_takeRanking 0 = .ok (.iconst (-1), 1) := by decide +kernel
theorem dX6_takeRanking_1 : decode cX6_takeRanking 1 = .ok (.istore_n 1, 1) := by decide +kernel
theorem dX6_takeRanking_2 : decode cX6_takeRanking 2 = .ok (.aload_n 0, 1) := by decide +kernel
theorem dX6_takeRanking_3 : decode cX6_takeRanking 3 = .ok (.ldc 109, 2) := by decide +kernel
theorem dX6_takeRanking_5 : decode cX6_takeRanking 5 = .ok (.invokevirtual 71, 3) := by decide +kernel
theorem dX6_takeRanking_8 : decode cX6_takeRanking 8 = .ok (.ifCond .eq 8, 3) := by decide +kernel
theorem dX6_takeRanking_11 : decode cX6_takeRanking 11 = .ok (.iconst 0, 1) := by decide +kernel
theorem dX6_takeRanking_12 : decode cX6_takeRanking 12 = .ok (.istore_n 1, 1) := by decide +kernel
theorem dX6_takeRanking_13 : decode cX6_takeRanking 13 = .ok (.goto 42, 3) := by decide +kernel
theorem dX6_takeRanking_16 : decode cX6_takeRanking 16 = .ok (.aload_n 0, 1) := by decide +kernel
theorem dX6_takeRanking_17 : decode cX6_takeRanking 17 = .ok (.ldc 111, 2) := by decide +kernel
theorem dX6_takeRanking_19 : decode cX6_takeRanking 19 = .ok (.invokevirtual 71, 3) := by decide +kernel
theorem dX6_takeRanking_22 : decode cX6_takeRanking 22 = .ok (.ifCond .eq 8, 3) := by decide +kernel
theorem dX6_takeRanking_25 : decode cX6_takeRanking 25 = .ok (.iconst 1, 1) := by decide +kernel
theorem dX6_takeRanking_26 : decode cX6_takeRanking 26 = .ok (.istore_n 1, 1) := by decide +kernel
theorem dX6_takeRanking_27 : decode cX6_takeRanking 27 = .ok (.goto 28, 3) := by decide +kernel
theorem dX6_takeRanking_30 : decode cX6_takeRanking 30 = .ok (.aload_n 0, 1) := by decide +kernel
theorem dX6_takeRanking_31 : decode cX6_takeRanking 31 = .ok (.ldc 113, 2) := by decide +kernel
theorem dX6_takeRanking_33 : decode cX6_takeRanking 33 = .ok (.invokevirtual 71, 3) := by decide +kernel
theorem dX6_takeRanking_36 : decode cX6_takeRanking 36 = .ok (.ifCond .eq 8, 3) := by decide +kernel
theorem dX6_takeRanking_39 : decode cX6_takeRanking 39 = .ok (.iconst 2, 1) := by decide +kernel
theorem dX6_takeRanking_40 : decode cX6_takeRanking 40 = .ok (.istore_n 1, 1) := by decide +kernel
theorem dX6_takeRanking_41 : decode cX6_takeRanking 41 = .ok (.goto 14, 3) := by decide +kernel
theorem dX6_takeRanking_44 : decode cX6_takeRanking 44 = .ok (.aload_n 0, 1) := by decide +kernel
theorem dX6_takeRanking_45 : decode cX6_takeRanking 45 = .ok (.ldc 115, 2) := by decide +kernel
theorem dX6_takeRanking_47 : decode cX6_takeRanking 47 = .ok (.invokevirtual 71, 3) := by decide +kernel
theorem dX6_takeRanking_50 : decode cX6_takeRanking 50 = .ok (.ifCond .eq 5, 3) := by decide +kernel
theorem dX6_takeRanking_53 : decode cX6_takeRanking 53 = .ok (.iconst 3, 1) := by decide +kernel
theorem dX6_takeRanking_54 : decode cX6_takeRanking 54 = .ok (.istore_n 1, 1) := by decide +kernel
theorem dX6_takeRanking_55 : decode cX6_takeRanking 55 = .ok (.aload_n 0, 1) := by decide +kernel
theorem dX6_takeRanking_56 : decode cX6_takeRanking 56 = .ok (.iload_n 1, 1) := by decide +kernel
theorem dX6_takeRanking_57 : decode cX6_takeRanking 57 = .ok (.iconst (-1), 1) := by decide +kernel
theorem dX6_takeRanking_58 : decode cX6_takeRanking 58 = .ok (.if_icmp .ne 7, 3) := by decide +kernel
theorem dX6_takeRanking_61 : decode cX6_takeRanking 61 = .ok (.iconst 1, 1) := by decide +kernel
theorem dX6_takeRanking_62 : decode cX6_takeRanking 62 = .ok (.goto 4, 3) := by decide +kernel
theorem dX6_takeRanking_65 : decode cX6_takeRanking 65 = .ok (.iconst 0, 1) := by decide +kernel
theorem dX6_takeRanking_66 : decode cX6_takeRanking 66 = .ok (.invokevirtual 59, 3) := by decide +kernel
theorem dX6_takeRanking_69 : decode cX6_takeRanking 69 = .ok (.iload_n 1, 1) := by decide +kernel
theorem dX6_takeRanking_70 : decode cX6_takeRanking 70 = .ok (.ireturn, 1) := by decide +kernel
theorem dX6_readBrackets_0 : decode cX6_readBrackets 0 = .ok (.iload_n 3, 1) := by decide +kernel
theorem dX6_readBrackets_1 : decode cX6_readBrackets 1 = .ok (.iconst 2, 1) := by decide +kernel
theorem dX6_readBrackets_2 : decode cX6_readBrackets 2 = .ok (.if_icmp .lt 22, 3) := by decide +kernel
theorem dX6_readBrackets_5 : decode cX6_readBrackets 5 = .ok (.aload_n 1, 1) := by decide +kernel
theorem dX6_readBrackets_6 : decode cX6_readBrackets 6 = .ok (.aload_n 1, 1) := by decide +kernel
theorem dX6_readBrackets_7 : decode cX6_readBrackets 7 = .ok (.bipush 40, 2) := by decide +kernel
theorem dX6_readBrackets_9 : decode cX6_readBrackets 9 = .ok (.invokevirtual 117, 3) := by decide +kernel
theorem dX6_readBrackets_12 : decode cX6_readBrackets 12 = .ok (.ifCond .eq 7, 3) := by decide +kernel
theorem dX6_readBrackets_15 : decode cX6_readBrackets 15 = .ok (.iconst 4, 1) := by decide +kernel
theorem dX6_readBrackets_16 : decode cX6_readBrackets 16 = .ok (.goto 4, 3) := by decide +kernel
theorem dX6_readBrackets_19 : decode cX6_readBrackets 19 = .ok (.iconst 1, 1) := by decide +kernel
theorem dX6_readBrackets_20 : decode cX6_readBrackets 20 = .ok (.invokevirtual 59, 3) := by decide +kernel
theorem dX6_readBrackets_23 : decode cX6_readBrackets 23 = .ok (.return_, 1) := by decide +kernel
theorem dX6_readBrackets_24 : decode cX6_readBrackets 24 = .ok (.aload_n 1, 1) := by decide +kernel
theorem dX6_readBrackets_25 : decode cX6_readBrackets 25 = .ok (.bipush 40, 2) := by decide +kernel
theorem dX6_readBrackets_27 : decode cX6_readBrackets 27 = .ok (.invokevirtual 51, 3) := by decide +kernel
theorem dX6_readBrackets_30 : decode cX6_readBrackets 30 = .ok (.aload_n 0, 1) := by decide +kernel
theorem dX6_readBrackets_31 : decode cX6_readBrackets 31 = .ok (.aload_n 1, 1) := by decide +kernel
theorem dX6_readBrackets_32 : decode cX6_readBrackets 32 = .ok (.aload_n 2, 1) := by decide +kernel
theorem dX6_readBrackets_33 : decode cX6_readBrackets 33 = .ok (.iload_n 3, 1) := by decide +kernel
theorem dX6_readBrackets_34 : decode cX6_readBrackets 34 = .ok (.iconst 1, 1) := by decide +kernel
theorem dX6_readBrackets_35 : decode cX6_readBrackets 35 = .ok (.iadd, 1) := by decide +kernel
theorem dX6_readBrackets_36 : decode cX6_readBrackets 36 = .ok (.invokevirtual 121, 3) := by decide +kernel
theorem dX6_readBrackets_39 : decode cX6_readBrackets 39 = .ok (.aload_n 1, 1) := by decide +kernel
theorem dX6_readBrackets_40 : decode cX6_readBrackets 40 = .ok (.bipush 41, 2) := by decide +kernel
theorem dX6_readBrackets_42 : decode cX6_readBrackets 42 = .ok (.invokevirtual 51, 3) := by decide +kernel
theorem dX6_readBrackets_45 : decode cX6_readBrackets 45 = .ok (.return_, 1) := by decide +kernel
theorem dX6_runBlock_0 : decode cX6_runBlock 0 = .ok (.iload_n 2, 1) := by decide +kernel
theorem dX6_runBlock_1 : decode cX6_runBlock 1 = .ok (.istore 5, 2) := by decide +kernel
theorem dX6_runBlock_3 : decode cX6_runBlock 3 = .ok (.iload 5, 2) := by decide +kernel
theorem dX6_runBlock_5 : decode cX6_runBlock 5 = .ok (.iload_n 3, 1) := by decide +kernel
theorem dX6_runBlock_6 : decode cX6_runBlock 6 = .ok (.if_icmp .ge 97, 3) := by decide +kernel
theorem dX6_runBlock_9 : decode cX6_runBlock 9 = .ok (.aload_n 0, 1) := by decide +kernel
theorem dX6_runBlock_10 : decode cX6_runBlock 10 = .ok (.getfield 34, 3) := by decide +kernel
theorem dX6_runBlock_13 : decode cX6_runBlock 13 = .ok (.ifCond .ne 90, 3) := by decide +kernel
theorem dX6_runBlock_16 : decode cX6_runBlock 16 = .ok (.aload_n 0, 1) := by decide +kernel
theorem dX6_runBlock_17 : decode cX6_runBlock 17 = .ok (.getfield 9, 3) := by decide +kernel
theorem dX6_runBlock_20 : decode cX6_runBlock 20 = .ok (.iload 5, 2) := by decide +kernel
theorem dX6_runBlock_22 : decode cX6_runBlock 22 = .ok (.iaload, 1) := by decide +kernel
theorem dX6_runBlock_23 : decode cX6_runBlock 23 = .ok (.bipush 8, 2) := by decide +kernel
theorem dX6_runBlock_25 : decode cX6_runBlock 25 = .ok (.if_icmp .ne 15, 3) := by decide +kernel
theorem dX6_runBlock_28 : decode cX6_runBlock 28 = .ok (.aload_n 0, 1) := by decide +kernel
theorem dX6_runBlock_29 : decode cX6_runBlock 29 = .ok (.aload_n 1, 1) := by decide +kernel
theorem dX6_runBlock_30 : decode cX6_runBlock 30 = .ok (.iload 5, 2) := by decide +kernel
theorem dX6_runBlock_32 : decode cX6_runBlock 32 = .ok (.iload 4, 2) := by decide +kernel
theorem dX6_runBlock_34 : decode cX6_runBlock 34 = .ok (.invokevirtual 124, 3) := by decide +kernel
theorem dX6_runBlock_37 : decode cX6_runBlock 37 = .ok (.goto 47, 3) := by decide +kernel
theorem dX6_runBlock_40 : decode cX6_runBlock 40 = .ok (.aload_n 0, 1) := by decide +kernel
theorem dX6_runBlock_41 : decode cX6_runBlock 41 = .ok (.getfield 31, 3) := by decide +kernel
theorem dX6_runBlock_44 : decode cX6_runBlock 44 = .ok (.bipush 40, 2) := by decide +kernel
theorem dX6_runBlock_46 : decode cX6_runBlock 46 = .ok (.if_icmp .ge 13, 3) := by decide +kernel
theorem dX6_runBlock_49 : decode cX6_runBlock 49 = .ok (.aload_n 0, 1) := by decide +kernel
theorem dX6_runBlock_50 : decode cX6_runBlock 50 = .ok (.aload_n 1, 1) := by decide +kernel
theorem dX6_runBlock_51 : decode cX6_runBlock 51 = .ok (.iload 5, 2) := by decide +kernel
theorem dX6_runBlock_53 : decode cX6_runBlock 53 = .ok (.invokevirtual 128, 3) := by decide +kernel
theorem dX6_runBlock_56 : decode cX6_runBlock 56 = .ok (.ifCond .eq 11, 3) := by decide +kernel
theorem dX6_runBlock_59 : decode cX6_runBlock 59 = .ok (.aload_n 0, 1) := by decide +kernel
theorem dX6_runBlock_60 : decode cX6_runBlock 60 = .ok (.iconst 1, 1) := by decide +kernel
theorem dX6_runBlock_61 : decode cX6_runBlock 61 = .ok (.putfield 34, 3) := by decide +kernel
theorem dX6_runBlock_64 : decode cX6_runBlock 64 = .ok (.goto 20, 3) := by decide +kernel
theorem dX6_runBlock_67 : decode cX6_runBlock 67 = .ok (.aload_n 0, 1) := by decide +kernel
theorem dX6_runBlock_68 : decode cX6_runBlock 68 = .ok (.aload_n 1, 1) := by decide +kernel
theorem dX6_runBlock_69 : decode cX6_runBlock 69 = .ok (.iload 5, 2) := by decide +kernel
theorem dX6_runBlock_71 : decode cX6_runBlock 71 = .ok (.invokevirtual 132, 3) := by decide +kernel
theorem dX6_runBlock_74 : decode cX6_runBlock 74 = .ok (.aload_n 0, 1) := by decide +kernel
theorem dX6_runBlock_75 : decode cX6_runBlock 75 = .ok (.dup, 1) := by decide +kernel
theorem dX6_runBlock_76 : decode cX6_runBlock 76 = .ok (.getfield 31, 3) := by decide +kernel
theorem dX6_runBlock_79 : decode cX6_runBlock 79 = .ok (.iconst 1, 1) := by decide +kernel
theorem dX6_runBlock_80 : decode cX6_runBlock 80 = .ok (.iadd, 1) := by decide +kernel
theorem dX6_runBlock_81 : decode cX6_runBlock 81 = .ok (.putfield 31, 3) := by decide +kernel
theorem dX6_runBlock_84 : decode cX6_runBlock 84 = .ok (.iload 5, 2) := by decide +kernel
theorem dX6_runBlock_86 : decode cX6_runBlock 86 = .ok (.iconst 1, 1) := by decide +kernel
theorem dX6_runBlock_87 : decode cX6_runBlock 87 = .ok (.iadd, 1) := by decide +kernel
theorem dX6_runBlock_88 : decode cX6_runBlock 88 = .ok (.aload_n 0, 1) := by decide +kernel
theorem dX6_runBlock_89 : decode cX6_runBlock 89 = .ok (.getfield 24, 3) := by decide +kernel
theorem dX6_runBlock_92 : decode cX6_runBlock 92 = .ok (.iload 5, 2) := by decide +kernel
theorem dX6_runBlock_94 : decode cX6_runBlock 94 = .ok (.iaload, 1) := by decide +kernel
theorem dX6_runBlock_95 : decode cX6_runBlock 95 = .ok (.invokestatic 136, 3) := by decide +kernel
theorem dX6_runBlock_98 : decode cX6_runBlock 98 = .ok (.istore 5, 2) := by decide +kernel
theorem dX6_runBlock_100 : decode cX6_runBlock 100 = .ok (.goto (-97), 3) := by decide +kernel
theorem dX6_runBlock_103 : decode cX6_runBlock 103 = .ok (.return_, 1) := by decide +kernel
theorem dX6_runRepeat_0 : decode cX6_runRepeat 0 = .ok (.iconst 0, 1) := by decide +kernel
theorem dX6_runRepeat_1 : decode cX6_runRepeat 1 = .ok (.istore 4, 2) := by decide +kernel
theorem dX6_runRepeat_3 : decode cX6_runRepeat 3 = .ok (.iload 4, 2) := by decide +kernel
theorem dX6_runRepeat_5 : decode cX6_runRepeat 5 = .ok (.aload_n 0, 1) := by decide +kernel
theorem dX6_runRepeat_6 : decode cX6_runRepeat 6 = .ok (.getfield 21, 3) := by decide +kernel
theorem dX6_runRepeat_9 : decode cX6_runRepeat 9 = .ok (.iload_n 2, 1) := by decide +kernel
theorem dX6_runRepeat_10 : decode cX6_runRepeat 10 = .ok (.iaload, 1) := by decide +kernel
theorem dX6_runRepeat_11 : decode cX6_runRepeat 11 = .ok (.if_icmp .ge 31, 3) := by decide +kernel
theorem dX6_runRepeat_14 : decode cX6_runRepeat 14 = .ok (.iload_n 3, 1) := by decide +kernel
theorem dX6_runRepeat_15 : decode cX6_runRepeat 15 = .ok (.iconst 2, 1) := by decide +kernel
theorem dX6_runRepeat_16 : decode cX6_runRepeat 16 = .ok (.if_icmp .ge 26, 3) := by decide +kernel
theorem dX6_runRepeat_19 : decode cX6_runRepeat 19 = .ok (.aload_n 0, 1) := by decide +kernel
theorem dX6_runRepeat_20 : decode cX6_runRepeat 20 = .ok (.aload_n 1, 1) := by decide +kernel
theorem dX6_runRepeat_21 : decode cX6_runRepeat 21 = .ok (.iload_n 2, 1) := by decide +kernel
theorem dX6_runRepeat_22 : decode cX6_runRepeat 22 = .ok (.iconst 1, 1) := by decide +kernel
theorem dX6_runRepeat_23 : decode cX6_runRepeat 23 = .ok (.iadd, 1) := by decide +kernel
theorem dX6_runRepeat_24 : decode cX6_runRepeat 24 = .ok (.aload_n 0, 1) := by decide +kernel
theorem dX6_runRepeat_25 : decode cX6_runRepeat 25 = .ok (.getfield 24, 3) := by decide +kernel
theorem dX6_runRepeat_28 : decode cX6_runRepeat 28 = .ok (.iload_n 2, 1) := by decide +kernel
theorem dX6_runRepeat_29 : decode cX6_runRepeat 29 = .ok (.iaload, 1) := by decide +kernel
theorem dX6_runRepeat_30 : decode cX6_runRepeat 30 = .ok (.iload_n 3, 1) := by decide +kernel
theorem dX6_runRepeat_31 : decode cX6_runRepeat 31 = .ok (.iconst 1, 1) := by decide +kernel
theorem dX6_runRepeat_32 : decode cX6_runRepeat 32 = .ok (.iadd, 1) := by decide +kernel
theorem dX6_runRepeat_33 : decode cX6_runRepeat 33 = .ok (.invokevirtual 141, 3) := by decide +kernel
theorem dX6_runRepeat_36 : decode cX6_runRepeat 36 = .ok (.iinc 4 1, 3) := by decide +kernel
theorem dX6_runRepeat_39 : decode cX6_runRepeat 39 = .ok (.goto (-36), 3) := by decide +kernel
theorem dX6_runRepeat_42 : decode cX6_runRepeat 42 = .ok (.return_, 1) := by decide +kernel
theorem dX6_refusalOf_0 : decode cX6_refusalOf 0 = .ok (.aload_n 0, 1) := by decide +kernel
theorem dX6_refusalOf_1 : decode cX6_refusalOf 1 = .ok (.getfield 9, 3) := by decide +kernel
theorem dX6_refusalOf_4 : decode cX6_refusalOf 4 = .ok (.iload_n 2, 1) := by decide +kernel
theorem dX6_refusalOf_5 : decode cX6_refusalOf 5 = .ok (.iaload, 1) := by decide +kernel
theorem dX6_refusalOf_6 : decode cX6_refusalOf 6 = .ok (.tableswitch 137 0 6 #[42, 59, 76, 93, 104, 115, 126], 42) := by decide +kernel
theorem dX6_refusalOf_48 : decode cX6_refusalOf 48 = .ok (.aload_n 1, 1) := by decide +kernel
theorem dX6_refusalOf_49 : decode cX6_refusalOf 49 = .ok (.aload_n 0, 1) := by decide +kernel
theorem dX6_refusalOf_50 : decode cX6_refusalOf 50 = .ok (.getfield 15, 3) := by decide +kernel
theorem dX6_refusalOf_53 : decode cX6_refusalOf 53 = .ok (.iload_n 2, 1) := by decide +kernel
theorem dX6_refusalOf_54 : decode cX6_refusalOf 54 = .ok (.iaload, 1) := by decide +kernel
theorem dX6_refusalOf_55 : decode cX6_refusalOf 55 = .ok (.aload_n 0, 1) := by decide +kernel
theorem dX6_refusalOf_56 : decode cX6_refusalOf 56 = .ok (.getfield 21, 3) := by decide +kernel
theorem dX6_refusalOf_59 : decode cX6_refusalOf 59 = .ok (.iload_n 2, 1) := by decide +kernel
theorem dX6_refusalOf_60 : decode cX6_refusalOf 60 = .ok (.iaload, 1) := by decide +kernel
theorem dX6_refusalOf_61 : decode cX6_refusalOf 61 = .ok (.invokevirtual 145, 3) := by decide +kernel
theorem dX6_refusalOf_64 : decode cX6_refusalOf 64 = .ok (.ireturn, 1) := by decide +kernel
theorem dX6_refusalOf_65 : decode cX6_refusalOf 65 = .ok (.aload_n 1, 1) := by decide +kernel
theorem dX6_refusalOf_66 : decode cX6_refusalOf 66 = .ok (.aload_n 0, 1) := by decide +kernel
theorem dX6_refusalOf_67 : decode cX6_refusalOf 67 = .ok (.getfield 15, 3) := by decide +kernel
theorem dX6_refusalOf_70 : decode cX6_refusalOf 70 = .ok (.iload_n 2, 1) := by decide +kernel
theorem dX6_refusalOf_71 : decode cX6_refusalOf 71 = .ok (.iaload, 1) := by decide +kernel
theorem dX6_refusalOf_72 : decode cX6_refusalOf 72 = .ok (.aload_n 0, 1) := by decide +kernel
theorem dX6_refusalOf_73 : decode cX6_refusalOf 73 = .ok (.getfield 21, 3) := by decide +kernel
theorem dX6_refusalOf_76 : decode cX6_refusalOf 76 = .ok (.iload_n 2, 1) := by decide +kernel
theorem dX6_refusalOf_77 : decode cX6_refusalOf 77 = .ok (.iaload, 1) := by decide +kernel
theorem dX6_refusalOf_78 : decode cX6_refusalOf 78 = .ok (.invokevirtual 150, 3) := by decide +kernel
theorem dX6_refusalOf_81 : decode cX6_refusalOf 81 = .ok (.ireturn, 1) := by decide +kernel
theorem dX6_refusalOf_82 : decode cX6_refusalOf 82 = .ok (.aload_n 1, 1) := by decide +kernel
theorem dX6_refusalOf_83 : decode cX6_refusalOf 83 = .ok (.aload_n 0, 1) := by decide +kernel
theorem dX6_refusalOf_84 : decode cX6_refusalOf 84 = .ok (.getfield 15, 3) := by decide +kernel
theorem dX6_refusalOf_87 : decode cX6_refusalOf 87 = .ok (.iload_n 2, 1) := by decide +kernel
theorem dX6_refusalOf_88 : decode cX6_refusalOf 88 = .ok (.iaload, 1) := by decide +kernel
theorem dX6_refusalOf_89 : decode cX6_refusalOf 89 = .ok (.aload_n 0, 1) := by decide +kernel
theorem dX6_refusalOf_90 : decode cX6_refusalOf 90 = .ok (.getfield 21, 3) := by decide +kernel
theorem dX6_refusalOf_93 : decode cX6_refusalOf 93 = .ok (.iload_n 2, 1) := by decide +kernel
theorem dX6_refusalOf_94 : decode cX6_refusalOf 94 = .ok (.iaload, 1) := by decide +kernel
theorem dX6_refusalOf_95 : decode cX6_refusalOf 95 = .ok (.invokevirtual 153, 3) := by decide +kernel
theorem dX6_refusalOf_98 : decode cX6_refusalOf 98 = .ok (.ireturn, 1) := by decide +kernel
theorem dX6_refusalOf_99 : decode cX6_refusalOf 99 = .ok (.aload_n 1, 1) := by decide +kernel
theorem dX6_refusalOf_100 : decode cX6_refusalOf 100 = .ok (.aload_n 0, 1) := by decide +kernel
theorem dX6_refusalOf_101 : decode cX6_refusalOf 101 = .ok (.getfield 21, 3) := by decide +kernel
theorem dX6_refusalOf_104 : decode cX6_refusalOf 104 = .ok (.iload_n 2, 1) := by decide +kernel
theorem dX6_refusalOf_105 : decode cX6_refusalOf 105 = .ok (.iaload, 1) := by decide +kernel
theorem dX6_refusalOf_106 : decode cX6_refusalOf 106 = .ok (.invokevirtual 156, 3) := by decide +kernel
theorem dX6_refusalOf_109 : decode cX6_refusalOf 109 = .ok (.ireturn, 1) := by decide +kernel
theorem dX6_refusalOf_110 : decode cX6_refusalOf 110 = .ok (.aload_n 1, 1) := by decide +kernel
theorem dX6_refusalOf_111 : decode cX6_refusalOf 111 = .ok (.aload_n 0, 1) := by decide +kernel
theorem dX6_refusalOf_112 : decode cX6_refusalOf 112 = .ok (.getfield 21, 3) := by decide +kernel
theorem dX6_refusalOf_115 : decode cX6_refusalOf 115 = .ok (.iload_n 2, 1) := by decide +kernel
theorem dX6_refusalOf_116 : decode cX6_refusalOf 116 = .ok (.iaload, 1) := by decide +kernel
theorem dX6_refusalOf_117 : decode cX6_refusalOf 117 = .ok (.invokevirtual 160, 3) := by decide +kernel
theorem dX6_refusalOf_120 : decode cX6_refusalOf 120 = .ok (.ireturn, 1) := by decide +kernel
theorem dX6_refusalOf_121 : decode cX6_refusalOf 121 = .ok (.aload_n 1, 1) := by decide +kernel
theorem dX6_refusalOf_122 : decode cX6_refusalOf 122 = .ok (.aload_n 0, 1) := by decide +kernel
theorem dX6_refusalOf_123 : decode cX6_refusalOf 123 = .ok (.getfield 21, 3) := by decide +kernel
theorem dX6_refusalOf_126 : decode cX6_refusalOf 126 = .ok (.iload_n 2, 1) := by decide +kernel
theorem dX6_refusalOf_127 : decode cX6_refusalOf 127 = .ok (.iaload, 1) := by decide +kernel
theorem dX6_refusalOf_128 : decode cX6_refusalOf 128 = .ok (.invokevirtual 163, 3) := by decide +kernel
theorem dX6_refusalOf_131 : decode cX6_refusalOf 131 = .ok (.ireturn, 1) := by decide +kernel
theorem dX6_refusalOf_132 : decode cX6_refusalOf 132 = .ok (.aload_n 1, 1) := by decide +kernel
theorem dX6_refusalOf_133 : decode cX6_refusalOf 133 = .ok (.aload_n 0, 1) := by decide +kernel
theorem dX6_refusalOf_134 : decode cX6_refusalOf 134 = .ok (.getfield 15, 3) := by decide +kernel
theorem dX6_refusalOf_137 : decode cX6_refusalOf 137 = .ok (.iload_n 2, 1) := by decide +kernel
theorem dX6_refusalOf_138 : decode cX6_refusalOf 138 = .ok (.iaload, 1) := by decide +kernel
theorem dX6_refusalOf_139 : decode cX6_refusalOf 139 = .ok (.invokevirtual 166, 3) := by decide +kernel
theorem dX6_refusalOf_142 : decode cX6_refusalOf 142 = .ok (.ireturn, 1) := by decide +kernel
theorem dX6_refusalOf_143 : decode cX6_refusalOf 143 = .ok (.aload_n 0, 1) := by decide +kernel
theorem dX6_refusalOf_144 : decode cX6_refusalOf 144 = .ok (.getfield 21, 3) := by decide +kernel
theorem dX6_refusalOf_147 : decode cX6_refusalOf 147 = .ok (.iload_n 2, 1) := by decide +kernel
theorem dX6_refusalOf_148 : decode cX6_refusalOf 148 = .ok (.iaload, 1) := by decide +kernel
theorem dX6_refusalOf_149 : decode cX6_refusalOf 149 = .ok (.invokestatic 169, 3) := by decide +kernel
theorem dX6_refusalOf_152 : decode cX6_refusalOf 152 = .ok (.ireturn, 1) := by decide +kernel
theorem dX6_perform_0 : decode cX6_perform 0 = .ok (.aload_n 0, 1) := by decide +kernel
theorem dX6_perform_1 : decode cX6_perform 1 = .ok (.getfield 9, 3) := by decide +kernel
theorem dX6_perform_4 : decode cX6_perform 4 = .ok (.iload_n 2, 1) := by decide +kernel
theorem dX6_perform_5 : decode cX6_perform 5 = .ok (.iaload, 1) := by decide +kernel
theorem dX6_perform_6 : decode cX6_perform 6 = .ok (.tableswitch 162 0 6 #[42, 62, 91, 105, 119, 133, 148], 42) := by decide +kernel
theorem dX6_perform_48 : decode cX6_perform 48 = .ok (.aload_n 1, 1) := by decide +kernel
theorem dX6_perform_49 : decode cX6_perform 49 = .ok (.aload_n 0, 1) := by decide +kernel
theorem dX6_perform_50 : decode cX6_perform 50 = .ok (.getfield 15, 3) := by decide +kernel
theorem dX6_perform_53 : decode cX6_perform 53 = .ok (.iload_n 2, 1) := by decide +kernel
theorem dX6_perform_54 : decode cX6_perform 54 = .ok (.iaload, 1) := by decide +kernel
theorem dX6_perform_55 : decode cX6_perform 55 = .ok (.aload_n 0, 1) := by decide +kernel
theorem dX6_perform_56 : decode cX6_perform 56 = .ok (.getfield 21, 3) := by decide +kernel
theorem dX6_perform_59 : decode cX6_perform 59 = .ok (.iload_n 2, 1) := by decide +kernel
theorem dX6_perform_60 : decode cX6_perform 60 = .ok (.iaload, 1) := by decide +kernel
theorem dX6_perform_61 : decode cX6_perform 61 = .ok (.invokevirtual 172, 3) := by decide +kernel
theorem dX6_perform_64 : decode cX6_perform 64 = .ok (.pop, 1) := by decide +kernel
theorem dX6_perform_65 : decode cX6_perform 65 = .ok (.goto 113, 3) := by decide +kernel
theorem dX6_perform_68 : decode cX6_perform 68 = .ok (.aload_n 1, 1) := by decide +kernel
theorem dX6_perform_69 : decode cX6_perform 69 = .ok (.getfield 175, 3) := by decide +kernel
theorem dX6_perform_72 : decode cX6_perform 72 = .ok (.aload_n 0, 1) := by decide +kernel
theorem dX6_perform_73 : decode cX6_perform 73 = .ok (.getfield 15, 3) := by decide +kernel
theorem dX6_perform_76 : decode cX6_perform 76 = .ok (.iload_n 2, 1) := by decide +kernel
theorem dX6_perform_77 : decode cX6_perform 77 = .ok (.iaload, 1) := by decide +kernel
theorem dX6_perform_78 : decode cX6_perform 78 = .ok (.aload_n 0, 1) := by decide +kernel
theorem dX6_perform_79 : decode cX6_perform 79 = .ok (.getfield 21, 3) := by decide +kernel
theorem dX6_perform_82 : decode cX6_perform 82 = .ok (.iload_n 2, 1) := by decide +kernel
theorem dX6_perform_83 : decode cX6_perform 83 = .ok (.iaload, 1) := by decide +kernel
theorem dX6_perform_84 : decode cX6_perform 84 = .ok (.aload_n 0, 1) := by decide +kernel
theorem dX6_perform_85 : decode cX6_perform 85 = .ok (.getfield 18, 3) := by decide +kernel
theorem dX6_perform_88 : decode cX6_perform 88 = .ok (.iload_n 2, 1) := by decide +kernel
theorem dX6_perform_89 : decode cX6_perform 89 = .ok (.iaload, 1) := by decide +kernel
theorem dX6_perform_90 : decode cX6_perform 90 = .ok (.invokevirtual 179, 3) := by decide +kernel
theorem dX6_perform_93 : decode cX6_perform 93 = .ok (.pop, 1) := by decide +kernel
theorem dX6_perform_94 : decode cX6_perform 94 = .ok (.goto 84, 3) := by decide +kernel
theorem dX6_perform_97 : decode cX6_perform 97 = .ok (.aload_n 1, 1) := by decide +kernel
theorem dX6_perform_98 : decode cX6_perform 98 = .ok (.aload_n 0, 1) := by decide +kernel
theorem dX6_perform_99 : decode cX6_perform 99 = .ok (.getfield 21, 3) := by decide +kernel
theorem dX6_perform_102 : decode cX6_perform 102 = .ok (.iload_n 2, 1) := by decide +kernel
theorem dX6_perform_103 : decode cX6_perform 103 = .ok (.iaload, 1) := by decide +kernel
theorem dX6_perform_104 : decode cX6_perform 104 = .ok (.invokevirtual 185, 3) := by decide +kernel
theorem dX6_perform_107 : decode cX6_perform 107 = .ok (.pop, 1) := by decide +kernel
theorem dX6_perform_108 : decode cX6_perform 108 = .ok (.goto 70, 3) := by decide +kernel
theorem dX6_perform_111 : decode cX6_perform 111 = .ok (.aload_n 1, 1) := by decide +kernel
theorem dX6_perform_112 : decode cX6_perform 112 = .ok (.aload_n 0, 1) := by decide +kernel
theorem dX6_perform_113 : decode cX6_perform 113 = .ok (.getfield 21, 3) := by decide +kernel
theorem dX6_perform_116 : decode cX6_perform 116 = .ok (.iload_n 2, 1) := by decide +kernel
theorem dX6_perform_117 : decode cX6_perform 117 = .ok (.iaload, 1) := by decide +kernel
theorem dX6_perform_118 : decode cX6_perform 118 = .ok (.invokevirtual 188, 3) := by decide +kernel
theorem dX6_perform_121 : decode cX6_perform 121 = .ok (.pop, 1) := by decide +kernel
theorem dX6_perform_122 : decode cX6_perform 122 = .ok (.goto 56, 3) := by decide +kernel
theorem dX6_perform_125 : decode cX6_perform 125 = .ok (.aload_n 1, 1) := by decide +kernel
theorem dX6_perform_126 : decode cX6_perform 126 = .ok (.aload_n 0, 1) := by decide +kernel
theorem dX6_perform_127 : decode cX6_perform 127 = .ok (.getfield 21, 3) := by decide +kernel
theorem dX6_perform_130 : decode cX6_perform 130 = .ok (.iload_n 2, 1) := by decide +kernel
theorem dX6_perform_131 : decode cX6_perform 131 = .ok (.iaload, 1) := by decide +kernel
theorem dX6_perform_132 : decode cX6_perform 132 = .ok (.invokevirtual 191, 3) := by decide +kernel
theorem dX6_perform_135 : decode cX6_perform 135 = .ok (.pop, 1) := by decide +kernel
theorem dX6_perform_136 : decode cX6_perform 136 = .ok (.goto 42, 3) := by decide +kernel
theorem dX6_perform_139 : decode cX6_perform 139 = .ok (.aload_n 1, 1) := by decide +kernel
theorem dX6_perform_140 : decode cX6_perform 140 = .ok (.aload_n 0, 1) := by decide +kernel
theorem dX6_perform_141 : decode cX6_perform 141 = .ok (.getfield 21, 3) := by decide +kernel
theorem dX6_perform_144 : decode cX6_perform 144 = .ok (.iload_n 2, 1) := by decide +kernel
theorem dX6_perform_145 : decode cX6_perform 145 = .ok (.iaload, 1) := by decide +kernel
theorem dX6_perform_146 : decode cX6_perform 146 = .ok (.iconst 3, 1) := by decide +kernel
theorem dX6_perform_147 : decode cX6_perform 147 = .ok (.invokevirtual 195, 3) := by decide +kernel
theorem dX6_perform_150 : decode cX6_perform 150 = .ok (.pop, 1) := by decide +kernel
theorem dX6_perform_151 : decode cX6_perform 151 = .ok (.goto 27, 3) := by decide +kernel
theorem dX6_perform_154 : decode cX6_perform 154 = .ok (.aload_n 1, 1) := by decide +kernel
theorem dX6_perform_155 : decode cX6_perform 155 = .ok (.aload_n 0, 1) := by decide +kernel
theorem dX6_perform_156 : decode cX6_perform 156 = .ok (.getfield 15, 3) := by decide +kernel
theorem dX6_perform_159 : decode cX6_perform 159 = .ok (.iload_n 2, 1) := by decide +kernel
theorem dX6_perform_160 : decode cX6_perform 160 = .ok (.iaload, 1) := by decide +kernel
theorem dX6_perform_161 : decode cX6_perform 161 = .ok (.invokevirtual 198, 3) := by decide +kernel
theorem dX6_perform_164 : decode cX6_perform 164 = .ok (.pop, 1) := by decide +kernel
theorem dX6_perform_165 : decode cX6_perform 165 = .ok (.goto 13, 3) := by decide +kernel
theorem dX6_perform_168 : decode cX6_perform 168 = .ok (.aload_n 1, 1) := by decide +kernel
theorem dX6_perform_169 : decode cX6_perform 169 = .ok (.aload_n 0, 1) := by decide +kernel
theorem dX6_perform_170 : decode cX6_perform 170 = .ok (.getfield 21, 3) := by decide +kernel
theorem dX6_perform_173 : decode cX6_perform 173 = .ok (.iload_n 2, 1) := by decide +kernel
theorem dX6_perform_174 : decode cX6_perform 174 = .ok (.iaload, 1) := by decide +kernel
theorem dX6_perform_175 : decode cX6_perform 175 = .ok (.putfield 201, 3) := by decide +kernel
theorem dX6_perform_178 : decode cX6_perform 178 = .ok (.return_, 1) := by decide +kernel
theorem dX7_init_0 : decode cX7_init 0 = .ok (.aload_n 0, 1) := by decide +kernel
theorem dX7_init_1 : decode cX7_init 1 = .ok (.invokespecial 3, 3) := by decide +kernel
theorem dX7_init_4 : decode cX7_init 4 = .ok (.aload_n 0, 1) := by decide +kernel
theorem dX7_init_5 : decode cX7_init 5 = .ok (.bipush 12, 2) := by decide +kernel
theorem dX7_init_7 : decode cX7_init 7 = .ok (.newarray .int, 2) := by decide +kernel
theorem dX7_init_9 : decode cX7_init 9 = .ok (.putfield 9, 3) := by decide +kernel
theorem dX7_init_12 : decode cX7_init 12 = .ok (.aload_n 0, 1) := by decide +kernel
theorem dX7_init_13 : decode cX7_init 13 = .ok (.bipush 12, 2) := by decide +kernel
theorem dX7_init_15 : decode cX7_init 15 = .ok (.newarray .int, 2) := by decide +kernel
theorem dX7_init_17 : decode cX7_init 17 = .ok (.putfield 15, 3) := by decide +kernel
theorem dX7_init_20 : decode cX7_init 20 = .ok (.aload_n 0, 1) := by decide +kernel
theorem dX7_init_21 : decode cX7_init 21 = .ok (.bipush 12, 2) := by decide +kernel
theorem dX7_init_23 : decode cX7_init 23 = .ok (.newarray .int, 2) := by decide +kernel
theorem dX7_init_25 : decode cX7_init 25 = .ok (.putfield 18, 3) := by decide +kernel
theorem dX7_init_28 : decode cX7_init 28 = .ok (.aload_n 0, 1) := by decide +kernel
theorem dX7_init_29 : decode cX7_init 29 = .ok (.bipush 12, 2) := by decide +kernel
theorem dX7_init_31 : decode cX7_init 31 = .ok (.newarray .int, 2) := by decide +kernel
theorem dX7_init_33 : decode cX7_init 33 = .ok (.putfield 21, 3) := by decide +kernel
theorem dX7_init_36 : decode cX7_init 36 = .ok (.return_, 1) := by decide +kernel
theorem dX7_copyFrom_0 : decode cX7_copyFrom 0 = .ok (.aload_n 0, 1) := by decide +kernel
theorem dX7_copyFrom_1 : decode cX7_copyFrom 1 = .ok (.aload_n 1, 1) := by decide +kernel
theorem dX7_copyFrom_2 : decode cX7_copyFrom 2 = .ok (.getfield 24, 3) := by decide +kernel
theorem dX7_copyFrom_5 : decode cX7_copyFrom 5 = .ok (.putfield 24, 3) := by decide +kernel
theorem dX7_copyFrom_8 : decode cX7_copyFrom 8 = .ok (.aload_n 0, 1) := by decide +kernel
theorem dX7_copyFrom_9 : decode cX7_copyFrom 9 = .ok (.aload_n 1, 1) := by decide +kernel
theorem dX7_copyFrom_10 : decode cX7_copyFrom 10 = .ok (.getfield 28, 3) := by decide +kernel
theorem dX7_copyFrom_13 : decode cX7_copyFrom 13 = .ok (.putfield 28, 3) := by decide +kernel
theorem dX7_copyFrom_16 : decode cX7_copyFrom 16 = .ok (.aload_n 0, 1) := by decide +kernel
theorem dX7_copyFrom_17 : decode cX7_copyFrom 17 = .ok (.aload_n 1, 1) := by decide +kernel
theorem dX7_copyFrom_18 : decode cX7_copyFrom 18 = .ok (.getfield 31, 3) := by decide +kernel
theorem dX7_copyFrom_21 : decode cX7_copyFrom 21 = .ok (.putfield 31, 3) := by decide +kernel
theorem dX7_copyFrom_24 : decode cX7_copyFrom 24 = .ok (.aload_n 0, 1) := by decide +kernel
theorem dX7_copyFrom_25 : decode cX7_copyFrom 25 = .ok (.aload_n 1, 1) := by decide +kernel
theorem dX7_copyFrom_26 : decode cX7_copyFrom 26 = .ok (.getfield 34, 3) := by decide +kernel
theorem dX7_copyFrom_29 : decode cX7_copyFrom 29 = .ok (.putfield 34, 3) := by decide +kernel
theorem dX7_copyFrom_32 : decode cX7_copyFrom 32 = .ok (.aload_n 0, 1) := by decide +kernel
theorem dX7_copyFrom_33 : decode cX7_copyFrom 33 = .ok (.aload_n 1, 1) := by decide +kernel
theorem dX7_copyFrom_34 : decode cX7_copyFrom 34 = .ok (.getfield 37, 3) := by decide +kernel
theorem dX7_copyFrom_37 : decode cX7_copyFrom 37 = .ok (.putfield 37, 3) := by decide +kernel
theorem dX7_copyFrom_40 : decode cX7_copyFrom 40 = .ok (.aload_n 0, 1) := by decide +kernel
theorem dX7_copyFrom_41 : decode cX7_copyFrom 41 = .ok (.aload_n 1, 1) := by decide +kernel
theorem dX7_copyFrom_42 : decode cX7_copyFrom 42 = .ok (.getfield 40, 3) := by decide +kernel
theorem dX7_copyFrom_45 : decode cX7_copyFrom 45 = .ok (.putfield 40, 3) := by decide +kernel
theorem dX7_copyFrom_48 : decode cX7_copyFrom 48 = .ok (.aload_n 0, 1) := by decide +kernel
theorem dX7_copyFrom_49 : decode cX7_copyFrom 49 = .ok (.aload_n 1, 1) := by decide +kernel
theorem dX7_copyFrom_50 : decode cX7_copyFrom 50 = .ok (.getfield 43, 3) := by decide +kernel
theorem dX7_copyFrom_53 : decode cX7_copyFrom 53 = .ok (.putfield 43, 3) := by decide +kernel
theorem dX7_copyFrom_56 : decode cX7_copyFrom 56 = .ok (.aload_n 0, 1) := by decide +kernel
theorem dX7_copyFrom_57 : decode cX7_copyFrom 57 = .ok (.aload_n 1, 1) := by decide +kernel
theorem dX7_copyFrom_58 : decode cX7_copyFrom 58 = .ok (.getfield 46, 3) := by decide +kernel
theorem dX7_copyFrom_61 : decode cX7_copyFrom 61 = .ok (.putfield 46, 3) := by decide +kernel
theorem dX7_copyFrom_64 : decode cX7_copyFrom 64 = .ok (.aload_n 1, 1) := by decide +kernel
theorem dX7_copyFrom_65 : decode cX7_copyFrom 65 = .ok (.getfield 9, 3) := by decide +kernel
theorem dX7_copyFrom_68 : decode cX7_copyFrom 68 = .ok (.iconst 0, 1) := by decide +kernel
theorem dX7_copyFrom_69 : decode cX7_copyFrom 69 = .ok (.aload_n 0, 1) := by decide +kernel
theorem dX7_copyFrom_70 : decode cX7_copyFrom 70 = .ok (.getfield 9, 3) := by decide +kernel
theorem dX7_copyFrom_73 : decode cX7_copyFrom 73 = .ok (.iconst 0, 1) := by decide +kernel
theorem dX7_copyFrom_74 : decode cX7_copyFrom 74 = .ok (.bipush 12, 2) := by decide +kernel
theorem dX7_copyFrom_76 : decode cX7_copyFrom 76 = .ok (.invokestatic 49, 3) := by decide +kernel
theorem dX7_copyFrom_79 : decode cX7_copyFrom 79 = .ok (.aload_n 1, 1) := by decide +kernel
theorem dX7_copyFrom_80 : decode cX7_copyFrom 80 = .ok (.getfield 15, 3) := by decide +kernel
theorem dX7_copyFrom_83 : decode cX7_copyFrom 83 = .ok (.iconst 0, 1) := by decide +kernel
theorem dX7_copyFrom_84 : decode cX7_copyFrom 84 = .ok (.aload_n 0, 1) := by decide +kernel
theorem dX7_copyFrom_85 : decode cX7_copyFrom 85 = .ok (.getfield 15, 3) := by decide +kernel
theorem dX7_copyFrom_88 : decode cX7_copyFrom 88 = .ok (.iconst 0, 1) := by decide +kernel
theorem dX7_copyFrom_89 : decode cX7_copyFrom 89 = .ok (.bipush 12, 2) := by decide +kernel
theorem dX7_copyFrom_91 : decode cX7_copyFrom 91 = .ok (.invokestatic 49, 3) := by decide +kernel
theorem dX7_copyFrom_94 : decode cX7_copyFrom 94 = .ok (.aload_n 1, 1) := by decide +kernel
theorem dX7_copyFrom_95 : decode cX7_copyFrom 95 = .ok (.getfield 18, 3) := by decide +kernel
theorem dX7_copyFrom_98 : decode cX7_copyFrom 98 = .ok (.iconst 0, 1) := by decide +kernel
theorem dX7_copyFrom_99 : decode cX7_copyFrom 99 = .ok (.aload_n 0, 1) := by decide +kernel
theorem dX7_copyFrom_100 : decode cX7_copyFrom 100 = .ok (.getfield 18, 3) := by decide +kernel
theorem dX7_copyFrom_103 : decode cX7_copyFrom 103 = .ok (.iconst 0, 1) := by decide +kernel
theorem dX7_copyFrom_104 : decode cX7_copyFrom 104 = .ok (.bipush 12, 2) := by decide +kernel
theorem dX7_copyFrom_106 : decode cX7_copyFrom 106 = .ok (.invokestatic 49, 3) := by decide +kernel
theorem dX7_copyFrom_109 : decode cX7_copyFrom 109 = .ok (.aload_n 1, 1) := by decide +kernel
theorem dX7_copyFrom_110 : decode cX7_copyFrom 110 = .ok (.getfield 21, 3) := by decide +kernel
theorem dX7_copyFrom_113 : decode cX7_copyFrom 113 = .ok (.iconst 0, 1) := by decide +kernel
theorem dX7_copyFrom_114 : decode cX7_copyFrom 114 = .ok (.aload_n 0, 1) := by decide +kernel
theorem dX7_copyFrom_115 : decode cX7_copyFrom 115 = .ok (.getfield 21, 3) := by decide +kernel
theorem dX7_copyFrom_118 : decode cX7_copyFrom 118 = .ok (.iconst 0, 1) := by decide +kernel
theorem dX7_copyFrom_119 : decode cX7_copyFrom 119 = .ok (.bipush 12, 2) := by decide +kernel
theorem dX7_copyFrom_121 : decode cX7_copyFrom 121 = .ok (.invokestatic 49, 3) := by decide +kernel
theorem dX7_copyFrom_124 : decode cX7_copyFrom 124 = .ok (.return_, 1) := by decide +kernel
theorem dX7_readFrom_0 : decode cX7_readFrom 0 = .ok (.aload_n 1, 1) := by decide +kernel
theorem dX7_readFrom_1 : decode cX7_readFrom 1 = .ok (.ldc 55, 2) := by decide +kernel
theorem dX7_readFrom_3 : decode cX7_readFrom 3 = .ok (.invokevirtual 57, 3) := by decide +kernel
theorem dX7_readFrom_6 : decode cX7_readFrom 6 = .ok (.aload_n 0, 1) := by decide +kernel
theorem dX7_readFrom_7 : decode cX7_readFrom 7 = .ok (.aload_n 1, 1) := by decide +kernel
theorem dX7_readFrom_8 : decode cX7_readFrom 8 = .ok (.iconst 1, 1) := by decide +kernel
theorem dX7_readFrom_9 : decode cX7_readFrom 9 = .ok (.iconst 4, 1) := by decide +kernel
theorem dX7_readFrom_10 : decode cX7_readFrom 10 = .ok (.invokevirtual 63, 3) := by decide +kernel
theorem dX7_readFrom_13 : decode cX7_readFrom 13 = .ok (.putfield 24, 3) := by decide +kernel
theorem dX7_readFrom_16 : decode cX7_readFrom 16 = .ok (.aload_n 0, 1) := by decide +kernel
theorem dX7_readFrom_17 : decode cX7_readFrom 17 = .ok (.aload_n 1, 1) := by decide +kernel
theorem dX7_readFrom_18 : decode cX7_readFrom 18 = .ok (.iconst 0, 1) := by decide +kernel
theorem dX7_readFrom_19 : decode cX7_readFrom 19 = .ok (.iconst 5, 1) := by decide +kernel
theorem dX7_readFrom_20 : decode cX7_readFrom 20 = .ok (.invokevirtual 63, 3) := by decide +kernel
theorem dX7_readFrom_23 : decode cX7_readFrom 23 = .ok (.putfield 28, 3) := by decide +kernel
theorem dX7_readFrom_26 : decode cX7_readFrom 26 = .ok (.aload_n 0, 1) := by decide +kernel
theorem dX7_readFrom_27 : decode cX7_readFrom 27 = .ok (.aload_n 1, 1) := by decide +kernel
theorem dX7_readFrom_28 : decode cX7_readFrom 28 = .ok (.iconst 1, 1) := by decide +kernel
theorem dX7_readFrom_29 : decode cX7_readFrom 29 = .ok (.bipush 20, 2) := by decide +kernel
theorem dX7_readFrom_31 : decode cX7_readFrom 31 = .ok (.invokevirtual 63, 3) := by decide +kernel
theorem dX7_readFrom_34 : decode cX7_readFrom 34 = .ok (.putfield 31, 3) := by decide +kernel
theorem dX7_readFrom_37 : decode cX7_readFrom 37 = .ok (.aload_n 0, 1) := by decide +kernel
theorem dX7_readFrom_38 : decode cX7_readFrom 38 = .ok (.aload_n 1, 1) := by decide +kernel
theorem dX7_readFrom_39 : decode cX7_readFrom 39 = .ok (.iconst 0, 1) := by decide +kernel
theorem dX7_readFrom_40 : decode cX7_readFrom 40 = .ok (.bipush 20, 2) := by decide +kernel
theorem dX7_readFrom_42 : decode cX7_readFrom 42 = .ok (.invokevirtual 63, 3) := by decide +kernel
theorem dX7_readFrom_45 : decode cX7_readFrom 45 = .ok (.putfield 34, 3) := by decide +kernel
theorem dX7_readFrom_48 : decode cX7_readFrom 48 = .ok (.aload_n 0, 1) := by decide +kernel
theorem dX7_readFrom_49 : decode cX7_readFrom 49 = .ok (.aload_n 1, 1) := by decide +kernel
theorem dX7_readFrom_50 : decode cX7_readFrom 50 = .ok (.iconst 2, 1) := by decide +kernel
theorem dX7_readFrom_51 : decode cX7_readFrom 51 = .ok (.bipush 30, 2) := by decide +kernel
theorem dX7_readFrom_53 : decode cX7_readFrom 53 = .ok (.invokevirtual 63, 3) := by decide +kernel
theorem dX7_readFrom_56 : decode cX7_readFrom 56 = .ok (.putfield 37, 3) := by decide +kernel
theorem dX7_readFrom_59 : decode cX7_readFrom 59 = .ok (.aload_n 0, 1) := by decide +kernel
theorem dX7_readFrom_60 : decode cX7_readFrom 60 = .ok (.aload_n 1, 1) := by decide +kernel
theorem dX7_readFrom_61 : decode cX7_readFrom 61 = .ok (.iconst 0, 1) := by decide +kernel
theorem dX7_readFrom_62 : decode cX7_readFrom 62 = .ok (.bipush 9, 2) := by decide +kernel
theorem dX7_readFrom_64 : decode cX7_readFrom 64 = .ok (.invokevirtual 63, 3) := by decide +kernel
theorem dX7_readFrom_67 : decode cX7_readFrom 67 = .ok (.putfield 40, 3) := by decide +kernel
theorem dX7_readFrom_70 : decode cX7_readFrom 70 = .ok (.aload_n 0, 1) := by decide +kernel
theorem dX7_readFrom_71 : decode cX7_readFrom 71 = .ok (.aload_n 1, 1) := by decide +kernel
theorem dX7_readFrom_72 : decode cX7_readFrom 72 = .ok (.iconst 0, 1) := by decide +kernel
theorem dX7_readFrom_73 : decode cX7_readFrom 73 = .ok (.bipush 12, 2) := by decide +kernel
theorem dX7_readFrom_75 : decode cX7_readFrom 75 = .ok (.invokevirtual 63, 3) := by decide +kernel
theorem dX7_readFrom_78 : decode cX7_readFrom 78 = .ok (.putfield 43, 3) := by decide +kernel
theorem dX7_readFrom_81 : decode cX7_readFrom 81 = .ok (.aload_n 1, 1) := by decide +kernel
theorem dX7_readFrom_82 : decode cX7_readFrom 82 = .ok (.bipush 59, 2) := by decide +kernel
theorem dX7_readFrom_84 : decode cX7_readFrom 84 = .ok (.invokevirtual 67, 3) := by decide +kernel
theorem dX7_readFrom_87 : decode cX7_readFrom 87 = .ok (.aload_n 0, 1) := by decide +kernel
theorem dX7_readFrom_88 : decode cX7_readFrom 88 = .ok (.iconst 0, 1) := by decide +kernel
theorem dX7_readFrom_89 : decode cX7_readFrom 89 = .ok (.putfield 46, 3) := by decide +kernel
theorem dX7_readFrom_92 : decode cX7_readFrom 92 = .ok (.aload_n 0, 1) := by decide +kernel
theorem dX7_readFrom_93 : decode cX7_readFrom 93 = .ok (.aload_n 1, 1) := by decide +kernel
theorem dX7_readFrom_94 : decode cX7_readFrom 94 = .ok (.invokevirtual 71, 3) := by decide +kernel
theorem dX7_readFrom_97 : decode cX7_readFrom 97 = .ok (.iconst 0, 1) := by decide +kernel
theorem dX7_readFrom_98 : decode cX7_readFrom 98 = .ok (.istore_n 2, 1) := by decide +kernel
theorem dX7_readFrom_99 : decode cX7_readFrom 99 = .ok (.iload_n 2, 1) := by decide +kernel
theorem dX7_readFrom_100 : decode cX7_readFrom 100 = .ok (.bipush 12, 2) := by decide +kernel
theorem dX7_readFrom_102 : decode cX7_readFrom 102 = .ok (.if_icmp .ge 28, 3) := by decide +kernel
theorem dX7_readFrom_105 : decode cX7_readFrom 105 = .ok (.aload_n 1, 1) := by decide +kernel
theorem dX7_readFrom_106 : decode cX7_readFrom 106 = .ok (.invokevirtual 75, 3) := by decide +kernel
theorem dX7_readFrom_109 : decode cX7_readFrom 109 = .ok (.ifCond .eq 21, 3) := by decide +kernel
theorem dX7_readFrom_112 : decode cX7_readFrom 112 = .ok (.aload_n 1, 1) := by decide +kernel
theorem dX7_readFrom_113 : decode cX7_readFrom 113 = .ok (.invokevirtual 79, 3) := by decide +kernel
theorem dX7_readFrom_116 : decode cX7_readFrom 116 = .ok (.ifCond .ne 14, 3) := by decide +kernel
theorem dX7_readFrom_119 : decode cX7_readFrom 119 = .ok (.aload_n 0, 1) := by decide +kernel
theorem dX7_readFrom_120 : decode cX7_readFrom 120 = .ok (.aload_n 1, 1) := by decide +kernel
theorem dX7_readFrom_121 : decode cX7_readFrom 121 = .ok (.invokevirtual 71, 3) := by decide +kernel
theorem dX7_readFrom_124 : decode cX7_readFrom 124 = .ok (.iinc 2 1, 3) := by decide +kernel
theorem dX7_readFrom_127 : decode cX7_readFrom 127 = .ok (.goto (-28), 3) := by decide +kernel
theorem dX7_readFrom_130 : decode cX7_readFrom 130 = .ok (.return_, 1) := by decide +kernel
theorem dX7_readMember_0 : decode cX7_readMember 0 = .ok (.aload_n 0, 1) := by decide +kernel
theorem dX7_readMember_1 : decode cX7_readMember 1 = .ok (.getfield 46, 3) := by decide +kernel
theorem dX7_readMember_4 : decode cX7_readMember 4 = .ok (.bipush 12, 2) := by decide +kernel
theorem dX7_readMember_6 : decode cX7_readMember 6 = .ok (.if_icmp .ne 7, 3) := by decide +kernel
theorem dX7_readMember_9 : decode cX7_readMember 9 = .ok (.iconst 1, 1) := by decide +kernel
theorem dX7_readMember_10 : decode cX7_readMember 10 = .ok (.goto 4, 3) := by decide +kernel
theorem dX7_readMember_13 : decode cX7_readMember 13 = .ok (.iconst 0, 1) := by decide +kernel
theorem dX7_readMember_14 : decode cX7_readMember 14 = .ok (.istore_n 2, 1) := by decide +kernel
theorem dX7_readMember_15 : decode cX7_readMember 15 = .ok (.iload_n 2, 1) := by decide +kernel
theorem dX7_readMember_16 : decode cX7_readMember 16 = .ok (.ifCond .eq 20, 3) := by decide +kernel
theorem dX7_readMember_19 : decode cX7_readMember 19 = .ok (.aload_n 1, 1) := by decide +kernel
theorem dX7_readMember_20 : decode cX7_readMember 20 = .ok (.ldc 82, 2) := by decide +kernel
theorem dX7_readMember_22 : decode cX7_readMember 22 = .ok (.invokevirtual 84, 3) := by decide +kernel
theorem dX7_readMember_25 : decode cX7_readMember 25 = .ok (.ifCond .eq 11, 3) := by decide +kernel
theorem dX7_readMember_28 : decode cX7_readMember 28 = .ok (.aload_n 1, 1) := by decide +kernel
theorem dX7_readMember_29 : decode cX7_readMember 29 = .ok (.iconst 4, 1) := by decide +kernel
theorem dX7_readMember_30 : decode cX7_readMember 30 = .ok (.invokevirtual 88, 3) := by decide +kernel
theorem dX7_readMember_33 : decode cX7_readMember 33 = .ok (.goto 9, 3) := by decide +kernel
theorem dX7_readMember_36 : decode cX7_readMember 36 = .ok (.aload_n 1, 1) := by decide +kernel
theorem dX7_readMember_37 : decode cX7_readMember 37 = .ok (.ldc 82, 2) := by decide +kernel
theorem dX7_readMember_39 : decode cX7_readMember 39 = .ok (.invokevirtual 57, 3) := by decide +kernel
theorem dX7_readMember_42 : decode cX7_readMember 42 = .ok (.aload_n 0, 1) := by decide +kernel
theorem dX7_readMember_43 : decode cX7_readMember 43 = .ok (.aload_n 1, 1) := by decide +kernel
theorem dX7_readMember_44 : decode cX7_readMember 44 = .ok (.invokevirtual 92, 3) := by decide +kernel
theorem dX7_readMember_47 : decode cX7_readMember 47 = .ok (.istore_n 3, 1) := by decide +kernel
theorem dX7_readMember_48 : decode cX7_readMember 48 = .ok (.aload_n 1, 1) := by decide +kernel
theorem dX7_readMember_49 : decode cX7_readMember 49 = .ok (.iconst 1, 1) := by decide +kernel
theorem dX7_readMember_50 : decode cX7_readMember 50 = .ok (.bipush 9, 2) := by decide +kernel
theorem dX7_readMember_52 : decode cX7_readMember 52 = .ok (.invokevirtual 63, 3) := by decide +kernel
theorem dX7_readMember_55 : decode cX7_readMember 55 = .ok (.istore 4, 2) := by decide +kernel
theorem dX7_readMember_57 : decode cX7_readMember 57 = .ok (.aload_n 1, 1) := by decide +kernel
theorem dX7_readMember_58 : decode cX7_readMember 58 = .ok (.iconst 0, 1) := by decide +kernel
theorem dX7_readMember_59 : decode cX7_readMember 59 = .ok (.bipush 20, 2) := by decide +kernel
theorem dX7_readMember_61 : decode cX7_readMember 61 = .ok (.invokevirtual 63, 3) := by decide +kernel
theorem dX7_readMember_64 : decode cX7_readMember 64 = .ok (.istore 5, 2) := by decide +kernel
theorem dX7_readMember_66 : decode cX7_readMember 66 = .ok (.aload_n 1, 1) := by decide +kernel
theorem dX7_readMember_67 : decode cX7_readMember 67 = .ok (.iconst 0, 1) := by decide +kernel
theorem dX7_readMember_68 : decode cX7_readMember 68 = .ok (.bipush 99, 2) := by decide +kernel
theorem dX7_readMember_70 : decode cX7_readMember 70 = .ok (.invokevirtual 63, 3) := by decide +kernel
theorem dX7_readMember_73 : decode cX7_readMember 73 = .ok (.istore 6, 2) := by decide +kernel
theorem dX7_readMember_75 : decode cX7_readMember 75 = .ok (.aload_n 1, 1) := by decide +kernel
theorem dX7_readMember_76 : decode cX7_readMember 76 = .ok (.bipush 59, 2) := by decide +kernel
theorem dX7_readMember_78 : decode cX7_readMember 78 = .ok (.invokevirtual 67, 3) := by decide +kernel
theorem dX7_readMember_81 : decode cX7_readMember 81 = .ok (.aload_n 1, 1) := by decide +kernel
theorem dX7_readMember_82 : decode cX7_readMember 82 = .ok (.invokevirtual 75, 3) := by decide +kernel
theorem dX7_readMember_85 : decode cX7_readMember 85 = .ok (.ifCond .eq 60, 3) := by decide +kernel
theorem dX7_readMember_88 : decode cX7_readMember 88 = .ok (.iload_n 2, 1) := by decide +kernel
theorem dX7_readMember_89 : decode cX7_readMember 89 = .ok (.ifCond .ne 56, 3) := by decide +kernel
theorem dX7_readMember_92 : decode cX7_readMember 92 = .ok (.aload_n 0, 1) := by decide +kernel
theorem dX7_readMember_93 : decode cX7_readMember 93 = .ok (.getfield 9, 3) := by decide +kernel
theorem dX7_readMember_96 : decode cX7_readMember 96 = .ok (.aload_n 0, 1) := by decide +kernel
theorem dX7_readMember_97 : decode cX7_readMember 97 = .ok (.getfield 46, 3) := by decide +kernel
theorem dX7_readMember_100 : decode cX7_readMember 100 = .ok (.iload_n 3, 1) := by decide +kernel
theorem dX7_readMember_101 : decode cX7_readMember 101 = .ok (.iastore, 1) := by decide +kernel
theorem dX7_readMember_102 : decode cX7_readMember 102 = .ok (.aload_n 0, 1) := by decide +kernel
theorem dX7_readMember_103 : decode cX7_readMember 103 = .ok (.getfield 15, 3) := by decide +kernel
theorem dX7_readMember_106 : decode cX7_readMember 106 = .ok (.aload_n 0, 1) := by decide +kernel
theorem dX7_readMember_107 : decode cX7_readMember 107 = .ok (.getfield 46, 3) := by decide +kernel
theorem dX7_readMember_110 : decode cX7_readMember 110 = .ok (.iload 4, 2) := by decide +kernel
theorem dX7_readMember_112 : decode cX7_readMember 112 = .ok (.iastore, 1) := by decide +kernel
theorem dX7_readMember_113 : decode cX7_readMember 113 = .ok (.aload_n 0, 1) := by decide +kernel
theorem dX7_readMember_114 : decode cX7_readMember 114 = .ok (.getfield 18, 3) := by decide +kernel
theorem dX7_readMember_117 : decode cX7_readMember 117 = .ok (.aload_n 0, 1) := by decide +kernel
theorem dX7_readMember_118 : decode cX7_readMember 118 = .ok (.getfield 46, 3) := by decide +kernel
theorem dX7_readMember_121 : decode cX7_readMember 121 = .ok (.iload 5, 2) := by decide +kernel
theorem dX7_readMember_123 : decode cX7_readMember 123 = .ok (.iastore, 1) := by decide +kernel
theorem dX7_readMember_124 : decode cX7_readMember 124 = .ok (.aload_n 0, 1) := by decide +kernel
theorem dX7_readMember_125 : decode cX7_readMember 125 = .ok (.getfield 21, 3) := by decide +kernel
theorem dX7_readMember_128 : decode cX7_readMember 128 = .ok (.aload_n 0, 1) := by decide +kernel
theorem dX7_readMember_129 : decode cX7_readMember 129 = .ok (.getfield 46, 3) := by decide +kernel
theorem dX7_readMember_132 : decode cX7_readMember 132 = .ok (.iload 6, 2) := by decide +kernel
theorem dX7_readMember_134 : decode cX7_readMember 134 = .ok (.iastore, 1) := by decide +kernel
theorem dX7_readMember_135 : decode cX7_readMember 135 = .ok (.aload_n 0, 1) := by decide +kernel
theorem dX7_readMember_136 : decode cX7_readMember 136 = .ok (.dup, 1) := by decide +kernel
theorem dX7_readMember_137 : decode cX7_readMember 137 = .ok (.getfield 46, 3) := by decide +kernel
theorem dX7_readMember_140 : decode cX7_readMember 140 = .ok (.iconst 1, 1) := by decide +kernel
theorem dX7_readMember_141 : decode cX7_readMember 141 = .ok (.iadd, 1) := by decide +kernel
theorem dX7_readMember_142 : decode cX7_readMember 142 = .ok (.putfield 46, 3) := by decide +kernel
theorem dX7_readMember_145 : decode cX7_readMember 145 = .ok (.return_, 1) := by decide +kernel
theorem dX7_takeNewName_0 : decode cX7_takeNewName 0 = .ok (.aload_n 1, 1) := by decide +kernel
theorem dX7_takeNewName_1 : decode cX7_takeNewName 1 = .ok (.invokevirtual 96, 3) := by decide +kernel
theorem dX7_takeNewName_4 : decode cX7_takeNewName 4 = .ok (.istore_n 2, 1) := by decide +kernel
theorem dX7_takeNewName_5 : decode cX7_takeNewName 5 = .ok (.aload_n 1, 1) := by decide +kernel
theorem dX7_takeNewName_6 : decode cX7_takeNewName 6 = .ok (.invokevirtual 99, 3) := by decide +kernel
theorem dX7_takeNewName_9 : decode cX7_takeNewName 9 = .ok (.istore_n 3, 1) := by decide +kernel
theorem dX7_takeNewName_10 : decode cX7_takeNewName 10 = .ok (.iload_n 3, 1) := by decide +kernel
theorem dX7_takeNewName_11 : decode cX7_takeNewName 11 = .ok (.ifCond .ne 14, 3) := by decide +kernel
theorem dX7_takeNewName_14 : decode cX7_takeNewName 14 = .ok (.aload_n 0, 1) := by decide +kernel
theorem dX7_takeNewName_15 : decode cX7_takeNewName 15 = .ok (.iload_n 2, 1) := by decide +kernel
theorem dX7_takeNewName_16 : decode cX7_takeNewName 16 = .ok (.invokevirtual 102, 3) := by decide +kernel
theorem dX7_takeNewName_19 : decode cX7_takeNewName 19 = .ok (.iconst (-1), 1) := by decide +kernel
theorem dX7_takeNewName_20 : decode cX7_takeNewName 20 = .ok (.if_icmp .eq 5, 3) := by decide +kernel
theorem dX7_takeNewName_23 : decode cX7_takeNewName 23 = .ok (.iconst 3, 1) := by decide +kernel
theorem dX7_takeNewName_24 : decode cX7_takeNewName 24 = .ok (.istore_n 3, 1) := by decide +kernel
theorem dX7_takeNewName_25 : decode cX7_takeNewName 25 = .ok (.aload_n 1, 1) := by decide +kernel
theorem dX7_takeNewName_26 : decode cX7_takeNewName 26 = .ok (.iload_n 3, 1) := by decide +kernel
theorem dX7_takeNewName_27 : decode cX7_takeNewName 27 = .ok (.invokevirtual 88, 3) := by decide +kernel
theorem dX7_takeNewName_30 : decode cX7_takeNewName 30 = .ok (.iload_n 2, 1) := by decide +kernel
theorem dX7_takeNewName_31 : decode cX7_takeNewName 31 = .ok (.ireturn, 1) := by decide +kernel
theorem dX7_takeKnownName_0 : decode cX7_takeKnownName 0 = .ok (.aload_n 0, 1) := by decide +kernel
theorem dX7_takeKnownName_1 : decode cX7_takeKnownName 1 = .ok (.aload_n 1, 1) := by decide +kernel
theorem dX7_takeKnownName_2 : decode cX7_takeKnownName 2 = .ok (.invokevirtual 96, 3) := by decide +kernel
theorem dX7_takeKnownName_5 : decode cX7_takeKnownName 5 = .ok (.invokevirtual 102, 3) := by decide +kernel
theorem dX7_takeKnownName_8 : decode cX7_takeKnownName 8 = .ok (.istore_n 2, 1) := by decide +kernel
theorem dX7_takeKnownName_9 : decode cX7_takeKnownName 9 = .ok (.aload_n 1, 1) := by decide +kernel
theorem dX7_takeKnownName_10 : decode cX7_takeKnownName 10 = .ok (.invokevirtual 99, 3) := by decide +kernel
theorem dX7_takeKnownName_13 : decode cX7_takeKnownName 13 = .ok (.istore_n 3, 1) := by decide +kernel
theorem dX7_takeKnownName_14 : decode cX7_takeKnownName 14 = .ok (.iload_n 3, 1) := by decide +kernel
theorem dX7_takeKnownName_15 : decode cX7_takeKnownName 15 = .ok (.ifCond .ne 10, 3) := by decide +kernel
theorem dX7_takeKnownName_18 : decode cX7_takeKnownName 18 = .ok (.iload_n 2, 1) := by decide +kernel
theorem dX7_takeKnownName_19 : decode cX7_takeKnownName 19 = .ok (.iconst (-1), 1) := by decide +kernel
theorem dX7_takeKnownName_20 : decode cX7_takeKnownName 20 = .ok (.if_icmp .ne 5, 3) := by decide +kernel
theorem dX7_takeKnownName_23 : decode cX7_takeKnownName 23 = .ok (.iconst 3, 1) := by decide +kernel
theorem dX7_takeKnownName_24 : decode cX7_takeKnownName 24 = .ok (.istore_n 3, 1) := by decide +kernel
theorem dX7_takeKnownName_25 : decode cX7_takeKnownName 25 = .ok (.aload_n 1, 1) := by decide +kernel
theorem dX7_takeKnownName_26 : decode cX7_takeKnownName 26 = .ok (.iload_n 3, 1) := by decide +kernel
theorem dX7_takeKnownName_27 : decode cX7_takeKnownName 27 = .ok (.invokevirtual 88, 3) := by decide +kernel
theorem dX7_takeKnownName_30 : decode cX7_takeKnownName 30 = .ok (.iload_n 2, 1) := by decide +kernel
theorem dX7_takeKnownName_31 : decode cX7_takeKnownName 31 = .ok (.ireturn, 1) := by decide +kernel
theorem dX7_memberNamed_0 : decode cX7_memberNamed 0 = .ok (.iconst 0, 1) := by decide +kernel
theorem dX7_memberNamed_1 : decode cX7_memberNamed 1 = .ok (.istore_n 2, 1) := by decide +kernel
theorem dX7_memberNamed_2 : decode cX7_memberNamed 2 = .ok (.iload_n 2, 1) := by decide +kernel
theorem dX7_memberNamed_3 : decode cX7_memberNamed 3 = .ok (.aload_n 0, 1) := by decide +kernel
theorem dX7_memberNamed_4 : decode cX7_memberNamed 4 = .ok (.getfield 46, 3) := by decide +kernel
theorem dX7_memberNamed_7 : decode cX7_memberNamed 7 = .ok (.if_icmp .ge 21, 3) := by decide +kernel
theorem dX7_memberNamed_10 : decode cX7_memberNamed 10 = .ok (.aload_n 0, 1) := by decide +kernel
theorem dX7_memberNamed_11 : decode cX7_memberNamed 11 = .ok (.getfield 9, 3) := by decide +kernel
theorem dX7_memberNamed_14 : decode cX7_memberNamed 14 = .ok (.iload_n 2, 1) := by decide +kernel
theorem dX7_memberNamed_15 : decode cX7_memberNamed 15 = .ok (.iaload, 1) := by decide +kernel
theorem dX7_memberNamed_16 : decode cX7_memberNamed 16 = .ok (.iload_n 1, 1) := by decide +kernel
theorem dX7_memberNamed_17 : decode cX7_memberNamed 17 = .ok (.if_icmp .ne 5, 3) := by decide +kernel
theorem dX7_memberNamed_20 : decode cX7_memberNamed 20 = .ok (.iload_n 2, 1) := by decide +kernel
theorem dX7_memberNamed_21 : decode cX7_memberNamed 21 = .ok (.ireturn, 1) := by decide +kernel
theorem dX7_memberNamed_22 : decode cX7_memberNamed 22 = .ok (.iinc 2 1, 3) := by decide +kernel
theorem dX7_memberNamed_25 : decode cX7_memberNamed 25 = .ok (.goto (-23), 3) := by decide +kernel
theorem dX7_memberNamed_28 : decode cX7_memberNamed 28 = .ok (.iconst (-1), 1) := by decide +kernel
theorem dX7_memberNamed_29 : decode cX7_memberNamed 29 = .ok (.ireturn, 1) := by decide +kernel
theorem dX7_hasMember_0 : decode cX7_hasMember 0 = .ok (.iload_n 1, 1) := by decide +kernel
theorem dX7_hasMember_1 : decode cX7_hasMember 1 = .ok (.ifCond .lt 15, 3) := by decide +kernel
theorem dX7_hasMember_4 : decode cX7_hasMember 4 = .ok (.iload_n 1, 1) := by decide +kernel
theorem dX7_hasMember_5 : decode cX7_hasMember 5 = .ok (.aload_n 0, 1) := by decide +kernel
theorem dX7_hasMember_6 : decode cX7_hasMember 6 = .ok (.getfield 46, 3) := by decide +kernel
theorem dX7_hasMember_9 : decode cX7_hasMember 9 = .ok (.if_icmp .ge 7, 3) := by decide +kernel
theorem dX7_hasMember_12 : decode cX7_hasMember 12 = .ok (.iconst 1, 1) := by decide +kernel
theorem dX7_hasMember_13 : decode cX7_hasMember 13 = .ok (.goto 4, 3) := by decide +kernel
theorem dX7_hasMember_16 : decode cX7_hasMember 16 = .ok (.iconst 0, 1) := by decide +kernel
theorem dX7_hasMember_17 : decode cX7_hasMember 17 = .ok (.ireturn, 1) := by decide +kernel
theorem dX7_hasChair_0 : decode cX7_hasChair 0 = .ok (.iload_n 1, 1) := by decide +kernel
theorem dX7_hasChair_1 : decode cX7_hasChair 1 = .ok (.ifCond .lt 15, 3) := by decide +kernel
theorem dX7_hasChair_4 : decode cX7_hasChair 4 = .ok (.iload_n 1, 1) := by decide +kernel
theorem dX7_hasChair_5 : decode cX7_hasChair 5 = .ok (.aload_n 0, 1) := by decide +kernel
theorem dX7_hasChair_6 : decode cX7_hasChair 6 = .ok (.getfield 24, 3) := by decide +kernel
theorem dX7_hasChair_9 : decode cX7_hasChair 9 = .ok (.if_icmp .ge 7, 3) := by decide +kernel
theorem dX7_hasChair_12 : decode cX7_hasChair 12 = .ok (.iconst 1, 1) := by decide +kernel
theorem dX7_hasChair_13 : decode cX7_hasChair 13 = .ok (.goto 4, 3) := by decide +kernel
theorem dX7_hasChair_16 : decode cX7_hasChair 16 = .ok (.iconst 0, 1) := by decide +kernel
theorem dX7_hasChair_17 : decode cX7_hasChair 17 = .ok (.ireturn, 1) := by decide +kernel
theorem dX7_isInReach_0 : decode cX7_isInReach 0 = .ok (.aload_n 0, 1) := by decide +kernel
theorem dX7_isInReach_1 : decode cX7_isInReach 1 = .ok (.getfield 18, 3) := by decide +kernel
theorem dX7_isInReach_4 : decode cX7_isInReach 4 = .ok (.iload_n 1, 1) := by decide +kernel
theorem dX7_isInReach_5 : decode cX7_isInReach 5 = .ok (.iaload, 1) := by decide +kernel
theorem dX7_isInReach_6 : decode cX7_isInReach 6 = .ok (.aload_n 0, 1) := by decide +kernel
theorem dX7_isInReach_7 : decode cX7_isInReach 7 = .ok (.getfield 18, 3) := by decide +kernel
theorem dX7_isInReach_10 : decode cX7_isInReach 10 = .ok (.iload_n 2, 1) := by decide +kernel
theorem dX7_isInReach_11 : decode cX7_isInReach 11 = .ok (.iaload, 1) := by decide +kernel
theorem dX7_isInReach_12 : decode cX7_isInReach 12 = .ok (.isub, 1) := by decide +kernel
theorem dX7_isInReach_13 : decode cX7_isInReach 13 = .ok (.invokestatic 106, 3) := by decide +kernel
theorem dX7_isInReach_16 : decode cX7_isInReach 16 = .ok (.aload_n 0, 1) := by decide +kernel
theorem dX7_isInReach_17 : decode cX7_isInReach 17 = .ok (.getfield 34, 3) := by decide +kernel
theorem dX7_isInReach_20 : decode cX7_isInReach 20 = .ok (.if_icmp .gt 7, 3) := by decide +kernel
theorem dX7_isInReach_23 : decode cX7_isInReach 23 = .ok (.iconst 1, 1) := by decide +kernel
theorem dX7_isInReach_24 : decode cX7_isInReach 24 = .ok (.goto 4, 3) := by decide +kernel
theorem dX7_isInReach_27 : decode cX7_isInReach 27 = .ok (.iconst 0, 1) := by decide +kernel
theorem dX7_isInReach_28 : decode cX7_isInReach 28 = .ok (.ireturn, 1) := by decide +kernel
theorem dX7_totalWeight_0 : decode cX7_totalWeight 0 = .ok (.iconst 0, 1) := by decide +kernel
theorem dX7_totalWeight_1 : decode cX7_totalWeight 1 = .ok (.istore_n 1, 1) := by decide +kernel
theorem dX7_totalWeight_2 : decode cX7_totalWeight 2 = .ok (.iconst 0, 1) := by decide +kernel
theorem dX7_totalWeight_3 : decode cX7_totalWeight 3 = .ok (.istore_n 2, 1) := by decide +kernel
theorem dX7_totalWeight_4 : decode cX7_totalWeight 4 = .ok (.iload_n 2, 1) := by decide +kernel
theorem dX7_totalWeight_5 : decode cX7_totalWeight 5 = .ok (.aload_n 0, 1) := by decide +kernel
theorem dX7_totalWeight_6 : decode cX7_totalWeight 6 = .ok (.getfield 46, 3) := by decide +kernel
theorem dX7_totalWeight_9 : decode cX7_totalWeight 9 = .ok (.if_icmp .ge 18, 3) := by decide +kernel
theorem dX7_totalWeight_12 : decode cX7_totalWeight 12 = .ok (.iload_n 1, 1) := by decide +kernel
theorem dX7_totalWeight_13 : decode cX7_totalWeight 13 = .ok (.aload_n 0, 1) := by decide +kernel
theorem dX7_totalWeight_14 : decode cX7_totalWeight 14 = .ok (.getfield 15, 3) := by decide +kernel
theorem dX7_totalWeight_17 : decode cX7_totalWeight 17 = .ok (.iload_n 2, 1) := by decide +kernel
theorem dX7_totalWeight_18 : decode cX7_totalWeight 18 = .ok (.iaload, 1) := by decide +kernel
theorem dX7_totalWeight_19 : decode cX7_totalWeight 19 = .ok (.iadd, 1) := by decide +kernel
theorem dX7_totalWeight_20 : decode cX7_totalWeight 20 = .ok (.istore_n 1, 1) := by decide +kernel
theorem dX7_totalWeight_21 : decode cX7_totalWeight 21 = .ok (.iinc 2 1, 3) := by decide +kernel
theorem dX7_totalWeight_24 : decode cX7_totalWeight 24 = .ok (.goto (-20), 3) := by decide +kernel
theorem dX7_totalWeight_27 : decode cX7_totalWeight 27 = .ok (.iload_n 1, 1) := by decide +kernel
theorem dX7_totalWeight_28 : decode cX7_totalWeight 28 = .ok (.ireturn, 1) := by decide +kernel
theorem dX7_totalPurse_0 : decode cX7_totalPurse 0 = .ok (.iconst 0, 1) := by decide +kernel
theorem dX7_totalPurse_1 : decode cX7_totalPurse 1 = .ok (.istore_n 1, 1) := by decide +kernel
theorem dX7_totalPurse_2 : decode cX7_totalPurse 2 = .ok (.iconst 0, 1) := by decide +kernel
theorem dX7_totalPurse_3 : decode cX7_totalPurse 3 = .ok (.istore_n 2, 1) := by decide +kernel
theorem dX7_totalPurse_4 : decode cX7_totalPurse 4 = .ok (.iload_n 2, 1) := by decide +kernel
theorem dX7_totalPurse_5 : decode cX7_totalPurse 5 = .ok (.aload_n 0, 1) := by decide +kernel
theorem dX7_totalPurse_6 : decode cX7_totalPurse 6 = .ok (.getfield 46, 3) := by decide +kernel
theorem dX7_totalPurse_9 : decode cX7_totalPurse 9 = .ok (.if_icmp .ge 18, 3) := by decide +kernel
theorem dX7_totalPurse_12 : decode cX7_totalPurse 12 = .ok (.iload_n 1, 1) := by decide +kernel
theorem dX7_totalPurse_13 : decode cX7_totalPurse 13 = .ok (.aload_n 0, 1) := by decide +kernel
theorem dX7_totalPurse_14 : decode cX7_totalPurse 14 = .ok (.getfield 21, 3) := by decide +kernel
theorem dX7_totalPurse_17 : decode cX7_totalPurse 17 = .ok (.iload_n 2, 1) := by decide +kernel
theorem dX7_totalPurse_18 : decode cX7_totalPurse 18 = .ok (.iaload, 1) := by decide +kernel
theorem dX7_totalPurse_19 : decode cX7_totalPurse 19 = .ok (.iadd, 1) := by decide +kernel
theorem dX7_totalPurse_20 : decode cX7_totalPurse 20 = .ok (.istore_n 1, 1) := by decide +kernel
theorem dX7_totalPurse_21 : decode cX7_totalPurse 21 = .ok (.iinc 2 1, 3) := by decide +kernel
theorem dX7_totalPurse_24 : decode cX7_totalPurse 24 = .ok (.goto (-20), 3) := by decide +kernel
theorem dX7_totalPurse_27 : decode cX7_totalPurse 27 = .ok (.iload_n 1, 1) := by decide +kernel
theorem dX7_totalPurse_28 : decode cX7_totalPurse 28 = .ok (.ireturn, 1) := by decide +kernel
theorem dX8_init_0 : decode cX8_init 0 = .ok (.aload_n 0, 1) := by decide +kernel
theorem dX8_init_1 : decode cX8_init 1 = .ok (.invokespecial 3, 3) := by decide +kernel
theorem dX8_init_4 : decode cX8_init 4 = .ok (.aload_n 0, 1) := by decide +kernel
theorem dX8_init_5 : decode cX8_init 5 = .ok (.sipush 700, 3) := by decide +kernel
theorem dX8_init_8 : decode cX8_init 8 = .ok (.newarray .byte, 2) := by decide +kernel
theorem dX8_init_10 : decode cX8_init 10 = .ok (.putfield 9, 3) := by decide +kernel
theorem dX8_init_13 : decode cX8_init 13 = .ok (.return_, 1) := by decide +kernel
theorem dX8_bytesIn_0 : decode cX8_bytesIn 0 = .ok (.iconst 0, 1) := by decide +kernel
theorem dX8_bytesIn_1 : decode cX8_bytesIn 1 = .ok (.istore_n 1, 1) := by decide +kernel
theorem dX8_bytesIn_2 : decode cX8_bytesIn 2 = .ok (.bipush 24, 2) := by decide +kernel
theorem dX8_bytesIn_4 : decode cX8_bytesIn 4 = .ok (.istore_n 2, 1) := by decide +kernel
theorem dX8_bytesIn_5 : decode cX8_bytesIn 5 = .ok (.iload_n 2, 1) := by decide +kernel
theorem dX8_bytesIn_6 : decode cX8_bytesIn 6 = .ok (.ifCond .lt 22, 3) := by decide +kernel
theorem dX8_bytesIn_9 : decode cX8_bytesIn 9 = .ok (.iload_n 0, 1) := by decide +kernel
theorem dX8_bytesIn_10 : decode cX8_bytesIn 10 = .ok (.iload_n 2, 1) := by decide +kernel
theorem dX8_bytesIn_11 : decode cX8_bytesIn 11 = .ok (.iushr, 1) := by decide +kernel
theorem dX8_bytesIn_12 : decode cX8_bytesIn 12 = .ok (.sipush 255, 3) := by decide +kernel
theorem dX8_bytesIn_15 : decode cX8_bytesIn 15 = .ok (.iand, 1) := by decide +kernel
theorem dX8_bytesIn_16 : decode cX8_bytesIn 16 = .ok (.ifCond .eq 6, 3) := by decide +kernel
theorem dX8_bytesIn_19 : decode cX8_bytesIn 19 = .ok (.iinc 1 1, 3) := by decide +kernel
theorem dX8_bytesIn_22 : decode cX8_bytesIn 22 = .ok (.iinc 2 (-8), 3) := by decide +kernel
theorem dX8_bytesIn_25 : decode cX8_bytesIn 25 = .ok (.goto (-20), 3) := by decide +kernel
theorem dX8_bytesIn_28 : decode cX8_bytesIn 28 = .ok (.iload_n 1, 1) := by decide +kernel
theorem dX8_bytesIn_29 : decode cX8_bytesIn 29 = .ok (.ireturn, 1) := by decide +kernel
theorem dX8_putBytesOf_0 : decode cX8_putBytesOf 0 = .ok (.bipush 24, 2) := by decide +kernel
theorem dX8_putBytesOf_2 : decode cX8_putBytesOf 2 = .ok (.istore_n 2, 1) := by decide +kernel
theorem dX8_putBytesOf_3 : decode cX8_putBytesOf 3 = .ok (.iload_n 2, 1) := by decide +kernel
theorem dX8_putBytesOf_4 : decode cX8_putBytesOf 4 = .ok (.ifCond .lt 20, 3) := by decide +kernel
theorem dX8_putBytesOf_7 : decode cX8_putBytesOf 7 = .ok (.aload_n 0, 1) := by decide +kernel
theorem dX8_putBytesOf_8 : decode cX8_putBytesOf 8 = .ok (.iload_n 1, 1) := by decide +kernel
theorem dX8_putBytesOf_9 : decode cX8_putBytesOf 9 = .ok (.iload_n 2, 1) := by decide +kernel
theorem dX8_putBytesOf_10 : decode cX8_putBytesOf 10 = .ok (.iushr, 1) := by decide +kernel
theorem dX8_putBytesOf_11 : decode cX8_putBytesOf 11 = .ok (.sipush 255, 3) := by decide +kernel
theorem dX8_putBytesOf_14 : decode cX8_putBytesOf 14 = .ok (.iand, 1) := by decide +kernel
theorem dX8_putBytesOf_15 : decode cX8_putBytesOf 15 = .ok (.invokevirtual 15, 3) := by decide +kernel
theorem dX8_putBytesOf_18 : decode cX8_putBytesOf 18 = .ok (.iinc 2 (-8), 3) := by decide +kernel
theorem dX8_putBytesOf_21 : decode cX8_putBytesOf 21 = .ok (.goto (-18), 3) := by decide +kernel
theorem dX8_putBytesOf_24 : decode cX8_putBytesOf 24 = .ok (.return_, 1) := by decide +kernel
theorem dX8_putAll_0 : decode cX8_putAll 0 = .ok (.iconst 0, 1) := by decide +kernel
theorem dX8_putAll_1 : decode cX8_putAll 1 = .ok (.istore_n 2, 1) := by decide +kernel
theorem dX8_putAll_2 : decode cX8_putAll 2 = .ok (.iload_n 2, 1) := by decide +kernel
theorem dX8_putAll_3 : decode cX8_putAll 3 = .ok (.aload_n 1, 1) := by decide +kernel
theorem dX8_putAll_4 : decode cX8_putAll 4 = .ok (.invokevirtual 19, 3) := by decide +kernel
theorem dX8_putAll_7 : decode cX8_putAll 7 = .ok (.if_icmp .ge 18, 3) := by decide +kernel
theorem dX8_putAll_10 : decode cX8_putAll 10 = .ok (.aload_n 0, 1) := by decide +kernel
theorem dX8_putAll_11 : decode cX8_putAll 11 = .ok (.aload_n 1, 1) := by decide +kernel
theorem dX8_putAll_12 : decode cX8_putAll 12 = .ok (.iload_n 2, 1) := by decide +kernel
theorem dX8_putAll_13 : decode cX8_putAll 13 = .ok (.invokevirtual 25, 3) := by decide +kernel
theorem dX8_putAll_16 : decode cX8_putAll 16 = .ok (.invokevirtual 15, 3) := by decide +kernel
theorem dX8_putAll_19 : decode cX8_putAll 19 = .ok (.iinc 2 1, 3) := by decide +kernel
theorem dX8_putAll_22 : decode cX8_putAll 22 = .ok (.goto (-20), 3) := by decide +kernel
theorem dX8_putAll_25 : decode cX8_putAll 25 = .ok (.return_, 1) := by decide +kernel
theorem dX8_put_0 : decode cX8_put 0 = .ok (.iload_n 1, 1) := by decide +kernel
theorem dX8_put_1 : decode cX8_put 1 = .ok (.ifCond .eq 34, 3) := by decide +kernel
theorem dX8_put_4 : decode cX8_put 4 = .ok (.aload_n 0, 1) := by decide +kernel
theorem dX8_put_5 : decode cX8_put 5 = .ok (.getfield 29, 3) := by decide +kernel
theorem dX8_put_8 : decode cX8_put 8 = .ok (.sipush 700, 3) := by decide +kernel
theorem dX8_put_11 : decode cX8_put 11 = .ok (.if_icmp .ge 24, 3) := by decide +kernel
theorem dX8_put_14 : decode cX8_put 14 = .ok (.aload_n 0, 1) := by decide +kernel
theorem dX8_put_15 : decode cX8_put 15 = .ok (.getfield 9, 3) := by decide +kernel
theorem dX8_put_18 : decode cX8_put 18 = .ok (.aload_n 0, 1) := by decide +kernel
theorem dX8_put_19 : decode cX8_put 19 = .ok (.getfield 29, 3) := by decide +kernel
theorem dX8_put_22 : decode cX8_put 22 = .ok (.iload_n 1, 1) := by decide +kernel
theorem dX8_put_23 : decode cX8_put 23 = .ok (.i2b, 1) := by decide +kernel
theorem dX8_put_24 : decode cX8_put 24 = .ok (.bastore, 1) := by decide +kernel
theorem dX8_put_25 : decode cX8_put 25 = .ok (.aload_n 0, 1) := by decide +kernel
theorem dX8_put_26 : decode cX8_put 26 = .ok (.dup, 1) := by decide +kernel
theorem dX8_put_27 : decode cX8_put 27 = .ok (.getfield 29, 3) := by decide +kernel
theorem dX8_put_30 : decode cX8_put 30 = .ok (.iconst 1, 1) := by decide +kernel
theorem dX8_put_31 : decode cX8_put 31 = .ok (.iadd, 1) := by decide +kernel
theorem dX8_put_32 : decode cX8_put 32 = .ok (.putfield 29, 3) := by decide +kernel
theorem dX8_put_35 : decode cX8_put 35 = .ok (.return_, 1) := by decide +kernel
theorem dX8_at_0 : decode cX8_at 0 = .ok (.iload_n 1, 1) := by decide +kernel
theorem dX8_at_1 : decode cX8_at 1 = .ok (.ifCond .lt 24, 3) := by decide +kernel
theorem dX8_at_4 : decode cX8_at 4 = .ok (.iload_n 1, 1) := by decide +kernel
theorem dX8_at_5 : decode cX8_at 5 = .ok (.aload_n 0, 1) := by decide +kernel
theorem dX8_at_6 : decode cX8_at 6 = .ok (.getfield 29, 3) := by decide +kernel
theorem dX8_at_9 : decode cX8_at 9 = .ok (.if_icmp .ge 16, 3) := by decide +kernel
theorem dX8_at_12 : decode cX8_at 12 = .ok (.aload_n 0, 1) := by decide +kernel
theorem dX8_at_13 : decode cX8_at 13 = .ok (.getfield 9, 3) := by decide +kernel
theorem dX8_at_16 : decode cX8_at 16 = .ok (.iload_n 1, 1) := by decide +kernel
theorem dX8_at_17 : decode cX8_at 17 = .ok (.baload, 1) := by decide +kernel
theorem dX8_at_18 : decode cX8_at 18 = .ok (.sipush 255, 3) := by decide +kernel
theorem dX8_at_21 : decode cX8_at 21 = .ok (.iand, 1) := by decide +kernel
theorem dX8_at_22 : decode cX8_at 22 = .ok (.goto 4, 3) := by decide +kernel
theorem dX8_at_25 : decode cX8_at 25 = .ok (.iconst 0, 1) := by decide +kernel
theorem dX8_at_26 : decode cX8_at 26 = .ok (.ireturn, 1) := by decide +kernel
theorem dX8_nameBetween_0 : decode cX8_nameBetween 0 = .ok (.iload_n 2, 1) := by decide +kernel
theorem dX8_nameBetween_1 : decode cX8_nameBetween 1 = .ok (.iload_n 1, 1) := by decide +kernel
theorem dX8_nameBetween_2 : decode cX8_nameBetween 2 = .ok (.isub, 1) := by decide +kernel
theorem dX8_nameBetween_3 : decode cX8_nameBetween 3 = .ok (.bipush 6, 2) := by decide +kernel
theorem dX8_nameBetween_5 : decode cX8_nameBetween 5 = .ok (.if_icmp .le 5, 3) := by decide +kernel
theorem dX8_nameBetween_8 : decode cX8_nameBetween 8 = .ok (.iconst 0, 1) := by decide +kernel
theorem dX8_nameBetween_9 : decode cX8_nameBetween 9 = .ok (.ireturn, 1) := by decide +kernel
theorem dX8_nameBetween_10 : decode cX8_nameBetween 10 = .ok (.iconst 0, 1) := by decide +kernel
theorem dX8_nameBetween_11 : decode cX8_nameBetween 11 = .ok (.istore_n 3, 1) := by decide +kernel
theorem dX8_nameBetween_12 : decode cX8_nameBetween 12 = .ok (.iload_n 1, 1) := by decide +kernel
theorem dX8_nameBetween_13 : decode cX8_nameBetween 13 = .ok (.istore 4, 2) := by decide +kernel
theorem dX8_nameBetween_15 : decode cX8_nameBetween 15 = .ok (.iload 4, 2) := by decide +kernel
theorem dX8_nameBetween_17 : decode cX8_nameBetween 17 = .ok (.iload_n 2, 1) := by decide +kernel
theorem dX8_nameBetween_18 : decode cX8_nameBetween 18 = .ok (.if_icmp .ge 40, 3) := by decide +kernel
theorem dX8_nameBetween_21 : decode cX8_nameBetween 21 = .ok (.aload_n 0, 1) := by decide +kernel
theorem dX8_nameBetween_22 : decode cX8_nameBetween 22 = .ok (.iload 4, 2) := by decide +kernel
theorem dX8_nameBetween_24 : decode cX8_nameBetween 24 = .ok (.invokevirtual 32, 3) := by decide +kernel
theorem dX8_nameBetween_27 : decode cX8_nameBetween 27 = .ok (.istore 5, 2) := by decide +kernel
theorem dX8_nameBetween_29 : decode cX8_nameBetween 29 = .ok (.iload 5, 2) := by decide +kernel
theorem dX8_nameBetween_31 : decode cX8_nameBetween 31 = .ok (.invokestatic 36, 3) := by decide +kernel
theorem dX8_nameBetween_34 : decode cX8_nameBetween 34 = .ok (.iconst 1, 1) := by decide +kernel
theorem dX8_nameBetween_35 : decode cX8_nameBetween 35 = .ok (.if_icmp .eq 5, 3) := by decide +kernel
theorem dX8_nameBetween_38 : decode cX8_nameBetween 38 = .ok (.iconst 0, 1) := by decide +kernel
theorem dX8_nameBetween_39 : decode cX8_nameBetween 39 = .ok (.ireturn, 1) := by decide +kernel
theorem dX8_nameBetween_40 : decode cX8_nameBetween 40 = .ok (.iload_n 3, 1) := by decide +kernel
theorem dX8_nameBetween_41 : decode cX8_nameBetween 41 = .ok (.iconst 5, 1) := by decide +kernel
theorem dX8_nameBetween_42 : decode cX8_nameBetween 42 = .ok (.ishl, 1) := by decide +kernel
theorem dX8_nameBetween_43 : decode cX8_nameBetween 43 = .ok (.iload 5, 2) := by decide +kernel
theorem dX8_nameBetween_45 : decode cX8_nameBetween 45 = .ok (.bipush 97, 2) := by decide +kernel
theorem dX8_nameBetween_47 : decode cX8_nameBetween 47 = .ok (.isub, 1) := by decide +kernel
theorem dX8_nameBetween_48 : decode cX8_nameBetween 48 = .ok (.iconst 1, 1) := by decide +kernel
theorem dX8_nameBetween_49 : decode cX8_nameBetween 49 = .ok (.iadd, 1) := by decide +kernel
theorem dX8_nameBetween_50 : decode cX8_nameBetween 50 = .ok (.iadd, 1) := by decide +kernel
theorem dX8_nameBetween_51 : decode cX8_nameBetween 51 = .ok (.istore_n 3, 1) := by decide +kernel
theorem dX8_nameBetween_52 : decode cX8_nameBetween 52 = .ok (.iinc 4 1, 3) := by decide +kernel
theorem dX8_nameBetween_55 : decode cX8_nameBetween 55 = .ok (.goto (-40), 3) := by decide +kernel
theorem dX8_nameBetween_58 : decode cX8_nameBetween 58 = .ok (.iload_n 3, 1) := by decide +kernel
theorem dX8_nameBetween_59 : decode cX8_nameBetween 59 = .ok (.ireturn, 1) := by decide +kernel
theorem dX8_writeName_0 : decode cX8_writeName 0 = .ok (.bipush 25, 2) := by decide +kernel
theorem dX8_writeName_2 : decode cX8_writeName 2 = .ok (.istore_n 2, 1) := by decide +kernel
theorem dX8_writeName_3 : decode cX8_writeName 3 = .ok (.iload_n 2, 1) := by decide +kernel
theorem dX8_writeName_4 : decode cX8_writeName 4 = .ok (.ifCond .lt 32, 3) := by decide +kernel
theorem dX8_writeName_7 : decode cX8_writeName 7 = .ok (.iload_n 0, 1) := by decide +kernel
theorem dX8_writeName_8 : decode cX8_writeName 8 = .ok (.iload_n 2, 1) := by decide +kernel
theorem dX8_writeName_9 : decode cX8_writeName 9 = .ok (.iushr, 1) := by decide +kernel
theorem dX8_writeName_10 : decode cX8_writeName 10 = .ok (.bipush 31, 2) := by decide +kernel
theorem dX8_writeName_12 : decode cX8_writeName 12 = .ok (.iand, 1) := by decide +kernel
theorem dX8_writeName_13 : decode cX8_writeName 13 = .ok (.istore_n 3, 1) := by decide +kernel
theorem dX8_writeName_14 : decode cX8_writeName 14 = .ok (.iload_n 3, 1) := by decide +kernel
theorem dX8_writeName_15 : decode cX8_writeName 15 = .ok (.ifCond .eq 15, 3) := by decide +kernel
theorem dX8_writeName_18 : decode cX8_writeName 18 = .ok (.aload_n 1, 1) := by decide +kernel
theorem dX8_writeName_19 : decode cX8_writeName 19 = .ok (.bipush 97, 2) := by decide +kernel
theorem dX8_writeName_21 : decode cX8_writeName 21 = .ok (.iload_n 3, 1) := by decide +kernel
theorem dX8_writeName_22 : decode cX8_writeName 22 = .ok (.iadd, 1) := by decide +kernel
theorem dX8_writeName_23 : decode cX8_writeName 23 = .ok (.iconst 1, 1) := by decide +kernel
theorem dX8_writeName_24 : decode cX8_writeName 24 = .ok (.isub, 1) := by decide +kernel
theorem dX8_writeName_25 : decode cX8_writeName 25 = .ok (.i2c, 1) := by decide +kernel
theorem dX8_writeName_26 : decode cX8_writeName 26 = .ok (.invokevirtual 41, 3) := by decide +kernel
theorem dX8_writeName_29 : decode cX8_writeName 29 = .ok (.pop, 1) := by decide +kernel
theorem dX8_writeName_30 : decode cX8_writeName 30 = .ok (.iinc 2 (-5), 3) := by decide +kernel
theorem dX8_writeName_33 : decode cX8_writeName 33 = .ok (.goto (-30), 3) := by decide +kernel
theorem dX8_writeName_36 : decode cX8_writeName 36 = .ok (.return_, 1) := by decide +kernel
theorem dX9_init_0 : decode cX9_init 0 = .ok (.aload_n 0, 1) := by decide +kernel
theorem dX9_init_1 : decode cX9_init 1 = .ok (.invokespecial 3, 3) := by decide +kernel
theorem dX9_init_4 : decode cX9_init 4 = .ok (.aload_n 0, 1) := by decide +kernel
theorem dX9_init_5 : decode cX9_init 5 = .ok (.aload_n 1, 1) := by decide +kernel
theorem dX9_init_6 : decode cX9_init 6 = .ok (.putfield 9, 3) := by decide +kernel
theorem dX9_init_9 : decode cX9_init 9 = .ok (.return_, 1) := by decide +kernel
theorem dX9_start_0 : decode cX9_start 0 = .ok (.aload_n 0, 1) := by decide +kernel
theorem dX9_start_1 : decode cX9_start 1 = .ok (.iconst 0, 1) := by decide +kernel
theorem dX9_start_2 : decode cX9_start 2 = .ok (.putfield 15, 3) := by decide +kernel
theorem dX9_start_5 : decode cX9_start 5 = .ok (.aload_n 0, 1) := by decide +kernel
theorem dX9_start_6 : decode cX9_start 6 = .ok (.iconst (-1), 1) := by decide +kernel
theorem dX9_start_7 : decode cX9_start 7 = .ok (.putfield 19, 3) := by decide +kernel
theorem dX9_start_10 : decode cX9_start 10 = .ok (.aload_n 0, 1) := by decide +kernel
theorem dX9_start_11 : decode cX9_start 11 = .ok (.iconst 0, 1) := by decide +kernel
theorem dX9_start_12 : decode cX9_start 12 = .ok (.putfield 22, 3) := by decide +kernel
theorem dX9_start_15 : decode cX9_start 15 = .ok (.aload_n 0, 1) := by decide +kernel
theorem dX9_start_16 : decode cX9_start 16 = .ok (.invokevirtual 25, 3) := by decide +kernel
theorem dX9_start_19 : decode cX9_start 19 = .ok (.return_, 1) := by decide +kernel
theorem dX9_step_0 : decode cX9_step 0 = .ok (.aload_n 0, 1) := by decide +kernel
theorem dX9_step_1 : decode cX9_step 1 = .ok (.aload_n 0, 1) := by decide +kernel
theorem dX9_step_2 : decode cX9_step 2 = .ok (.getfield 22, 3) := by decide +kernel
theorem dX9_step_5 : decode cX9_step 5 = .ok (.putfield 28, 3) := by decide +kernel
theorem dX9_step_8 : decode cX9_step 8 = .ok (.aload_n 0, 1) := by decide +kernel
theorem dX9_step_9 : decode cX9_step 9 = .ok (.getfield 28, 3) := by decide +kernel
theorem dX9_step_12 : decode cX9_step 12 = .ok (.aload_n 0, 1) := by decide +kernel
theorem dX9_step_13 : decode cX9_step 13 = .ok (.getfield 9, 3) := by decide +kernel
theorem dX9_step_16 : decode cX9_step 16 = .ok (.getfield 31, 3) := by decide +kernel
theorem dX9_step_19 : decode cX9_step 19 = .ok (.if_icmp .ge 34, 3) := by decide +kernel
theorem dX9_step_22 : decode cX9_step 22 = .ok (.aload_n 0, 1) := by decide +kernel
theorem dX9_step_23 : decode cX9_step 23 = .ok (.getfield 9, 3) := by decide +kernel
theorem dX9_step_26 : decode cX9_step 26 = .ok (.aload_n 0, 1) := by decide +kernel
theorem dX9_step_27 : decode cX9_step 27 = .ok (.getfield 28, 3) := by decide +kernel
theorem dX9_step_30 : decode cX9_step 30 = .ok (.invokevirtual 36, 3) := by decide +kernel
theorem dX9_step_33 : decode cX9_step 33 = .ok (.invokestatic 40, 3) := by decide +kernel
theorem dX9_step_36 : decode cX9_step 36 = .ok (.iconst 4, 1) := by decide +kernel
theorem dX9_step_37 : decode cX9_step 37 = .ok (.if_icmp .ne 16, 3) := by decide +kernel
theorem dX9_step_40 : decode cX9_step 40 = .ok (.aload_n 0, 1) := by decide +kernel
theorem dX9_step_41 : decode cX9_step 41 = .ok (.dup, 1) := by decide +kernel
theorem dX9_step_42 : decode cX9_step 42 = .ok (.getfield 28, 3) := by decide +kernel
theorem dX9_step_45 : decode cX9_step 45 = .ok (.iconst 1, 1) := by decide +kernel
theorem dX9_step_46 : decode cX9_step 46 = .ok (.iadd, 1) := by decide +kernel
theorem dX9_step_47 : decode cX9_step 47 = .ok (.putfield 28, 3) := by decide +kernel
theorem dX9_step_50 : decode cX9_step 50 = .ok (.goto (-42), 3) := by decide +kernel
theorem dX9_step_53 : decode cX9_step 53 = .ok (.aload_n 0, 1) := by decide +kernel
theorem dX9_step_54 : decode cX9_step 54 = .ok (.aload_n 0, 1) := by decide +kernel
theorem dX9_step_55 : decode cX9_step 55 = .ok (.getfield 9, 3) := by decide +kernel
theorem dX9_step_58 : decode cX9_step 58 = .ok (.aload_n 0, 1) := by decide +kernel
theorem dX9_step_59 : decode cX9_step 59 = .ok (.getfield 28, 3) := by decide +kernel
theorem dX9_step_62 : decode cX9_step 62 = .ok (.invokevirtual 36, 3) := by decide +kernel
theorem dX9_step_65 : decode cX9_step 65 = .ok (.invokestatic 40, 3) := by decide +kernel
theorem dX9_step_68 : decode cX9_step 68 = .ok (.putfield 43, 3) := by decide +kernel
theorem dX9_step_71 : decode cX9_step 71 = .ok (.aload_n 0, 1) := by decide +kernel
theorem dX9_step_72 : decode cX9_step 72 = .ok (.aload_n 0, 1) := by decide +kernel
theorem dX9_step_73 : decode cX9_step 73 = .ok (.getfield 43, 3) := by decide +kernel
theorem dX9_step_76 : decode cX9_step 76 = .ok (.iconst 3, 1) := by decide +kernel
theorem dX9_step_77 : decode cX9_step 77 = .ok (.if_icmp .ne 12, 3) := by decide +kernel
theorem dX9_step_80 : decode cX9_step 80 = .ok (.aload_n 0, 1) := by decide +kernel
theorem dX9_step_81 : decode cX9_step 81 = .ok (.getfield 28, 3) := by decide +kernel
theorem dX9_step_84 : decode cX9_step 84 = .ok (.iconst 1, 1) := by decide +kernel
theorem dX9_step_85 : decode cX9_step 85 = .ok (.iadd, 1) := by decide +kernel
theorem dX9_step_86 : decode cX9_step 86 = .ok (.goto 7, 3) := by decide +kernel
theorem dX9_step_89 : decode cX9_step 89 = .ok (.aload_n 0, 1) := by decide +kernel
theorem dX9_step_90 : decode cX9_step 90 = .ok (.getfield 28, 3) := by decide +kernel
theorem dX9_step_93 : decode cX9_step 93 = .ok (.putfield 22, 3) := by decide +kernel
theorem dX9_step_96 : decode cX9_step 96 = .ok (.aload_n 0, 1) := by decide +kernel
theorem dX9_step_97 : decode cX9_step 97 = .ok (.getfield 43, 3) := by decide +kernel
theorem dX9_step_100 : decode cX9_step 100 = .ok (.iconst 1, 1) := by decide +kernel
theorem dX9_step_101 : decode cX9_step 101 = .ok (.if_icmp .eq 11, 3) := by decide +kernel
theorem dX9_step_104 : decode cX9_step 104 = .ok (.aload_n 0, 1) := by decide +kernel
theorem dX9_step_105 : decode cX9_step 105 = .ok (.getfield 43, 3) := by decide +kernel
theorem dX9_step_108 : decode cX9_step 108 = .ok (.iconst 2, 1) := by decide +kernel
theorem dX9_step_109 : decode cX9_step 109 = .ok (.if_icmp .ne 7, 3) := by decide +kernel
theorem dX9_step_112 : decode cX9_step 112 = .ok (.iconst 1, 1) := by decide +kernel
theorem dX9_step_113 : decode cX9_step 113 = .ok (.goto 4, 3) := by decide +kernel
theorem dX9_step_116 : decode cX9_step 116 = .ok (.iconst 0, 1) := by decide +kernel
theorem dX9_step_117 : decode cX9_step 117 = .ok (.istore_n 1, 1) := by decide +kernel
theorem dX9_step_118 : decode cX9_step 118 = .ok (.iload_n 1, 1) := by decide +kernel
theorem dX9_step_119 : decode cX9_step 119 = .ok (.ifCond .eq 51, 3) := by decide +kernel
theorem dX9_step_122 : decode cX9_step 122 = .ok (.aload_n 0, 1) := by decide +kernel
theorem dX9_step_123 : decode cX9_step 123 = .ok (.getfield 22, 3) := by decide +kernel
theorem dX9_step_126 : decode cX9_step 126 = .ok (.aload_n 0, 1) := by decide +kernel
theorem dX9_step_127 : decode cX9_step 127 = .ok (.getfield 9, 3) := by decide +kernel
theorem dX9_step_130 : decode cX9_step 130 = .ok (.getfield 31, 3) := by decide +kernel
theorem dX9_step_133 : decode cX9_step 133 = .ok (.if_icmp .ge 37, 3) := by decide +kernel
theorem dX9_step_136 : decode cX9_step 136 = .ok (.aload_n 0, 1) := by decide +kernel
theorem dX9_step_137 : decode cX9_step 137 = .ok (.getfield 9, 3) := by decide +kernel
theorem dX9_step_140 : decode cX9_step 140 = .ok (.aload_n 0, 1) := by decide +kernel
theorem dX9_step_141 : decode cX9_step 141 = .ok (.getfield 22, 3) := by decide +kernel
theorem dX9_step_144 : decode cX9_step 144 = .ok (.invokevirtual 36, 3) := by decide +kernel
theorem dX9_step_147 : decode cX9_step 147 = .ok (.invokestatic 40, 3) := by decide +kernel
theorem dX9_step_150 : decode cX9_step 150 = .ok (.aload_n 0, 1) := by decide +kernel
theorem dX9_step_151 : decode cX9_step 151 = .ok (.getfield 43, 3) := by decide +kernel
theorem dX9_step_154 : decode cX9_step 154 = .ok (.if_icmp .ne 16, 3) := by decide +kernel
theorem dX9_step_157 : decode cX9_step 157 = .ok (.aload_n 0, 1) := by decide +kernel
theorem dX9_step_158 : decode cX9_step 158 = .ok (.dup, 1) := by decide +kernel
theorem dX9_step_159 : decode cX9_step 159 = .ok (.getfield 22, 3) := by decide +kernel
theorem dX9_step_162 : decode cX9_step 162 = .ok (.iconst 1, 1) := by decide +kernel
theorem dX9_step_163 : decode cX9_step 163 = .ok (.iadd, 1) := by decide +kernel
theorem dX9_step_164 : decode cX9_step 164 = .ok (.putfield 22, 3) := by decide +kernel
theorem dX9_step_167 : decode cX9_step 167 = .ok (.goto (-49), 3) := by decide +kernel
theorem dX9_step_170 : decode cX9_step 170 = .ok (.return_, 1) := by decide +kernel
theorem dX9_kindOf_0 : decode cX9_kindOf 0 = .ok (.iload_n 0, 1) := by decide +kernel
theorem dX9_kindOf_1 : decode cX9_kindOf 1 = .ok (.ifCond .ne 5, 3) := by decide +kernel
theorem dX9_kindOf_4 : decode cX9_kindOf 4 = .ok (.iconst 0, 1) := by decide +kernel
theorem dX9_kindOf_5 : decode cX9_kindOf 5 = .ok (.ireturn, 1) := by decide +kernel
theorem dX9_kindOf_6 : decode cX9_kindOf 6 = .ok (.iload_n 0, 1) := by decide +kernel
theorem dX9_kindOf_7 : decode cX9_kindOf 7 = .ok (.bipush 32, 2) := by decide +kernel
theorem dX9_kindOf_9 : decode cX9_kindOf 9 = .ok (.if_icmp .eq 9, 3) := by decide +kernel
theorem dX9_kindOf_12 : decode cX9_kindOf 12 = .ok (.iload_n 0, 1) := by decide +kernel
theorem dX9_kindOf_13 : decode cX9_kindOf 13 = .ok (.bipush 10, 2) := by decide +kernel
theorem dX9_kindOf_15 : decode cX9_kindOf 15 = .ok (.if_icmp .ne 5, 3) := by decide +kernel
theorem dX9_kindOf_18 : decode cX9_kindOf 18 = .ok (.iconst 4, 1) := by decide +kernel
theorem dX9_kindOf_19 : decode cX9_kindOf 19 = .ok (.ireturn, 1) := by decide +kernel
theorem dX9_kindOf_20 : decode cX9_kindOf 20 = .ok (.iload_n 0, 1) := by decide +kernel
theorem dX9_kindOf_21 : decode cX9_kindOf 21 = .ok (.bipush 97, 2) := by decide +kernel
theorem dX9_kindOf_23 : decode cX9_kindOf 23 = .ok (.if_icmp .lt 11, 3) := by decide +kernel
theorem dX9_kindOf_26 : decode cX9_kindOf 26 = .ok (.iload_n 0, 1) := by decide +kernel
theorem dX9_kindOf_27 : decode cX9_kindOf 27 = .ok (.bipush 122, 2) := by decide +kernel
theorem dX9_kindOf_29 : decode cX9_kindOf 29 = .ok (.if_icmp .gt 5, 3) := by decide +kernel
theorem dX9_kindOf_32 : decode cX9_kindOf 32 = .ok (.iconst 1, 1) := by decide +kernel
theorem dX9_kindOf_33 : decode cX9_kindOf 33 = .ok (.ireturn, 1) := by decide +kernel
theorem dX9_kindOf_34 : decode cX9_kindOf 34 = .ok (.iload_n 0, 1) := by decide +kernel
theorem dX9_kindOf_35 : decode cX9_kindOf 35 = .ok (.bipush 48, 2) := by decide +kernel
theorem dX9_kindOf_37 : decode cX9_kindOf 37 = .ok (.if_icmp .lt 13, 3) := by decide +kernel
theorem dX9_kindOf_40 : decode cX9_kindOf 40 = .ok (.iload_n 0, 1) := by decide +kernel
theorem dX9_kindOf_41 : decode cX9_kindOf 41 = .ok (.bipush 57, 2) := by decide +kernel
theorem dX9_kindOf_43 : decode cX9_kindOf 43 = .ok (.if_icmp .gt 7, 3) := by decide +kernel
theorem dX9_kindOf_46 : decode cX9_kindOf 46 = .ok (.iconst 2, 1) := by decide +kernel
theorem dX9_kindOf_47 : decode cX9_kindOf 47 = .ok (.goto 4, 3) := by decide +kernel
theorem dX9_kindOf_50 : decode cX9_kindOf 50 = .ok (.iconst 3, 1) := by decide +kernel
theorem dX9_kindOf_51 : decode cX9_kindOf 51 = .ok (.ireturn, 1) := by decide +kernel
theorem dX9_isFine_0 : decode cX9_isFine 0 = .ok (.aload_n 0, 1) := by decide +kernel
theorem dX9_isFine_1 : decode cX9_isFine 1 = .ok (.getfield 15, 3) := by decide +kernel
theorem dX9_isFine_4 : decode cX9_isFine 4 = .ok (.ifCond .ne 7, 3) := by decide +kernel
theorem dX9_isFine_7 : decode cX9_isFine 7 = .ok (.iconst 1, 1) := by decide +kernel
theorem dX9_isFine_8 : decode cX9_isFine 8 = .ok (.goto 4, 3) := by decide +kernel
theorem dX9_isFine_11 : decode cX9_isFine 11 = .ok (.iconst 0, 1) := by decide +kernel
theorem dX9_isFine_12 : decode cX9_isFine 12 = .ok (.ireturn, 1) := by decide +kernel
theorem dX9_isAtEnd_0 : decode cX9_isAtEnd 0 = .ok (.aload_n 0, 1) := by decide +kernel
theorem dX9_isAtEnd_1 : decode cX9_isAtEnd 1 = .ok (.getfield 43, 3) := by decide +kernel
theorem dX9_isAtEnd_4 : decode cX9_isAtEnd 4 = .ok (.ifCond .ne 7, 3) := by decide +kernel
theorem dX9_isAtEnd_7 : decode cX9_isAtEnd 7 = .ok (.iconst 1, 1) := by decide +kernel
theorem dX9_isAtEnd_8 : decode cX9_isAtEnd 8 = .ok (.goto 4, 3) := by decide +kernel
theorem dX9_isAtEnd_11 : decode cX9_isAtEnd 11 = .ok (.iconst 0, 1) := by decide +kernel
theorem dX9_isAtEnd_12 : decode cX9_isAtEnd 12 = .ok (.ireturn, 1) := by decide +kernel
theorem dX9_isAtWord_0 : decode cX9_isAtWord 0 = .ok (.aload_n 0, 1) := by decide +kernel
theorem dX9_isAtWord_1 : decode cX9_isAtWord 1 = .ok (.getfield 43, 3) := by decide +kernel
theorem dX9_isAtWord_4 : decode cX9_isAtWord 4 = .ok (.iconst 1, 1) := by decide +kernel
theorem dX9_isAtWord_5 : decode cX9_isAtWord 5 = .ok (.if_icmp .ne 7, 3) := by decide +kernel
theorem dX9_isAtWord_8 : decode cX9_isAtWord 8 = .ok (.iconst 1, 1) := by decide +kernel
theorem dX9_isAtWord_9 : decode cX9_isAtWord 9 = .ok (.goto 4, 3) := by decide +kernel
theorem dX9_isAtWord_12 : decode cX9_isAtWord 12 = .ok (.iconst 0, 1) := by decide +kernel
theorem dX9_isAtWord_13 : decode cX9_isAtWord 13 = .ok (.ireturn, 1) := by decide +kernel
theorem dX9_isAtWord__0 : decode cX9_isAtWord_ 0 = .ok (.aload_n 0, 1) := by decide +kernel
theorem dX9_isAtWord__1 : decode cX9_isAtWord_ 1 = .ok (.getfield 43, 3) := by decide +kernel
theorem dX9_isAtWord__4 : decode cX9_isAtWord_ 4 = .ok (.iconst 1, 1) := by decide +kernel
theorem dX9_isAtWord__5 : decode cX9_isAtWord_ 5 = .ok (.if_icmp .ne 19, 3) := by decide +kernel
theorem dX9_isAtWord__8 : decode cX9_isAtWord_ 8 = .ok (.aload_n 0, 1) := by decide +kernel
theorem dX9_isAtWord__9 : decode cX9_isAtWord_ 9 = .ok (.getfield 22, 3) := by decide +kernel
theorem dX9_isAtWord__12 : decode cX9_isAtWord_ 12 = .ok (.aload_n 0, 1) := by decide +kernel
theorem dX9_isAtWord__13 : decode cX9_isAtWord_ 13 = .ok (.getfield 28, 3) := by decide +kernel
theorem dX9_isAtWord__16 : decode cX9_isAtWord_ 16 = .ok (.isub, 1) := by decide +kernel
theorem dX9_isAtWord__17 : decode cX9_isAtWord_ 17 = .ok (.aload_n 1, 1) := by decide +kernel
theorem dX9_isAtWord__18 : decode cX9_isAtWord_ 18 = .ok (.invokevirtual 46, 3) := by decide +kernel
theorem dX9_isAtWord__21 : decode cX9_isAtWord_ 21 = .ok (.if_icmp .eq 5, 3) := by decide +kernel
theorem dX9_isAtWord__24 : decode cX9_isAtWord_ 24 = .ok (.iconst 0, 1) := by decide +kernel
theorem dX9_isAtWord__25 : decode cX9_isAtWord_ 25 = .ok (.ireturn, 1) := by decide +kernel
theorem dX9_isAtWord__26 : decode cX9_isAtWord_ 26 = .ok (.iconst 0, 1) := by decide +kernel
theorem dX9_isAtWord__27 : decode cX9_isAtWord_ 27 = .ok (.istore_n 2, 1) := by decide +kernel
theorem dX9_isAtWord__28 : decode cX9_isAtWord_ 28 = .ok (.iload_n 2, 1) := by decide +kernel
theorem dX9_isAtWord__29 : decode cX9_isAtWord_ 29 = .ok (.aload_n 1, 1) := by decide +kernel
theorem dX9_isAtWord__30 : decode cX9_isAtWord_ 30 = .ok (.invokevirtual 46, 3) := by decide +kernel
theorem dX9_isAtWord__33 : decode cX9_isAtWord_ 33 = .ok (.if_icmp .ge 32, 3) := by decide +kernel
theorem dX9_isAtWord__36 : decode cX9_isAtWord_ 36 = .ok (.aload_n 0, 1) := by decide +kernel
theorem dX9_isAtWord__37 : decode cX9_isAtWord_ 37 = .ok (.getfield 9, 3) := by decide +kernel
theorem dX9_isAtWord__40 : decode cX9_isAtWord_ 40 = .ok (.aload_n 0, 1) := by decide +kernel
theorem dX9_isAtWord__41 : decode cX9_isAtWord_ 41 = .ok (.getfield 28, 3) := by decide +kernel
theorem dX9_isAtWord__44 : decode cX9_isAtWord_ 44 = .ok (.iload_n 2, 1) := by decide +kernel
theorem dX9_isAtWord__45 : decode cX9_isAtWord_ 45 = .ok (.iadd, 1) := by decide +kernel
theorem dX9_isAtWord__46 : decode cX9_isAtWord_ 46 = .ok (.invokevirtual 36, 3) := by decide +kernel
theorem dX9_isAtWord__49 : decode cX9_isAtWord_ 49 = .ok (.aload_n 1, 1) := by decide +kernel
theorem dX9_isAtWord__50 : decode cX9_isAtWord_ 50 = .ok (.iload_n 2, 1) := by decide +kernel
theorem dX9_isAtWord__51 : decode cX9_isAtWord_ 51 = .ok (.invokevirtual 51, 3) := by decide +kernel
theorem dX9_isAtWord__54 : decode cX9_isAtWord_ 54 = .ok (.if_icmp .eq 5, 3) := by decide +kernel
theorem dX9_isAtWord__57 : decode cX9_isAtWord_ 57 = .ok (.iconst 0, 1) := by decide +kernel
theorem dX9_isAtWord__58 : decode cX9_isAtWord_ 58 = .ok (.ireturn, 1) := by decide +kernel
theorem dX9_isAtWord__59 : decode cX9_isAtWord_ 59 = .ok (.iinc 2 1, 3) := by decide +kernel
theorem dX9_isAtWord__62 : decode cX9_isAtWord_ 62 = .ok (.goto (-34), 3) := by decide +kernel
theorem dX9_isAtWord__65 : decode cX9_isAtWord_ 65 = .ok (.iconst 1, 1) := by decide +kernel
theorem dX9_isAtWord__66 : decode cX9_isAtWord_ 66 = .ok (.ireturn, 1) := by decide +kernel
theorem dX9_isAtSign_0 : decode cX9_isAtSign 0 = .ok (.aload_n 0, 1) := by decide +kernel
theorem dX9_isAtSign_1 : decode cX9_isAtSign 1 = .ok (.getfield 43, 3) := by decide +kernel
theorem dX9_isAtSign_4 : decode cX9_isAtSign 4 = .ok (.iconst 3, 1) := by decide +kernel
theorem dX9_isAtSign_5 : decode cX9_isAtSign 5 = .ok (.if_icmp .ne 22, 3) := by decide +kernel
theorem dX9_isAtSign_8 : decode cX9_isAtSign 8 = .ok (.aload_n 0, 1) := by decide +kernel
theorem dX9_isAtSign_9 : decode cX9_isAtSign 9 = .ok (.getfield 9, 3) := by decide +kernel
theorem dX9_isAtSign_12 : decode cX9_isAtSign 12 = .ok (.aload_n 0, 1) := by decide +kernel
theorem dX9_isAtSign_13 : decode cX9_isAtSign 13 = .ok (.getfield 28, 3) := by decide +kernel
theorem dX9_isAtSign_16 : decode cX9_isAtSign 16 = .ok (.invokevirtual 36, 3) := by decide +kernel
theorem dX9_isAtSign_19 : decode cX9_isAtSign 19 = .ok (.iload_n 1, 1) := by decide +kernel
theorem dX9_isAtSign_20 : decode cX9_isAtSign 20 = .ok (.if_icmp .ne 7, 3) := by decide +kernel
theorem dX9_isAtSign_23 : decode cX9_isAtSign 23 = .ok (.iconst 1, 1) := by decide +kernel
theorem dX9_isAtSign_24 : decode cX9_isAtSign 24 = .ok (.goto 4, 3) := by decide +kernel
theorem dX9_isAtSign_27 : decode cX9_isAtSign 27 = .ok (.iconst 0, 1) := by decide +kernel
theorem dX9_isAtSign_28 : decode cX9_isAtSign 28 = .ok (.ireturn, 1) := by decide +kernel
theorem dX9_take_0 : decode cX9_take 0 = .ok (.aload_n 0, 1) := by decide +kernel
theorem dX9_take_1 : decode cX9_take 1 = .ok (.invokevirtual 55, 3) := by decide +kernel
theorem dX9_take_4 : decode cX9_take 4 = .ok (.ifCond .ne 4, 3) := by decide +kernel
theorem dX9_take_7 : decode cX9_take 7 = .ok (.return_, 1) := by decide +kernel
theorem dX9_take_8 : decode cX9_take 8 = .ok (.iload_n 1, 1) := by decide +kernel
theorem dX9_take_9 : decode cX9_take 9 = .ok (.ifCond .ne 10, 3) := by decide +kernel
theorem dX9_take_12 : decode cX9_take 12 = .ok (.aload_n 0, 1) := by decide +kernel
theorem dX9_take_13 : decode cX9_take 13 = .ok (.invokevirtual 25, 3) := by decide +kernel
theorem dX9_take_16 : decode cX9_take 16 = .ok (.goto 16, 3) := by decide +kernel
theorem dX9_take_19 : decode cX9_take 19 = .ok (.aload_n 0, 1) := by decide +kernel
theorem dX9_take_20 : decode cX9_take 20 = .ok (.iload_n 1, 1) := by decide +kernel
theorem dX9_take_21 : decode cX9_take 21 = .ok (.putfield 15, 3) := by decide +kernel
theorem dX9_take_24 : decode cX9_take 24 = .ok (.aload_n 0, 1) := by decide +kernel
theorem dX9_take_25 : decode cX9_take 25 = .ok (.aload_n 0, 1) := by decide +kernel
theorem dX9_take_26 : decode cX9_take 26 = .ok (.getfield 28, 3) := by decide +kernel
theorem dX9_take_29 : decode cX9_take 29 = .ok (.putfield 19, 3) := by decide +kernel
theorem dX9_take_32 : decode cX9_take 32 = .ok (.return_, 1) := by decide +kernel
theorem dX9_takeWord_0 : decode cX9_takeWord 0 = .ok (.aload_n 0, 1) := by decide +kernel
theorem dX9_takeWord_1 : decode cX9_takeWord 1 = .ok (.aload_n 0, 1) := by decide +kernel
theorem dX9_takeWord_2 : decode cX9_takeWord 2 = .ok (.aload_n 1, 1) := by decide +kernel
theorem dX9_takeWord_3 : decode cX9_takeWord 3 = .ok (.invokevirtual 59, 3) := by decide +kernel
theorem dX9_takeWord_6 : decode cX9_takeWord 6 = .ok (.ifCond .eq 7, 3) := by decide +kernel
theorem dX9_takeWord_9 : decode cX9_takeWord 9 = .ok (.iconst 0, 1) := by decide +kernel
theorem dX9_takeWord_10 : decode cX9_takeWord 10 = .ok (.goto 4, 3) := by decide +kernel
theorem dX9_takeWord_13 : decode cX9_takeWord 13 = .ok (.iconst 1, 1) := by decide +kernel
theorem dX9_takeWord_14 : decode cX9_takeWord 14 = .ok (.invokevirtual 63, 3) := by decide +kernel
theorem dX9_takeWord_17 : decode cX9_takeWord 17 = .ok (.return_, 1) := by decide +kernel
theorem dX9_takeSign_0 : decode cX9_takeSign 0 = .ok (.aload_n 0, 1) := by decide +kernel
theorem dX9_takeSign_1 : decode cX9_takeSign 1 = .ok (.aload_n 0, 1) := by decide +kernel
theorem dX9_takeSign_2 : decode cX9_takeSign 2 = .ok (.iload_n 1, 1) := by decide +kernel
theorem dX9_takeSign_3 : decode cX9_takeSign 3 = .ok (.invokevirtual 67, 3) := by decide +kernel
theorem dX9_takeSign_6 : decode cX9_takeSign 6 = .ok (.ifCond .eq 7, 3) := by decide +kernel
theorem dX9_takeSign_9 : decode cX9_takeSign 9 = .ok (.iconst 0, 1) := by decide +kernel
theorem dX9_takeSign_10 : decode cX9_takeSign 10 = .ok (.goto 4, 3) := by decide +kernel
theorem dX9_takeSign_13 : decode cX9_takeSign 13 = .ok (.iconst 1, 1) := by decide +kernel
theorem dX9_takeSign_14 : decode cX9_takeSign 14 = .ok (.invokevirtual 63, 3) := by decide +kernel
theorem dX9_takeSign_17 : decode cX9_takeSign 17 = .ok (.return_, 1) := by decide +kernel
theorem dX9_takeEnd_0 : decode cX9_takeEnd 0 = .ok (.aload_n 0, 1) := by decide +kernel
theorem dX9_takeEnd_1 : decode cX9_takeEnd 1 = .ok (.aload_n 0, 1) := by decide +kernel
theorem dX9_takeEnd_2 : decode cX9_takeEnd 2 = .ok (.invokevirtual 71, 3) := by decide +kernel
theorem dX9_takeEnd_5 : decode cX9_takeEnd 5 = .ok (.ifCond .eq 7, 3) := by decide +kernel
theorem dX9_takeEnd_8 : decode cX9_takeEnd 8 = .ok (.iconst 0, 1) := by decide +kernel
theorem dX9_takeEnd_9 : decode cX9_takeEnd 9 = .ok (.goto 4, 3) := by decide +kernel
theorem dX9_takeEnd_12 : decode cX9_takeEnd 12 = .ok (.iconst 1, 1) := by decide +kernel
theorem dX9_takeEnd_13 : decode cX9_takeEnd 13 = .ok (.invokevirtual 63, 3) := by decide +kernel
theorem dX9_takeEnd_16 : decode cX9_takeEnd 16 = .ok (.return_, 1) := by decide +kernel
theorem dX9_takeNumber_0 : decode cX9_takeNumber 0 = .ok (.aload_n 0, 1) := by decide +kernel
theorem dX9_takeNumber_1 : decode cX9_takeNumber 1 = .ok (.invokevirtual 74, 3) := by decide +kernel
theorem dX9_takeNumber_4 : decode cX9_takeNumber 4 = .ok (.istore_n 3, 1) := by decide +kernel
theorem dX9_takeNumber_5 : decode cX9_takeNumber 5 = .ok (.aload_n 0, 1) := by decide +kernel
theorem dX9_takeNumber_6 : decode cX9_takeNumber 6 = .ok (.getfield 43, 3) := by decide +kernel
theorem dX9_takeNumber_9 : decode cX9_takeNumber 9 = .ok (.iconst 2, 1) := by decide +kernel
theorem dX9_takeNumber_10 : decode cX9_takeNumber 10 = .ok (.if_icmp .eq 11, 3) := by decide +kernel
theorem dX9_takeNumber_13 : decode cX9_takeNumber 13 = .ok (.aload_n 0, 1) := by decide +kernel
theorem dX9_takeNumber_14 : decode cX9_takeNumber 14 = .ok (.iconst 1, 1) := by decide +kernel
theorem dX9_takeNumber_15 : decode cX9_takeNumber 15 = .ok (.invokevirtual 63, 3) := by decide +kernel
theorem dX9_takeNumber_18 : decode cX9_takeNumber 18 = .ok (.goto 26, 3) := by decide +kernel
theorem dX9_takeNumber_21 : decode cX9_takeNumber 21 = .ok (.iload_n 3, 1) := by decide +kernel
theorem dX9_takeNumber_22 : decode cX9_takeNumber 22 = .ok (.iload_n 1, 1) := by decide +kernel
theorem dX9_takeNumber_23 : decode cX9_takeNumber 23 = .ok (.if_icmp .lt 8, 3) := by decide +kernel
theorem dX9_takeNumber_26 : decode cX9_takeNumber 26 = .ok (.iload_n 3, 1) := by decide +kernel
theorem dX9_takeNumber_27 : decode cX9_takeNumber 27 = .ok (.iload_n 2, 1) := by decide +kernel
theorem dX9_takeNumber_28 : decode cX9_takeNumber 28 = .ok (.if_icmp .le 11, 3) := by decide +kernel
theorem dX9_takeNumber_31 : decode cX9_takeNumber 31 = .ok (.aload_n 0, 1) := by decide +kernel
theorem dX9_takeNumber_32 : decode cX9_takeNumber 32 = .ok (.iconst 2, 1) := by decide +kernel
theorem dX9_takeNumber_33 : decode cX9_takeNumber 33 = .ok (.invokevirtual 63, 3) := by decide +kernel
theorem dX9_takeNumber_36 : decode cX9_takeNumber 36 = .ok (.goto 8, 3) := by decide +kernel
theorem dX9_takeNumber_39 : decode cX9_takeNumber 39 = .ok (.aload_n 0, 1) := by decide +kernel
theorem dX9_takeNumber_40 : decode cX9_takeNumber 40 = .ok (.iconst 0, 1) := by decide +kernel
theorem dX9_takeNumber_41 : decode cX9_takeNumber 41 = .ok (.invokevirtual 63, 3) := by decide +kernel
theorem dX9_takeNumber_44 : decode cX9_takeNumber 44 = .ok (.aload_n 0, 1) := by decide +kernel
theorem dX9_takeNumber_45 : decode cX9_takeNumber 45 = .ok (.invokevirtual 55, 3) := by decide +kernel
theorem dX9_takeNumber_48 : decode cX9_takeNumber 48 = .ok (.ifCond .eq 7, 3) := by decide +kernel
theorem dX9_takeNumber_51 : decode cX9_takeNumber 51 = .ok (.iload_n 3, 1) := by decide +kernel
theorem dX9_takeNumber_52 : decode cX9_takeNumber 52 = .ok (.goto 4, 3) := by decide +kernel
theorem dX9_takeNumber_55 : decode cX9_takeNumber 55 = .ok (.iload_n 1, 1) := by decide +kernel
theorem dX9_takeNumber_56 : decode cX9_takeNumber 56 = .ok (.ireturn, 1) := by decide +kernel
theorem dX9_number_0 : decode cX9_number 0 = .ok (.iconst 0, 1) := by decide +kernel
theorem dX9_number_1 : decode cX9_number 1 = .ok (.istore_n 1, 1) := by decide +kernel
theorem dX9_number_2 : decode cX9_number 2 = .ok (.aload_n 0, 1) := by decide +kernel
theorem dX9_number_3 : decode cX9_number 3 = .ok (.getfield 28, 3) := by decide +kernel
theorem dX9_number_6 : decode cX9_number 6 = .ok (.istore_n 2, 1) := by decide +kernel
theorem dX9_number_7 : decode cX9_number 7 = .ok (.iload_n 2, 1) := by decide +kernel
theorem dX9_number_8 : decode cX9_number 8 = .ok (.aload_n 0, 1) := by decide +kernel
theorem dX9_number_9 : decode cX9_number 9 = .ok (.getfield 22, 3) := by decide +kernel
theorem dX9_number_12 : decode cX9_number 12 = .ok (.if_icmp .ge 32, 3) := by decide +kernel
theorem dX9_number_15 : decode cX9_number 15 = .ok (.iload_n 1, 1) := by decide +kernel
theorem dX9_number_16 : decode cX9_number 16 = .ok (.bipush 10, 2) := by decide +kernel
theorem dX9_number_18 : decode cX9_number 18 = .ok (.imul, 1) := by decide +kernel
theorem dX9_number_19 : decode cX9_number 19 = .ok (.aload_n 0, 1) := by decide +kernel
theorem dX9_number_20 : decode cX9_number 20 = .ok (.getfield 9, 3) := by decide +kernel
theorem dX9_number_23 : decode cX9_number 23 = .ok (.iload_n 2, 1) := by decide +kernel
theorem dX9_number_24 : decode cX9_number 24 = .ok (.invokevirtual 36, 3) := by decide +kernel
theorem dX9_number_27 : decode cX9_number 27 = .ok (.iadd, 1) := by decide +kernel
theorem dX9_number_28 : decode cX9_number 28 = .ok (.bipush 48, 2) := by decide +kernel
theorem dX9_number_30 : decode cX9_number 30 = .ok (.isub, 1) := by decide +kernel
theorem dX9_number_31 : decode cX9_number 31 = .ok (.sipush 1000, 3) := by decide +kernel
theorem dX9_number_34 : decode cX9_number 34 = .ok (.invokestatic 77, 3) := by decide +kernel
theorem dX9_number_37 : decode cX9_number 37 = .ok (.istore_n 1, 1) := by decide +kernel
theorem dX9_number_38 : decode cX9_number 38 = .ok (.iinc 2 1, 3) := by decide +kernel
theorem dX9_number_41 : decode cX9_number 41 = .ok (.goto (-34), 3) := by decide +kernel
theorem dX9_number_44 : decode cX9_number 44 = .ok (.iload_n 1, 1) := by decide +kernel
theorem dX9_number_45 : decode cX9_number 45 = .ok (.ireturn, 1) := by decide +kernel
theorem dX9_errorAsName_0 : decode cX9_errorAsName 0 = .ok (.aload_n 0, 1) := by decide +kernel
theorem dX9_errorAsName_1 : decode cX9_errorAsName 1 = .ok (.getfield 43, 3) := by decide +kernel
theorem dX9_errorAsName_4 : decode cX9_errorAsName 4 = .ok (.iconst 1, 1) := by decide +kernel
theorem dX9_errorAsName_5 : decode cX9_errorAsName 5 = .ok (.if_icmp .eq 5, 3) := by decide +kernel
theorem dX9_errorAsName_8 : decode cX9_errorAsName 8 = .ok (.iconst 1, 1) := by decide +kernel
theorem dX9_errorAsName_9 : decode cX9_errorAsName 9 = .ok (.ireturn, 1) := by decide +kernel
theorem dX9_errorAsName_10 : decode cX9_errorAsName 10 = .ok (.aload_n 0, 1) := by decide +kernel
theorem dX9_errorAsName_11 : decode cX9_errorAsName 11 = .ok (.getfield 22, 3) := by decide +kernel
theorem dX9_errorAsName_14 : decode cX9_errorAsName 14 = .ok (.aload_n 0, 1) := by decide +kernel
theorem dX9_errorAsName_15 : decode cX9_errorAsName 15 = .ok (.getfield 28, 3) := by decide +kernel
theorem dX9_errorAsName_18 : decode cX9_errorAsName 18 = .ok (.isub, 1) := by decide +kernel
theorem dX9_errorAsName_19 : decode cX9_errorAsName 19 = .ok (.bipush 6, 2) := by decide +kernel
theorem dX9_errorAsName_21 : decode cX9_errorAsName 21 = .ok (.if_icmp .le 7, 3) := by decide +kernel
theorem dX9_errorAsName_24 : decode cX9_errorAsName 24 = .ok (.iconst 2, 1) := by decide +kernel
theorem dX9_errorAsName_25 : decode cX9_errorAsName 25 = .ok (.goto 4, 3) := by decide +kernel
theorem dX9_errorAsName_28 : decode cX9_errorAsName 28 = .ok (.iconst 0, 1) := by decide +kernel
theorem dX9_errorAsName_29 : decode cX9_errorAsName 29 = .ok (.ireturn, 1) := by decide +kernel
theorem dX9_name_0 : decode cX9_name 0 = .ok (.aload_n 0, 1) := by decide +kernel
theorem dX9_name_1 : decode cX9_name 1 = .ok (.getfield 9, 3) := by decide +kernel
theorem dX9_name_4 : decode cX9_name 4 = .ok (.aload_n 0, 1) := by decide +kernel
theorem dX9_name_5 : decode cX9_name 5 = .ok (.getfield 28, 3) := by decide +kernel
theorem dX9_name_8 : decode cX9_name 8 = .ok (.aload_n 0, 1) := by decide +kernel
theorem dX9_name_9 : decode cX9_name 9 = .ok (.getfield 22, 3) := by decide +kernel
theorem dX9_name_12 : decode cX9_name 12 = .ok (.invokevirtual 83, 3) := by decide +kernel
theorem dX9_name_15 : decode cX9_name 15 = .ok (.ireturn, 1) := by decide +kernel
theorem dX10_init_0 : decode cX10_init 0 = .ok (.aload_n 0, 1) := by decide +kernel
theorem dX10_init_1 : decode cX10_init 1 = .ok (.invokespecial 1, 3) := by decide +kernel
theorem dX10_init_4 : decode cX10_init 4 = .ok (.aload_n 0, 1) := by decide +kernel
theorem dX10_init_5 : decode cX10_init 5 = .ok (.new 7, 3) := by decide +kernel
theorem dX10_init_8 : decode cX10_init 8 = .ok (.dup, 1) := by decide +kernel
theorem dX10_init_9 : decode cX10_init 9 = .ok (.invokespecial 9, 3) := by decide +kernel
theorem dX10_init_12 : decode cX10_init 12 = .ok (.putfield 10, 3) := by decide +kernel
theorem dX10_init_15 : decode cX10_init 15 = .ok (.aload_n 0, 1) := by decide +kernel
theorem dX10_init_16 : decode cX10_init 16 = .ok (.new 16, 3) := by decide +kernel
theorem dX10_init_19 : decode cX10_init 19 = .ok (.dup, 1) := by decide +kernel
theorem dX10_init_20 : decode cX10_init 20 = .ok (.aload_n 0, 1) := by decide +kernel
theorem dX10_init_21 : decode cX10_init 21 = .ok (.getfield 10, 3) := by decide +kernel
theorem dX10_init_24 : decode cX10_init 24 = .ok (.invokespecial 18, 3) := by decide +kernel
theorem dX10_init_27 : decode cX10_init 27 = .ok (.putfield 21, 3) := by decide +kernel
theorem dX10_init_30 : decode cX10_init 30 = .ok (.aload_n 0, 1) := by decide +kernel
theorem dX10_init_31 : decode cX10_init 31 = .ok (.new 25, 3) := by decide +kernel
theorem dX10_init_34 : decode cX10_init 34 = .ok (.dup, 1) := by decide +kernel
theorem dX10_init_35 : decode cX10_init 35 = .ok (.invokespecial 27, 3) := by decide +kernel
theorem dX10_init_38 : decode cX10_init 38 = .ok (.putfield 28, 3) := by decide +kernel
theorem dX10_init_41 : decode cX10_init 41 = .ok (.aload_n 0, 1) := by decide +kernel
theorem dX10_init_42 : decode cX10_init 42 = .ok (.new 32, 3) := by decide +kernel
theorem dX10_init_45 : decode cX10_init 45 = .ok (.dup, 1) := by decide +kernel
theorem dX10_init_46 : decode cX10_init 46 = .ok (.invokespecial 34, 3) := by decide +kernel
theorem dX10_init_49 : decode cX10_init 49 = .ok (.putfield 35, 3) := by decide +kernel
theorem dX10_init_52 : decode cX10_init 52 = .ok (.aload_n 0, 1) := by decide +kernel
theorem dX10_init_53 : decode cX10_init 53 = .ok (.new 32, 3) := by decide +kernel
theorem dX10_init_56 : decode cX10_init 56 = .ok (.dup, 1) := by decide +kernel
theorem dX10_init_57 : decode cX10_init 57 = .ok (.invokespecial 34, 3) := by decide +kernel
theorem dX10_init_60 : decode cX10_init 60 = .ok (.putfield 39, 3) := by decide +kernel
theorem dX10_init_63 : decode cX10_init 63 = .ok (.aload_n 0, 1) := by decide +kernel
theorem dX10_init_64 : decode cX10_init 64 = .ok (.new 42, 3) := by decide +kernel
theorem dX10_init_67 : decode cX10_init 67 = .ok (.dup, 1) := by decide +kernel
theorem dX10_init_68 : decode cX10_init 68 = .ok (.aload_n 0, 1) := by decide +kernel
theorem dX10_init_69 : decode cX10_init 69 = .ok (.getfield 35, 3) := by decide +kernel
theorem dX10_init_72 : decode cX10_init 72 = .ok (.invokespecial 44, 3) := by decide +kernel
theorem dX10_init_75 : decode cX10_init 75 = .ok (.putfield 47, 3) := by decide +kernel
theorem dX10_init_78 : decode cX10_init 78 = .ok (.aload_n 0, 1) := by decide +kernel
theorem dX10_init_79 : decode cX10_init 79 = .ok (.new 42, 3) := by decide +kernel
theorem dX10_init_82 : decode cX10_init 82 = .ok (.dup, 1) := by decide +kernel
theorem dX10_init_83 : decode cX10_init 83 = .ok (.aload_n 0, 1) := by decide +kernel
theorem dX10_init_84 : decode cX10_init 84 = .ok (.getfield 35, 3) := by decide +kernel
theorem dX10_init_87 : decode cX10_init 87 = .ok (.invokespecial 44, 3) := by decide +kernel
theorem dX10_init_90 : decode cX10_init 90 = .ok (.putfield 51, 3) := by decide +kernel
theorem dX10_init_93 : decode cX10_init 93 = .ok (.aload_n 0, 1) := by decide +kernel
theorem dX10_init_94 : decode cX10_init 94 = .ok (.new 54, 3) := by decide +kernel
theorem dX10_init_97 : decode cX10_init 97 = .ok (.dup, 1) := by decide +kernel
theorem dX10_init_98 : decode cX10_init 98 = .ok (.aload_n 0, 1) := by decide +kernel
theorem dX10_init_99 : decode cX10_init 99 = .ok (.getfield 35, 3) := by decide +kernel
theorem dX10_init_102 : decode cX10_init 102 = .ok (.invokespecial 56, 3) := by decide +kernel
theorem dX10_init_105 : decode cX10_init 105 = .ok (.putfield 57, 3) := by decide +kernel
theorem dX10_init_108 : decode cX10_init 108 = .ok (.aload_n 0, 1) := by decide +kernel
theorem dX10_init_109 : decode cX10_init 109 = .ok (.iconst 2, 1) := by decide +kernel
theorem dX10_init_110 : decode cX10_init 110 = .ok (.anewarray 42, 3) := by decide +kernel
theorem dX10_init_113 : decode cX10_init 113 = .ok (.dup, 1) := by decide +kernel
theorem dX10_init_114 : decode cX10_init 114 = .ok (.iconst 0, 1) := by decide +kernel
theorem dX10_init_115 : decode cX10_init 115 = .ok (.new 42, 3) := by decide +kernel
theorem dX10_init_118 : decode cX10_init 118 = .ok (.dup, 1) := by decide +kernel
theorem dX10_init_119 : decode cX10_init 119 = .ok (.aload_n 0, 1) := by decide +kernel
theorem dX10_init_120 : decode cX10_init 120 = .ok (.getfield 35, 3) := by decide +kernel
theorem dX10_init_123 : decode cX10_init 123 = .ok (.invokespecial 44, 3) := by decide +kernel
theorem dX10_init_126 : decode cX10_init 126 = .ok (.aastore, 1) := by decide +kernel
theorem dX10_init_127 : decode cX10_init 127 = .ok (.dup, 1) := by decide +kernel
theorem dX10_init_128 : decode cX10_init 128 = .ok (.iconst 1, 1) := by decide +kernel
theorem dX10_init_129 : decode cX10_init 129 = .ok (.new 42, 3) := by decide +kernel
theorem dX10_init_132 : decode cX10_init 132 = .ok (.dup, 1) := by decide +kernel
theorem dX10_init_133 : decode cX10_init 133 = .ok (.aload_n 0, 1) := by decide +kernel
theorem dX10_init_134 : decode cX10_init 134 = .ok (.getfield 35, 3) := by decide +kernel
theorem dX10_init_137 : decode cX10_init 137 = .ok (.invokespecial 44, 3) := by decide +kernel
theorem dX10_init_140 : decode cX10_init 140 = .ok (.aastore, 1) := by decide +kernel
theorem dX10_init_141 : decode cX10_init 141 = .ok (.putfield 61, 3) := by decide +kernel
theorem dX10_init_144 : decode cX10_init 144 = .ok (.aload_n 0, 1) := by decide +kernel
theorem dX10_init_145 : decode cX10_init 145 = .ok (.iconst 2, 1) := by decide +kernel
theorem dX10_init_146 : decode cX10_init 146 = .ok (.newarray .boolean, 2) := by decide +kernel
theorem dX10_init_148 : decode cX10_init 148 = .ok (.putfield 65, 3) := by decide +kernel
theorem dX10_init_151 : decode cX10_init 151 = .ok (.aload_n 0, 1) := by decide +kernel
theorem dX10_init_152 : decode cX10_init 152 = .ok (.new 69, 3) := by decide +kernel
theorem dX10_init_155 : decode cX10_init 155 = .ok (.dup, 1) := by decide +kernel
theorem dX10_init_156 : decode cX10_init 156 = .ok (.invokespecial 71, 3) := by decide +kernel
theorem dX10_init_159 : decode cX10_init 159 = .ok (.putfield 72, 3) := by decide +kernel
theorem dX10_init_162 : decode cX10_init 162 = .ok (.aload_n 0, 1) := by decide +kernel
theorem dX10_init_163 : decode cX10_init 163 = .ok (.getfield 10, 3) := by decide +kernel
theorem dX10_init_166 : decode cX10_init 166 = .ok (.ldc 76, 2) := by decide +kernel
theorem dX10_init_168 : decode cX10_init 168 = .ok (.invokevirtual 78, 3) := by decide +kernel
theorem dX10_init_171 : decode cX10_init 171 = .ok (.aload_n 0, 1) := by decide +kernel
theorem dX10_init_172 : decode cX10_init 172 = .ok (.invokevirtual 82, 3) := by decide +kernel
theorem dX10_init_175 : decode cX10_init 175 = .ok (.return_, 1) := by decide +kernel
theorem dX10_append_0 : decode cX10_append 0 = .ok (.iload_n 1, 1) := by decide +kernel
theorem dX10_append_1 : decode cX10_append 1 = .ok (.invokestatic 85, 3) := by decide +kernel
theorem dX10_append_4 : decode cX10_append 4 = .ok (.iload_n 2, 1) := by decide +kernel
theorem dX10_append_5 : decode cX10_append 5 = .ok (.invokestatic 85, 3) := by decide +kernel
theorem dX10_append_8 : decode cX10_append 8 = .ok (.iadd, 1) := by decide +kernel
theorem dX10_append_9 : decode cX10_append 9 = .ok (.iload_n 3, 1) := by decide +kernel
theorem dX10_append_10 : decode cX10_append 10 = .ok (.invokestatic 85, 3) := by decide +kernel
theorem dX10_append_13 : decode cX10_append 13 = .ok (.iadd, 1) := by decide +kernel
theorem dX10_append_14 : decode cX10_append 14 = .ok (.iload 4, 2) := by decide +kernel
theorem dX10_append_16 : decode cX10_append 16 = .ok (.invokestatic 85, 3) := by decide +kernel
theorem dX10_append_19 : decode cX10_append 19 = .ok (.iadd, 1) := by decide +kernel
theorem dX10_append_20 : decode cX10_append 20 = .ok (.iload 5, 2) := by decide +kernel
theorem dX10_append_22 : decode cX10_append 22 = .ok (.invokestatic 85, 3) := by decide +kernel
theorem dX10_append_25 : decode cX10_append 25 = .ok (.iadd, 1) := by decide +kernel
theorem dX10_append_26 : decode cX10_append 26 = .ok (.istore 6, 2) := by decide +kernel
theorem dX10_append_28 : decode cX10_append 28 = .ok (.aload_n 0, 1) := by decide +kernel
theorem dX10_append_29 : decode cX10_append 29 = .ok (.getfield 10, 3) := by decide +kernel
theorem dX10_append_32 : decode cX10_append 32 = .ok (.getfield 89, 3) := by decide +kernel
theorem dX10_append_35 : decode cX10_append 35 = .ok (.iload 6, 2) := by decide +kernel
theorem dX10_append_37 : decode cX10_append 37 = .ok (.iadd, 1) := by decide +kernel
theorem dX10_append_38 : decode cX10_append 38 = .ok (.sipush 700, 3) := by decide +kernel
theorem dX10_append_41 : decode cX10_append 41 = .ok (.if_icmp .le 13, 3) := by decide +kernel
theorem dX10_append_44 : decode cX10_append 44 = .ok (.new 93, 3) := by decide +kernel
theorem dX10_append_47 : decode cX10_append 47 = .ok (.dup, 1) := by decide +kernel
theorem dX10_append_48 : decode cX10_append 48 = .ok (.ldc 95, 2) := by decide +kernel
theorem dX10_append_50 : decode cX10_append 50 = .ok (.invokespecial 97, 3) := by decide +kernel
theorem dX10_append_53 : decode cX10_append 53 = .ok (.athrow, 1) := by decide +kernel
theorem dX10_append_54 : decode cX10_append 54 = .ok (.aload_n 0, 1) := by decide +kernel
theorem dX10_append_55 : decode cX10_append 55 = .ok (.getfield 10, 3) := by decide +kernel
theorem dX10_append_58 : decode cX10_append 58 = .ok (.iload_n 1, 1) := by decide +kernel
theorem dX10_append_59 : decode cX10_append 59 = .ok (.invokevirtual 99, 3) := by decide +kernel
theorem dX10_append_62 : decode cX10_append 62 = .ok (.aload_n 0, 1) := by decide +kernel
theorem dX10_append_63 : decode cX10_append 63 = .ok (.getfield 10, 3) := by decide +kernel
theorem dX10_append_66 : decode cX10_append 66 = .ok (.iload_n 2, 1) := by decide +kernel
theorem dX10_append_67 : decode cX10_append 67 = .ok (.invokevirtual 99, 3) := by decide +kernel
theorem dX10_append_70 : decode cX10_append 70 = .ok (.aload_n 0, 1) := by decide +kernel
theorem dX10_append_71 : decode cX10_append 71 = .ok (.getfield 10, 3) := by decide +kernel
theorem dX10_append_74 : decode cX10_append 74 = .ok (.iload_n 3, 1) := by decide +kernel
theorem dX10_append_75 : decode cX10_append 75 = .ok (.invokevirtual 99, 3) := by decide +kernel
theorem dX10_append_78 : decode cX10_append 78 = .ok (.aload_n 0, 1) := by decide +kernel
theorem dX10_append_79 : decode cX10_append 79 = .ok (.getfield 10, 3) := by decide +kernel
theorem dX10_append_82 : decode cX10_append 82 = .ok (.iload 4, 2) := by decide +kernel
theorem dX10_append_84 : decode cX10_append 84 = .ok (.invokevirtual 99, 3) := by decide +kernel
theorem dX10_append_87 : decode cX10_append 87 = .ok (.aload_n 0, 1) := by decide +kernel
theorem dX10_append_88 : decode cX10_append 88 = .ok (.getfield 10, 3) := by decide +kernel
theorem dX10_append_91 : decode cX10_append 91 = .ok (.iload 5, 2) := by decide +kernel
theorem dX10_append_93 : decode cX10_append 93 = .ok (.invokevirtual 99, 3) := by decide +kernel
theorem dX10_append_96 : decode cX10_append 96 = .ok (.aload_n 0, 1) := by decide +kernel
theorem dX10_append_97 : decode cX10_append 97 = .ok (.getfield 10, 3) := by decide +kernel
theorem dX10_append_100 : decode cX10_append 100 = .ok (.getfield 89, 3) := by decide +kernel
theorem dX10_append_103 : decode cX10_append 103 = .ok (.ireturn, 1) := by decide +kernel
theorem dX10_truncate_0 : decode cX10_truncate 0 = .ok (.iload_n 1, 1) := by decide +kernel
theorem dX10_truncate_1 : decode cX10_truncate 1 = .ok (.ifCond .lt 14, 3) := by decide +kernel
theorem dX10_truncate_4 : decode cX10_truncate 4 = .ok (.iload_n 1, 1) := by decide +kernel
theorem dX10_truncate_5 : decode cX10_truncate 5 = .ok (.aload_n 0, 1) := by decide +kernel
theorem dX10_truncate_6 : decode cX10_truncate 6 = .ok (.getfield 10, 3) := by decide +kernel
theorem dX10_truncate_9 : decode cX10_truncate 9 = .ok (.getfield 89, 3) := by decide +kernel
theorem dX10_truncate_12 : decode cX10_truncate 12 = .ok (.if_icmp .le 13, 3) := by decide +kernel
theorem dX10_truncate_15 : decode cX10_truncate 15 = .ok (.new 103, 3) := by decide +kernel
theorem dX10_truncate_18 : decode cX10_truncate 18 = .ok (.dup, 1) := by decide +kernel
theorem dX10_truncate_19 : decode cX10_truncate 19 = .ok (.ldc 105, 2) := by decide +kernel
theorem dX10_truncate_21 : decode cX10_truncate 21 = .ok (.invokespecial 107, 3) := by decide +kernel
theorem dX10_truncate_24 : decode cX10_truncate 24 = .ok (.athrow, 1) := by decide +kernel
theorem dX10_truncate_25 : decode cX10_truncate 25 = .ok (.aload_n 0, 1) := by decide +kernel
theorem dX10_truncate_26 : decode cX10_truncate 26 = .ok (.getfield 10, 3) := by decide +kernel
theorem dX10_truncate_29 : decode cX10_truncate 29 = .ok (.getfield 89, 3) := by decide +kernel
theorem dX10_truncate_32 : decode cX10_truncate 32 = .ok (.iload_n 1, 1) := by decide +kernel
theorem dX10_truncate_33 : decode cX10_truncate 33 = .ok (.isub, 1) := by decide +kernel
theorem dX10_truncate_34 : decode cX10_truncate 34 = .ok (.istore_n 2, 1) := by decide +kernel
theorem dX10_truncate_35 : decode cX10_truncate 35 = .ok (.aload_n 0, 1) := by decide +kernel
theorem dX10_truncate_36 : decode cX10_truncate 36 = .ok (.getfield 10, 3) := by decide +kernel
theorem dX10_truncate_39 : decode cX10_truncate 39 = .ok (.iload_n 1, 1) := by decide +kernel
theorem dX10_truncate_40 : decode cX10_truncate 40 = .ok (.putfield 89, 3) := by decide +kernel
theorem dX10_truncate_43 : decode cX10_truncate 43 = .ok (.iload_n 2, 1) := by decide +kernel
theorem dX10_truncate_44 : decode cX10_truncate 44 = .ok (.ireturn, 1) := by decide +kernel
theorem dX10_load_0 : decode cX10_load 0 = .ok (.aload_n 0, 1) := by decide +kernel
theorem dX10_load_1 : decode cX10_load 1 = .ok (.invokevirtual 82, 3) := by decide +kernel
theorem dX10_load_4 : decode cX10_load 4 = .ok (.aload_n 0, 1) := by decide +kernel
theorem dX10_load_5 : decode cX10_load 5 = .ok (.getfield 21, 3) := by decide +kernel
theorem dX10_load_8 : decode cX10_load 8 = .ok (.getfield 108, 3) := by decide +kernel
theorem dX10_load_11 : decode cX10_load 11 = .ok (.ireturn, 1) := by decide +kernel
theorem dX10_takeSetup_0 : decode cX10_takeSetup 0 = .ok (.aload_n 0, 1) := by decide +kernel
theorem dX10_takeSetup_1 : decode cX10_takeSetup 1 = .ok (.getfield 21, 3) := by decide +kernel
theorem dX10_takeSetup_4 : decode cX10_takeSetup 4 = .ok (.invokevirtual 111, 3) := by decide +kernel
theorem dX10_takeSetup_7 : decode cX10_takeSetup 7 = .ok (.aload_n 0, 1) := by decide +kernel
theorem dX10_takeSetup_8 : decode cX10_takeSetup 8 = .ok (.getfield 39, 3) := by decide +kernel
theorem dX10_takeSetup_11 : decode cX10_takeSetup 11 = .ok (.aload_n 0, 1) := by decide +kernel
theorem dX10_takeSetup_12 : decode cX10_takeSetup 12 = .ok (.getfield 21, 3) := by decide +kernel
theorem dX10_takeSetup_15 : decode cX10_takeSetup 15 = .ok (.invokevirtual 114, 3) := by decide +kernel
theorem dX10_takeSetup_18 : decode cX10_takeSetup 18 = .ok (.aload_n 0, 1) := by decide +kernel
theorem dX10_takeSetup_19 : decode cX10_takeSetup 19 = .ok (.getfield 10, 3) := by decide +kernel
theorem dX10_takeSetup_22 : decode cX10_takeSetup 22 = .ok (.iconst 0, 1) := by decide +kernel
theorem dX10_takeSetup_23 : decode cX10_takeSetup 23 = .ok (.putfield 89, 3) := by decide +kernel
theorem dX10_takeSetup_26 : decode cX10_takeSetup 26 = .ok (.aload_n 0, 1) := by decide +kernel
theorem dX10_takeSetup_27 : decode cX10_takeSetup 27 = .ok (.getfield 21, 3) := by decide +kernel
theorem dX10_takeSetup_30 : decode cX10_takeSetup 30 = .ok (.invokevirtual 118, 3) := by decide +kernel
theorem dX10_takeSetup_33 : decode cX10_takeSetup 33 = .ok (.ifCond .eq 48, 3) := by decide +kernel
theorem dX10_takeSetup_36 : decode cX10_takeSetup 36 = .ok (.aload_n 0, 1) := by decide +kernel
theorem dX10_takeSetup_37 : decode cX10_takeSetup 37 = .ok (.getfield 35, 3) := by decide +kernel
theorem dX10_takeSetup_40 : decode cX10_takeSetup 40 = .ok (.aload_n 0, 1) := by decide +kernel
theorem dX10_takeSetup_41 : decode cX10_takeSetup 41 = .ok (.getfield 39, 3) := by decide +kernel
theorem dX10_takeSetup_44 : decode cX10_takeSetup 44 = .ok (.invokevirtual 122, 3) := by decide +kernel
theorem dX10_takeSetup_47 : decode cX10_takeSetup 47 = .ok (.aload_n 0, 1) := by decide +kernel
theorem dX10_takeSetup_48 : decode cX10_takeSetup 48 = .ok (.getfield 47, 3) := by decide +kernel
theorem dX10_takeSetup_51 : decode cX10_takeSetup 51 = .ok (.invokevirtual 125, 3) := by decide +kernel
theorem dX10_takeSetup_54 : decode cX10_takeSetup 54 = .ok (.aload_n 0, 1) := by decide +kernel
theorem dX10_takeSetup_55 : decode cX10_takeSetup 55 = .ok (.getfield 57, 3) := by decide +kernel
theorem dX10_takeSetup_58 : decode cX10_takeSetup 58 = .ok (.invokevirtual 128, 3) := by decide +kernel
theorem dX10_takeSetup_61 : decode cX10_takeSetup 61 = .ok (.iconst 0, 1) := by decide +kernel
theorem dX10_takeSetup_62 : decode cX10_takeSetup 62 = .ok (.istore_n 1, 1) := by decide +kernel
theorem dX10_takeSetup_63 : decode cX10_takeSetup 63 = .ok (.iload_n 1, 1) := by decide +kernel
theorem dX10_takeSetup_64 : decode cX10_takeSetup 64 = .ok (.iconst 2, 1) := by decide +kernel
theorem dX10_takeSetup_65 : decode cX10_takeSetup 65 = .ok (.if_icmp .ge 16, 3) := by decide +kernel
theorem dX10_takeSetup_68 : decode cX10_takeSetup 68 = .ok (.aload_n 0, 1) := by decide +kernel
theorem dX10_takeSetup_69 : decode cX10_takeSetup 69 = .ok (.getfield 65, 3) := by decide +kernel
theorem dX10_takeSetup_72 : decode cX10_takeSetup 72 = .ok (.iload_n 1, 1) := by decide +kernel
theorem dX10_takeSetup_73 : decode cX10_takeSetup 73 = .ok (.iconst 0, 1) := by decide +kernel
theorem dX10_takeSetup_74 : decode cX10_takeSetup 74 = .ok (.bastore, 1) := by decide +kernel
theorem dX10_takeSetup_75 : decode cX10_takeSetup 75 = .ok (.iinc 1 1, 3) := by decide +kernel
theorem dX10_takeSetup_78 : decode cX10_takeSetup 78 = .ok (.goto (-15), 3) := by decide +kernel
theorem dX10_takeSetup_81 : decode cX10_takeSetup 81 = .ok (.return_, 1) := by decide +kernel
theorem dX10_runScript_0 : decode cX10_runScript 0 = .ok (.aload_n 0, 1) := by decide +kernel
theorem dX10_runScript_1 : decode cX10_runScript 1 = .ok (.getfield 21, 3) := by decide +kernel
theorem dX10_runScript_4 : decode cX10_runScript 4 = .ok (.invokevirtual 111, 3) := by decide +kernel
theorem dX10_runScript_7 : decode cX10_runScript 7 = .ok (.aload_n 0, 1) := by decide +kernel
theorem dX10_runScript_8 : decode cX10_runScript 8 = .ok (.getfield 28, 3) := by decide +kernel
theorem dX10_runScript_11 : decode cX10_runScript 11 = .ok (.invokevirtual 131, 3) := by decide +kernel
theorem dX10_runScript_14 : decode cX10_runScript 14 = .ok (.aload_n 0, 1) := by decide +kernel
theorem dX10_runScript_15 : decode cX10_runScript 15 = .ok (.getfield 28, 3) := by decide +kernel
theorem dX10_runScript_18 : decode cX10_runScript 18 = .ok (.aload_n 0, 1) := by decide +kernel
theorem dX10_runScript_19 : decode cX10_runScript 19 = .ok (.getfield 21, 3) := by decide +kernel
theorem dX10_runScript_22 : decode cX10_runScript 22 = .ok (.aload_n 0, 1) := by decide +kernel
theorem dX10_runScript_23 : decode cX10_runScript 23 = .ok (.getfield 35, 3) := by decide +kernel
theorem dX10_runScript_26 : decode cX10_runScript 26 = .ok (.iconst 0, 1) := by decide +kernel
theorem dX10_runScript_27 : decode cX10_runScript 27 = .ok (.invokevirtual 132, 3) := by decide +kernel
theorem dX10_runScript_30 : decode cX10_runScript 30 = .ok (.aload_n 0, 1) := by decide +kernel
theorem dX10_runScript_31 : decode cX10_runScript 31 = .ok (.getfield 21, 3) := by decide +kernel
theorem dX10_runScript_34 : decode cX10_runScript 34 = .ok (.invokevirtual 136, 3) := by decide +kernel
theorem dX10_runScript_37 : decode cX10_runScript 37 = .ok (.aload_n 0, 1) := by decide +kernel
theorem dX10_runScript_38 : decode cX10_runScript 38 = .ok (.getfield 10, 3) := by decide +kernel
theorem dX10_runScript_41 : decode cX10_runScript 41 = .ok (.iconst 0, 1) := by decide +kernel
theorem dX10_runScript_42 : decode cX10_runScript 42 = .ok (.putfield 89, 3) := by decide +kernel
theorem dX10_runScript_45 : decode cX10_runScript 45 = .ok (.aload_n 0, 1) := by decide +kernel
theorem dX10_runScript_46 : decode cX10_runScript 46 = .ok (.getfield 21, 3) := by decide +kernel
theorem dX10_runScript_49 : decode cX10_runScript 49 = .ok (.invokevirtual 118, 3) := by decide +kernel
theorem dX10_runScript_52 : decode cX10_runScript 52 = .ok (.ifCond .ne 5, 3) := by decide +kernel
theorem dX10_runScript_55 : decode cX10_runScript 55 = .ok (.iconst (-1), 1) := by decide +kernel
theorem dX10_runScript_56 : decode cX10_runScript 56 = .ok (.ireturn, 1) := by decide +kernel
theorem dX10_runScript_57 : decode cX10_runScript 57 = .ok (.aload_n 0, 1) := by decide +kernel
theorem dX10_runScript_58 : decode cX10_runScript 58 = .ok (.getfield 57, 3) := by decide +kernel
theorem dX10_runScript_61 : decode cX10_runScript 61 = .ok (.aload_n 0, 1) := by decide +kernel
theorem dX10_runScript_62 : decode cX10_runScript 62 = .ok (.getfield 47, 3) := by decide +kernel
theorem dX10_runScript_65 : decode cX10_runScript 65 = .ok (.invokevirtual 139, 3) := by decide +kernel
theorem dX10_runScript_68 : decode cX10_runScript 68 = .ok (.aload_n 0, 1) := by decide +kernel
theorem dX10_runScript_69 : decode cX10_runScript 69 = .ok (.getfield 28, 3) := by decide +kernel
theorem dX10_runScript_72 : decode cX10_runScript 72 = .ok (.aload_n 0, 1) := by decide +kernel
theorem dX10_runScript_73 : decode cX10_runScript 73 = .ok (.getfield 47, 3) := by decide +kernel
theorem dX10_runScript_76 : decode cX10_runScript 76 = .ok (.iconst 0, 1) := by decide +kernel
theorem dX10_runScript_77 : decode cX10_runScript 77 = .ok (.aload_n 0, 1) := by decide +kernel
theorem dX10_runScript_78 : decode cX10_runScript 78 = .ok (.getfield 28, 3) := by decide +kernel
theorem dX10_runScript_81 : decode cX10_runScript 81 = .ok (.getfield 143, 3) := by decide +kernel
theorem dX10_runScript_84 : decode cX10_runScript 84 = .ok (.iconst 0, 1) := by decide +kernel
theorem dX10_runScript_85 : decode cX10_runScript 85 = .ok (.invokevirtual 146, 3) := by decide +kernel
theorem dX10_runScript_88 : decode cX10_runScript 88 = .ok (.aload_n 0, 1) := by decide +kernel
theorem dX10_runScript_89 : decode cX10_runScript 89 = .ok (.getfield 28, 3) := by decide +kernel
theorem dX10_runScript_92 : decode cX10_runScript 92 = .ok (.getfield 150, 3) := by decide +kernel
theorem dX10_runScript_95 : decode cX10_runScript 95 = .ok (.ireturn, 1) := by decide +kernel
theorem dX10_errorCode_0 : decode cX10_errorCode 0 = .ok (.aload_n 0, 1) := by decide +kernel
theorem dX10_errorCode_1 : decode cX10_errorCode 1 = .ok (.getfield 21, 3) := by decide +kernel
theorem dX10_errorCode_4 : decode cX10_errorCode 4 = .ok (.getfield 108, 3) := by decide +kernel
theorem dX10_errorCode_7 : decode cX10_errorCode 7 = .ok (.ireturn, 1) := by decide +kernel
theorem dX10_errorPosition_0 : decode cX10_errorPosition 0 = .ok (.aload_n 0, 1) := by decide +kernel
theorem dX10_errorPosition_1 : decode cX10_errorPosition 1 = .ok (.getfield 21, 3) := by decide +kernel
theorem dX10_errorPosition_4 : decode cX10_errorPosition 4 = .ok (.getfield 153, 3) := by decide +kernel
theorem dX10_errorPosition_7 : decode cX10_errorPosition 7 = .ok (.ireturn, 1) := by decide +kernel
theorem dX10_memberCount_0 : decode cX10_memberCount 0 = .ok (.aload_n 0, 1) := by decide +kernel
theorem dX10_memberCount_1 : decode cX10_memberCount 1 = .ok (.getfield 35, 3) := by decide +kernel
theorem dX10_memberCount_4 : decode cX10_memberCount 4 = .ok (.getfield 156, 3) := by decide +kernel
theorem dX10_memberCount_7 : decode cX10_memberCount 7 = .ok (.ireturn, 1) := by decide +kernel
theorem dX10_findMember_0 : decode cX10_findMember 0 = .ok (.aload_n 0, 1) := by decide +kernel
theorem dX10_findMember_1 : decode cX10_findMember 1 = .ok (.getfield 35, 3) := by decide +kernel
theorem dX10_findMember_4 : decode cX10_findMember 4 = .ok (.aload_n 0, 1) := by decide +kernel
theorem dX10_findMember_5 : decode cX10_findMember 5 = .ok (.getfield 10, 3) := by decide +kernel
theorem dX10_findMember_8 : decode cX10_findMember 8 = .ok (.iconst 0, 1) := by decide +kernel
theorem dX10_findMember_9 : decode cX10_findMember 9 = .ok (.aload_n 0, 1) := by decide +kernel
theorem dX10_findMember_10 : decode cX10_findMember 10 = .ok (.getfield 10, 3) := by decide +kernel
theorem dX10_findMember_13 : decode cX10_findMember 13 = .ok (.getfield 89, 3) := by decide +kernel
theorem dX10_findMember_16 : decode cX10_findMember 16 = .ok (.invokevirtual 159, 3) := by decide +kernel
theorem dX10_findMember_19 : decode cX10_findMember 19 = .ok (.invokevirtual 163, 3) := by decide +kernel
theorem dX10_findMember_22 : decode cX10_findMember 22 = .ok (.ireturn, 1) := by decide +kernel
theorem dX10_weight_0 : decode cX10_weight 0 = .ok (.aload_n 0, 1) := by decide +kernel
theorem dX10_weight_1 : decode cX10_weight 1 = .ok (.iload_n 1, 1) := by decide +kernel
theorem dX10_weight_2 : decode cX10_weight 2 = .ok (.invokevirtual 166, 3) := by decide +kernel
theorem dX10_weight_5 : decode cX10_weight 5 = .ok (.aload_n 0, 1) := by decide +kernel
theorem dX10_weight_6 : decode cX10_weight 6 = .ok (.getfield 35, 3) := by decide +kernel
theorem dX10_weight_9 : decode cX10_weight 9 = .ok (.getfield 169, 3) := by decide +kernel
theorem dX10_weight_12 : decode cX10_weight 12 = .ok (.iload_n 1, 1) := by decide +kernel
theorem dX10_weight_13 : decode cX10_weight 13 = .ok (.iaload, 1) := by decide +kernel
theorem dX10_weight_14 : decode cX10_weight 14 = .ok (.ireturn, 1) := by decide +kernel
theorem dX10_purse_0 : decode cX10_purse 0 = .ok (.aload_n 0, 1) := by decide +kernel
theorem dX10_purse_1 : decode cX10_purse 1 = .ok (.iload_n 1, 1) := by decide +kernel
theorem dX10_purse_2 : decode cX10_purse 2 = .ok (.invokevirtual 166, 3) := by decide +kernel
theorem dX10_purse_5 : decode cX10_purse 5 = .ok (.aload_n 0, 1) := by decide +kernel
theorem dX10_purse_6 : decode cX10_purse 6 = .ok (.getfield 47, 3) := by decide +kernel
theorem dX10_purse_9 : decode cX10_purse 9 = .ok (.getfield 173, 3) := by decide +kernel
theorem dX10_purse_12 : decode cX10_purse 12 = .ok (.getfield 177, 3) := by decide +kernel
theorem dX10_purse_15 : decode cX10_purse 15 = .ok (.iload_n 1, 1) := by decide +kernel
theorem dX10_purse_16 : decode cX10_purse 16 = .ok (.iaload, 1) := by decide +kernel
theorem dX10_purse_17 : decode cX10_purse 17 = .ok (.ireturn, 1) := by decide +kernel
theorem dX10_sharpness_0 : decode cX10_sharpness 0 = .ok (.aload_n 0, 1) := by decide +kernel
theorem dX10_sharpness_1 : decode cX10_sharpness 1 = .ok (.iload_n 1, 1) := by decide +kernel
theorem dX10_sharpness_2 : decode cX10_sharpness 2 = .ok (.invokevirtual 166, 3) := by decide +kernel
theorem dX10_sharpness_5 : decode cX10_sharpness 5 = .ok (.aload_n 0, 1) := by decide +kernel
theorem dX10_sharpness_6 : decode cX10_sharpness 6 = .ok (.getfield 47, 3) := by decide +kernel
theorem dX10_sharpness_9 : decode cX10_sharpness 9 = .ok (.getfield 173, 3) := by decide +kernel
theorem dX10_sharpness_12 : decode cX10_sharpness 12 = .ok (.getfield 182, 3) := by decide +kernel
theorem dX10_sharpness_15 : decode cX10_sharpness 15 = .ok (.iload_n 1, 1) := by decide +kernel
theorem dX10_sharpness_16 : decode cX10_sharpness 16 = .ok (.iaload, 1) := by decide +kernel
theorem dX10_sharpness_17 : decode cX10_sharpness 17 = .ok (.ireturn, 1) := by decide +kernel
theorem dX10_speechesOf_0 : decode cX10_speechesOf 0 = .ok (.aload_n 0, 1) := by decide +kernel
theorem dX10_speechesOf_1 : decode cX10_speechesOf 1 = .ok (.iload_n 1, 1) := by decide +kernel
theorem dX10_speechesOf_2 : decode cX10_speechesOf 2 = .ok (.invokevirtual 166, 3) := by decide +kernel
theorem dX10_speechesOf_5 : decode cX10_speechesOf 5 = .ok (.aload_n 0, 1) := by decide +kernel
theorem dX10_speechesOf_6 : decode cX10_speechesOf 6 = .ok (.getfield 47, 3) := by decide +kernel
theorem dX10_speechesOf_9 : decode cX10_speechesOf 9 = .ok (.getfield 173, 3) := by decide +kernel
theorem dX10_speechesOf_12 : decode cX10_speechesOf 12 = .ok (.getfield 185, 3) := by decide +kernel
theorem dX10_speechesOf_15 : decode cX10_speechesOf 15 = .ok (.iload_n 1, 1) := by decide +kernel
theorem dX10_speechesOf_16 : decode cX10_speechesOf 16 = .ok (.iaload, 1) := by decide +kernel
theorem dX10_speechesOf_17 : decode cX10_speechesOf 17 = .ok (.ireturn, 1) := by decide +kernel
theorem dX10_leaning_0 : decode cX10_leaning 0 = .ok (.aload_n 0, 1) := by decide +kernel
theorem dX10_leaning_1 : decode cX10_leaning 1 = .ok (.iload_n 1, 1) := by decide +kernel
theorem dX10_leaning_2 : decode cX10_leaning 2 = .ok (.invokevirtual 166, 3) := by decide +kernel
theorem dX10_leaning_5 : decode cX10_leaning 5 = .ok (.aload_n 0, 1) := by decide +kernel
theorem dX10_leaning_6 : decode cX10_leaning 6 = .ok (.iload_n 2, 1) := by decide +kernel
theorem dX10_leaning_7 : decode cX10_leaning 7 = .ok (.invokevirtual 188, 3) := by decide +kernel
theorem dX10_leaning_10 : decode cX10_leaning 10 = .ok (.aload_n 0, 1) := by decide +kernel
theorem dX10_leaning_11 : decode cX10_leaning 11 = .ok (.getfield 47, 3) := by decide +kernel
theorem dX10_leaning_14 : decode cX10_leaning 14 = .ok (.getfield 191, 3) := by decide +kernel
theorem dX10_leaning_17 : decode cX10_leaning 17 = .ok (.iload_n 1, 1) := by decide +kernel
theorem dX10_leaning_18 : decode cX10_leaning 18 = .ok (.iload_n 2, 1) := by decide +kernel
theorem dX10_leaning_19 : decode cX10_leaning 19 = .ok (.invokevirtual 195, 3) := by decide +kernel
theorem dX10_leaning_22 : decode cX10_leaning 22 = .ok (.ireturn, 1) := by decide +kernel
theorem dX10_chairOf_0 : decode cX10_chairOf 0 = .ok (.aload_n 0, 1) := by decide +kernel
theorem dX10_chairOf_1 : decode cX10_chairOf 1 = .ok (.iload_n 1, 1) := by decide +kernel
theorem dX10_chairOf_2 : decode cX10_chairOf 2 = .ok (.invokevirtual 166, 3) := by decide +kernel
theorem dX10_chairOf_5 : decode cX10_chairOf 5 = .ok (.aload_n 0, 1) := by decide +kernel
theorem dX10_chairOf_6 : decode cX10_chairOf 6 = .ok (.getfield 47, 3) := by decide +kernel
theorem dX10_chairOf_9 : decode cX10_chairOf 9 = .ok (.getfield 200, 3) := by decide +kernel
theorem dX10_chairOf_12 : decode cX10_chairOf 12 = .ok (.iload_n 1, 1) := by decide +kernel
theorem dX10_chairOf_13 : decode cX10_chairOf 13 = .ok (.invokevirtual 204, 3) := by decide +kernel
theorem dX10_chairOf_16 : decode cX10_chairOf 16 = .ok (.ireturn, 1) := by decide +kernel
theorem dX10_placeInList_0 : decode cX10_placeInList 0 = .ok (.aload_n 0, 1) := by decide +kernel
theorem dX10_placeInList_1 : decode cX10_placeInList 1 = .ok (.iload_n 1, 1) := by decide +kernel
theorem dX10_placeInList_2 : decode cX10_placeInList 2 = .ok (.invokevirtual 166, 3) := by decide +kernel
theorem dX10_placeInList_5 : decode cX10_placeInList 5 = .ok (.aload_n 0, 1) := by decide +kernel
theorem dX10_placeInList_6 : decode cX10_placeInList 6 = .ok (.getfield 47, 3) := by decide +kernel
theorem dX10_placeInList_9 : decode cX10_placeInList 9 = .ok (.getfield 209, 3) := by decide +kernel
theorem dX10_placeInList_12 : decode cX10_placeInList 12 = .ok (.iload_n 1, 1) := by decide +kernel
theorem dX10_placeInList_13 : decode cX10_placeInList 13 = .ok (.invokevirtual 213, 3) := by decide +kernel
theorem dX10_placeInList_16 : decode cX10_placeInList 16 = .ok (.ireturn, 1) := by decide +kernel
theorem dX10_motionCount_0 : decode cX10_motionCount 0 = .ok (.aload_n 0, 1) := by decide +kernel
theorem dX10_motionCount_1 : decode cX10_motionCount 1 = .ok (.getfield 47, 3) := by decide +kernel
theorem dX10_motionCount_4 : decode cX10_motionCount 4 = .ok (.getfield 191, 3) := by decide +kernel
theorem dX10_motionCount_7 : decode cX10_motionCount 7 = .ok (.getfield 218, 3) := by decide +kernel
theorem dX10_motionCount_10 : decode cX10_motionCount 10 = .ok (.ireturn, 1) := by decide +kernel
theorem dX10_proposer_0 : decode cX10_proposer 0 = .ok (.aload_n 0, 1) := by decide +kernel
theorem dX10_proposer_1 : decode cX10_proposer 1 = .ok (.iload_n 1, 1) := by decide +kernel
theorem dX10_proposer_2 : decode cX10_proposer 2 = .ok (.invokevirtual 188, 3) := by decide +kernel
theorem dX10_proposer_5 : decode cX10_proposer 5 = .ok (.aload_n 0, 1) := by decide +kernel
theorem dX10_proposer_6 : decode cX10_proposer 6 = .ok (.getfield 47, 3) := by decide +kernel
theorem dX10_proposer_9 : decode cX10_proposer 9 = .ok (.getfield 191, 3) := by decide +kernel
theorem dX10_proposer_12 : decode cX10_proposer 12 = .ok (.getfield 219, 3) := by decide +kernel
theorem dX10_proposer_15 : decode cX10_proposer 15 = .ok (.iload_n 1, 1) := by decide +kernel
theorem dX10_proposer_16 : decode cX10_proposer 16 = .ok (.iaload, 1) := by decide +kernel
theorem dX10_proposer_17 : decode cX10_proposer 17 = .ok (.ireturn, 1) := by decide +kernel
theorem dX10_motionState_0 : decode cX10_motionState 0 = .ok (.aload_n 0, 1) := by decide +kernel
theorem dX10_motionState_1 : decode cX10_motionState 1 = .ok (.iload_n 1, 1) := by decide +kernel
theorem dX10_motionState_2 : decode cX10_motionState 2 = .ok (.invokevirtual 188, 3) := by decide +kernel
theorem dX10_motionState_5 : decode cX10_motionState 5 = .ok (.aload_n 0, 1) := by decide +kernel
theorem dX10_motionState_6 : decode cX10_motionState 6 = .ok (.getfield 47, 3) := by decide +kernel
theorem dX10_motionState_9 : decode cX10_motionState 9 = .ok (.getfield 191, 3) := by decide +kernel
theorem dX10_motionState_12 : decode cX10_motionState 12 = .ok (.getfield 222, 3) := by decide +kernel
theorem dX10_motionState_15 : decode cX10_motionState 15 = .ok (.iload_n 1, 1) := by decide +kernel
theorem dX10_motionState_16 : decode cX10_motionState 16 = .ok (.iaload, 1) := by decide +kernel
theorem dX10_motionState_17 : decode cX10_motionState 17 = .ok (.ireturn, 1) := by decide +kernel
theorem dX10_lather_0 : decode cX10_lather 0 = .ok (.aload_n 0, 1) := by decide +kernel
theorem dX10_lather_1 : decode cX10_lather 1 = .ok (.iload_n 1, 1) := by decide +kernel
theorem dX10_lather_2 : decode cX10_lather 2 = .ok (.invokevirtual 188, 3) := by decide +kernel
theorem dX10_lather_5 : decode cX10_lather 5 = .ok (.aload_n 0, 1) := by decide +kernel
theorem dX10_lather_6 : decode cX10_lather 6 = .ok (.getfield 47, 3) := by decide +kernel
theorem dX10_lather_9 : decode cX10_lather 9 = .ok (.getfield 191, 3) := by decide +kernel
theorem dX10_lather_12 : decode cX10_lather 12 = .ok (.getfield 225, 3) := by decide +kernel
theorem dX10_lather_15 : decode cX10_lather 15 = .ok (.iload_n 1, 1) := by decide +kernel
theorem dX10_lather_16 : decode cX10_lather 16 = .ok (.iaload, 1) := by decide +kernel
theorem dX10_lather_17 : decode cX10_lather 17 = .ok (.ireturn, 1) := by decide +kernel
theorem dX10_weightFor_0 : decode cX10_weightFor 0 = .ok (.aload_n 0, 1) := by decide +kernel
theorem dX10_weightFor_1 : decode cX10_weightFor 1 = .ok (.iload_n 1, 1) := by decide +kernel
theorem dX10_weightFor_2 : decode cX10_weightFor 2 = .ok (.invokevirtual 188, 3) := by decide +kernel
theorem dX10_weightFor_5 : decode cX10_weightFor 5 = .ok (.aload_n 0, 1) := by decide +kernel
theorem dX10_weightFor_6 : decode cX10_weightFor 6 = .ok (.getfield 47, 3) := by decide +kernel
theorem dX10_weightFor_9 : decode cX10_weightFor 9 = .ok (.iload_n 1, 1) := by decide +kernel
theorem dX10_weightFor_10 : decode cX10_weightFor 10 = .ok (.iconst 1, 1) := by decide +kernel
theorem dX10_weightFor_11 : decode cX10_weightFor 11 = .ok (.invokevirtual 228, 3) := by decide +kernel
theorem dX10_weightFor_14 : decode cX10_weightFor 14 = .ok (.ireturn, 1) := by decide +kernel
theorem dX10_weightAgainst_0 : decode cX10_weightAgainst 0 = .ok (.aload_n 0, 1) := by decide +kernel
theorem dX10_weightAgainst_1 : decode cX10_weightAgainst 1 = .ok (.iload_n 1, 1) := by decide +kernel
theorem dX10_weightAgainst_2 : decode cX10_weightAgainst 2 = .ok (.invokevirtual 188, 3) := by decide +kernel
theorem dX10_weightAgainst_5 : decode cX10_weightAgainst 5 = .ok (.aload_n 0, 1) := by decide +kernel
theorem dX10_weightAgainst_6 : decode cX10_weightAgainst 6 = .ok (.getfield 47, 3) := by decide +kernel
theorem dX10_weightAgainst_9 : decode cX10_weightAgainst 9 = .ok (.iload_n 1, 1) := by decide +kernel
theorem dX10_weightAgainst_10 : decode cX10_weightAgainst 10 = .ok (.iconst (-1), 1) := by decide +kernel
theorem dX10_weightAgainst_11 : decode cX10_weightAgainst 11 = .ok (.invokevirtual 228, 3) := by decide +kernel
theorem dX10_weightAgainst_14 : decode cX10_weightAgainst 14 = .ok (.ireturn, 1) := by decide +kernel
theorem dX10_voterCount_0 : decode cX10_voterCount 0 = .ok (.aload_n 0, 1) := by decide +kernel
theorem dX10_voterCount_1 : decode cX10_voterCount 1 = .ok (.iload_n 1, 1) := by decide +kernel
theorem dX10_voterCount_2 : decode cX10_voterCount 2 = .ok (.invokevirtual 188, 3) := by decide +kernel
theorem dX10_voterCount_5 : decode cX10_voterCount 5 = .ok (.aload_n 0, 1) := by decide +kernel
theorem dX10_voterCount_6 : decode cX10_voterCount 6 = .ok (.getfield 47, 3) := by decide +kernel
theorem dX10_voterCount_9 : decode cX10_voterCount 9 = .ok (.iload_n 1, 1) := by decide +kernel
theorem dX10_voterCount_10 : decode cX10_voterCount 10 = .ok (.invokevirtual 231, 3) := by decide +kernel
theorem dX10_voterCount_13 : decode cX10_voterCount 13 = .ok (.ireturn, 1) := by decide +kernel
theorem dX10_obstacle_0 : decode cX10_obstacle 0 = .ok (.aload_n 0, 1) := by decide +kernel
theorem dX10_obstacle_1 : decode cX10_obstacle 1 = .ok (.iload_n 1, 1) := by decide +kernel
theorem dX10_obstacle_2 : decode cX10_obstacle 2 = .ok (.invokevirtual 188, 3) := by decide +kernel
theorem dX10_obstacle_5 : decode cX10_obstacle 5 = .ok (.aload_n 0, 1) := by decide +kernel
theorem dX10_obstacle_6 : decode cX10_obstacle 6 = .ok (.getfield 47, 3) := by decide +kernel
theorem dX10_obstacle_9 : decode cX10_obstacle 9 = .ok (.iload_n 1, 1) := by decide +kernel
theorem dX10_obstacle_10 : decode cX10_obstacle 10 = .ok (.invokevirtual 234, 3) := by decide +kernel
theorem dX10_obstacle_13 : decode cX10_obstacle 13 = .ok (.ireturn, 1) := by decide +kernel
theorem dX10_wouldPass_0 : decode cX10_wouldPass 0 = .ok (.aload_n 0, 1) := by decide +kernel
theorem dX10_wouldPass_1 : decode cX10_wouldPass 1 = .ok (.iload_n 1, 1) := by decide +kernel
theorem dX10_wouldPass_2 : decode cX10_wouldPass 2 = .ok (.invokevirtual 188, 3) := by decide +kernel
theorem dX10_wouldPass_5 : decode cX10_wouldPass 5 = .ok (.aload_n 0, 1) := by decide +kernel
theorem dX10_wouldPass_6 : decode cX10_wouldPass 6 = .ok (.getfield 47, 3) := by decide +kernel
theorem dX10_wouldPass_9 : decode cX10_wouldPass 9 = .ok (.iload_n 1, 1) := by decide +kernel
theorem dX10_wouldPass_10 : decode cX10_wouldPass 10 = .ok (.invokevirtual 237, 3) := by decide +kernel
theorem dX10_wouldPass_13 : decode cX10_wouldPass 13 = .ok (.ifCond .le 7, 3) := by decide +kernel
theorem dX10_wouldPass_16 : decode cX10_wouldPass 16 = .ok (.iconst 1, 1) := by decide +kernel
theorem dX10_wouldPass_17 : decode cX10_wouldPass 17 = .ok (.goto 4, 3) := by decide +kernel
theorem dX10_wouldPass_20 : decode cX10_wouldPass 20 = .ok (.iconst 0, 1) := by decide +kernel
theorem dX10_wouldPass_21 : decode cX10_wouldPass 21 = .ok (.ireturn, 1) := by decide +kernel
theorem dX10_decisiveVoter_0 : decode cX10_decisiveVoter 0 = .ok (.aload_n 0, 1) := by decide +kernel
theorem dX10_decisiveVoter_1 : decode cX10_decisiveVoter 1 = .ok (.iload_n 1, 1) := by decide +kernel
theorem dX10_decisiveVoter_2 : decode cX10_decisiveVoter 2 = .ok (.invokevirtual 188, 3) := by decide +kernel
theorem dX10_decisiveVoter_5 : decode cX10_decisiveVoter 5 = .ok (.aload_n 0, 1) := by decide +kernel
theorem dX10_decisiveVoter_6 : decode cX10_decisiveVoter 6 = .ok (.getfield 47, 3) := by decide +kernel
theorem dX10_decisiveVoter_9 : decode cX10_decisiveVoter 9 = .ok (.iload_n 1, 1) := by decide +kernel
theorem dX10_decisiveVoter_10 : decode cX10_decisiveVoter 10 = .ok (.invokevirtual 240, 3) := by decide +kernel
theorem dX10_decisiveVoter_13 : decode cX10_decisiveVoter 13 = .ok (.ireturn, 1) := by decide +kernel
theorem dX10_chairCount_0 : decode cX10_chairCount 0 = .ok (.aload_n 0, 1) := by decide +kernel
theorem dX10_chairCount_1 : decode cX10_chairCount 1 = .ok (.getfield 35, 3) := by decide +kernel
theorem dX10_chairCount_4 : decode cX10_chairCount 4 = .ok (.getfield 243, 3) := by decide +kernel
theorem dX10_chairCount_7 : decode cX10_chairCount 7 = .ok (.ireturn, 1) := by decide +kernel
theorem dX10_minute_0 : decode cX10_minute 0 = .ok (.aload_n 0, 1) := by decide +kernel
theorem dX10_minute_1 : decode cX10_minute 1 = .ok (.getfield 47, 3) := by decide +kernel
theorem dX10_minute_4 : decode cX10_minute 4 = .ok (.getfield 245, 3) := by decide +kernel
theorem dX10_minute_7 : decode cX10_minute 7 = .ok (.ireturn, 1) := by decide +kernel
theorem dX10_freeMirrors_0 : decode cX10_freeMirrors 0 = .ok (.aload_n 0, 1) := by decide +kernel
theorem dX10_freeMirrors_1 : decode cX10_freeMirrors 1 = .ok (.getfield 47, 3) := by decide +kernel
theorem dX10_freeMirrors_4 : decode cX10_freeMirrors 4 = .ok (.invokevirtual 248, 3) := by decide +kernel
theorem dX10_freeMirrors_7 : decode cX10_freeMirrors 7 = .ok (.ireturn, 1) := by decide +kernel
theorem dX10_ranking_0 : decode cX10_ranking 0 = .ok (.aload_n 0, 1) := by decide +kernel
theorem dX10_ranking_1 : decode cX10_ranking 1 = .ok (.getfield 47, 3) := by decide +kernel
theorem dX10_ranking_4 : decode cX10_ranking 4 = .ok (.getfield 252, 3) := by decide +kernel
theorem dX10_ranking_7 : decode cX10_ranking 7 = .ok (.ireturn, 1) := by decide +kernel
theorem dX10_requestCount_0 : decode cX10_requestCount 0 = .ok (.aload_n 0, 1) := by decide +kernel
theorem dX10_requestCount_1 : decode cX10_requestCount 1 = .ok (.getfield 47, 3) := by decide +kernel
theorem dX10_requestCount_4 : decode cX10_requestCount 4 = .ok (.getfield 209, 3) := by decide +kernel
theorem dX10_requestCount_7 : decode cX10_requestCount 7 = .ok (.getfield 255, 3) := by decide +kernel
theorem dX10_requestCount_10 : decode cX10_requestCount 10 = .ok (.ireturn, 1) := by decide +kernel
theorem dX10_speaker_0 : decode cX10_speaker 0 = .ok (.aload_n 0, 1) := by decide +kernel
theorem dX10_speaker_1 : decode cX10_speaker 1 = .ok (.iload_n 1, 1) := by decide +kernel
theorem dX10_speaker_2 : decode cX10_speaker 2 = .ok (.invokevirtual 256, 3) := by decide +kernel
theorem dX10_speaker_5 : decode cX10_speaker 5 = .ok (.aload_n 0, 1) := by decide +kernel
theorem dX10_speaker_6 : decode cX10_speaker 6 = .ok (.getfield 47, 3) := by decide +kernel
theorem dX10_speaker_9 : decode cX10_speaker 9 = .ok (.getfield 200, 3) := by decide +kernel
theorem dX10_speaker_12 : decode cX10_speaker 12 = .ok (.getfield 259, 3) := by decide +kernel
theorem dX10_speaker_15 : decode cX10_speaker 15 = .ok (.iload_n 1, 1) := by decide +kernel
theorem dX10_speaker_16 : decode cX10_speaker 16 = .ok (.iaload, 1) := by decide +kernel
theorem dX10_speaker_17 : decode cX10_speaker 17 = .ok (.ireturn, 1) := by decide +kernel
theorem dX10_speechMotion_0 : decode cX10_speechMotion 0 = .ok (.aload_n 0, 1) := by decide +kernel
theorem dX10_speechMotion_1 : decode cX10_speechMotion 1 = .ok (.iload_n 1, 1) := by decide +kernel
theorem dX10_speechMotion_2 : decode cX10_speechMotion 2 = .ok (.invokevirtual 256, 3) := by decide +kernel
theorem dX10_speechMotion_5 : decode cX10_speechMotion 5 = .ok (.aload_n 0, 1) := by decide +kernel
theorem dX10_speechMotion_6 : decode cX10_speechMotion 6 = .ok (.getfield 47, 3) := by decide +kernel
theorem dX10_speechMotion_9 : decode cX10_speechMotion 9 = .ok (.getfield 200, 3) := by decide +kernel
theorem dX10_speechMotion_12 : decode cX10_speechMotion 12 = .ok (.iload_n 1, 1) := by decide +kernel
theorem dX10_speechMotion_13 : decode cX10_speechMotion 13 = .ok (.invokevirtual 262, 3) := by decide +kernel
theorem dX10_speechMotion_16 : decode cX10_speechMotion 16 = .ok (.ifCond .eq 14, 3) := by decide +kernel
theorem dX10_speechMotion_19 : decode cX10_speechMotion 19 = .ok (.new 266, 3) := by decide +kernel
theorem dX10_speechMotion_22 : decode cX10_speechMotion 22 = .ok (.dup, 1) := by decide +kernel
theorem dX10_speechMotion_23 : decode cX10_speechMotion 23 = .ok (.ldc_w 268, 3) := by decide +kernel
theorem dX10_speechMotion_26 : decode cX10_speechMotion 26 = .ok (.invokespecial 270, 3) := by decide +kernel
theorem dX10_speechMotion_29 : decode cX10_speechMotion 29 = .ok (.athrow, 1) := by decide +kernel
theorem dX10_speechMotion_30 : decode cX10_speechMotion 30 = .ok (.aload_n 0, 1) := by decide +kernel
theorem dX10_speechMotion_31 : decode cX10_speechMotion 31 = .ok (.getfield 47, 3) := by decide +kernel
theorem dX10_speechMotion_34 : decode cX10_speechMotion 34 = .ok (.getfield 200, 3) := by decide +kernel
theorem dX10_speechMotion_37 : decode cX10_speechMotion 37 = .ok (.getfield 271, 3) := by decide +kernel
theorem dX10_speechMotion_40 : decode cX10_speechMotion 40 = .ok (.iload_n 1, 1) := by decide +kernel
theorem dX10_speechMotion_41 : decode cX10_speechMotion 41 = .ok (.iaload, 1) := by decide +kernel
theorem dX10_speechMotion_42 : decode cX10_speechMotion 42 = .ok (.ireturn, 1) := by decide +kernel
theorem dX10_remainingTime_0 : decode cX10_remainingTime 0 = .ok (.aload_n 0, 1) := by decide +kernel
theorem dX10_remainingTime_1 : decode cX10_remainingTime 1 = .ok (.iload_n 1, 1) := by decide +kernel
theorem dX10_remainingTime_2 : decode cX10_remainingTime 2 = .ok (.invokevirtual 256, 3) := by decide +kernel
theorem dX10_remainingTime_5 : decode cX10_remainingTime 5 = .ok (.aload_n 0, 1) := by decide +kernel
theorem dX10_remainingTime_6 : decode cX10_remainingTime 6 = .ok (.getfield 47, 3) := by decide +kernel
theorem dX10_remainingTime_9 : decode cX10_remainingTime 9 = .ok (.getfield 200, 3) := by decide +kernel
theorem dX10_remainingTime_12 : decode cX10_remainingTime 12 = .ok (.getfield 274, 3) := by decide +kernel
theorem dX10_remainingTime_15 : decode cX10_remainingTime 15 = .ok (.iload_n 1, 1) := by decide +kernel
theorem dX10_remainingTime_16 : decode cX10_remainingTime 16 = .ok (.iaload, 1) := by decide +kernel
theorem dX10_remainingTime_17 : decode cX10_remainingTime 17 = .ok (.ireturn, 1) := by decide +kernel
theorem dX10_isRebutted_0 : decode cX10_isRebutted 0 = .ok (.aload_n 0, 1) := by decide +kernel
theorem dX10_isRebutted_1 : decode cX10_isRebutted 1 = .ok (.iload_n 1, 1) := by decide +kernel
theorem dX10_isRebutted_2 : decode cX10_isRebutted 2 = .ok (.invokevirtual 256, 3) := by decide +kernel
theorem dX10_isRebutted_5 : decode cX10_isRebutted 5 = .ok (.aload_n 0, 1) := by decide +kernel
theorem dX10_isRebutted_6 : decode cX10_isRebutted 6 = .ok (.getfield 47, 3) := by decide +kernel
theorem dX10_isRebutted_9 : decode cX10_isRebutted 9 = .ok (.getfield 200, 3) := by decide +kernel
theorem dX10_isRebutted_12 : decode cX10_isRebutted 12 = .ok (.iload_n 1, 1) := by decide +kernel
theorem dX10_isRebutted_13 : decode cX10_isRebutted 13 = .ok (.invokevirtual 277, 3) := by decide +kernel
theorem dX10_isRebutted_16 : decode cX10_isRebutted 16 = .ok (.ireturn, 1) := by decide +kernel
theorem dX10_firstBy_0 : decode cX10_firstBy 0 = .ok (.iload_n 1, 1) := by decide +kernel
theorem dX10_firstBy_1 : decode cX10_firstBy 1 = .ok (.invokestatic 280, 3) := by decide +kernel
theorem dX10_firstBy_4 : decode cX10_firstBy 4 = .ok (.invokestatic 283, 3) := by decide +kernel
theorem dX10_firstBy_7 : decode cX10_firstBy 7 = .ok (.aload_n 0, 1) := by decide +kernel
theorem dX10_firstBy_8 : decode cX10_firstBy 8 = .ok (.getfield 47, 3) := by decide +kernel
theorem dX10_firstBy_11 : decode cX10_firstBy 11 = .ok (.iload_n 1, 1) := by decide +kernel
theorem dX10_firstBy_12 : decode cX10_firstBy 12 = .ok (.invokevirtual 286, 3) := by decide +kernel
theorem dX10_firstBy_15 : decode cX10_firstBy 15 = .ok (.istore_n 2, 1) := by decide +kernel
theorem dX10_firstBy_16 : decode cX10_firstBy 16 = .ok (.iload_n 2, 1) := by decide +kernel
theorem dX10_firstBy_17 : decode cX10_firstBy 17 = .ok (.iconst (-1), 1) := by decide +kernel
theorem dX10_firstBy_18 : decode cX10_firstBy 18 = .ok (.if_icmp .ne 7, 3) := by decide +kernel
theorem dX10_firstBy_21 : decode cX10_firstBy 21 = .ok (.iconst (-1), 1) := by decide +kernel
theorem dX10_firstBy_22 : decode cX10_firstBy 22 = .ok (.goto 15, 3) := by decide +kernel
theorem dX10_firstBy_25 : decode cX10_firstBy 25 = .ok (.aload_n 0, 1) := by decide +kernel
theorem dX10_firstBy_26 : decode cX10_firstBy 26 = .ok (.getfield 47, 3) := by decide +kernel
theorem dX10_firstBy_29 : decode cX10_firstBy 29 = .ok (.getfield 209, 3) := by decide +kernel
theorem dX10_firstBy_32 : decode cX10_firstBy 32 = .ok (.getfield 289, 3) := by decide +kernel
theorem dX10_firstBy_35 : decode cX10_firstBy 35 = .ok (.iload_n 2, 1) := by decide +kernel
theorem dX10_firstBy_36 : decode cX10_firstBy 36 = .ok (.iaload, 1) := by decide +kernel
theorem dX10_firstBy_37 : decode cX10_firstBy 37 = .ok (.ireturn, 1) := by decide +kernel
theorem dX10_tips_0 : decode cX10_tips 0 = .ok (.aload_n 0, 1) := by decide +kernel
theorem dX10_tips_1 : decode cX10_tips 1 = .ok (.getfield 47, 3) := by decide +kernel
theorem dX10_tips_4 : decode cX10_tips 4 = .ok (.getfield 292, 3) := by decide +kernel
theorem dX10_tips_7 : decode cX10_tips 7 = .ok (.ireturn, 1) := by decide +kernel
theorem dX10_voteCount_0 : decode cX10_voteCount 0 = .ok (.aload_n 0, 1) := by decide +kernel
theorem dX10_voteCount_1 : decode cX10_voteCount 1 = .ok (.getfield 47, 3) := by decide +kernel
theorem dX10_voteCount_4 : decode cX10_voteCount 4 = .ok (.getfield 295, 3) := by decide +kernel
theorem dX10_voteCount_7 : decode cX10_voteCount 7 = .ok (.ireturn, 1) := by decide +kernel
theorem dX10_rebuttalCount_0 : decode cX10_rebuttalCount 0 = .ok (.aload_n 0, 1) := by decide +kernel
theorem dX10_rebuttalCount_1 : decode cX10_rebuttalCount 1 = .ok (.getfield 47, 3) := by decide +kernel
theorem dX10_rebuttalCount_4 : decode cX10_rebuttalCount 4 = .ok (.getfield 298, 3) := by decide +kernel
theorem dX10_rebuttalCount_7 : decode cX10_rebuttalCount 7 = .ok (.ireturn, 1) := by decide +kernel
theorem dX10_meanLeaning_0 : decode cX10_meanLeaning 0 = .ok (.aload_n 0, 1) := by decide +kernel
theorem dX10_meanLeaning_1 : decode cX10_meanLeaning 1 = .ok (.iload_n 1, 1) := by decide +kernel
theorem dX10_meanLeaning_2 : decode cX10_meanLeaning 2 = .ok (.invokevirtual 188, 3) := by decide +kernel
theorem dX10_meanLeaning_5 : decode cX10_meanLeaning 5 = .ok (.iconst 0, 1) := by decide +kernel
theorem dX10_meanLeaning_6 : decode cX10_meanLeaning 6 = .ok (.istore_n 2, 1) := by decide +kernel
theorem dX10_meanLeaning_7 : decode cX10_meanLeaning 7 = .ok (.iconst 0, 1) := by decide +kernel
theorem dX10_meanLeaning_8 : decode cX10_meanLeaning 8 = .ok (.istore_n 3, 1) := by decide +kernel
theorem dX10_meanLeaning_9 : decode cX10_meanLeaning 9 = .ok (.iload_n 3, 1) := by decide +kernel
theorem dX10_meanLeaning_10 : decode cX10_meanLeaning 10 = .ok (.aload_n 0, 1) := by decide +kernel
theorem dX10_meanLeaning_11 : decode cX10_meanLeaning 11 = .ok (.getfield 35, 3) := by decide +kernel
theorem dX10_meanLeaning_14 : decode cX10_meanLeaning 14 = .ok (.getfield 156, 3) := by decide +kernel
theorem dX10_meanLeaning_17 : decode cX10_meanLeaning 17 = .ok (.if_icmp .ge 24, 3) := by decide +kernel
theorem dX10_meanLeaning_20 : decode cX10_meanLeaning 20 = .ok (.iload_n 2, 1) := by decide +kernel
theorem dX10_meanLeaning_21 : decode cX10_meanLeaning 21 = .ok (.aload_n 0, 1) := by decide +kernel
theorem dX10_meanLeaning_22 : decode cX10_meanLeaning 22 = .ok (.getfield 47, 3) := by decide +kernel
theorem dX10_meanLeaning_25 : decode cX10_meanLeaning 25 = .ok (.getfield 191, 3) := by decide +kernel
theorem dX10_meanLeaning_28 : decode cX10_meanLeaning 28 = .ok (.iload_n 3, 1) := by decide +kernel
theorem dX10_meanLeaning_29 : decode cX10_meanLeaning 29 = .ok (.iload_n 1, 1) := by decide +kernel
theorem dX10_meanLeaning_30 : decode cX10_meanLeaning 30 = .ok (.invokevirtual 195, 3) := by decide +kernel
theorem dX10_meanLeaning_33 : decode cX10_meanLeaning 33 = .ok (.iadd, 1) := by decide +kernel
theorem dX10_meanLeaning_34 : decode cX10_meanLeaning 34 = .ok (.istore_n 2, 1) := by decide +kernel
theorem dX10_meanLeaning_35 : decode cX10_meanLeaning 35 = .ok (.iinc 3 1, 3) := by decide +kernel
theorem dX10_meanLeaning_38 : decode cX10_meanLeaning 38 = .ok (.goto (-29), 3) := by decide +kernel
theorem dX10_meanLeaning_41 : decode cX10_meanLeaning 41 = .ok (.iload_n 2, 1) := by decide +kernel
theorem dX10_meanLeaning_42 : decode cX10_meanLeaning 42 = .ok (.i2d, 1) := by decide +kernel
theorem dX10_meanLeaning_43 : decode cX10_meanLeaning 43 = .ok (.iconst 1, 1) := by decide +kernel
theorem dX10_meanLeaning_44 : decode cX10_meanLeaning 44 = .ok (.aload_n 0, 1) := by decide +kernel
theorem dX10_meanLeaning_45 : decode cX10_meanLeaning 45 = .ok (.getfield 35, 3) := by decide +kernel
theorem dX10_meanLeaning_48 : decode cX10_meanLeaning 48 = .ok (.getfield 156, 3) := by decide +kernel
theorem dX10_meanLeaning_51 : decode cX10_meanLeaning 51 = .ok (.invokestatic 301, 3) := by decide +kernel
theorem dX10_meanLeaning_54 : decode cX10_meanLeaning 54 = .ok (.i2d, 1) := by decide +kernel
theorem dX10_meanLeaning_55 : decode cX10_meanLeaning 55 = .ok (.ddiv, 1) := by decide +kernel
theorem dX10_meanLeaning_56 : decode cX10_meanLeaning 56 = .ok (.dreturn, 1) := by decide +kernel
theorem dX10_weightShare_0 : decode cX10_weightShare 0 = .ok (.aload_n 0, 1) := by decide +kernel
theorem dX10_weightShare_1 : decode cX10_weightShare 1 = .ok (.iload_n 1, 1) := by decide +kernel
theorem dX10_weightShare_2 : decode cX10_weightShare 2 = .ok (.invokevirtual 166, 3) := by decide +kernel
theorem dX10_weightShare_5 : decode cX10_weightShare 5 = .ok (.aload_n 0, 1) := by decide +kernel
theorem dX10_weightShare_6 : decode cX10_weightShare 6 = .ok (.getfield 35, 3) := by decide +kernel
theorem dX10_weightShare_9 : decode cX10_weightShare 9 = .ok (.getfield 169, 3) := by decide +kernel
theorem dX10_weightShare_12 : decode cX10_weightShare 12 = .ok (.iload_n 1, 1) := by decide +kernel
theorem dX10_weightShare_13 : decode cX10_weightShare 13 = .ok (.iaload, 1) := by decide +kernel
theorem dX10_weightShare_14 : decode cX10_weightShare 14 = .ok (.i2f, 1) := by decide +kernel
theorem dX10_weightShare_15 : decode cX10_weightShare 15 = .ok (.iconst 1, 1) := by decide +kernel
theorem dX10_weightShare_16 : decode cX10_weightShare 16 = .ok (.aload_n 0, 1) := by decide +kernel
theorem dX10_weightShare_17 : decode cX10_weightShare 17 = .ok (.getfield 35, 3) := by decide +kernel
theorem dX10_weightShare_20 : decode cX10_weightShare 20 = .ok (.invokevirtual 306, 3) := by decide +kernel
theorem dX10_weightShare_23 : decode cX10_weightShare 23 = .ok (.invokestatic 301, 3) := by decide +kernel
theorem dX10_weightShare_26 : decode cX10_weightShare 26 = .ok (.i2f, 1) := by decide +kernel
theorem dX10_weightShare_27 : decode cX10_weightShare 27 = .ok (.fdiv, 1) := by decide +kernel
theorem dX10_weightShare_28 : decode cX10_weightShare 28 = .ok (.freturn, 1) := by decide +kernel
theorem dX10_contradictions_0 : decode cX10_contradictions 0 = .ok (.aload_n 0, 1) := by decide +kernel
theorem dX10_contradictions_1 : decode cX10_contradictions 1 = .ok (.getfield 47, 3) := by decide +kernel
theorem dX10_contradictions_4 : decode cX10_contradictions 4 = .ok (.invokevirtual 309, 3) := by decide +kernel
theorem dX10_contradictions_7 : decode cX10_contradictions 7 = .ok (.ireturn, 1) := by decide +kernel
theorem dX10_minutesUntilSpeech_0 : decode cX10_minutesUntilSpeech 0 = .ok (.aload_n 0, 1) := by decide +kernel
theorem dX10_minutesUntilSpeech_1 : decode cX10_minutesUntilSpeech 1 = .ok (.iload_n 1, 1) := by decide +kernel
theorem dX10_minutesUntilSpeech_2 : decode cX10_minutesUntilSpeech 2 = .ok (.invokevirtual 166, 3) := by decide +kernel
theorem dX10_minutesUntilSpeech_5 : decode cX10_minutesUntilSpeech 5 = .ok (.aload_n 0, 1) := by decide +kernel
theorem dX10_minutesUntilSpeech_6 : decode cX10_minutesUntilSpeech 6 = .ok (.getfield 47, 3) := by decide +kernel
theorem dX10_minutesUntilSpeech_9 : decode cX10_minutesUntilSpeech 9 = .ok (.getfield 209, 3) := by decide +kernel
theorem dX10_minutesUntilSpeech_12 : decode cX10_minutesUntilSpeech 12 = .ok (.iload_n 1, 1) := by decide +kernel
theorem dX10_minutesUntilSpeech_13 : decode cX10_minutesUntilSpeech 13 = .ok (.invokevirtual 213, 3) := by decide +kernel
theorem dX10_minutesUntilSpeech_16 : decode cX10_minutesUntilSpeech 16 = .ok (.iconst (-1), 1) := by decide +kernel
theorem dX10_minutesUntilSpeech_17 : decode cX10_minutesUntilSpeech 17 = .ok (.if_icmp .ne 5, 3) := by decide +kernel
theorem dX10_minutesUntilSpeech_20 : decode cX10_minutesUntilSpeech 20 = .ok (.iconst (-1), 1) := by decide +kernel
theorem dX10_minutesUntilSpeech_21 : decode cX10_minutesUntilSpeech 21 = .ok (.ireturn, 1) := by decide +kernel
theorem dX10_minutesUntilSpeech_22 : decode cX10_minutesUntilSpeech 22 = .ok (.aload_n 0, 1) := by decide +kernel
theorem dX10_minutesUntilSpeech_23 : decode cX10_minutesUntilSpeech 23 = .ok (.getfield 51, 3) := by decide +kernel
theorem dX10_minutesUntilSpeech_26 : decode cX10_minutesUntilSpeech 26 = .ok (.aload_n 0, 1) := by decide +kernel
theorem dX10_minutesUntilSpeech_27 : decode cX10_minutesUntilSpeech 27 = .ok (.getfield 47, 3) := by decide +kernel
theorem dX10_minutesUntilSpeech_30 : decode cX10_minutesUntilSpeech 30 = .ok (.invokevirtual 312, 3) := by decide +kernel
theorem dX10_minutesUntilSpeech_33 : decode cX10_minutesUntilSpeech 33 = .ok (.iconst 1, 1) := by decide +kernel
theorem dX10_minutesUntilSpeech_34 : decode cX10_minutesUntilSpeech 34 = .ok (.istore_n 2, 1) := by decide +kernel
theorem dX10_minutesUntilSpeech_35 : decode cX10_minutesUntilSpeech 35 = .ok (.iload_n 2, 1) := by decide +kernel
theorem dX10_minutesUntilSpeech_36 : decode cX10_minutesUntilSpeech 36 = .ok (.sipush 300, 3) := by decide +kernel
theorem dX10_minutesUntilSpeech_39 : decode cX10_minutesUntilSpeech 39 = .ok (.if_icmp .gt 34, 3) := by decide +kernel
theorem dX10_minutesUntilSpeech_42 : decode cX10_minutesUntilSpeech 42 = .ok (.aload_n 0, 1) := by decide +kernel
theorem dX10_minutesUntilSpeech_43 : decode cX10_minutesUntilSpeech 43 = .ok (.getfield 51, 3) := by decide +kernel
theorem dX10_minutesUntilSpeech_46 : decode cX10_minutesUntilSpeech 46 = .ok (.invokevirtual 314, 3) := by decide +kernel
theorem dX10_minutesUntilSpeech_49 : decode cX10_minutesUntilSpeech 49 = .ok (.pop, 1) := by decide +kernel
theorem dX10_minutesUntilSpeech_50 : decode cX10_minutesUntilSpeech 50 = .ok (.aload_n 0, 1) := by decide +kernel
theorem dX10_minutesUntilSpeech_51 : decode cX10_minutesUntilSpeech 51 = .ok (.getfield 51, 3) := by decide +kernel
theorem dX10_minutesUntilSpeech_54 : decode cX10_minutesUntilSpeech 54 = .ok (.getfield 209, 3) := by decide +kernel
theorem dX10_minutesUntilSpeech_57 : decode cX10_minutesUntilSpeech 57 = .ok (.iload_n 1, 1) := by decide +kernel
theorem dX10_minutesUntilSpeech_58 : decode cX10_minutesUntilSpeech 58 = .ok (.invokevirtual 213, 3) := by decide +kernel
theorem dX10_minutesUntilSpeech_61 : decode cX10_minutesUntilSpeech 61 = .ok (.iconst (-1), 1) := by decide +kernel
theorem dX10_minutesUntilSpeech_62 : decode cX10_minutesUntilSpeech 62 = .ok (.if_icmp .ne 5, 3) := by decide +kernel
theorem dX10_minutesUntilSpeech_65 : decode cX10_minutesUntilSpeech 65 = .ok (.iload_n 2, 1) := by decide +kernel
theorem dX10_minutesUntilSpeech_66 : decode cX10_minutesUntilSpeech 66 = .ok (.ireturn, 1) := by decide +kernel
theorem dX10_minutesUntilSpeech_67 : decode cX10_minutesUntilSpeech 67 = .ok (.iinc 2 1, 3) := by decide +kernel
theorem dX10_minutesUntilSpeech_70 : decode cX10_minutesUntilSpeech 70 = .ok (.goto (-35), 3) := by decide +kernel
theorem dX10_minutesUntilSpeech_73 : decode cX10_minutesUntilSpeech 73 = .ok (.iconst (-1), 1) := by decide +kernel
theorem dX10_minutesUntilSpeech_74 : decode cX10_minutesUntilSpeech 74 = .ok (.ireturn, 1) := by decide +kernel
theorem dX10_latherAfter_0 : decode cX10_latherAfter 0 = .ok (.aload_n 0, 1) := by decide +kernel
theorem dX10_latherAfter_1 : decode cX10_latherAfter 1 = .ok (.iload_n 1, 1) := by decide +kernel
theorem dX10_latherAfter_2 : decode cX10_latherAfter 2 = .ok (.invokevirtual 188, 3) := by decide +kernel
theorem dX10_latherAfter_5 : decode cX10_latherAfter 5 = .ok (.iload_n 2, 1) := by decide +kernel
theorem dX10_latherAfter_6 : decode cX10_latherAfter 6 = .ok (.ifCond .lt 10, 3) := by decide +kernel
theorem dX10_latherAfter_9 : decode cX10_latherAfter 9 = .ok (.iload_n 2, 1) := by decide +kernel
theorem dX10_latherAfter_10 : decode cX10_latherAfter 10 = .ok (.sipush 300, 3) := by decide +kernel
theorem dX10_latherAfter_13 : decode cX10_latherAfter 13 = .ok (.if_icmp .le 14, 3) := by decide +kernel
theorem dX10_latherAfter_16 : decode cX10_latherAfter 16 = .ok (.new 103, 3) := by decide +kernel
theorem dX10_latherAfter_19 : decode cX10_latherAfter 19 = .ok (.dup, 1) := by decide +kernel
theorem dX10_latherAfter_20 : decode cX10_latherAfter 20 = .ok (.ldc_w 317, 3) := by decide +kernel
theorem dX10_latherAfter_23 : decode cX10_latherAfter 23 = .ok (.invokespecial 107, 3) := by decide +kernel
theorem dX10_latherAfter_26 : decode cX10_latherAfter 26 = .ok (.athrow, 1) := by decide +kernel
theorem dX10_latherAfter_27 : decode cX10_latherAfter 27 = .ok (.aload_n 0, 1) := by decide +kernel
theorem dX10_latherAfter_28 : decode cX10_latherAfter 28 = .ok (.getfield 51, 3) := by decide +kernel
theorem dX10_latherAfter_31 : decode cX10_latherAfter 31 = .ok (.aload_n 0, 1) := by decide +kernel
theorem dX10_latherAfter_32 : decode cX10_latherAfter 32 = .ok (.getfield 47, 3) := by decide +kernel
theorem dX10_latherAfter_35 : decode cX10_latherAfter 35 = .ok (.invokevirtual 312, 3) := by decide +kernel
theorem dX10_latherAfter_38 : decode cX10_latherAfter 38 = .ok (.iconst 0, 1) := by decide +kernel
theorem dX10_latherAfter_39 : decode cX10_latherAfter 39 = .ok (.istore_n 3, 1) := by decide +kernel
theorem dX10_latherAfter_40 : decode cX10_latherAfter 40 = .ok (.iload_n 3, 1) := by decide +kernel
theorem dX10_latherAfter_41 : decode cX10_latherAfter 41 = .ok (.iload_n 2, 1) := by decide +kernel
theorem dX10_latherAfter_42 : decode cX10_latherAfter 42 = .ok (.if_icmp .ge 17, 3) := by decide +kernel
theorem dX10_latherAfter_45 : decode cX10_latherAfter 45 = .ok (.aload_n 0, 1) := by decide +kernel
theorem dX10_latherAfter_46 : decode cX10_latherAfter 46 = .ok (.getfield 51, 3) := by decide +kernel
theorem dX10_latherAfter_49 : decode cX10_latherAfter 49 = .ok (.invokevirtual 314, 3) := by decide +kernel
theorem dX10_latherAfter_52 : decode cX10_latherAfter 52 = .ok (.pop, 1) := by decide +kernel
theorem dX10_latherAfter_53 : decode cX10_latherAfter 53 = .ok (.iinc 3 1, 3) := by decide +kernel
theorem dX10_latherAfter_56 : decode cX10_latherAfter 56 = .ok (.goto (-16), 3) := by decide +kernel
theorem dX10_latherAfter_59 : decode cX10_latherAfter 59 = .ok (.aload_n 0, 1) := by decide +kernel
theorem dX10_latherAfter_60 : decode cX10_latherAfter 60 = .ok (.getfield 51, 3) := by decide +kernel
theorem dX10_latherAfter_63 : decode cX10_latherAfter 63 = .ok (.getfield 191, 3) := by decide +kernel
theorem dX10_latherAfter_66 : decode cX10_latherAfter 66 = .ok (.getfield 225, 3) := by decide +kernel
theorem dX10_latherAfter_69 : decode cX10_latherAfter 69 = .ok (.iload_n 1, 1) := by decide +kernel
theorem dX10_latherAfter_70 : decode cX10_latherAfter 70 = .ok (.iaload, 1) := by decide +kernel
theorem dX10_latherAfter_71 : decode cX10_latherAfter 71 = .ok (.ireturn, 1) := by decide +kernel
theorem dX10_minutesUntilVote_0 : decode cX10_minutesUntilVote 0 = .ok (.aload_n 0, 1) := by decide +kernel
theorem dX10_minutesUntilVote_1 : decode cX10_minutesUntilVote 1 = .ok (.iload_n 1, 1) := by decide +kernel
theorem dX10_minutesUntilVote_2 : decode cX10_minutesUntilVote 2 = .ok (.invokevirtual 188, 3) := by decide +kernel
theorem dX10_minutesUntilVote_5 : decode cX10_minutesUntilVote 5 = .ok (.aload_n 0, 1) := by decide +kernel
theorem dX10_minutesUntilVote_6 : decode cX10_minutesUntilVote 6 = .ok (.getfield 51, 3) := by decide +kernel
theorem dX10_minutesUntilVote_9 : decode cX10_minutesUntilVote 9 = .ok (.aload_n 0, 1) := by decide +kernel
theorem dX10_minutesUntilVote_10 : decode cX10_minutesUntilVote 10 = .ok (.getfield 47, 3) := by decide +kernel
theorem dX10_minutesUntilVote_13 : decode cX10_minutesUntilVote 13 = .ok (.invokevirtual 312, 3) := by decide +kernel
theorem dX10_minutesUntilVote_16 : decode cX10_minutesUntilVote 16 = .ok (.iconst 0, 1) := by decide +kernel
theorem dX10_minutesUntilVote_17 : decode cX10_minutesUntilVote 17 = .ok (.istore_n 2, 1) := by decide +kernel
theorem dX10_minutesUntilVote_18 : decode cX10_minutesUntilVote 18 = .ok (.iload_n 2, 1) := by decide +kernel
theorem dX10_minutesUntilVote_19 : decode cX10_minutesUntilVote 19 = .ok (.sipush 300, 3) := by decide +kernel
theorem dX10_minutesUntilVote_22 : decode cX10_minutesUntilVote 22 = .ok (.if_icmp .gt 30, 3) := by decide +kernel
theorem dX10_minutesUntilVote_25 : decode cX10_minutesUntilVote 25 = .ok (.aload_n 0, 1) := by decide +kernel
theorem dX10_minutesUntilVote_26 : decode cX10_minutesUntilVote 26 = .ok (.getfield 51, 3) := by decide +kernel
theorem dX10_minutesUntilVote_29 : decode cX10_minutesUntilVote 29 = .ok (.iload_n 1, 1) := by decide +kernel
theorem dX10_minutesUntilVote_30 : decode cX10_minutesUntilVote 30 = .ok (.invokevirtual 234, 3) := by decide +kernel
theorem dX10_minutesUntilVote_33 : decode cX10_minutesUntilVote 33 = .ok (.ifCond .ne 5, 3) := by decide +kernel
theorem dX10_minutesUntilVote_36 : decode cX10_minutesUntilVote 36 = .ok (.iload_n 2, 1) := by decide +kernel
theorem dX10_minutesUntilVote_37 : decode cX10_minutesUntilVote 37 = .ok (.ireturn, 1) := by decide +kernel
theorem dX10_minutesUntilVote_38 : decode cX10_minutesUntilVote 38 = .ok (.aload_n 0, 1) := by decide +kernel
theorem dX10_minutesUntilVote_39 : decode cX10_minutesUntilVote 39 = .ok (.getfield 51, 3) := by decide +kernel
theorem dX10_minutesUntilVote_42 : decode cX10_minutesUntilVote 42 = .ok (.invokevirtual 314, 3) := by decide +kernel
theorem dX10_minutesUntilVote_45 : decode cX10_minutesUntilVote 45 = .ok (.pop, 1) := by decide +kernel
theorem dX10_minutesUntilVote_46 : decode cX10_minutesUntilVote 46 = .ok (.iinc 2 1, 3) := by decide +kernel
theorem dX10_minutesUntilVote_49 : decode cX10_minutesUntilVote 49 = .ok (.goto (-31), 3) := by decide +kernel
theorem dX10_minutesUntilVote_52 : decode cX10_minutesUntilVote 52 = .ok (.iconst (-1), 1) := by decide +kernel
theorem dX10_minutesUntilVote_53 : decode cX10_minutesUntilVote 53 = .ok (.ireturn, 1) := by decide +kernel
theorem dX10_propose_0 : decode cX10_propose 0 = .ok (.aload_n 0, 1) := by decide +kernel
theorem dX10_propose_1 : decode cX10_propose 1 = .ok (.getfield 47, 3) := by decide +kernel
theorem dX10_propose_4 : decode cX10_propose 4 = .ok (.iload_n 1, 1) := by decide +kernel
theorem dX10_propose_5 : decode cX10_propose 5 = .ok (.iload_n 2, 1) := by decide +kernel
theorem dX10_propose_6 : decode cX10_propose 6 = .ok (.invokevirtual 319, 3) := by decide +kernel
theorem dX10_propose_9 : decode cX10_propose 9 = .ok (.invokestatic 283, 3) := by decide +kernel
theorem dX10_propose_12 : decode cX10_propose 12 = .ok (.aload_n 0, 1) := by decide +kernel
theorem dX10_propose_13 : decode cX10_propose 13 = .ok (.getfield 57, 3) := by decide +kernel
theorem dX10_propose_16 : decode cX10_propose 16 = .ok (.aload_n 0, 1) := by decide +kernel
theorem dX10_propose_17 : decode cX10_propose 17 = .ok (.getfield 47, 3) := by decide +kernel
theorem dX10_propose_20 : decode cX10_propose 20 = .ok (.invokevirtual 139, 3) := by decide +kernel
theorem dX10_propose_23 : decode cX10_propose 23 = .ok (.aload_n 0, 1) := by decide +kernel
theorem dX10_propose_24 : decode cX10_propose 24 = .ok (.getfield 47, 3) := by decide +kernel
theorem dX10_propose_27 : decode cX10_propose 27 = .ok (.iload_n 1, 1) := by decide +kernel
theorem dX10_propose_28 : decode cX10_propose 28 = .ok (.iload_n 2, 1) := by decide +kernel
theorem dX10_propose_29 : decode cX10_propose 29 = .ok (.invokevirtual 322, 3) := by decide +kernel
theorem dX10_propose_32 : decode cX10_propose 32 = .ok (.ireturn, 1) := by decide +kernel
theorem dX10_request_0 : decode cX10_request 0 = .ok (.aload_n 0, 1) := by decide +kernel
theorem dX10_request_1 : decode cX10_request 1 = .ok (.getfield 47, 3) := by decide +kernel
theorem dX10_request_4 : decode cX10_request 4 = .ok (.iload_n 1, 1) := by decide +kernel
theorem dX10_request_5 : decode cX10_request 5 = .ok (.iload_n 2, 1) := by decide +kernel
theorem dX10_request_6 : decode cX10_request 6 = .ok (.invokevirtual 325, 3) := by decide +kernel
theorem dX10_request_9 : decode cX10_request 9 = .ok (.invokestatic 283, 3) := by decide +kernel
theorem dX10_request_12 : decode cX10_request 12 = .ok (.aload_n 0, 1) := by decide +kernel
theorem dX10_request_13 : decode cX10_request 13 = .ok (.getfield 57, 3) := by decide +kernel
theorem dX10_request_16 : decode cX10_request 16 = .ok (.aload_n 0, 1) := by decide +kernel
theorem dX10_request_17 : decode cX10_request 17 = .ok (.getfield 47, 3) := by decide +kernel
theorem dX10_request_20 : decode cX10_request 20 = .ok (.invokevirtual 139, 3) := by decide +kernel
theorem dX10_request_23 : decode cX10_request 23 = .ok (.aload_n 0, 1) := by decide +kernel
theorem dX10_request_24 : decode cX10_request 24 = .ok (.getfield 47, 3) := by decide +kernel
theorem dX10_request_27 : decode cX10_request 27 = .ok (.getfield 209, 3) := by decide +kernel
theorem dX10_request_30 : decode cX10_request 30 = .ok (.iload_n 1, 1) := by decide +kernel
theorem dX10_request_31 : decode cX10_request 31 = .ok (.iload_n 2, 1) := by decide +kernel
theorem dX10_request_32 : decode cX10_request 32 = .ok (.iload_n 3, 1) := by decide +kernel
theorem dX10_request_33 : decode cX10_request 33 = .ok (.ifCond .eq 7, 3) := by decide +kernel
theorem dX10_request_36 : decode cX10_request 36 = .ok (.iconst 1, 1) := by decide +kernel
theorem dX10_request_37 : decode cX10_request 37 = .ok (.goto 4, 3) := by decide +kernel
theorem dX10_request_40 : decode cX10_request 40 = .ok (.iconst (-1), 1) := by decide +kernel
theorem dX10_request_41 : decode cX10_request 41 = .ok (.invokevirtual 328, 3) := by decide +kernel
theorem dX10_request_44 : decode cX10_request 44 = .ok (.ireturn, 1) := by decide +kernel
theorem dX10_rebut_0 : decode cX10_rebut 0 = .ok (.aload_n 0, 1) := by decide +kernel
theorem dX10_rebut_1 : decode cX10_rebut 1 = .ok (.getfield 47, 3) := by decide +kernel
theorem dX10_rebut_4 : decode cX10_rebut 4 = .ok (.iload_n 1, 1) := by decide +kernel
theorem dX10_rebut_5 : decode cX10_rebut 5 = .ok (.iload_n 2, 1) := by decide +kernel
theorem dX10_rebut_6 : decode cX10_rebut 6 = .ok (.invokevirtual 332, 3) := by decide +kernel
theorem dX10_rebut_9 : decode cX10_rebut 9 = .ok (.invokestatic 283, 3) := by decide +kernel
theorem dX10_rebut_12 : decode cX10_rebut 12 = .ok (.aload_n 0, 1) := by decide +kernel
theorem dX10_rebut_13 : decode cX10_rebut 13 = .ok (.getfield 57, 3) := by decide +kernel
theorem dX10_rebut_16 : decode cX10_rebut 16 = .ok (.aload_n 0, 1) := by decide +kernel
theorem dX10_rebut_17 : decode cX10_rebut 17 = .ok (.getfield 47, 3) := by decide +kernel
theorem dX10_rebut_20 : decode cX10_rebut 20 = .ok (.invokevirtual 139, 3) := by decide +kernel
theorem dX10_rebut_23 : decode cX10_rebut 23 = .ok (.aload_n 0, 1) := by decide +kernel
theorem dX10_rebut_24 : decode cX10_rebut 24 = .ok (.getfield 47, 3) := by decide +kernel
theorem dX10_rebut_27 : decode cX10_rebut 27 = .ok (.iload_n 2, 1) := by decide +kernel
theorem dX10_rebut_28 : decode cX10_rebut 28 = .ok (.invokevirtual 335, 3) := by decide +kernel
theorem dX10_rebut_31 : decode cX10_rebut 31 = .ok (.ireturn, 1) := by decide +kernel
theorem dX10_advance_0 : decode cX10_advance 0 = .ok (.aload_n 0, 1) := by decide +kernel
theorem dX10_advance_1 : decode cX10_advance 1 = .ok (.getfield 47, 3) := by decide +kernel
theorem dX10_advance_4 : decode cX10_advance 4 = .ok (.iload_n 1, 1) := by decide +kernel
theorem dX10_advance_5 : decode cX10_advance 5 = .ok (.invokevirtual 338, 3) := by decide +kernel
theorem dX10_advance_8 : decode cX10_advance 8 = .ok (.invokestatic 283, 3) := by decide +kernel
theorem dX10_advance_11 : decode cX10_advance 11 = .ok (.aload_n 0, 1) := by decide +kernel
theorem dX10_advance_12 : decode cX10_advance 12 = .ok (.getfield 57, 3) := by decide +kernel
theorem dX10_advance_15 : decode cX10_advance 15 = .ok (.aload_n 0, 1) := by decide +kernel
theorem dX10_advance_16 : decode cX10_advance 16 = .ok (.getfield 47, 3) := by decide +kernel
theorem dX10_advance_19 : decode cX10_advance 19 = .ok (.invokevirtual 139, 3) := by decide +kernel
theorem dX10_advance_22 : decode cX10_advance 22 = .ok (.aload_n 0, 1) := by decide +kernel
theorem dX10_advance_23 : decode cX10_advance 23 = .ok (.getfield 47, 3) := by decide +kernel
theorem dX10_advance_26 : decode cX10_advance 26 = .ok (.iload_n 1, 1) := by decide +kernel
theorem dX10_advance_27 : decode cX10_advance 27 = .ok (.invokevirtual 341, 3) := by decide +kernel
theorem dX10_advance_30 : decode cX10_advance 30 = .ok (.ireturn, 1) := by decide +kernel
theorem dX10_vote_0 : decode cX10_vote 0 = .ok (.aload_n 0, 1) := by decide +kernel
theorem dX10_vote_1 : decode cX10_vote 1 = .ok (.getfield 47, 3) := by decide +kernel
theorem dX10_vote_4 : decode cX10_vote 4 = .ok (.iload_n 1, 1) := by decide +kernel
theorem dX10_vote_5 : decode cX10_vote 5 = .ok (.invokevirtual 344, 3) := by decide +kernel
theorem dX10_vote_8 : decode cX10_vote 8 = .ok (.invokestatic 283, 3) := by decide +kernel
theorem dX10_vote_11 : decode cX10_vote 11 = .ok (.aload_n 0, 1) := by decide +kernel
theorem dX10_vote_12 : decode cX10_vote 12 = .ok (.getfield 57, 3) := by decide +kernel
theorem dX10_vote_15 : decode cX10_vote 15 = .ok (.aload_n 0, 1) := by decide +kernel
theorem dX10_vote_16 : decode cX10_vote 16 = .ok (.getfield 47, 3) := by decide +kernel
theorem dX10_vote_19 : decode cX10_vote 19 = .ok (.invokevirtual 139, 3) := by decide +kernel
theorem dX10_vote_22 : decode cX10_vote 22 = .ok (.aload_n 0, 1) := by decide +kernel
theorem dX10_vote_23 : decode cX10_vote 23 = .ok (.getfield 47, 3) := by decide +kernel
theorem dX10_vote_26 : decode cX10_vote 26 = .ok (.iload_n 1, 1) := by decide +kernel
theorem dX10_vote_27 : decode cX10_vote 27 = .ok (.invokevirtual 347, 3) := by decide +kernel
theorem dX10_vote_30 : decode cX10_vote 30 = .ok (.ireturn, 1) := by decide +kernel
theorem dX10_withdraw_0 : decode cX10_withdraw 0 = .ok (.aload_n 0, 1) := by decide +kernel
theorem dX10_withdraw_1 : decode cX10_withdraw 1 = .ok (.getfield 47, 3) := by decide +kernel
theorem dX10_withdraw_4 : decode cX10_withdraw 4 = .ok (.iload_n 1, 1) := by decide +kernel
theorem dX10_withdraw_5 : decode cX10_withdraw 5 = .ok (.invokevirtual 350, 3) := by decide +kernel
theorem dX10_withdraw_8 : decode cX10_withdraw 8 = .ok (.invokestatic 283, 3) := by decide +kernel
theorem dX10_withdraw_11 : decode cX10_withdraw 11 = .ok (.aload_n 0, 1) := by decide +kernel
theorem dX10_withdraw_12 : decode cX10_withdraw 12 = .ok (.getfield 57, 3) := by decide +kernel
theorem dX10_withdraw_15 : decode cX10_withdraw 15 = .ok (.aload_n 0, 1) := by decide +kernel
theorem dX10_withdraw_16 : decode cX10_withdraw 16 = .ok (.getfield 47, 3) := by decide +kernel
theorem dX10_withdraw_19 : decode cX10_withdraw 19 = .ok (.invokevirtual 139, 3) := by decide +kernel
theorem dX10_withdraw_22 : decode cX10_withdraw 22 = .ok (.aload_n 0, 1) := by decide +kernel
theorem dX10_withdraw_23 : decode cX10_withdraw 23 = .ok (.getfield 47, 3) := by decide +kernel
theorem dX10_withdraw_26 : decode cX10_withdraw 26 = .ok (.iload_n 1, 1) := by decide +kernel
theorem dX10_withdraw_27 : decode cX10_withdraw 27 = .ok (.iconst 3, 1) := by decide +kernel
theorem dX10_withdraw_28 : decode cX10_withdraw 28 = .ok (.invokevirtual 353, 3) := by decide +kernel
theorem dX10_withdraw_31 : decode cX10_withdraw 31 = .ok (.ireturn, 1) := by decide +kernel
theorem dX10_sharpen_0 : decode cX10_sharpen 0 = .ok (.aload_n 0, 1) := by decide +kernel
theorem dX10_sharpen_1 : decode cX10_sharpen 1 = .ok (.getfield 47, 3) := by decide +kernel
theorem dX10_sharpen_4 : decode cX10_sharpen 4 = .ok (.iload_n 1, 1) := by decide +kernel
theorem dX10_sharpen_5 : decode cX10_sharpen 5 = .ok (.invokevirtual 356, 3) := by decide +kernel
theorem dX10_sharpen_8 : decode cX10_sharpen 8 = .ok (.invokestatic 283, 3) := by decide +kernel
theorem dX10_sharpen_11 : decode cX10_sharpen 11 = .ok (.aload_n 0, 1) := by decide +kernel
theorem dX10_sharpen_12 : decode cX10_sharpen 12 = .ok (.getfield 57, 3) := by decide +kernel
theorem dX10_sharpen_15 : decode cX10_sharpen 15 = .ok (.aload_n 0, 1) := by decide +kernel
theorem dX10_sharpen_16 : decode cX10_sharpen 16 = .ok (.getfield 47, 3) := by decide +kernel
theorem dX10_sharpen_19 : decode cX10_sharpen 19 = .ok (.invokevirtual 139, 3) := by decide +kernel
theorem dX10_sharpen_22 : decode cX10_sharpen 22 = .ok (.aload_n 0, 1) := by decide +kernel
theorem dX10_sharpen_23 : decode cX10_sharpen 23 = .ok (.getfield 47, 3) := by decide +kernel
theorem dX10_sharpen_26 : decode cX10_sharpen 26 = .ok (.iload_n 1, 1) := by decide +kernel
theorem dX10_sharpen_27 : decode cX10_sharpen 27 = .ok (.invokevirtual 359, 3) := by decide +kernel
theorem dX10_sharpen_30 : decode cX10_sharpen 30 = .ok (.ireturn, 1) := by decide +kernel
theorem dX10_setRanking_0 : decode cX10_setRanking 0 = .ok (.iload_n 1, 1) := by decide +kernel
theorem dX10_setRanking_1 : decode cX10_setRanking 1 = .ok (.invokestatic 280, 3) := by decide +kernel
theorem dX10_setRanking_4 : decode cX10_setRanking 4 = .ok (.invokestatic 283, 3) := by decide +kernel
theorem dX10_setRanking_7 : decode cX10_setRanking 7 = .ok (.aload_n 0, 1) := by decide +kernel
theorem dX10_setRanking_8 : decode cX10_setRanking 8 = .ok (.getfield 57, 3) := by decide +kernel
theorem dX10_setRanking_11 : decode cX10_setRanking 11 = .ok (.aload_n 0, 1) := by decide +kernel
theorem dX10_setRanking_12 : decode cX10_setRanking 12 = .ok (.getfield 47, 3) := by decide +kernel
theorem dX10_setRanking_15 : decode cX10_setRanking 15 = .ok (.invokevirtual 139, 3) := by decide +kernel
theorem dX10_setRanking_18 : decode cX10_setRanking 18 = .ok (.aload_n 0, 1) := by decide +kernel
theorem dX10_setRanking_19 : decode cX10_setRanking 19 = .ok (.getfield 47, 3) := by decide +kernel
theorem dX10_setRanking_22 : decode cX10_setRanking 22 = .ok (.getfield 252, 3) := by decide +kernel
theorem dX10_setRanking_25 : decode cX10_setRanking 25 = .ok (.istore_n 2, 1) := by decide +kernel
theorem dX10_setRanking_26 : decode cX10_setRanking 26 = .ok (.aload_n 0, 1) := by decide +kernel
theorem dX10_setRanking_27 : decode cX10_setRanking 27 = .ok (.getfield 47, 3) := by decide +kernel
theorem dX10_setRanking_30 : decode cX10_setRanking 30 = .ok (.iload_n 1, 1) := by decide +kernel
theorem dX10_setRanking_31 : decode cX10_setRanking 31 = .ok (.putfield 252, 3) := by decide +kernel
theorem dX10_setRanking_34 : decode cX10_setRanking 34 = .ok (.iload_n 2, 1) := by decide +kernel
theorem dX10_setRanking_35 : decode cX10_setRanking 35 = .ok (.ireturn, 1) := by decide +kernel
theorem dX10_writeChairs_0 : decode cX10_writeChairs 0 = .ok (.aload_n 0, 1) := by decide +kernel
theorem dX10_writeChairs_1 : decode cX10_writeChairs 1 = .ok (.getfield 72, 3) := by decide +kernel
theorem dX10_writeChairs_4 : decode cX10_writeChairs 4 = .ok (.iconst 0, 1) := by decide +kernel
theorem dX10_writeChairs_5 : decode cX10_writeChairs 5 = .ok (.invokevirtual 362, 3) := by decide +kernel
theorem dX10_writeChairs_8 : decode cX10_writeChairs 8 = .ok (.iconst 0, 1) := by decide +kernel
theorem dX10_writeChairs_9 : decode cX10_writeChairs 9 = .ok (.istore_n 1, 1) := by decide +kernel
theorem dX10_writeChairs_10 : decode cX10_writeChairs 10 = .ok (.iload_n 1, 1) := by decide +kernel
theorem dX10_writeChairs_11 : decode cX10_writeChairs 11 = .ok (.aload_n 0, 1) := by decide +kernel
theorem dX10_writeChairs_12 : decode cX10_writeChairs 12 = .ok (.getfield 35, 3) := by decide +kernel
theorem dX10_writeChairs_15 : decode cX10_writeChairs 15 = .ok (.getfield 243, 3) := by decide +kernel
theorem dX10_writeChairs_18 : decode cX10_writeChairs 18 = .ok (.if_icmp .ge 28, 3) := by decide +kernel
theorem dX10_writeChairs_21 : decode cX10_writeChairs 21 = .ok (.iload_n 1, 1) := by decide +kernel
theorem dX10_writeChairs_22 : decode cX10_writeChairs 22 = .ok (.ifCond .le 13, 3) := by decide +kernel
theorem dX10_writeChairs_25 : decode cX10_writeChairs 25 = .ok (.aload_n 0, 1) := by decide +kernel
theorem dX10_writeChairs_26 : decode cX10_writeChairs 26 = .ok (.getfield 72, 3) := by decide +kernel
theorem dX10_writeChairs_29 : decode cX10_writeChairs 29 = .ok (.bipush 32, 2) := by decide +kernel
theorem dX10_writeChairs_31 : decode cX10_writeChairs 31 = .ok (.invokevirtual 365, 3) := by decide +kernel
theorem dX10_writeChairs_34 : decode cX10_writeChairs 34 = .ok (.pop, 1) := by decide +kernel
theorem dX10_writeChairs_35 : decode cX10_writeChairs 35 = .ok (.aload_n 0, 1) := by decide +kernel
theorem dX10_writeChairs_36 : decode cX10_writeChairs 36 = .ok (.iload_n 1, 1) := by decide +kernel
theorem dX10_writeChairs_37 : decode cX10_writeChairs 37 = .ok (.invokevirtual 369, 3) := by decide +kernel
theorem dX10_writeChairs_40 : decode cX10_writeChairs 40 = .ok (.iinc 1 1, 3) := by decide +kernel
theorem dX10_writeChairs_43 : decode cX10_writeChairs 43 = .ok (.goto (-33), 3) := by decide +kernel
theorem dX10_writeChairs_46 : decode cX10_writeChairs 46 = .ok (.aload_n 0, 1) := by decide +kernel
theorem dX10_writeChairs_47 : decode cX10_writeChairs 47 = .ok (.getfield 72, 3) := by decide +kernel
theorem dX10_writeChairs_50 : decode cX10_writeChairs 50 = .ok (.invokevirtual 372, 3) := by decide +kernel
theorem dX10_writeChairs_53 : decode cX10_writeChairs 53 = .ok (.ireturn, 1) := by decide +kernel
theorem dX10_writeChair_0 : decode cX10_writeChair 0 = .ok (.aload_n 0, 1) := by decide +kernel
theorem dX10_writeChair_1 : decode cX10_writeChair 1 = .ok (.getfield 47, 3) := by decide +kernel
theorem dX10_writeChair_4 : decode cX10_writeChair 4 = .ok (.getfield 200, 3) := by decide +kernel
theorem dX10_writeChair_7 : decode cX10_writeChair 7 = .ok (.astore_n 2, 1) := by decide +kernel
theorem dX10_writeChair_8 : decode cX10_writeChair 8 = .ok (.aload_n 2, 1) := by decide +kernel
theorem dX10_writeChair_9 : decode cX10_writeChair 9 = .ok (.iload_n 1, 1) := by decide +kernel
theorem dX10_writeChair_10 : decode cX10_writeChair 10 = .ok (.invokevirtual 262, 3) := by decide +kernel
theorem dX10_writeChair_13 : decode cX10_writeChair 13 = .ok (.ifCond .eq 14, 3) := by decide +kernel
theorem dX10_writeChair_16 : decode cX10_writeChair 16 = .ok (.aload_n 0, 1) := by decide +kernel
theorem dX10_writeChair_17 : decode cX10_writeChair 17 = .ok (.getfield 72, 3) := by decide +kernel
theorem dX10_writeChair_20 : decode cX10_writeChair 20 = .ok (.bipush 46, 2) := by decide +kernel
theorem dX10_writeChair_22 : decode cX10_writeChair 22 = .ok (.invokevirtual 365, 3) := by decide +kernel
theorem dX10_writeChair_25 : decode cX10_writeChair 25 = .ok (.pop, 1) := by decide +kernel
theorem dX10_writeChair_26 : decode cX10_writeChair 26 = .ok (.return_, 1) := by decide +kernel
theorem dX10_writeChair_27 : decode cX10_writeChair 27 = .ok (.aload_n 0, 1) := by decide +kernel
theorem dX10_writeChair_28 : decode cX10_writeChair 28 = .ok (.aload_n 2, 1) := by decide +kernel
theorem dX10_writeChair_29 : decode cX10_writeChair 29 = .ok (.getfield 259, 3) := by decide +kernel
theorem dX10_writeChair_32 : decode cX10_writeChair 32 = .ok (.iload_n 1, 1) := by decide +kernel
theorem dX10_writeChair_33 : decode cX10_writeChair 33 = .ok (.iaload, 1) := by decide +kernel
theorem dX10_writeChair_34 : decode cX10_writeChair 34 = .ok (.aload_n 2, 1) := by decide +kernel
theorem dX10_writeChair_35 : decode cX10_writeChair 35 = .ok (.getfield 374, 3) := by decide +kernel
theorem dX10_writeChair_38 : decode cX10_writeChair 38 = .ok (.iload_n 1, 1) := by decide +kernel
theorem dX10_writeChair_39 : decode cX10_writeChair 39 = .ok (.iaload, 1) := by decide +kernel
theorem dX10_writeChair_40 : decode cX10_writeChair 40 = .ok (.aload_n 2, 1) := by decide +kernel
theorem dX10_writeChair_41 : decode cX10_writeChair 41 = .ok (.getfield 271, 3) := by decide +kernel
theorem dX10_writeChair_44 : decode cX10_writeChair 44 = .ok (.iload_n 1, 1) := by decide +kernel
theorem dX10_writeChair_45 : decode cX10_writeChair 45 = .ok (.iaload, 1) := by decide +kernel
theorem dX10_writeChair_46 : decode cX10_writeChair 46 = .ok (.invokevirtual 377, 3) := by decide +kernel
theorem dX10_writeChair_49 : decode cX10_writeChair 49 = .ok (.aload_n 2, 1) := by decide +kernel
theorem dX10_writeChair_50 : decode cX10_writeChair 50 = .ok (.iload_n 1, 1) := by decide +kernel
theorem dX10_writeChair_51 : decode cX10_writeChair 51 = .ok (.invokevirtual 277, 3) := by decide +kernel
theorem dX10_writeChair_54 : decode cX10_writeChair 54 = .ok (.ifCond .eq 13, 3) := by decide +kernel
theorem dX10_writeChair_57 : decode cX10_writeChair 57 = .ok (.aload_n 0, 1) := by decide +kernel
theorem dX10_writeChair_58 : decode cX10_writeChair 58 = .ok (.getfield 72, 3) := by decide +kernel
theorem dX10_writeChair_61 : decode cX10_writeChair 61 = .ok (.bipush 33, 2) := by decide +kernel
theorem dX10_writeChair_63 : decode cX10_writeChair 63 = .ok (.invokevirtual 365, 3) := by decide +kernel
theorem dX10_writeChair_66 : decode cX10_writeChair 66 = .ok (.pop, 1) := by decide +kernel
theorem dX10_writeChair_67 : decode cX10_writeChair 67 = .ok (.aload_n 0, 1) := by decide +kernel
theorem dX10_writeChair_68 : decode cX10_writeChair 68 = .ok (.getfield 72, 3) := by decide +kernel
theorem dX10_writeChair_71 : decode cX10_writeChair 71 = .ok (.bipush 58, 2) := by decide +kernel
theorem dX10_writeChair_73 : decode cX10_writeChair 73 = .ok (.invokevirtual 365, 3) := by decide +kernel
theorem dX10_writeChair_76 : decode cX10_writeChair 76 = .ok (.pop, 1) := by decide +kernel
theorem dX10_writeChair_77 : decode cX10_writeChair 77 = .ok (.aload_n 0, 1) := by decide +kernel
theorem dX10_writeChair_78 : decode cX10_writeChair 78 = .ok (.getfield 72, 3) := by decide +kernel
theorem dX10_writeChair_81 : decode cX10_writeChair 81 = .ok (.aload_n 2, 1) := by decide +kernel
theorem dX10_writeChair_82 : decode cX10_writeChair 82 = .ok (.getfield 274, 3) := by decide +kernel
theorem dX10_writeChair_85 : decode cX10_writeChair 85 = .ok (.iload_n 1, 1) := by decide +kernel
theorem dX10_writeChair_86 : decode cX10_writeChair 86 = .ok (.iaload, 1) := by decide +kernel
theorem dX10_writeChair_87 : decode cX10_writeChair 87 = .ok (.invokevirtual 381, 3) := by decide +kernel
theorem dX10_writeChair_90 : decode cX10_writeChair 90 = .ok (.pop, 1) := by decide +kernel
theorem dX10_writeChair_91 : decode cX10_writeChair 91 = .ok (.return_, 1) := by decide +kernel
theorem dX10_writeRequests_0 : decode cX10_writeRequests 0 = .ok (.aload_n 0, 1) := by decide +kernel
theorem dX10_writeRequests_1 : decode cX10_writeRequests 1 = .ok (.getfield 72, 3) := by decide +kernel
theorem dX10_writeRequests_4 : decode cX10_writeRequests 4 = .ok (.iconst 0, 1) := by decide +kernel
theorem dX10_writeRequests_5 : decode cX10_writeRequests 5 = .ok (.invokevirtual 362, 3) := by decide +kernel
theorem dX10_writeRequests_8 : decode cX10_writeRequests 8 = .ok (.aload_n 0, 1) := by decide +kernel
theorem dX10_writeRequests_9 : decode cX10_writeRequests 9 = .ok (.getfield 47, 3) := by decide +kernel
theorem dX10_writeRequests_12 : decode cX10_writeRequests 12 = .ok (.getfield 209, 3) := by decide +kernel
theorem dX10_writeRequests_15 : decode cX10_writeRequests 15 = .ok (.astore_n 1, 1) := by decide +kernel
theorem dX10_writeRequests_16 : decode cX10_writeRequests 16 = .ok (.iconst 0, 1) := by decide +kernel
theorem dX10_writeRequests_17 : decode cX10_writeRequests 17 = .ok (.istore_n 2, 1) := by decide +kernel
theorem dX10_writeRequests_18 : decode cX10_writeRequests 18 = .ok (.iload_n 2, 1) := by decide +kernel
theorem dX10_writeRequests_19 : decode cX10_writeRequests 19 = .ok (.aload_n 1, 1) := by decide +kernel
theorem dX10_writeRequests_20 : decode cX10_writeRequests 20 = .ok (.getfield 255, 3) := by decide +kernel
theorem dX10_writeRequests_23 : decode cX10_writeRequests 23 = .ok (.if_icmp .ge 45, 3) := by decide +kernel
theorem dX10_writeRequests_26 : decode cX10_writeRequests 26 = .ok (.iload_n 2, 1) := by decide +kernel
theorem dX10_writeRequests_27 : decode cX10_writeRequests 27 = .ok (.ifCond .le 13, 3) := by decide +kernel
theorem dX10_writeRequests_30 : decode cX10_writeRequests 30 = .ok (.aload_n 0, 1) := by decide +kernel
theorem dX10_writeRequests_31 : decode cX10_writeRequests 31 = .ok (.getfield 72, 3) := by decide +kernel
theorem dX10_writeRequests_34 : decode cX10_writeRequests 34 = .ok (.bipush 44, 2) := by decide +kernel
theorem dX10_writeRequests_36 : decode cX10_writeRequests 36 = .ok (.invokevirtual 365, 3) := by decide +kernel
theorem dX10_writeRequests_39 : decode cX10_writeRequests 39 = .ok (.pop, 1) := by decide +kernel
theorem dX10_writeRequests_40 : decode cX10_writeRequests 40 = .ok (.aload_n 0, 1) := by decide +kernel
theorem dX10_writeRequests_41 : decode cX10_writeRequests 41 = .ok (.aload_n 1, 1) := by decide +kernel
theorem dX10_writeRequests_42 : decode cX10_writeRequests 42 = .ok (.getfield 289, 3) := by decide +kernel
theorem dX10_writeRequests_45 : decode cX10_writeRequests 45 = .ok (.iload_n 2, 1) := by decide +kernel
theorem dX10_writeRequests_46 : decode cX10_writeRequests 46 = .ok (.iaload, 1) := by decide +kernel
theorem dX10_writeRequests_47 : decode cX10_writeRequests 47 = .ok (.aload_n 1, 1) := by decide +kernel
theorem dX10_writeRequests_48 : decode cX10_writeRequests 48 = .ok (.getfield 384, 3) := by decide +kernel
theorem dX10_writeRequests_51 : decode cX10_writeRequests 51 = .ok (.iload_n 2, 1) := by decide +kernel
theorem dX10_writeRequests_52 : decode cX10_writeRequests 52 = .ok (.iaload, 1) := by decide +kernel
theorem dX10_writeRequests_53 : decode cX10_writeRequests 53 = .ok (.aload_n 1, 1) := by decide +kernel
theorem dX10_writeRequests_54 : decode cX10_writeRequests 54 = .ok (.getfield 385, 3) := by decide +kernel
theorem dX10_writeRequests_57 : decode cX10_writeRequests 57 = .ok (.iload_n 2, 1) := by decide +kernel
theorem dX10_writeRequests_58 : decode cX10_writeRequests 58 = .ok (.iaload, 1) := by decide +kernel
theorem dX10_writeRequests_59 : decode cX10_writeRequests 59 = .ok (.invokevirtual 377, 3) := by decide +kernel
theorem dX10_writeRequests_62 : decode cX10_writeRequests 62 = .ok (.iinc 2 1, 3) := by decide +kernel
theorem dX10_writeRequests_65 : decode cX10_writeRequests 65 = .ok (.goto (-47), 3) := by decide +kernel
theorem dX10_writeRequests_68 : decode cX10_writeRequests 68 = .ok (.aload_n 0, 1) := by decide +kernel
theorem dX10_writeRequests_69 : decode cX10_writeRequests 69 = .ok (.getfield 72, 3) := by decide +kernel
theorem dX10_writeRequests_72 : decode cX10_writeRequests 72 = .ok (.invokevirtual 372, 3) := by decide +kernel
theorem dX10_writeRequests_75 : decode cX10_writeRequests 75 = .ok (.ireturn, 1) := by decide +kernel
theorem dX10_writeSpeech_0 : decode cX10_writeSpeech 0 = .ok (.aload_n 0, 1) := by decide +kernel
theorem dX10_writeSpeech_1 : decode cX10_writeSpeech 1 = .ok (.getfield 35, 3) := by decide +kernel
theorem dX10_writeSpeech_4 : decode cX10_writeSpeech 4 = .ok (.getfield 386, 3) := by decide +kernel
theorem dX10_writeSpeech_7 : decode cX10_writeSpeech 7 = .ok (.iload_n 1, 1) := by decide +kernel
theorem dX10_writeSpeech_8 : decode cX10_writeSpeech 8 = .ok (.iaload, 1) := by decide +kernel
theorem dX10_writeSpeech_9 : decode cX10_writeSpeech 9 = .ok (.aload_n 0, 1) := by decide +kernel
theorem dX10_writeSpeech_10 : decode cX10_writeSpeech 10 = .ok (.getfield 72, 3) := by decide +kernel
theorem dX10_writeSpeech_13 : decode cX10_writeSpeech 13 = .ok (.invokestatic 389, 3) := by decide +kernel
theorem dX10_writeSpeech_16 : decode cX10_writeSpeech 16 = .ok (.aload_n 0, 1) := by decide +kernel
theorem dX10_writeSpeech_17 : decode cX10_writeSpeech 17 = .ok (.getfield 72, 3) := by decide +kernel
theorem dX10_writeSpeech_20 : decode cX10_writeSpeech 20 = .ok (.iload_n 2, 1) := by decide +kernel
theorem dX10_writeSpeech_21 : decode cX10_writeSpeech 21 = .ok (.iconst 1, 1) := by decide +kernel
theorem dX10_writeSpeech_22 : decode cX10_writeSpeech 22 = .ok (.if_icmp .ne 8, 3) := by decide +kernel
theorem dX10_writeSpeech_25 : decode cX10_writeSpeech 25 = .ok (.bipush 43, 2) := by decide +kernel
theorem dX10_writeSpeech_27 : decode cX10_writeSpeech 27 = .ok (.goto 5, 3) := by decide +kernel
theorem dX10_writeSpeech_30 : decode cX10_writeSpeech 30 = .ok (.bipush 45, 2) := by decide +kernel
theorem dX10_writeSpeech_32 : decode cX10_writeSpeech 32 = .ok (.invokevirtual 365, 3) := by decide +kernel
theorem dX10_writeSpeech_35 : decode cX10_writeSpeech 35 = .ok (.pop, 1) := by decide +kernel
theorem dX10_writeSpeech_36 : decode cX10_writeSpeech 36 = .ok (.aload_n 0, 1) := by decide +kernel
theorem dX10_writeSpeech_37 : decode cX10_writeSpeech 37 = .ok (.getfield 72, 3) := by decide +kernel
theorem dX10_writeSpeech_40 : decode cX10_writeSpeech 40 = .ok (.iload_n 3, 1) := by decide +kernel
theorem dX10_writeSpeech_41 : decode cX10_writeSpeech 41 = .ok (.invokevirtual 381, 3) := by decide +kernel
theorem dX10_writeSpeech_44 : decode cX10_writeSpeech 44 = .ok (.pop, 1) := by decide +kernel
theorem dX10_writeSpeech_45 : decode cX10_writeSpeech 45 = .ok (.return_, 1) := by decide +kernel
theorem dX10_outputByte_0 : decode cX10_outputByte 0 = .ok (.iload_n 1, 1) := by decide +kernel
theorem dX10_outputByte_1 : decode cX10_outputByte 1 = .ok (.ifCond .lt 25, 3) := by decide +kernel
theorem dX10_outputByte_4 : decode cX10_outputByte 4 = .ok (.iload_n 1, 1) := by decide +kernel
theorem dX10_outputByte_5 : decode cX10_outputByte 5 = .ok (.aload_n 0, 1) := by decide +kernel
theorem dX10_outputByte_6 : decode cX10_outputByte 6 = .ok (.getfield 72, 3) := by decide +kernel
theorem dX10_outputByte_9 : decode cX10_outputByte 9 = .ok (.invokevirtual 372, 3) := by decide +kernel
theorem dX10_outputByte_12 : decode cX10_outputByte 12 = .ok (.if_icmp .ge 14, 3) := by decide +kernel
theorem dX10_outputByte_15 : decode cX10_outputByte 15 = .ok (.aload_n 0, 1) := by decide +kernel
theorem dX10_outputByte_16 : decode cX10_outputByte 16 = .ok (.getfield 72, 3) := by decide +kernel
theorem dX10_outputByte_19 : decode cX10_outputByte 19 = .ok (.iload_n 1, 1) := by decide +kernel
theorem dX10_outputByte_20 : decode cX10_outputByte 20 = .ok (.invokevirtual 393, 3) := by decide +kernel
theorem dX10_outputByte_23 : decode cX10_outputByte 23 = .ok (.goto 4, 3) := by decide +kernel
theorem dX10_outputByte_26 : decode cX10_outputByte 26 = .ok (.iconst (-1), 1) := by decide +kernel
theorem dX10_outputByte_27 : decode cX10_outputByte 27 = .ok (.ireturn, 1) := by decide +kernel
theorem dX10_undoCount_0 : decode cX10_undoCount 0 = .ok (.aload_n 0, 1) := by decide +kernel
theorem dX10_undoCount_1 : decode cX10_undoCount 1 = .ok (.getfield 57, 3) := by decide +kernel
theorem dX10_undoCount_4 : decode cX10_undoCount 4 = .ok (.getfield 397, 3) := by decide +kernel
theorem dX10_undoCount_7 : decode cX10_undoCount 7 = .ok (.ireturn, 1) := by decide +kernel
theorem dX10_undo_0 : decode cX10_undo 0 = .ok (.aload_n 0, 1) := by decide +kernel
theorem dX10_undo_1 : decode cX10_undo 1 = .ok (.getfield 57, 3) := by decide +kernel
theorem dX10_undo_4 : decode cX10_undo 4 = .ok (.getfield 397, 3) := by decide +kernel
theorem dX10_undo_7 : decode cX10_undo 7 = .ok (.ifCond .ne 14, 3) := by decide +kernel
theorem dX10_undo_10 : decode cX10_undo 10 = .ok (.new 93, 3) := by decide +kernel
theorem dX10_undo_13 : decode cX10_undo 13 = .ok (.dup, 1) := by decide +kernel
theorem dX10_undo_14 : decode cX10_undo 14 = .ok (.ldc_w 398, 3) := by decide +kernel
theorem dX10_undo_17 : decode cX10_undo 17 = .ok (.invokespecial 97, 3) := by decide +kernel
theorem dX10_undo_20 : decode cX10_undo 20 = .ok (.athrow, 1) := by decide +kernel
theorem dX10_undo_21 : decode cX10_undo 21 = .ok (.aload_n 0, 1) := by decide +kernel
theorem dX10_undo_22 : decode cX10_undo 22 = .ok (.getfield 57, 3) := by decide +kernel
theorem dX10_undo_25 : decode cX10_undo 25 = .ok (.aload_n 0, 1) := by decide +kernel
theorem dX10_undo_26 : decode cX10_undo 26 = .ok (.getfield 47, 3) := by decide +kernel
theorem dX10_undo_29 : decode cX10_undo 29 = .ok (.invokevirtual 400, 3) := by decide +kernel
theorem dX10_undo_32 : decode cX10_undo 32 = .ok (.aload_n 0, 1) := by decide +kernel
theorem dX10_undo_33 : decode cX10_undo 33 = .ok (.getfield 57, 3) := by decide +kernel
theorem dX10_undo_36 : decode cX10_undo 36 = .ok (.getfield 397, 3) := by decide +kernel
theorem dX10_undo_39 : decode cX10_undo 39 = .ok (.ireturn, 1) := by decide +kernel
theorem dX10_save_0 : decode cX10_save 0 = .ok (.iload_n 1, 1) := by decide +kernel
theorem dX10_save_1 : decode cX10_save 1 = .ok (.invokestatic 403, 3) := by decide +kernel
theorem dX10_save_4 : decode cX10_save 4 = .ok (.aload_n 0, 1) := by decide +kernel
theorem dX10_save_5 : decode cX10_save 5 = .ok (.getfield 61, 3) := by decide +kernel
theorem dX10_save_8 : decode cX10_save 8 = .ok (.iload_n 1, 1) := by decide +kernel
theorem dX10_save_9 : decode cX10_save 9 = .ok (.aaload, 1) := by decide +kernel
theorem dX10_save_10 : decode cX10_save 10 = .ok (.aload_n 0, 1) := by decide +kernel
theorem dX10_save_11 : decode cX10_save 11 = .ok (.getfield 47, 3) := by decide +kernel
theorem dX10_save_14 : decode cX10_save 14 = .ok (.invokevirtual 312, 3) := by decide +kernel
theorem dX10_save_17 : decode cX10_save 17 = .ok (.aload_n 0, 1) := by decide +kernel
theorem dX10_save_18 : decode cX10_save 18 = .ok (.getfield 65, 3) := by decide +kernel
theorem dX10_save_21 : decode cX10_save 21 = .ok (.iload_n 1, 1) := by decide +kernel
theorem dX10_save_22 : decode cX10_save 22 = .ok (.iconst 1, 1) := by decide +kernel
theorem dX10_save_23 : decode cX10_save 23 = .ok (.bastore, 1) := by decide +kernel
theorem dX10_save_24 : decode cX10_save 24 = .ok (.aload_n 0, 1) := by decide +kernel
theorem dX10_save_25 : decode cX10_save 25 = .ok (.getfield 47, 3) := by decide +kernel
theorem dX10_save_28 : decode cX10_save 28 = .ok (.getfield 245, 3) := by decide +kernel
theorem dX10_save_31 : decode cX10_save 31 = .ok (.ireturn, 1) := by decide +kernel
theorem dX10_restore_0 : decode cX10_restore 0 = .ok (.iload_n 1, 1) := by decide +kernel
theorem dX10_restore_1 : decode cX10_restore 1 = .ok (.invokestatic 403, 3) := by decide +kernel
theorem dX10_restore_4 : decode cX10_restore 4 = .ok (.aload_n 0, 1) := by decide +kernel
theorem dX10_restore_5 : decode cX10_restore 5 = .ok (.getfield 65, 3) := by decide +kernel
theorem dX10_restore_8 : decode cX10_restore 8 = .ok (.iload_n 1, 1) := by decide +kernel
theorem dX10_restore_9 : decode cX10_restore 9 = .ok (.baload, 1) := by decide +kernel
theorem dX10_restore_10 : decode cX10_restore 10 = .ok (.ifCond .ne 14, 3) := by decide +kernel
theorem dX10_restore_13 : decode cX10_restore 13 = .ok (.new 266, 3) := by decide +kernel
theorem dX10_restore_16 : decode cX10_restore 16 = .ok (.dup, 1) := by decide +kernel
theorem dX10_restore_17 : decode cX10_restore 17 = .ok (.ldc_w 406, 3) := by decide +kernel
theorem dX10_restore_20 : decode cX10_restore 20 = .ok (.invokespecial 270, 3) := by decide +kernel
theorem dX10_restore_23 : decode cX10_restore 23 = .ok (.athrow, 1) := by decide +kernel
theorem dX10_restore_24 : decode cX10_restore 24 = .ok (.aload_n 0, 1) := by decide +kernel
theorem dX10_restore_25 : decode cX10_restore 25 = .ok (.getfield 47, 3) := by decide +kernel
theorem dX10_restore_28 : decode cX10_restore 28 = .ok (.aload_n 0, 1) := by decide +kernel
theorem dX10_restore_29 : decode cX10_restore 29 = .ok (.getfield 61, 3) := by decide +kernel
theorem dX10_restore_32 : decode cX10_restore 32 = .ok (.iload_n 1, 1) := by decide +kernel
theorem dX10_restore_33 : decode cX10_restore 33 = .ok (.aaload, 1) := by decide +kernel
theorem dX10_restore_34 : decode cX10_restore 34 = .ok (.invokevirtual 312, 3) := by decide +kernel
theorem dX10_restore_37 : decode cX10_restore 37 = .ok (.aload_n 0, 1) := by decide +kernel
theorem dX10_restore_38 : decode cX10_restore 38 = .ok (.getfield 57, 3) := by decide +kernel
theorem dX10_restore_41 : decode cX10_restore 41 = .ok (.invokevirtual 128, 3) := by decide +kernel
theorem dX10_restore_44 : decode cX10_restore 44 = .ok (.aload_n 0, 1) := by decide +kernel
theorem dX10_restore_45 : decode cX10_restore 45 = .ok (.getfield 47, 3) := by decide +kernel
theorem dX10_restore_48 : decode cX10_restore 48 = .ok (.getfield 245, 3) := by decide +kernel
theorem dX10_restore_51 : decode cX10_restore 51 = .ok (.ireturn, 1) := by decide +kernel
theorem dX10_requireMember_0 : decode cX10_requireMember 0 = .ok (.aload_n 0, 1) := by decide +kernel
theorem dX10_requireMember_1 : decode cX10_requireMember 1 = .ok (.getfield 35, 3) := by decide +kernel
theorem dX10_requireMember_4 : decode cX10_requireMember 4 = .ok (.iload_n 1, 1) := by decide +kernel
theorem dX10_requireMember_5 : decode cX10_requireMember 5 = .ok (.invokevirtual 408, 3) := by decide +kernel
theorem dX10_requireMember_8 : decode cX10_requireMember 8 = .ok (.ifCond .ne 14, 3) := by decide +kernel
theorem dX10_requireMember_11 : decode cX10_requireMember 11 = .ok (.new 411, 3) := by decide +kernel
theorem dX10_requireMember_14 : decode cX10_requireMember 14 = .ok (.dup, 1) := by decide +kernel
theorem dX10_requireMember_15 : decode cX10_requireMember 15 = .ok (.ldc_w 413, 3) := by decide +kernel
theorem dX10_requireMember_18 : decode cX10_requireMember 18 = .ok (.invokespecial 415, 3) := by decide +kernel
theorem dX10_requireMember_21 : decode cX10_requireMember 21 = .ok (.athrow, 1) := by decide +kernel
theorem dX10_requireMember_22 : decode cX10_requireMember 22 = .ok (.return_, 1) := by decide +kernel
theorem dX10_requireMotion_0 : decode cX10_requireMotion 0 = .ok (.aload_n 0, 1) := by decide +kernel
theorem dX10_requireMotion_1 : decode cX10_requireMotion 1 = .ok (.getfield 47, 3) := by decide +kernel
theorem dX10_requireMotion_4 : decode cX10_requireMotion 4 = .ok (.getfield 191, 3) := by decide +kernel
theorem dX10_requireMotion_7 : decode cX10_requireMotion 7 = .ok (.iload_n 1, 1) := by decide +kernel
theorem dX10_requireMotion_8 : decode cX10_requireMotion 8 = .ok (.invokevirtual 416, 3) := by decide +kernel
theorem dX10_requireMotion_11 : decode cX10_requireMotion 11 = .ok (.ifCond .ne 14, 3) := by decide +kernel
theorem dX10_requireMotion_14 : decode cX10_requireMotion 14 = .ok (.new 411, 3) := by decide +kernel
theorem dX10_requireMotion_17 : decode cX10_requireMotion 17 = .ok (.dup, 1) := by decide +kernel
theorem dX10_requireMotion_18 : decode cX10_requireMotion 18 = .ok (.ldc_w 419, 3) := by decide +kernel
theorem dX10_requireMotion_21 : decode cX10_requireMotion 21 = .ok (.invokespecial 415, 3) := by decide +kernel
theorem dX10_requireMotion_24 : decode cX10_requireMotion 24 = .ok (.athrow, 1) := by decide +kernel
theorem dX10_requireMotion_25 : decode cX10_requireMotion 25 = .ok (.return_, 1) := by decide +kernel
theorem dX10_requireChair_0 : decode cX10_requireChair 0 = .ok (.aload_n 0, 1) := by decide +kernel
theorem dX10_requireChair_1 : decode cX10_requireChair 1 = .ok (.getfield 35, 3) := by decide +kernel
theorem dX10_requireChair_4 : decode cX10_requireChair 4 = .ok (.iload_n 1, 1) := by decide +kernel
theorem dX10_requireChair_5 : decode cX10_requireChair 5 = .ok (.invokevirtual 421, 3) := by decide +kernel
theorem dX10_requireChair_8 : decode cX10_requireChair 8 = .ok (.ifCond .ne 14, 3) := by decide +kernel
theorem dX10_requireChair_11 : decode cX10_requireChair 11 = .ok (.new 411, 3) := by decide +kernel
theorem dX10_requireChair_14 : decode cX10_requireChair 14 = .ok (.dup, 1) := by decide +kernel
theorem dX10_requireChair_15 : decode cX10_requireChair 15 = .ok (.ldc_w 424, 3) := by decide +kernel
theorem dX10_requireChair_18 : decode cX10_requireChair 18 = .ok (.invokespecial 415, 3) := by decide +kernel
theorem dX10_requireChair_21 : decode cX10_requireChair 21 = .ok (.athrow, 1) := by decide +kernel
theorem dX10_requireChair_22 : decode cX10_requireChair 22 = .ok (.return_, 1) := by decide +kernel
theorem dX10_requireSlot_0 : decode cX10_requireSlot 0 = .ok (.iload_n 0, 1) := by decide +kernel
theorem dX10_requireSlot_1 : decode cX10_requireSlot 1 = .ok (.ifCond .lt 8, 3) := by decide +kernel
theorem dX10_requireSlot_4 : decode cX10_requireSlot 4 = .ok (.iload_n 0, 1) := by decide +kernel
theorem dX10_requireSlot_5 : decode cX10_requireSlot 5 = .ok (.iconst 2, 1) := by decide +kernel
theorem dX10_requireSlot_6 : decode cX10_requireSlot 6 = .ok (.if_icmp .lt 14, 3) := by decide +kernel
theorem dX10_requireSlot_9 : decode cX10_requireSlot 9 = .ok (.new 411, 3) := by decide +kernel
theorem dX10_requireSlot_12 : decode cX10_requireSlot 12 = .ok (.dup, 1) := by decide +kernel
theorem dX10_requireSlot_13 : decode cX10_requireSlot 13 = .ok (.ldc_w 426, 3) := by decide +kernel
theorem dX10_requireSlot_16 : decode cX10_requireSlot 16 = .ok (.invokespecial 415, 3) := by decide +kernel
theorem dX10_requireSlot_19 : decode cX10_requireSlot 19 = .ok (.athrow, 1) := by decide +kernel
theorem dX10_requireSlot_20 : decode cX10_requireSlot 20 = .ok (.return_, 1) := by decide +kernel
theorem dX10_throwIfRefused_0 : decode cX10_throwIfRefused 0 = .ok (.iload_n 0, 1) := by decide +kernel
theorem dX10_throwIfRefused_1 : decode cX10_throwIfRefused 1 = .ok (.tableswitch 60 1 3 #[27, 38, 49], 27) := by decide +kernel
theorem dX10_throwIfRefused_28 : decode cX10_throwIfRefused 28 = .ok (.new 411, 3) := by decide +kernel
theorem dX10_throwIfRefused_31 : decode cX10_throwIfRefused 31 = .ok (.dup, 1) := by decide +kernel
theorem dX10_throwIfRefused_32 : decode cX10_throwIfRefused 32 = .ok (.ldc_w 428, 3) := by decide +kernel
theorem dX10_throwIfRefused_35 : decode cX10_throwIfRefused 35 = .ok (.invokespecial 415, 3) := by decide +kernel
theorem dX10_throwIfRefused_38 : decode cX10_throwIfRefused 38 = .ok (.athrow, 1) := by decide +kernel
theorem dX10_throwIfRefused_39 : decode cX10_throwIfRefused 39 = .ok (.new 103, 3) := by decide +kernel
theorem dX10_throwIfRefused_42 : decode cX10_throwIfRefused 42 = .ok (.dup, 1) := by decide +kernel
theorem dX10_throwIfRefused_43 : decode cX10_throwIfRefused 43 = .ok (.ldc_w 430, 3) := by decide +kernel
theorem dX10_throwIfRefused_46 : decode cX10_throwIfRefused 46 = .ok (.invokespecial 107, 3) := by decide +kernel
theorem dX10_throwIfRefused_49 : decode cX10_throwIfRefused 49 = .ok (.athrow, 1) := by decide +kernel
theorem dX10_throwIfRefused_50 : decode cX10_throwIfRefused 50 = .ok (.new 93, 3) := by decide +kernel
theorem dX10_throwIfRefused_53 : decode cX10_throwIfRefused 53 = .ok (.dup, 1) := by decide +kernel
theorem dX10_throwIfRefused_54 : decode cX10_throwIfRefused 54 = .ok (.ldc_w 432, 3) := by decide +kernel
theorem dX10_throwIfRefused_57 : decode cX10_throwIfRefused 57 = .ok (.invokespecial 97, 3) := by decide +kernel
theorem dX10_throwIfRefused_60 : decode cX10_throwIfRefused 60 = .ok (.athrow, 1) := by decide +kernel
theorem dX10_throwIfRefused_61 : decode cX10_throwIfRefused 61 = .ok (.return_, 1) := by decide +kernel
theorem dX11_init_0 : decode cX11_init 0 = .ok (.aload_n 0, 1) := by decide +kernel
theorem dX11_init_1 : decode cX11_init 1 = .ok (.invokespecial 1, 3) := by decide +kernel
theorem dX11_init_4 : decode cX11_init 4 = .ok (.aload_n 0, 1) := by decide +kernel
theorem dX11_init_5 : decode cX11_init 5 = .ok (.sipush 418, 3) := by decide +kernel
theorem dX11_init_8 : decode cX11_init 8 = .ok (.newarray .int, 2) := by decide +kernel
theorem dX11_init_10 : decode cX11_init 10 = .ok (.putfield 7, 3) := by decide +kernel
theorem dX11_init_13 : decode cX11_init 13 = .ok (.aload_n 0, 1) := by decide +kernel
theorem dX11_init_14 : decode cX11_init 14 = .ok (.sipush 418, 3) := by decide +kernel
theorem dX11_init_17 : decode cX11_init 17 = .ok (.newarray .int, 2) := by decide +kernel
theorem dX11_init_19 : decode cX11_init 19 = .ok (.putfield 13, 3) := by decide +kernel
theorem dX11_init_22 : decode cX11_init 22 = .ok (.aload_n 0, 1) := by decide +kernel
theorem dX11_init_23 : decode cX11_init 23 = .ok (.sipush 418, 3) := by decide +kernel
theorem dX11_init_26 : decode cX11_init 26 = .ok (.newarray .int, 2) := by decide +kernel
theorem dX11_init_28 : decode cX11_init 28 = .ok (.putfield 16, 3) := by decide +kernel
theorem dX11_init_31 : decode cX11_init 31 = .ok (.aload_n 0, 1) := by decide +kernel
theorem dX11_init_32 : decode cX11_init 32 = .ok (.sipush 3344, 3) := by decide +kernel
theorem dX11_init_35 : decode cX11_init 35 = .ok (.newarray .int, 2) := by decide +kernel
theorem dX11_init_37 : decode cX11_init 37 = .ok (.putfield 19, 3) := by decide +kernel
theorem dX11_init_40 : decode cX11_init 40 = .ok (.aload_n 0, 1) := by decide +kernel
theorem dX11_init_41 : decode cX11_init 41 = .ok (.sipush 836, 3) := by decide +kernel
theorem dX11_init_44 : decode cX11_init 44 = .ok (.newarray .int, 2) := by decide +kernel
theorem dX11_init_46 : decode cX11_init 46 = .ok (.putfield 22, 3) := by decide +kernel
theorem dX11_init_49 : decode cX11_init 49 = .ok (.aload_n 0, 1) := by decide +kernel
theorem dX11_init_50 : decode cX11_init 50 = .ok (.iconst 2, 1) := by decide +kernel
theorem dX11_init_51 : decode cX11_init 51 = .ok (.newarray .boolean, 2) := by decide +kernel
theorem dX11_init_53 : decode cX11_init 53 = .ok (.putfield 25, 3) := by decide +kernel
theorem dX11_init_56 : decode cX11_init 56 = .ok (.aload_n 0, 1) := by decide +kernel
theorem dX11_init_57 : decode cX11_init 57 = .ok (.sipush 700, 3) := by decide +kernel
theorem dX11_init_60 : decode cX11_init 60 = .ok (.newarray .int, 2) := by decide +kernel
theorem dX11_init_62 : decode cX11_init 62 = .ok (.putfield 29, 3) := by decide +kernel
theorem dX11_init_65 : decode cX11_init 65 = .ok (.aload_n 0, 1) := by decide +kernel
theorem dX11_init_66 : decode cX11_init 66 = .ok (.iconst (-1), 1) := by decide +kernel
theorem dX11_init_67 : decode cX11_init 67 = .ok (.putfield 32, 3) := by decide +kernel
theorem dX11_init_70 : decode cX11_init 70 = .ok (.aload_n 0, 1) := by decide +kernel
theorem dX11_init_71 : decode cX11_init 71 = .ok (.bipush 30, 2) := by decide +kernel
theorem dX11_init_73 : decode cX11_init 73 = .ok (.newarray .int, 2) := by decide +kernel
theorem dX11_init_75 : decode cX11_init 75 = .ok (.putfield 36, 3) := by decide +kernel
theorem dX11_init_78 : decode cX11_init 78 = .ok (.aload_n 0, 1) := by decide +kernel
theorem dX11_init_79 : decode cX11_init 79 = .ok (.bipush 30, 2) := by decide +kernel
theorem dX11_init_81 : decode cX11_init 81 = .ok (.newarray .int, 2) := by decide +kernel
theorem dX11_init_83 : decode cX11_init 83 = .ok (.putfield 39, 3) := by decide +kernel
theorem dX11_init_86 : decode cX11_init 86 = .ok (.aload_n 0, 1) := by decide +kernel
theorem dX11_init_87 : decode cX11_init 87 = .ok (.bipush 30, 2) := by decide +kernel
theorem dX11_init_89 : decode cX11_init 89 = .ok (.newarray .int, 2) := by decide +kernel
theorem dX11_init_91 : decode cX11_init 91 = .ok (.putfield 42, 3) := by decide +kernel
theorem dX11_init_94 : decode cX11_init 94 = .ok (.aload_n 0, 1) := by decide +kernel
theorem dX11_init_95 : decode cX11_init 95 = .ok (.bipush 30, 2) := by decide +kernel
theorem dX11_init_97 : decode cX11_init 97 = .ok (.newarray .int, 2) := by decide +kernel
theorem dX11_init_99 : decode cX11_init 99 = .ok (.putfield 45, 3) := by decide +kernel
theorem dX11_init_102 : decode cX11_init 102 = .ok (.aload_n 0, 1) := by decide +kernel
theorem dX11_init_103 : decode cX11_init 103 = .ok (.sipush 300, 3) := by decide +kernel
theorem dX11_init_106 : decode cX11_init 106 = .ok (.newarray .int, 2) := by decide +kernel
theorem dX11_init_108 : decode cX11_init 108 = .ok (.putfield 48, 3) := by decide +kernel
theorem dX11_init_111 : decode cX11_init 111 = .ok (.aload_n 0, 1) := by decide +kernel
theorem dX11_init_112 : decode cX11_init 112 = .ok (.ldc 51, 2) := by decide +kernel
theorem dX11_init_114 : decode cX11_init 114 = .ok (.invokevirtual 53, 3) := by decide +kernel
theorem dX11_init_117 : decode cX11_init 117 = .ok (.return_, 1) := by decide +kernel
theorem dX11_takesText_0 : decode cX11_takesText 0 = .ok (.iconst 0, 1) := by decide +kernel
theorem dX11_takesText_1 : decode cX11_takesText 1 = .ok (.istore_n 2, 1) := by decide +kernel
theorem dX11_takesText_2 : decode cX11_takesText 2 = .ok (.iload_n 2, 1) := by decide +kernel
theorem dX11_takesText_3 : decode cX11_takesText 3 = .ok (.aload_n 1, 1) := by decide +kernel
theorem dX11_takesText_4 : decode cX11_takesText 4 = .ok (.invokevirtual 57, 3) := by decide +kernel
theorem dX11_takesText_7 : decode cX11_takesText 7 = .ok (.if_icmp .ge 20, 3) := by decide +kernel
theorem dX11_takesText_10 : decode cX11_takesText 10 = .ok (.aload_n 0, 1) := by decide +kernel
theorem dX11_takesText_11 : decode cX11_takesText 11 = .ok (.getfield 29, 3) := by decide +kernel
theorem dX11_takesText_14 : decode cX11_takesText 14 = .ok (.iload_n 2, 1) := by decide +kernel
theorem dX11_takesText_15 : decode cX11_takesText 15 = .ok (.aload_n 1, 1) := by decide +kernel
theorem dX11_takesText_16 : decode cX11_takesText 16 = .ok (.iload_n 2, 1) := by decide +kernel
theorem dX11_takesText_17 : decode cX11_takesText 17 = .ok (.invokevirtual 63, 3) := by decide +kernel
theorem dX11_takesText_20 : decode cX11_takesText 20 = .ok (.iastore, 1) := by decide +kernel
theorem dX11_takesText_21 : decode cX11_takesText 21 = .ok (.iinc 2 1, 3) := by decide +kernel
theorem dX11_takesText_24 : decode cX11_takesText 24 = .ok (.goto (-22), 3) := by decide +kernel
theorem dX11_takesText_27 : decode cX11_takesText 27 = .ok (.aload_n 0, 1) := by decide +kernel
theorem dX11_takesText_28 : decode cX11_takesText 28 = .ok (.aload_n 1, 1) := by decide +kernel
theorem dX11_takesText_29 : decode cX11_takesText 29 = .ok (.invokevirtual 57, 3) := by decide +kernel
theorem dX11_takesText_32 : decode cX11_takesText 32 = .ok (.putfield 67, 3) := by decide +kernel
theorem dX11_takesText_35 : decode cX11_takesText 35 = .ok (.aload_n 0, 1) := by decide +kernel
theorem dX11_takesText_36 : decode cX11_takesText 36 = .ok (.invokevirtual 70, 3) := by decide +kernel
theorem dX11_takesText_39 : decode cX11_takesText 39 = .ok (.aload_n 0, 1) := by decide +kernel
theorem dX11_takesText_40 : decode cX11_takesText 40 = .ok (.invokevirtual 73, 3) := by decide +kernel
theorem dX11_takesText_43 : decode cX11_takesText 43 = .ok (.aload_n 0, 1) := by decide +kernel
theorem dX11_takesText_44 : decode cX11_takesText 44 = .ok (.invokevirtual 76, 3) := by decide +kernel
theorem dX11_takesText_47 : decode cX11_takesText 47 = .ok (.aload_n 0, 1) := by decide +kernel
theorem dX11_takesText_48 : decode cX11_takesText 48 = .ok (.iconst 0, 1) := by decide +kernel
theorem dX11_takesText_49 : decode cX11_takesText 49 = .ok (.putfield 67, 3) := by decide +kernel
theorem dX11_takesText_52 : decode cX11_takesText 52 = .ok (.return_, 1) := by decide +kernel
theorem dX11_begins_0 : decode cX11_begins 0 = .ok (.iconst 0, 1) := by decide +kernel
theorem dX11_begins_1 : decode cX11_begins 1 = .ok (.istore_n 1, 1) := by decide +kernel
theorem dX11_begins_2 : decode cX11_begins 2 = .ok (.iload_n 1, 1) := by decide +kernel
theorem dX11_begins_3 : decode cX11_begins 3 = .ok (.sipush 418, 3) := by decide +kernel
theorem dX11_begins_6 : decode cX11_begins 6 = .ok (.if_icmp .ge 16, 3) := by decide +kernel
theorem dX11_begins_9 : decode cX11_begins 9 = .ok (.aload_n 0, 1) := by decide +kernel
theorem dX11_begins_10 : decode cX11_begins 10 = .ok (.getfield 7, 3) := by decide +kernel
theorem dX11_begins_13 : decode cX11_begins 13 = .ok (.iload_n 1, 1) := by decide +kernel
theorem dX11_begins_14 : decode cX11_begins 14 = .ok (.iconst 0, 1) := by decide +kernel
theorem dX11_begins_15 : decode cX11_begins 15 = .ok (.iastore, 1) := by decide +kernel
theorem dX11_begins_16 : decode cX11_begins 16 = .ok (.iinc 1 1, 3) := by decide +kernel
theorem dX11_begins_19 : decode cX11_begins 19 = .ok (.goto (-17), 3) := by decide +kernel
theorem dX11_begins_22 : decode cX11_begins 22 = .ok (.iconst 0, 1) := by decide +kernel
theorem dX11_begins_23 : decode cX11_begins 23 = .ok (.istore_n 1, 1) := by decide +kernel
theorem dX11_begins_24 : decode cX11_begins 24 = .ok (.iload_n 1, 1) := by decide +kernel
theorem dX11_begins_25 : decode cX11_begins 25 = .ok (.iconst 4, 1) := by decide +kernel
theorem dX11_begins_26 : decode cX11_begins 26 = .ok (.if_icmp .ge 16, 3) := by decide +kernel
theorem dX11_begins_29 : decode cX11_begins 29 = .ok (.aload_n 0, 1) := by decide +kernel
theorem dX11_begins_30 : decode cX11_begins 30 = .ok (.iload_n 1, 1) := by decide +kernel
theorem dX11_begins_31 : decode cX11_begins 31 = .ok (.iconst 0, 1) := by decide +kernel
theorem dX11_begins_32 : decode cX11_begins 32 = .ok (.iconst (-1), 1) := by decide +kernel
theorem dX11_begins_33 : decode cX11_begins 33 = .ok (.invokevirtual 79, 3) := by decide +kernel
theorem dX11_begins_36 : decode cX11_begins 36 = .ok (.iinc 1 1, 3) := by decide +kernel
theorem dX11_begins_39 : decode cX11_begins 39 = .ok (.goto (-15), 3) := by decide +kernel
theorem dX11_begins_42 : decode cX11_begins 42 = .ok (.return_, 1) := by decide +kernel
theorem dX11_thrown_0 : decode cX11_thrown 0 = .ok (.aload_n 0, 1) := by decide +kernel
theorem dX11_thrown_1 : decode cX11_thrown 1 = .ok (.getfield 83, 3) := by decide +kernel
theorem dX11_thrown_4 : decode cX11_thrown 4 = .ok (.ireturn, 1) := by decide +kernel
theorem dX11_in_0 : decode cX11_in 0 = .ok (.iload_n 1, 1) := by decide +kernel
theorem dX11_in_1 : decode cX11_in 1 = .ok (.iload_n 0, 1) := by decide +kernel
theorem dX11_in_2 : decode cX11_in 2 = .ok (.if_icmp .gt 12, 3) := by decide +kernel
theorem dX11_in_5 : decode cX11_in 5 = .ok (.iload_n 0, 1) := by decide +kernel
theorem dX11_in_6 : decode cX11_in 6 = .ok (.iload_n 2, 1) := by decide +kernel
theorem dX11_in_7 : decode cX11_in 7 = .ok (.if_icmp .gt 7, 3) := by decide +kernel
theorem dX11_in_10 : decode cX11_in 10 = .ok (.iconst 1, 1) := by decide +kernel
theorem dX11_in_11 : decode cX11_in 11 = .ok (.goto 4, 3) := by decide +kernel
theorem dX11_in_14 : decode cX11_in 14 = .ok (.iconst 0, 1) := by decide +kernel
theorem dX11_in_15 : decode cX11_in 15 = .ok (.ireturn, 1) := by decide +kernel
theorem dX11_right_0 : decode cX11_right 0 = .ok (.aload_n 0, 1) := by decide +kernel
theorem dX11_right_1 : decode cX11_right 1 = .ok (.getfield 83, 3) := by decide +kernel
theorem dX11_right_4 : decode cX11_right 4 = .ok (.ifCond .ne 12, 3) := by decide +kernel
theorem dX11_right_7 : decode cX11_right 7 = .ok (.iload_n 1, 1) := by decide +kernel
theorem dX11_right_8 : decode cX11_right 8 = .ok (.ifCond .ne 8, 3) := by decide +kernel
theorem dX11_right_11 : decode cX11_right 11 = .ok (.aload_n 0, 1) := by decide +kernel
theorem dX11_right_12 : decode cX11_right 12 = .ok (.iload_n 2, 1) := by decide +kernel
theorem dX11_right_13 : decode cX11_right 13 = .ok (.putfield 83, 3) := by decide +kernel
theorem dX11_right_16 : decode cX11_right 16 = .ok (.aload_n 0, 1) := by decide +kernel
theorem dX11_right_17 : decode cX11_right 17 = .ok (.getfield 83, 3) := by decide +kernel
theorem dX11_right_20 : decode cX11_right 20 = .ok (.ifCond .ne 7, 3) := by decide +kernel
theorem dX11_right_23 : decode cX11_right 23 = .ok (.iconst 1, 1) := by decide +kernel
theorem dX11_right_24 : decode cX11_right 24 = .ok (.goto 4, 3) := by decide +kernel
theorem dX11_right_27 : decode cX11_right 27 = .ok (.iconst 0, 1) := by decide +kernel
theorem dX11_right_28 : decode cX11_right 28 = .ok (.ireturn, 1) := by decide +kernel
theorem dX11_of_0 : decode cX11_of 0 = .ok (.aload_n 0, 1) := by decide +kernel
theorem dX11_of_1 : decode cX11_of 1 = .ok (.getfield 7, 3) := by decide +kernel
theorem dX11_of_4 : decode cX11_of 4 = .ok (.bipush 18, 2) := by decide +kernel
theorem dX11_of_6 : decode cX11_of 6 = .ok (.bipush 6, 2) := by decide +kernel
theorem dX11_of_8 : decode cX11_of 8 = .ok (.iload_n 1, 1) := by decide +kernel
theorem dX11_of_9 : decode cX11_of 9 = .ok (.imul, 1) := by decide +kernel
theorem dX11_of_10 : decode cX11_of 10 = .ok (.iadd, 1) := by decide +kernel
theorem dX11_of_11 : decode cX11_of 11 = .ok (.iload_n 2, 1) := by decide +kernel
theorem dX11_of_12 : decode cX11_of 12 = .ok (.iadd, 1) := by decide +kernel
theorem dX11_of_13 : decode cX11_of 13 = .ok (.iaload, 1) := by decide +kernel
theorem dX11_of_14 : decode cX11_of 14 = .ok (.ireturn, 1) := by decide +kernel
theorem dX11_puts_0 : decode cX11_puts 0 = .ok (.aload_n 0, 1) := by decide +kernel
theorem dX11_puts_1 : decode cX11_puts 1 = .ok (.getfield 7, 3) := by decide +kernel
theorem dX11_puts_4 : decode cX11_puts 4 = .ok (.bipush 18, 2) := by decide +kernel
theorem dX11_puts_6 : decode cX11_puts 6 = .ok (.bipush 6, 2) := by decide +kernel
theorem dX11_puts_8 : decode cX11_puts 8 = .ok (.iload_n 1, 1) := by decide +kernel
theorem dX11_puts_9 : decode cX11_puts 9 = .ok (.imul, 1) := by decide +kernel
theorem dX11_puts_10 : decode cX11_puts 10 = .ok (.iadd, 1) := by decide +kernel
theorem dX11_puts_11 : decode cX11_puts 11 = .ok (.iload_n 2, 1) := by decide +kernel
theorem dX11_puts_12 : decode cX11_puts 12 = .ok (.iadd, 1) := by decide +kernel
theorem dX11_puts_13 : decode cX11_puts 13 = .ok (.iload_n 3, 1) := by decide +kernel
theorem dX11_puts_14 : decode cX11_puts 14 = .ok (.iastore, 1) := by decide +kernel
theorem dX11_puts_15 : decode cX11_puts 15 = .ok (.return_, 1) := by decide +kernel
theorem dX11_ofM_0 : decode cX11_ofM 0 = .ok (.aload_n 0, 1) := by decide +kernel
theorem dX11_ofM_1 : decode cX11_ofM 1 = .ok (.getfield 7, 3) := by decide +kernel
theorem dX11_ofM_4 : decode cX11_ofM 4 = .ok (.bipush 90, 2) := by decide +kernel
theorem dX11_ofM_6 : decode cX11_ofM 6 = .ok (.iconst 5, 1) := by decide +kernel
theorem dX11_ofM_7 : decode cX11_ofM 7 = .ok (.iload_n 1, 1) := by decide +kernel
theorem dX11_ofM_8 : decode cX11_ofM 8 = .ok (.imul, 1) := by decide +kernel
theorem dX11_ofM_9 : decode cX11_ofM 9 = .ok (.iadd, 1) := by decide +kernel
theorem dX11_ofM_10 : decode cX11_ofM 10 = .ok (.iload_n 2, 1) := by decide +kernel
theorem dX11_ofM_11 : decode cX11_ofM 11 = .ok (.iadd, 1) := by decide +kernel
theorem dX11_ofM_12 : decode cX11_ofM 12 = .ok (.iaload, 1) := by decide +kernel
theorem dX11_ofM_13 : decode cX11_ofM 13 = .ok (.ireturn, 1) := by decide +kernel
theorem dX11_putM_0 : decode cX11_putM 0 = .ok (.aload_n 0, 1) := by decide +kernel
theorem dX11_putM_1 : decode cX11_putM 1 = .ok (.getfield 7, 3) := by decide +kernel
theorem dX11_putM_4 : decode cX11_putM 4 = .ok (.bipush 90, 2) := by decide +kernel
theorem dX11_putM_6 : decode cX11_putM 6 = .ok (.iconst 5, 1) := by decide +kernel
theorem dX11_putM_7 : decode cX11_putM 7 = .ok (.iload_n 1, 1) := by decide +kernel
theorem dX11_putM_8 : decode cX11_putM 8 = .ok (.imul, 1) := by decide +kernel
theorem dX11_putM_9 : decode cX11_putM 9 = .ok (.iadd, 1) := by decide +kernel
theorem dX11_putM_10 : decode cX11_putM 10 = .ok (.iload_n 2, 1) := by decide +kernel
theorem dX11_putM_11 : decode cX11_putM 11 = .ok (.iadd, 1) := by decide +kernel
theorem dX11_putM_12 : decode cX11_putM 12 = .ok (.iload_n 3, 1) := by decide +kernel
theorem dX11_putM_13 : decode cX11_putM 13 = .ok (.iastore, 1) := by decide +kernel
theorem dX11_putM_14 : decode cX11_putM 14 = .ok (.return_, 1) := by decide +kernel
theorem dX11_ofC_0 : decode cX11_ofC 0 = .ok (.aload_n 0, 1) := by decide +kernel
theorem dX11_ofC_1 : decode cX11_ofC 1 = .ok (.getfield 7, 3) := by decide +kernel
theorem dX11_ofC_4 : decode cX11_ofC 4 = .ok (.sipush 362, 3) := by decide +kernel
theorem dX11_ofC_7 : decode cX11_ofC 7 = .ok (.iconst 5, 1) := by decide +kernel
theorem dX11_ofC_8 : decode cX11_ofC 8 = .ok (.iload_n 1, 1) := by decide +kernel
theorem dX11_ofC_9 : decode cX11_ofC 9 = .ok (.imul, 1) := by decide +kernel
theorem dX11_ofC_10 : decode cX11_ofC 10 = .ok (.iadd, 1) := by decide +kernel
theorem dX11_ofC_11 : decode cX11_ofC 11 = .ok (.iload_n 2, 1) := by decide +kernel
theorem dX11_ofC_12 : decode cX11_ofC 12 = .ok (.iadd, 1) := by decide +kernel
theorem dX11_ofC_13 : decode cX11_ofC 13 = .ok (.iaload, 1) := by decide +kernel
theorem dX11_ofC_14 : decode cX11_ofC 14 = .ok (.ireturn, 1) := by decide +kernel
theorem dX11_putC_0 : decode cX11_putC 0 = .ok (.aload_n 0, 1) := by decide +kernel
theorem dX11_putC_1 : decode cX11_putC 1 = .ok (.getfield 7, 3) := by decide +kernel
theorem dX11_putC_4 : decode cX11_putC 4 = .ok (.sipush 362, 3) := by decide +kernel
theorem dX11_putC_7 : decode cX11_putC 7 = .ok (.iconst 5, 1) := by decide +kernel
theorem dX11_putC_8 : decode cX11_putC 8 = .ok (.iload_n 1, 1) := by decide +kernel
theorem dX11_putC_9 : decode cX11_putC 9 = .ok (.imul, 1) := by decide +kernel
theorem dX11_putC_10 : decode cX11_putC 10 = .ok (.iadd, 1) := by decide +kernel
theorem dX11_putC_11 : decode cX11_putC 11 = .ok (.iload_n 2, 1) := by decide +kernel
theorem dX11_putC_12 : decode cX11_putC 12 = .ok (.iadd, 1) := by decide +kernel
theorem dX11_putC_13 : decode cX11_putC 13 = .ok (.iload_n 3, 1) := by decide +kernel
theorem dX11_putC_14 : decode cX11_putC 14 = .ok (.iastore, 1) := by decide +kernel
theorem dX11_putC_15 : decode cX11_putC 15 = .ok (.return_, 1) := by decide +kernel
theorem dX11_ofR_0 : decode cX11_ofR 0 = .ok (.aload_n 0, 1) := by decide +kernel
theorem dX11_ofR_1 : decode cX11_ofR 1 = .ok (.getfield 7, 3) := by decide +kernel
theorem dX11_ofR_4 : decode cX11_ofR 4 = .ok (.sipush 382, 3) := by decide +kernel
theorem dX11_ofR_7 : decode cX11_ofR 7 = .ok (.iconst 3, 1) := by decide +kernel
theorem dX11_ofR_8 : decode cX11_ofR 8 = .ok (.iload_n 1, 1) := by decide +kernel
theorem dX11_ofR_9 : decode cX11_ofR 9 = .ok (.imul, 1) := by decide +kernel
theorem dX11_ofR_10 : decode cX11_ofR 10 = .ok (.iadd, 1) := by decide +kernel
theorem dX11_ofR_11 : decode cX11_ofR 11 = .ok (.iload_n 2, 1) := by decide +kernel
theorem dX11_ofR_12 : decode cX11_ofR 12 = .ok (.iadd, 1) := by decide +kernel
theorem dX11_ofR_13 : decode cX11_ofR 13 = .ok (.iaload, 1) := by decide +kernel
theorem dX11_ofR_14 : decode cX11_ofR 14 = .ok (.ireturn, 1) := by decide +kernel
theorem dX11_leans_0 : decode cX11_leans 0 = .ok (.aload_n 0, 1) := by decide +kernel
theorem dX11_leans_1 : decode cX11_leans 1 = .ok (.getfield 7, 3) := by decide +kernel
theorem dX11_leans_4 : decode cX11_leans 4 = .ok (.sipush 170, 3) := by decide +kernel
theorem dX11_leans_7 : decode cX11_leans 7 = .ok (.bipush 16, 2) := by decide +kernel
theorem dX11_leans_9 : decode cX11_leans 9 = .ok (.iload_n 1, 1) := by decide +kernel
theorem dX11_leans_10 : decode cX11_leans 10 = .ok (.imul, 1) := by decide +kernel
theorem dX11_leans_11 : decode cX11_leans 11 = .ok (.iadd, 1) := by decide +kernel
theorem dX11_leans_12 : decode cX11_leans 12 = .ok (.iload_n 2, 1) := by decide +kernel
theorem dX11_leans_13 : decode cX11_leans 13 = .ok (.iadd, 1) := by decide +kernel
theorem dX11_leans_14 : decode cX11_leans 14 = .ok (.iaload, 1) := by decide +kernel
theorem dX11_leans_15 : decode cX11_leans 15 = .ok (.ireturn, 1) := by decide +kernel
theorem dX11_isMember_0 : decode cX11_isMember 0 = .ok (.iload_n 1, 1) := by decide +kernel
theorem dX11_isMember_1 : decode cX11_isMember 1 = .ok (.iconst 0, 1) := by decide +kernel
theorem dX11_isMember_2 : decode cX11_isMember 2 = .ok (.aload_n 0, 1) := by decide +kernel
theorem dX11_isMember_3 : decode cX11_isMember 3 = .ok (.getfield 7, 3) := by decide +kernel
theorem dX11_isMember_6 : decode cX11_isMember 6 = .ok (.bipush 8, 2) := by decide +kernel
theorem dX11_isMember_8 : decode cX11_isMember 8 = .ok (.iaload, 1) := by decide +kernel
theorem dX11_isMember_9 : decode cX11_isMember 9 = .ok (.iconst 1, 1) := by decide +kernel
theorem dX11_isMember_10 : decode cX11_isMember 10 = .ok (.isub, 1) := by decide +kernel
theorem dX11_isMember_11 : decode cX11_isMember 11 = .ok (.invokestatic 86, 3) := by decide +kernel
theorem dX11_isMember_14 : decode cX11_isMember 14 = .ok (.ireturn, 1) := by decide +kernel
theorem dX11_isMotion_0 : decode cX11_isMotion 0 = .ok (.iload_n 1, 1) := by decide +kernel
theorem dX11_isMotion_1 : decode cX11_isMotion 1 = .ok (.iconst 0, 1) := by decide +kernel
theorem dX11_isMotion_2 : decode cX11_isMotion 2 = .ok (.aload_n 0, 1) := by decide +kernel
theorem dX11_isMotion_3 : decode cX11_isMotion 3 = .ok (.getfield 7, 3) := by decide +kernel
theorem dX11_isMotion_6 : decode cX11_isMotion 6 = .ok (.bipush 9, 2) := by decide +kernel
theorem dX11_isMotion_8 : decode cX11_isMotion 8 = .ok (.iaload, 1) := by decide +kernel
theorem dX11_isMotion_9 : decode cX11_isMotion 9 = .ok (.iconst 1, 1) := by decide +kernel
theorem dX11_isMotion_10 : decode cX11_isMotion 10 = .ok (.isub, 1) := by decide +kernel
theorem dX11_isMotion_11 : decode cX11_isMotion 11 = .ok (.invokestatic 86, 3) := by decide +kernel
theorem dX11_isMotion_14 : decode cX11_isMotion 14 = .ok (.ireturn, 1) := by decide +kernel
theorem dX11_isChair_0 : decode cX11_isChair 0 = .ok (.iload_n 1, 1) := by decide +kernel
theorem dX11_isChair_1 : decode cX11_isChair 1 = .ok (.iconst 0, 1) := by decide +kernel
theorem dX11_isChair_2 : decode cX11_isChair 2 = .ok (.aload_n 0, 1) := by decide +kernel
theorem dX11_isChair_3 : decode cX11_isChair 3 = .ok (.getfield 7, 3) := by decide +kernel
theorem dX11_isChair_6 : decode cX11_isChair 6 = .ok (.iconst 0, 1) := by decide +kernel
theorem dX11_isChair_7 : decode cX11_isChair 7 = .ok (.iaload, 1) := by decide +kernel
theorem dX11_isChair_8 : decode cX11_isChair 8 = .ok (.iconst 1, 1) := by decide +kernel
theorem dX11_isChair_9 : decode cX11_isChair 9 = .ok (.isub, 1) := by decide +kernel
theorem dX11_isChair_10 : decode cX11_isChair 10 = .ok (.invokestatic 86, 3) := by decide +kernel
theorem dX11_isChair_13 : decode cX11_isChair 13 = .ok (.ireturn, 1) := by decide +kernel
theorem dX11_isRanking_0 : decode cX11_isRanking 0 = .ok (.iload_n 0, 1) := by decide +kernel
theorem dX11_isRanking_1 : decode cX11_isRanking 1 = .ok (.iconst 0, 1) := by decide +kernel
theorem dX11_isRanking_2 : decode cX11_isRanking 2 = .ok (.iconst 3, 1) := by decide +kernel
theorem dX11_isRanking_3 : decode cX11_isRanking 3 = .ok (.invokestatic 86, 3) := by decide +kernel
theorem dX11_isRanking_6 : decode cX11_isRanking 6 = .ok (.ireturn, 1) := by decide +kernel
theorem dX11_isOpen_0 : decode cX11_isOpen 0 = .ok (.aload_n 0, 1) := by decide +kernel
theorem dX11_isOpen_1 : decode cX11_isOpen 1 = .ok (.iload_n 1, 1) := by decide +kernel
theorem dX11_isOpen_2 : decode cX11_isOpen 2 = .ok (.iconst 3, 1) := by decide +kernel
theorem dX11_isOpen_3 : decode cX11_isOpen 3 = .ok (.invokevirtual 90, 3) := by decide +kernel
theorem dX11_isOpen_6 : decode cX11_isOpen 6 = .ok (.ifCond .ne 7, 3) := by decide +kernel
theorem dX11_isOpen_9 : decode cX11_isOpen 9 = .ok (.iconst 1, 1) := by decide +kernel
theorem dX11_isOpen_10 : decode cX11_isOpen 10 = .ok (.goto 4, 3) := by decide +kernel
theorem dX11_isOpen_13 : decode cX11_isOpen 13 = .ok (.iconst 0, 1) := by decide +kernel
theorem dX11_isOpen_14 : decode cX11_isOpen 14 = .ok (.ireturn, 1) := by decide +kernel
theorem dX11_seatOf_0 : decode cX11_seatOf 0 = .ok (.iconst 0, 1) := by decide +kernel
theorem dX11_seatOf_1 : decode cX11_seatOf 1 = .ok (.istore_n 2, 1) := by decide +kernel
theorem dX11_seatOf_2 : decode cX11_seatOf 2 = .ok (.iload_n 2, 1) := by decide +kernel
theorem dX11_seatOf_3 : decode cX11_seatOf 3 = .ok (.aload_n 0, 1) := by decide +kernel
theorem dX11_seatOf_4 : decode cX11_seatOf 4 = .ok (.getfield 7, 3) := by decide +kernel
theorem dX11_seatOf_7 : decode cX11_seatOf 7 = .ok (.iconst 0, 1) := by decide +kernel
theorem dX11_seatOf_8 : decode cX11_seatOf 8 = .ok (.iaload, 1) := by decide +kernel
theorem dX11_seatOf_9 : decode cX11_seatOf 9 = .ok (.if_icmp .ge 21, 3) := by decide +kernel
theorem dX11_seatOf_12 : decode cX11_seatOf 12 = .ok (.aload_n 0, 1) := by decide +kernel
theorem dX11_seatOf_13 : decode cX11_seatOf 13 = .ok (.iload_n 2, 1) := by decide +kernel
theorem dX11_seatOf_14 : decode cX11_seatOf 14 = .ok (.iconst 0, 1) := by decide +kernel
theorem dX11_seatOf_15 : decode cX11_seatOf 15 = .ok (.invokevirtual 94, 3) := by decide +kernel
theorem dX11_seatOf_18 : decode cX11_seatOf 18 = .ok (.iload_n 1, 1) := by decide +kernel
theorem dX11_seatOf_19 : decode cX11_seatOf 19 = .ok (.if_icmp .ne 5, 3) := by decide +kernel
theorem dX11_seatOf_22 : decode cX11_seatOf 22 = .ok (.iload_n 2, 1) := by decide +kernel
theorem dX11_seatOf_23 : decode cX11_seatOf 23 = .ok (.ireturn, 1) := by decide +kernel
theorem dX11_seatOf_24 : decode cX11_seatOf 24 = .ok (.iinc 2 1, 3) := by decide +kernel
theorem dX11_seatOf_27 : decode cX11_seatOf 27 = .ok (.goto (-25), 3) := by decide +kernel
theorem dX11_seatOf_30 : decode cX11_seatOf 30 = .ok (.iconst (-1), 1) := by decide +kernel
theorem dX11_seatOf_31 : decode cX11_seatOf 31 = .ok (.ireturn, 1) := by decide +kernel
theorem dX11_listedAt_0 : decode cX11_listedAt 0 = .ok (.iconst 0, 1) := by decide +kernel
theorem dX11_listedAt_1 : decode cX11_listedAt 1 = .ok (.istore_n 2, 1) := by decide +kernel
theorem dX11_listedAt_2 : decode cX11_listedAt 2 = .ok (.iload_n 2, 1) := by decide +kernel
theorem dX11_listedAt_3 : decode cX11_listedAt 3 = .ok (.aload_n 0, 1) := by decide +kernel
theorem dX11_listedAt_4 : decode cX11_listedAt 4 = .ok (.getfield 7, 3) := by decide +kernel
theorem dX11_listedAt_7 : decode cX11_listedAt 7 = .ok (.bipush 11, 2) := by decide +kernel
theorem dX11_listedAt_9 : decode cX11_listedAt 9 = .ok (.iaload, 1) := by decide +kernel
theorem dX11_listedAt_10 : decode cX11_listedAt 10 = .ok (.if_icmp .ge 21, 3) := by decide +kernel
theorem dX11_listedAt_13 : decode cX11_listedAt 13 = .ok (.aload_n 0, 1) := by decide +kernel
theorem dX11_listedAt_14 : decode cX11_listedAt 14 = .ok (.iload_n 2, 1) := by decide +kernel
theorem dX11_listedAt_15 : decode cX11_listedAt 15 = .ok (.iconst 0, 1) := by decide +kernel
theorem dX11_listedAt_16 : decode cX11_listedAt 16 = .ok (.invokevirtual 97, 3) := by decide +kernel
theorem dX11_listedAt_19 : decode cX11_listedAt 19 = .ok (.iload_n 1, 1) := by decide +kernel
theorem dX11_listedAt_20 : decode cX11_listedAt 20 = .ok (.if_icmp .ne 5, 3) := by decide +kernel
theorem dX11_listedAt_23 : decode cX11_listedAt 23 = .ok (.iload_n 2, 1) := by decide +kernel
theorem dX11_listedAt_24 : decode cX11_listedAt 24 = .ok (.ireturn, 1) := by decide +kernel
theorem dX11_listedAt_25 : decode cX11_listedAt 25 = .ok (.iinc 2 1, 3) := by decide +kernel
theorem dX11_listedAt_28 : decode cX11_listedAt 28 = .ok (.goto (-26), 3) := by decide +kernel
theorem dX11_listedAt_31 : decode cX11_listedAt 31 = .ok (.iconst (-1), 1) := by decide +kernel
theorem dX11_listedAt_32 : decode cX11_listedAt 32 = .ok (.ireturn, 1) := by decide +kernel
theorem dX11_isSpokenAbout_0 : decode cX11_isSpokenAbout 0 = .ok (.iconst 0, 1) := by decide +kernel
theorem dX11_isSpokenAbout_1 : decode cX11_isSpokenAbout 1 = .ok (.istore_n 2, 1) := by decide +kernel
theorem dX11_isSpokenAbout_2 : decode cX11_isSpokenAbout 2 = .ok (.iload_n 2, 1) := by decide +kernel
theorem dX11_isSpokenAbout_3 : decode cX11_isSpokenAbout 3 = .ok (.aload_n 0, 1) := by decide +kernel
theorem dX11_isSpokenAbout_4 : decode cX11_isSpokenAbout 4 = .ok (.getfield 7, 3) := by decide +kernel
theorem dX11_isSpokenAbout_7 : decode cX11_isSpokenAbout 7 = .ok (.iconst 0, 1) := by decide +kernel
theorem dX11_isSpokenAbout_8 : decode cX11_isSpokenAbout 8 = .ok (.iaload, 1) := by decide +kernel
theorem dX11_isSpokenAbout_9 : decode cX11_isSpokenAbout 9 = .ok (.if_icmp .ge 31, 3) := by decide +kernel
theorem dX11_isSpokenAbout_12 : decode cX11_isSpokenAbout 12 = .ok (.aload_n 0, 1) := by decide +kernel
theorem dX11_isSpokenAbout_13 : decode cX11_isSpokenAbout 13 = .ok (.iload_n 2, 1) := by decide +kernel
theorem dX11_isSpokenAbout_14 : decode cX11_isSpokenAbout 14 = .ok (.iconst 0, 1) := by decide +kernel
theorem dX11_isSpokenAbout_15 : decode cX11_isSpokenAbout 15 = .ok (.invokevirtual 94, 3) := by decide +kernel
theorem dX11_isSpokenAbout_18 : decode cX11_isSpokenAbout 18 = .ok (.iconst (-1), 1) := by decide +kernel
theorem dX11_isSpokenAbout_19 : decode cX11_isSpokenAbout 19 = .ok (.if_icmp .eq 15, 3) := by decide +kernel
theorem dX11_isSpokenAbout_22 : decode cX11_isSpokenAbout 22 = .ok (.aload_n 0, 1) := by decide +kernel
theorem dX11_isSpokenAbout_23 : decode cX11_isSpokenAbout 23 = .ok (.iload_n 2, 1) := by decide +kernel
theorem dX11_isSpokenAbout_24 : decode cX11_isSpokenAbout 24 = .ok (.iconst 1, 1) := by decide +kernel
theorem dX11_isSpokenAbout_25 : decode cX11_isSpokenAbout 25 = .ok (.invokevirtual 94, 3) := by decide +kernel
theorem dX11_isSpokenAbout_28 : decode cX11_isSpokenAbout 28 = .ok (.iload_n 1, 1) := by decide +kernel
theorem dX11_isSpokenAbout_29 : decode cX11_isSpokenAbout 29 = .ok (.if_icmp .ne 5, 3) := by decide +kernel
theorem dX11_isSpokenAbout_32 : decode cX11_isSpokenAbout 32 = .ok (.iconst 1, 1) := by decide +kernel
theorem dX11_isSpokenAbout_33 : decode cX11_isSpokenAbout 33 = .ok (.ireturn, 1) := by decide +kernel
theorem dX11_isSpokenAbout_34 : decode cX11_isSpokenAbout 34 = .ok (.iinc 2 1, 3) := by decide +kernel
theorem dX11_isSpokenAbout_37 : decode cX11_isSpokenAbout 37 = .ok (.goto (-35), 3) := by decide +kernel
theorem dX11_isSpokenAbout_40 : decode cX11_isSpokenAbout 40 = .ok (.iconst 0, 1) := by decide +kernel
theorem dX11_isSpokenAbout_41 : decode cX11_isSpokenAbout 41 = .ok (.ireturn, 1) := by decide +kernel
theorem dX11_mirrorsLeft_0 : decode cX11_mirrorsLeft 0 = .ok (.aload_n 0, 1) := by decide +kernel
theorem dX11_mirrorsLeft_1 : decode cX11_mirrorsLeft 1 = .ok (.getfield 7, 3) := by decide +kernel
theorem dX11_mirrorsLeft_4 : decode cX11_mirrorsLeft 4 = .ok (.iconst 1, 1) := by decide +kernel
theorem dX11_mirrorsLeft_5 : decode cX11_mirrorsLeft 5 = .ok (.iaload, 1) := by decide +kernel
theorem dX11_mirrorsLeft_6 : decode cX11_mirrorsLeft 6 = .ok (.istore_n 1, 1) := by decide +kernel
theorem dX11_mirrorsLeft_7 : decode cX11_mirrorsLeft 7 = .ok (.iconst 0, 1) := by decide +kernel
theorem dX11_mirrorsLeft_8 : decode cX11_mirrorsLeft 8 = .ok (.istore_n 2, 1) := by decide +kernel
theorem dX11_mirrorsLeft_9 : decode cX11_mirrorsLeft 9 = .ok (.iload_n 2, 1) := by decide +kernel
theorem dX11_mirrorsLeft_10 : decode cX11_mirrorsLeft 10 = .ok (.aload_n 0, 1) := by decide +kernel
theorem dX11_mirrorsLeft_11 : decode cX11_mirrorsLeft 11 = .ok (.getfield 7, 3) := by decide +kernel
theorem dX11_mirrorsLeft_14 : decode cX11_mirrorsLeft 14 = .ok (.iconst 0, 1) := by decide +kernel
theorem dX11_mirrorsLeft_15 : decode cX11_mirrorsLeft 15 = .ok (.iaload, 1) := by decide +kernel
theorem dX11_mirrorsLeft_16 : decode cX11_mirrorsLeft 16 = .ok (.if_icmp .ge 32, 3) := by decide +kernel
theorem dX11_mirrorsLeft_19 : decode cX11_mirrorsLeft 19 = .ok (.aload_n 0, 1) := by decide +kernel
theorem dX11_mirrorsLeft_20 : decode cX11_mirrorsLeft 20 = .ok (.iload_n 2, 1) := by decide +kernel
theorem dX11_mirrorsLeft_21 : decode cX11_mirrorsLeft 21 = .ok (.iconst 0, 1) := by decide +kernel
theorem dX11_mirrorsLeft_22 : decode cX11_mirrorsLeft 22 = .ok (.invokevirtual 94, 3) := by decide +kernel
theorem dX11_mirrorsLeft_25 : decode cX11_mirrorsLeft 25 = .ok (.iconst (-1), 1) := by decide +kernel
theorem dX11_mirrorsLeft_26 : decode cX11_mirrorsLeft 26 = .ok (.if_icmp .eq 16, 3) := by decide +kernel
theorem dX11_mirrorsLeft_29 : decode cX11_mirrorsLeft 29 = .ok (.aload_n 0, 1) := by decide +kernel
theorem dX11_mirrorsLeft_30 : decode cX11_mirrorsLeft 30 = .ok (.iload_n 2, 1) := by decide +kernel
theorem dX11_mirrorsLeft_31 : decode cX11_mirrorsLeft 31 = .ok (.iconst 4, 1) := by decide +kernel
theorem dX11_mirrorsLeft_32 : decode cX11_mirrorsLeft 32 = .ok (.invokevirtual 94, 3) := by decide +kernel
theorem dX11_mirrorsLeft_35 : decode cX11_mirrorsLeft 35 = .ok (.iconst 1, 1) := by decide +kernel
theorem dX11_mirrorsLeft_36 : decode cX11_mirrorsLeft 36 = .ok (.if_icmp .ne 6, 3) := by decide +kernel
theorem dX11_mirrorsLeft_39 : decode cX11_mirrorsLeft 39 = .ok (.iinc 1 (-1), 3) := by decide +kernel
theorem dX11_mirrorsLeft_42 : decode cX11_mirrorsLeft 42 = .ok (.iinc 2 1, 3) := by decide +kernel
theorem dX11_mirrorsLeft_45 : decode cX11_mirrorsLeft 45 = .ok (.goto (-36), 3) := by decide +kernel
theorem dX11_mirrorsLeft_48 : decode cX11_mirrorsLeft 48 = .ok (.iload_n 1, 1) := by decide +kernel
theorem dX11_mirrorsLeft_49 : decode cX11_mirrorsLeft 49 = .ok (.ireturn, 1) := by decide +kernel
theorem dX11_isContrast_0 : decode cX11_isContrast 0 = .ok (.aload_n 0, 1) := by decide +kernel
theorem dX11_isContrast_1 : decode cX11_isContrast 1 = .ok (.aload_n 0, 1) := by decide +kernel
theorem dX11_isContrast_2 : decode cX11_isContrast 2 = .ok (.iload_n 1, 1) := by decide +kernel
theorem dX11_isContrast_3 : decode cX11_isContrast 3 = .ok (.iconst 1, 1) := by decide +kernel
theorem dX11_isContrast_4 : decode cX11_isContrast 4 = .ok (.invokevirtual 97, 3) := by decide +kernel
theorem dX11_isContrast_7 : decode cX11_isContrast 7 = .ok (.iconst 4, 1) := by decide +kernel
theorem dX11_isContrast_8 : decode cX11_isContrast 8 = .ok (.invokevirtual 90, 3) := by decide +kernel
theorem dX11_isContrast_11 : decode cX11_isContrast 11 = .ok (.iconst (-1), 1) := by decide +kernel
theorem dX11_isContrast_12 : decode cX11_isContrast 12 = .ok (.if_icmp .eq 27, 3) := by decide +kernel
theorem dX11_isContrast_15 : decode cX11_isContrast 15 = .ok (.aload_n 0, 1) := by decide +kernel
theorem dX11_isContrast_16 : decode cX11_isContrast 16 = .ok (.aload_n 0, 1) := by decide +kernel
theorem dX11_isContrast_17 : decode cX11_isContrast 17 = .ok (.iload_n 1, 1) := by decide +kernel
theorem dX11_isContrast_18 : decode cX11_isContrast 18 = .ok (.iconst 1, 1) := by decide +kernel
theorem dX11_isContrast_19 : decode cX11_isContrast 19 = .ok (.invokevirtual 97, 3) := by decide +kernel
theorem dX11_isContrast_22 : decode cX11_isContrast 22 = .ok (.iconst 4, 1) := by decide +kernel
theorem dX11_isContrast_23 : decode cX11_isContrast 23 = .ok (.invokevirtual 90, 3) := by decide +kernel
theorem dX11_isContrast_26 : decode cX11_isContrast 26 = .ok (.aload_n 0, 1) := by decide +kernel
theorem dX11_isContrast_27 : decode cX11_isContrast 27 = .ok (.iload_n 1, 1) := by decide +kernel
theorem dX11_isContrast_28 : decode cX11_isContrast 28 = .ok (.iconst 2, 1) := by decide +kernel
theorem dX11_isContrast_29 : decode cX11_isContrast 29 = .ok (.invokevirtual 97, 3) := by decide +kernel
theorem dX11_isContrast_32 : decode cX11_isContrast 32 = .ok (.if_icmp .eq 7, 3) := by decide +kernel
theorem dX11_isContrast_35 : decode cX11_isContrast 35 = .ok (.iconst 1, 1) := by decide +kernel
theorem dX11_isContrast_36 : decode cX11_isContrast 36 = .ok (.goto 4, 3) := by decide +kernel
theorem dX11_isContrast_39 : decode cX11_isContrast 39 = .ok (.iconst 0, 1) := by decide +kernel
theorem dX11_isContrast_40 : decode cX11_isContrast 40 = .ok (.ireturn, 1) := by decide +kernel
theorem dX11_isAhead_0 : decode cX11_isAhead 0 = .ok (.aload_n 0, 1) := by decide +kernel
theorem dX11_isAhead_1 : decode cX11_isAhead 1 = .ok (.iload_n 1, 1) := by decide +kernel
theorem dX11_isAhead_2 : decode cX11_isAhead 2 = .ok (.iconst 0, 1) := by decide +kernel
theorem dX11_isAhead_3 : decode cX11_isAhead 3 = .ok (.invokevirtual 97, 3) := by decide +kernel
theorem dX11_isAhead_6 : decode cX11_isAhead 6 = .ok (.istore 4, 2) := by decide +kernel
theorem dX11_isAhead_8 : decode cX11_isAhead 8 = .ok (.aload_n 0, 1) := by decide +kernel
theorem dX11_isAhead_9 : decode cX11_isAhead 9 = .ok (.iload_n 2, 1) := by decide +kernel
theorem dX11_isAhead_10 : decode cX11_isAhead 10 = .ok (.iconst 0, 1) := by decide +kernel
theorem dX11_isAhead_11 : decode cX11_isAhead 11 = .ok (.invokevirtual 97, 3) := by decide +kernel
theorem dX11_isAhead_14 : decode cX11_isAhead 14 = .ok (.istore 5, 2) := by decide +kernel
theorem dX11_isAhead_16 : decode cX11_isAhead 16 = .ok (.iload_n 3, 1) := by decide +kernel
theorem dX11_isAhead_17 : decode cX11_isAhead 17 = .ok (.tableswitch 95 1 3 #[27, 50, 73], 27) := by decide +kernel
theorem dX11_isAhead_44 : decode cX11_isAhead 44 = .ok (.aload_n 0, 1) := by decide +kernel
theorem dX11_isAhead_45 : decode cX11_isAhead 45 = .ok (.iload 4, 2) := by decide +kernel
theorem dX11_isAhead_47 : decode cX11_isAhead 47 = .ok (.iconst 1, 1) := by decide +kernel
theorem dX11_isAhead_48 : decode cX11_isAhead 48 = .ok (.invokevirtual 100, 3) := by decide +kernel
theorem dX11_isAhead_51 : decode cX11_isAhead 51 = .ok (.aload_n 0, 1) := by decide +kernel
theorem dX11_isAhead_52 : decode cX11_isAhead 52 = .ok (.iload 5, 2) := by decide +kernel
theorem dX11_isAhead_54 : decode cX11_isAhead 54 = .ok (.iconst 1, 1) := by decide +kernel
theorem dX11_isAhead_55 : decode cX11_isAhead 55 = .ok (.invokevirtual 100, 3) := by decide +kernel
theorem dX11_isAhead_58 : decode cX11_isAhead 58 = .ok (.if_icmp .le 7, 3) := by decide +kernel
theorem dX11_isAhead_61 : decode cX11_isAhead 61 = .ok (.iconst 1, 1) := by decide +kernel
theorem dX11_isAhead_62 : decode cX11_isAhead 62 = .ok (.goto 4, 3) := by decide +kernel
theorem dX11_isAhead_65 : decode cX11_isAhead 65 = .ok (.iconst 0, 1) := by decide +kernel
theorem dX11_isAhead_66 : decode cX11_isAhead 66 = .ok (.ireturn, 1) := by decide +kernel
theorem dX11_isAhead_67 : decode cX11_isAhead 67 = .ok (.aload_n 0, 1) := by decide +kernel
theorem dX11_isAhead_68 : decode cX11_isAhead 68 = .ok (.iload 4, 2) := by decide +kernel
theorem dX11_isAhead_70 : decode cX11_isAhead 70 = .ok (.iconst 5, 1) := by decide +kernel
theorem dX11_isAhead_71 : decode cX11_isAhead 71 = .ok (.invokevirtual 100, 3) := by decide +kernel
theorem dX11_isAhead_74 : decode cX11_isAhead 74 = .ok (.aload_n 0, 1) := by decide +kernel
theorem dX11_isAhead_75 : decode cX11_isAhead 75 = .ok (.iload 5, 2) := by decide +kernel
theorem dX11_isAhead_77 : decode cX11_isAhead 77 = .ok (.iconst 5, 1) := by decide +kernel
theorem dX11_isAhead_78 : decode cX11_isAhead 78 = .ok (.invokevirtual 100, 3) := by decide +kernel
theorem dX11_isAhead_81 : decode cX11_isAhead 81 = .ok (.if_icmp .ge 7, 3) := by decide +kernel
theorem dX11_isAhead_84 : decode cX11_isAhead 84 = .ok (.iconst 1, 1) := by decide +kernel
theorem dX11_isAhead_85 : decode cX11_isAhead 85 = .ok (.goto 4, 3) := by decide +kernel
theorem dX11_isAhead_88 : decode cX11_isAhead 88 = .ok (.iconst 0, 1) := by decide +kernel
theorem dX11_isAhead_89 : decode cX11_isAhead 89 = .ok (.ireturn, 1) := by decide +kernel
theorem dX11_isAhead_90 : decode cX11_isAhead 90 = .ok (.aload_n 0, 1) := by decide +kernel
theorem dX11_isAhead_91 : decode cX11_isAhead 91 = .ok (.iload_n 1, 1) := by decide +kernel
theorem dX11_isAhead_92 : decode cX11_isAhead 92 = .ok (.invokevirtual 103, 3) := by decide +kernel
theorem dX11_isAhead_95 : decode cX11_isAhead 95 = .ok (.ifCond .eq 15, 3) := by decide +kernel
theorem dX11_isAhead_98 : decode cX11_isAhead 98 = .ok (.aload_n 0, 1) := by decide +kernel
theorem dX11_isAhead_99 : decode cX11_isAhead 99 = .ok (.iload_n 2, 1) := by decide +kernel
theorem dX11_isAhead_100 : decode cX11_isAhead 100 = .ok (.invokevirtual 103, 3) := by decide +kernel
theorem dX11_isAhead_103 : decode cX11_isAhead 103 = .ok (.ifCond .ne 7, 3) := by decide +kernel
theorem dX11_isAhead_106 : decode cX11_isAhead 106 = .ok (.iconst 1, 1) := by decide +kernel
theorem dX11_isAhead_107 : decode cX11_isAhead 107 = .ok (.goto 4, 3) := by decide +kernel
theorem dX11_isAhead_110 : decode cX11_isAhead 110 = .ok (.iconst 0, 1) := by decide +kernel
theorem dX11_isAhead_111 : decode cX11_isAhead 111 = .ok (.ireturn, 1) := by decide +kernel
theorem dX11_isAhead_112 : decode cX11_isAhead 112 = .ok (.iconst 0, 1) := by decide +kernel
theorem dX11_isAhead_113 : decode cX11_isAhead 113 = .ok (.ireturn, 1) := by decide +kernel
theorem dX11_firstOf_0 : decode cX11_firstOf 0 = .ok (.aload_n 0, 1) := by decide +kernel
theorem dX11_firstOf_1 : decode cX11_firstOf 1 = .ok (.getfield 7, 3) := by decide +kernel
theorem dX11_firstOf_4 : decode cX11_firstOf 4 = .ok (.bipush 11, 2) := by decide +kernel
theorem dX11_firstOf_6 : decode cX11_firstOf 6 = .ok (.iaload, 1) := by decide +kernel
theorem dX11_firstOf_7 : decode cX11_firstOf 7 = .ok (.ifCond .ne 7, 3) := by decide +kernel
theorem dX11_firstOf_10 : decode cX11_firstOf 10 = .ok (.iconst (-1), 1) := by decide +kernel
theorem dX11_firstOf_11 : decode cX11_firstOf 11 = .ok (.goto 4, 3) := by decide +kernel
theorem dX11_firstOf_14 : decode cX11_firstOf 14 = .ok (.iconst 0, 1) := by decide +kernel
theorem dX11_firstOf_15 : decode cX11_firstOf 15 = .ok (.istore_n 2, 1) := by decide +kernel
theorem dX11_firstOf_16 : decode cX11_firstOf 16 = .ok (.iconst 1, 1) := by decide +kernel
theorem dX11_firstOf_17 : decode cX11_firstOf 17 = .ok (.istore_n 3, 1) := by decide +kernel
theorem dX11_firstOf_18 : decode cX11_firstOf 18 = .ok (.iload_n 3, 1) := by decide +kernel
theorem dX11_firstOf_19 : decode cX11_firstOf 19 = .ok (.aload_n 0, 1) := by decide +kernel
theorem dX11_firstOf_20 : decode cX11_firstOf 20 = .ok (.getfield 7, 3) := by decide +kernel
theorem dX11_firstOf_23 : decode cX11_firstOf 23 = .ok (.bipush 11, 2) := by decide +kernel
theorem dX11_firstOf_25 : decode cX11_firstOf 25 = .ok (.iaload, 1) := by decide +kernel
theorem dX11_firstOf_26 : decode cX11_firstOf 26 = .ok (.if_icmp .ge 21, 3) := by decide +kernel
theorem dX11_firstOf_29 : decode cX11_firstOf 29 = .ok (.aload_n 0, 1) := by decide +kernel
theorem dX11_firstOf_30 : decode cX11_firstOf 30 = .ok (.iload_n 3, 1) := by decide +kernel
theorem dX11_firstOf_31 : decode cX11_firstOf 31 = .ok (.iload_n 2, 1) := by decide +kernel
theorem dX11_firstOf_32 : decode cX11_firstOf 32 = .ok (.iload_n 1, 1) := by decide +kernel
theorem dX11_firstOf_33 : decode cX11_firstOf 33 = .ok (.invokevirtual 107, 3) := by decide +kernel
theorem dX11_firstOf_36 : decode cX11_firstOf 36 = .ok (.ifCond .eq 5, 3) := by decide +kernel
theorem dX11_firstOf_39 : decode cX11_firstOf 39 = .ok (.iload_n 3, 1) := by decide +kernel
theorem dX11_firstOf_40 : decode cX11_firstOf 40 = .ok (.istore_n 2, 1) := by decide +kernel
theorem dX11_firstOf_41 : decode cX11_firstOf 41 = .ok (.iinc 3 1, 3) := by decide +kernel
theorem dX11_firstOf_44 : decode cX11_firstOf 44 = .ok (.goto (-26), 3) := by decide +kernel
theorem dX11_firstOf_47 : decode cX11_firstOf 47 = .ok (.iload_n 2, 1) := by decide +kernel
theorem dX11_firstOf_48 : decode cX11_firstOf 48 = .ok (.ireturn, 1) := by decide +kernel
theorem dX11_drops_0 : decode cX11_drops 0 = .ok (.aload_n 0, 1) := by decide +kernel
theorem dX11_drops_1 : decode cX11_drops 1 = .ok (.getfield 7, 3) := by decide +kernel
theorem dX11_drops_4 : decode cX11_drops 4 = .ok (.bipush 11, 2) := by decide +kernel
theorem dX11_drops_6 : decode cX11_drops 6 = .ok (.dup2, 1) := by decide +kernel
theorem dX11_drops_7 : decode cX11_drops 7 = .ok (.iaload, 1) := by decide +kernel
theorem dX11_drops_8 : decode cX11_drops 8 = .ok (.iconst 1, 1) := by decide +kernel
theorem dX11_drops_9 : decode cX11_drops 9 = .ok (.isub, 1) := by decide +kernel
theorem dX11_drops_10 : decode cX11_drops 10 = .ok (.iastore, 1) := by decide +kernel
theorem dX11_drops_11 : decode cX11_drops 11 = .ok (.sipush 382, 3) := by decide +kernel
theorem dX11_drops_14 : decode cX11_drops 14 = .ok (.iconst 3, 1) := by decide +kernel
theorem dX11_drops_15 : decode cX11_drops 15 = .ok (.iload_n 1, 1) := by decide +kernel
theorem dX11_drops_16 : decode cX11_drops 16 = .ok (.imul, 1) := by decide +kernel
theorem dX11_drops_17 : decode cX11_drops 17 = .ok (.iadd, 1) := by decide +kernel
theorem dX11_drops_18 : decode cX11_drops 18 = .ok (.istore_n 2, 1) := by decide +kernel
theorem dX11_drops_19 : decode cX11_drops 19 = .ok (.iload_n 2, 1) := by decide +kernel
theorem dX11_drops_20 : decode cX11_drops 20 = .ok (.sipush 382, 3) := by decide +kernel
theorem dX11_drops_23 : decode cX11_drops 23 = .ok (.iconst 3, 1) := by decide +kernel
theorem dX11_drops_24 : decode cX11_drops 24 = .ok (.aload_n 0, 1) := by decide +kernel
theorem dX11_drops_25 : decode cX11_drops 25 = .ok (.getfield 7, 3) := by decide +kernel
theorem dX11_drops_28 : decode cX11_drops 28 = .ok (.bipush 11, 2) := by decide +kernel
theorem dX11_drops_30 : decode cX11_drops 30 = .ok (.iaload, 1) := by decide +kernel
theorem dX11_drops_31 : decode cX11_drops 31 = .ok (.imul, 1) := by decide +kernel
theorem dX11_drops_32 : decode cX11_drops 32 = .ok (.iadd, 1) := by decide +kernel
theorem dX11_drops_33 : decode cX11_drops 33 = .ok (.if_icmp .ge 23, 3) := by decide +kernel
theorem dX11_drops_36 : decode cX11_drops 36 = .ok (.aload_n 0, 1) := by decide +kernel
theorem dX11_drops_37 : decode cX11_drops 37 = .ok (.getfield 7, 3) := by decide +kernel
theorem dX11_drops_40 : decode cX11_drops 40 = .ok (.iload_n 2, 1) := by decide +kernel
theorem dX11_drops_41 : decode cX11_drops 41 = .ok (.aload_n 0, 1) := by decide +kernel
theorem dX11_drops_42 : decode cX11_drops 42 = .ok (.getfield 7, 3) := by decide +kernel
theorem dX11_drops_45 : decode cX11_drops 45 = .ok (.iload_n 2, 1) := by decide +kernel
theorem dX11_drops_46 : decode cX11_drops 46 = .ok (.iconst 3, 1) := by decide +kernel
theorem dX11_drops_47 : decode cX11_drops 47 = .ok (.iadd, 1) := by decide +kernel
theorem dX11_drops_48 : decode cX11_drops 48 = .ok (.iaload, 1) := by decide +kernel
theorem dX11_drops_49 : decode cX11_drops 49 = .ok (.iastore, 1) := by decide +kernel
theorem dX11_drops_50 : decode cX11_drops 50 = .ok (.iinc 2 1, 3) := by decide +kernel
theorem dX11_drops_53 : decode cX11_drops 53 = .ok (.goto (-34), 3) := by decide +kernel
theorem dX11_drops_56 : decode cX11_drops 56 = .ok (.return_, 1) := by decide +kernel
theorem dX11_dropsAll_0 : decode cX11_dropsAll 0 = .ok (.iconst 0, 1) := by decide +kernel
theorem dX11_dropsAll_1 : decode cX11_dropsAll 1 = .ok (.istore_n 2, 1) := by decide +kernel
theorem dX11_dropsAll_2 : decode cX11_dropsAll 2 = .ok (.aload_n 0, 1) := by decide +kernel
theorem dX11_dropsAll_3 : decode cX11_dropsAll 3 = .ok (.getfield 7, 3) := by decide +kernel
theorem dX11_dropsAll_6 : decode cX11_dropsAll 6 = .ok (.bipush 11, 2) := by decide +kernel
theorem dX11_dropsAll_8 : decode cX11_dropsAll 8 = .ok (.iaload, 1) := by decide +kernel
theorem dX11_dropsAll_9 : decode cX11_dropsAll 9 = .ok (.iconst 1, 1) := by decide +kernel
theorem dX11_dropsAll_10 : decode cX11_dropsAll 10 = .ok (.isub, 1) := by decide +kernel
theorem dX11_dropsAll_11 : decode cX11_dropsAll 11 = .ok (.istore_n 3, 1) := by decide +kernel
theorem dX11_dropsAll_12 : decode cX11_dropsAll 12 = .ok (.iload_n 3, 1) := by decide +kernel
theorem dX11_dropsAll_13 : decode cX11_dropsAll 13 = .ok (.ifCond .lt 30, 3) := by decide +kernel
theorem dX11_dropsAll_16 : decode cX11_dropsAll 16 = .ok (.aload_n 0, 1) := by decide +kernel
theorem dX11_dropsAll_17 : decode cX11_dropsAll 17 = .ok (.iload_n 3, 1) := by decide +kernel
theorem dX11_dropsAll_18 : decode cX11_dropsAll 18 = .ok (.iconst 1, 1) := by decide +kernel
theorem dX11_dropsAll_19 : decode cX11_dropsAll 19 = .ok (.invokevirtual 97, 3) := by decide +kernel
theorem dX11_dropsAll_22 : decode cX11_dropsAll 22 = .ok (.iload_n 1, 1) := by decide +kernel
theorem dX11_dropsAll_23 : decode cX11_dropsAll 23 = .ok (.if_icmp .eq 6, 3) := by decide +kernel
theorem dX11_dropsAll_26 : decode cX11_dropsAll 26 = .ok (.goto 11, 3) := by decide +kernel
theorem dX11_dropsAll_29 : decode cX11_dropsAll 29 = .ok (.aload_n 0, 1) := by decide +kernel
theorem dX11_dropsAll_30 : decode cX11_dropsAll 30 = .ok (.iload_n 3, 1) := by decide +kernel
theorem dX11_dropsAll_31 : decode cX11_dropsAll 31 = .ok (.invokevirtual 110, 3) := by decide +kernel
theorem dX11_dropsAll_34 : decode cX11_dropsAll 34 = .ok (.iinc 2 1, 3) := by decide +kernel
theorem dX11_dropsAll_37 : decode cX11_dropsAll 37 = .ok (.iinc 3 (-1), 3) := by decide +kernel
theorem dX11_dropsAll_40 : decode cX11_dropsAll 40 = .ok (.goto (-28), 3) := by decide +kernel
theorem dX11_dropsAll_43 : decode cX11_dropsAll 43 = .ok (.iload_n 2, 1) := by decide +kernel
theorem dX11_dropsAll_44 : decode cX11_dropsAll 44 = .ok (.ireturn, 1) := by decide +kernel
theorem dX11_leansBy_0 : decode cX11_leansBy 0 = .ok (.aload_n 0, 1) := by decide +kernel
theorem dX11_leansBy_1 : decode cX11_leansBy 1 = .ok (.getfield 7, 3) := by decide +kernel
theorem dX11_leansBy_4 : decode cX11_leansBy 4 = .ok (.sipush 170, 3) := by decide +kernel
theorem dX11_leansBy_7 : decode cX11_leansBy 7 = .ok (.bipush 16, 2) := by decide +kernel
theorem dX11_leansBy_9 : decode cX11_leansBy 9 = .ok (.iload_n 1, 1) := by decide +kernel
theorem dX11_leansBy_10 : decode cX11_leansBy 10 = .ok (.imul, 1) := by decide +kernel
theorem dX11_leansBy_11 : decode cX11_leansBy 11 = .ok (.iadd, 1) := by decide +kernel
theorem dX11_leansBy_12 : decode cX11_leansBy 12 = .ok (.iload_n 2, 1) := by decide +kernel
theorem dX11_leansBy_13 : decode cX11_leansBy 13 = .ok (.iadd, 1) := by decide +kernel
theorem dX11_leansBy_14 : decode cX11_leansBy 14 = .ok (.bipush (-20), 2) := by decide +kernel
theorem dX11_leansBy_16 : decode cX11_leansBy 16 = .ok (.bipush 20, 2) := by decide +kernel
theorem dX11_leansBy_18 : decode cX11_leansBy 18 = .ok (.aload_n 0, 1) := by decide +kernel
theorem dX11_leansBy_19 : decode cX11_leansBy 19 = .ok (.iload_n 1, 1) := by decide +kernel
theorem dX11_leansBy_20 : decode cX11_leansBy 20 = .ok (.iload_n 2, 1) := by decide +kernel
theorem dX11_leansBy_21 : decode cX11_leansBy 21 = .ok (.invokevirtual 114, 3) := by decide +kernel
theorem dX11_leansBy_24 : decode cX11_leansBy 24 = .ok (.iload_n 3, 1) := by decide +kernel
theorem dX11_leansBy_25 : decode cX11_leansBy 25 = .ok (.iadd, 1) := by decide +kernel
theorem dX11_leansBy_26 : decode cX11_leansBy 26 = .ok (.invokestatic 117, 3) := by decide +kernel
theorem dX11_leansBy_29 : decode cX11_leansBy 29 = .ok (.invokestatic 122, 3) := by decide +kernel
theorem dX11_leansBy_32 : decode cX11_leansBy 32 = .ok (.iastore, 1) := by decide +kernel
theorem dX11_leansBy_33 : decode cX11_leansBy 33 = .ok (.return_, 1) := by decide +kernel
theorem dX11_ends_0 : decode cX11_ends 0 = .ok (.aload_n 0, 1) := by decide +kernel
theorem dX11_ends_1 : decode cX11_ends 1 = .ok (.iload_n 1, 1) := by decide +kernel
theorem dX11_ends_2 : decode cX11_ends 2 = .ok (.iconst 0, 1) := by decide +kernel
theorem dX11_ends_3 : decode cX11_ends 3 = .ok (.invokevirtual 94, 3) := by decide +kernel
theorem dX11_ends_6 : decode cX11_ends 6 = .ok (.istore_n 2, 1) := by decide +kernel
theorem dX11_ends_7 : decode cX11_ends 7 = .ok (.aload_n 0, 1) := by decide +kernel
theorem dX11_ends_8 : decode cX11_ends 8 = .ok (.iload_n 1, 1) := by decide +kernel
theorem dX11_ends_9 : decode cX11_ends 9 = .ok (.iconst 1, 1) := by decide +kernel
theorem dX11_ends_10 : decode cX11_ends 10 = .ok (.invokevirtual 94, 3) := by decide +kernel
theorem dX11_ends_13 : decode cX11_ends 13 = .ok (.istore_n 3, 1) := by decide +kernel
theorem dX11_ends_14 : decode cX11_ends 14 = .ok (.aload_n 0, 1) := by decide +kernel
theorem dX11_ends_15 : decode cX11_ends 15 = .ok (.iload_n 1, 1) := by decide +kernel
theorem dX11_ends_16 : decode cX11_ends 16 = .ok (.iconst 4, 1) := by decide +kernel
theorem dX11_ends_17 : decode cX11_ends 17 = .ok (.invokevirtual 94, 3) := by decide +kernel
theorem dX11_ends_20 : decode cX11_ends 20 = .ok (.iconst 1, 1) := by decide +kernel
theorem dX11_ends_21 : decode cX11_ends 21 = .ok (.if_icmp .ne 7, 3) := by decide +kernel
theorem dX11_ends_24 : decode cX11_ends 24 = .ok (.iconst 1, 1) := by decide +kernel
theorem dX11_ends_25 : decode cX11_ends 25 = .ok (.goto 4, 3) := by decide +kernel
theorem dX11_ends_28 : decode cX11_ends 28 = .ok (.iconst 2, 1) := by decide +kernel
theorem dX11_ends_29 : decode cX11_ends 29 = .ok (.istore 4, 2) := by decide +kernel
theorem dX11_ends_31 : decode cX11_ends 31 = .ok (.iconst 0, 1) := by decide +kernel
theorem dX11_ends_32 : decode cX11_ends 32 = .ok (.istore 5, 2) := by decide +kernel
theorem dX11_ends_34 : decode cX11_ends 34 = .ok (.iload 5, 2) := by decide +kernel
theorem dX11_ends_36 : decode cX11_ends 36 = .ok (.aload_n 0, 1) := by decide +kernel
theorem dX11_ends_37 : decode cX11_ends 37 = .ok (.getfield 7, 3) := by decide +kernel
theorem dX11_ends_40 : decode cX11_ends 40 = .ok (.bipush 8, 2) := by decide +kernel
theorem dX11_ends_42 : decode cX11_ends 42 = .ok (.iaload, 1) := by decide +kernel
theorem dX11_ends_43 : decode cX11_ends 43 = .ok (.if_icmp .ge 66, 3) := by decide +kernel
theorem dX11_ends_46 : decode cX11_ends 46 = .ok (.iload 5, 2) := by decide +kernel
theorem dX11_ends_48 : decode cX11_ends 48 = .ok (.iload_n 2, 1) := by decide +kernel
theorem dX11_ends_49 : decode cX11_ends 49 = .ok (.if_icmp .eq 54, 3) := by decide +kernel
theorem dX11_ends_52 : decode cX11_ends 52 = .ok (.aload_n 0, 1) := by decide +kernel
theorem dX11_ends_53 : decode cX11_ends 53 = .ok (.iload 5, 2) := by decide +kernel
theorem dX11_ends_55 : decode cX11_ends 55 = .ok (.iconst 2, 1) := by decide +kernel
theorem dX11_ends_56 : decode cX11_ends 56 = .ok (.invokevirtual 100, 3) := by decide +kernel
theorem dX11_ends_59 : decode cX11_ends 59 = .ok (.aload_n 0, 1) := by decide +kernel
theorem dX11_ends_60 : decode cX11_ends 60 = .ok (.iload_n 2, 1) := by decide +kernel
theorem dX11_ends_61 : decode cX11_ends 61 = .ok (.iconst 2, 1) := by decide +kernel
theorem dX11_ends_62 : decode cX11_ends 62 = .ok (.invokevirtual 100, 3) := by decide +kernel
theorem dX11_ends_65 : decode cX11_ends 65 = .ok (.isub, 1) := by decide +kernel
theorem dX11_ends_66 : decode cX11_ends 66 = .ok (.invokestatic 125, 3) := by decide +kernel
theorem dX11_ends_69 : decode cX11_ends 69 = .ok (.aload_n 0, 1) := by decide +kernel
theorem dX11_ends_70 : decode cX11_ends 70 = .ok (.getfield 7, 3) := by decide +kernel
theorem dX11_ends_73 : decode cX11_ends 73 = .ok (.iconst 3, 1) := by decide +kernel
theorem dX11_ends_74 : decode cX11_ends 74 = .ok (.iaload, 1) := by decide +kernel
theorem dX11_ends_75 : decode cX11_ends 75 = .ok (.if_icmp .gt 28, 3) := by decide +kernel
theorem dX11_ends_78 : decode cX11_ends 78 = .ok (.aload_n 0, 1) := by decide +kernel
theorem dX11_ends_79 : decode cX11_ends 79 = .ok (.iload 5, 2) := by decide +kernel
theorem dX11_ends_81 : decode cX11_ends 81 = .ok (.iload_n 3, 1) := by decide +kernel
theorem dX11_ends_82 : decode cX11_ends 82 = .ok (.aload_n 0, 1) := by decide +kernel
theorem dX11_ends_83 : decode cX11_ends 83 = .ok (.iload_n 1, 1) := by decide +kernel
theorem dX11_ends_84 : decode cX11_ends 84 = .ok (.iconst 2, 1) := by decide +kernel
theorem dX11_ends_85 : decode cX11_ends 85 = .ok (.invokevirtual 94, 3) := by decide +kernel
theorem dX11_ends_88 : decode cX11_ends 88 = .ok (.iconst 1, 1) := by decide +kernel
theorem dX11_ends_89 : decode cX11_ends 89 = .ok (.if_icmp .ne 8, 3) := by decide +kernel
theorem dX11_ends_92 : decode cX11_ends 92 = .ok (.iload 4, 2) := by decide +kernel
theorem dX11_ends_94 : decode cX11_ends 94 = .ok (.goto 6, 3) := by decide +kernel
theorem dX11_ends_97 : decode cX11_ends 97 = .ok (.iload 4, 2) := by decide +kernel
theorem dX11_ends_99 : decode cX11_ends 99 = .ok (.ineg, 1) := by decide +kernel
theorem dX11_ends_100 : decode cX11_ends 100 = .ok (.invokevirtual 129, 3) := by decide +kernel
theorem dX11_ends_103 : decode cX11_ends 103 = .ok (.iinc 5 1, 3) := by decide +kernel
theorem dX11_ends_106 : decode cX11_ends 106 = .ok (.goto (-72), 3) := by decide +kernel
theorem dX11_ends_109 : decode cX11_ends 109 = .ok (.aload_n 0, 1) := by decide +kernel
theorem dX11_ends_110 : decode cX11_ends 110 = .ok (.iload_n 3, 1) := by decide +kernel
theorem dX11_ends_111 : decode cX11_ends 111 = .ok (.iconst 2, 1) := by decide +kernel
theorem dX11_ends_112 : decode cX11_ends 112 = .ok (.bipush 9, 2) := by decide +kernel
theorem dX11_ends_114 : decode cX11_ends 114 = .ok (.aload_n 0, 1) := by decide +kernel
theorem dX11_ends_115 : decode cX11_ends 115 = .ok (.iload_n 3, 1) := by decide +kernel
theorem dX11_ends_116 : decode cX11_ends 116 = .ok (.iconst 2, 1) := by decide +kernel
theorem dX11_ends_117 : decode cX11_ends 117 = .ok (.invokevirtual 90, 3) := by decide +kernel
theorem dX11_ends_120 : decode cX11_ends 120 = .ok (.iconst 1, 1) := by decide +kernel
theorem dX11_ends_121 : decode cX11_ends 121 = .ok (.iadd, 1) := by decide +kernel
theorem dX11_ends_122 : decode cX11_ends 122 = .ok (.invokestatic 117, 3) := by decide +kernel
theorem dX11_ends_125 : decode cX11_ends 125 = .ok (.invokevirtual 132, 3) := by decide +kernel
theorem dX11_ends_128 : decode cX11_ends 128 = .ok (.aload_n 0, 1) := by decide +kernel
theorem dX11_ends_129 : decode cX11_ends 129 = .ok (.iload_n 1, 1) := by decide +kernel
theorem dX11_ends_130 : decode cX11_ends 130 = .ok (.iconst 0, 1) := by decide +kernel
theorem dX11_ends_131 : decode cX11_ends 131 = .ok (.iconst (-1), 1) := by decide +kernel
theorem dX11_ends_132 : decode cX11_ends 132 = .ok (.invokevirtual 79, 3) := by decide +kernel
theorem dX11_ends_135 : decode cX11_ends 135 = .ok (.aload_n 0, 1) := by decide +kernel
theorem dX11_ends_136 : decode cX11_ends 136 = .ok (.getfield 7, 3) := by decide +kernel
theorem dX11_ends_139 : decode cX11_ends 139 = .ok (.bipush 17, 2) := by decide +kernel
theorem dX11_ends_141 : decode cX11_ends 141 = .ok (.dup2, 1) := by decide +kernel
theorem dX11_ends_142 : decode cX11_ends 142 = .ok (.iaload, 1) := by decide +kernel
theorem dX11_ends_143 : decode cX11_ends 143 = .ok (.iconst 1, 1) := by decide +kernel
theorem dX11_ends_144 : decode cX11_ends 144 = .ok (.iadd, 1) := by decide +kernel
theorem dX11_ends_145 : decode cX11_ends 145 = .ok (.iastore, 1) := by decide +kernel
theorem dX11_ends_146 : decode cX11_ends 146 = .ok (.return_, 1) := by decide +kernel
theorem dX11_fills_0 : decode cX11_fills 0 = .ok (.aload_n 0, 1) := by decide +kernel
theorem dX11_fills_1 : decode cX11_fills 1 = .ok (.aload_n 0, 1) := by decide +kernel
theorem dX11_fills_2 : decode cX11_fills 2 = .ok (.getfield 7, 3) := by decide +kernel
theorem dX11_fills_5 : decode cX11_fills 5 = .ok (.bipush 10, 2) := by decide +kernel
theorem dX11_fills_7 : decode cX11_fills 7 = .ok (.iaload, 1) := by decide +kernel
theorem dX11_fills_8 : decode cX11_fills 8 = .ok (.invokevirtual 135, 3) := by decide +kernel
theorem dX11_fills_11 : decode cX11_fills 11 = .ok (.istore_n 2, 1) := by decide +kernel
theorem dX11_fills_12 : decode cX11_fills 12 = .ok (.iload_n 2, 1) := by decide +kernel
theorem dX11_fills_13 : decode cX11_fills 13 = .ok (.iconst (-1), 1) := by decide +kernel
theorem dX11_fills_14 : decode cX11_fills 14 = .ok (.if_icmp .ne 4, 3) := by decide +kernel
theorem dX11_fills_17 : decode cX11_fills 17 = .ok (.return_, 1) := by decide +kernel
theorem dX11_fills_18 : decode cX11_fills 18 = .ok (.aload_n 0, 1) := by decide +kernel
theorem dX11_fills_19 : decode cX11_fills 19 = .ok (.iload_n 2, 1) := by decide +kernel
theorem dX11_fills_20 : decode cX11_fills 20 = .ok (.iconst 0, 1) := by decide +kernel
theorem dX11_fills_21 : decode cX11_fills 21 = .ok (.invokevirtual 97, 3) := by decide +kernel
theorem dX11_fills_24 : decode cX11_fills 24 = .ok (.istore_n 3, 1) := by decide +kernel
theorem dX11_fills_25 : decode cX11_fills 25 = .ok (.aload_n 0, 1) := by decide +kernel
theorem dX11_fills_26 : decode cX11_fills 26 = .ok (.iload_n 1, 1) := by decide +kernel
theorem dX11_fills_27 : decode cX11_fills 27 = .ok (.iconst 0, 1) := by decide +kernel
theorem dX11_fills_28 : decode cX11_fills 28 = .ok (.iload_n 3, 1) := by decide +kernel
theorem dX11_fills_29 : decode cX11_fills 29 = .ok (.invokevirtual 79, 3) := by decide +kernel
theorem dX11_fills_32 : decode cX11_fills 32 = .ok (.aload_n 0, 1) := by decide +kernel
theorem dX11_fills_33 : decode cX11_fills 33 = .ok (.iload_n 1, 1) := by decide +kernel
theorem dX11_fills_34 : decode cX11_fills 34 = .ok (.iconst 1, 1) := by decide +kernel
theorem dX11_fills_35 : decode cX11_fills 35 = .ok (.aload_n 0, 1) := by decide +kernel
theorem dX11_fills_36 : decode cX11_fills 36 = .ok (.iload_n 2, 1) := by decide +kernel
theorem dX11_fills_37 : decode cX11_fills 37 = .ok (.iconst 1, 1) := by decide +kernel
theorem dX11_fills_38 : decode cX11_fills 38 = .ok (.invokevirtual 97, 3) := by decide +kernel
theorem dX11_fills_41 : decode cX11_fills 41 = .ok (.invokevirtual 79, 3) := by decide +kernel
theorem dX11_fills_44 : decode cX11_fills 44 = .ok (.aload_n 0, 1) := by decide +kernel
theorem dX11_fills_45 : decode cX11_fills 45 = .ok (.iload_n 1, 1) := by decide +kernel
theorem dX11_fills_46 : decode cX11_fills 46 = .ok (.iconst 2, 1) := by decide +kernel
theorem dX11_fills_47 : decode cX11_fills 47 = .ok (.aload_n 0, 1) := by decide +kernel
theorem dX11_fills_48 : decode cX11_fills 48 = .ok (.iload_n 2, 1) := by decide +kernel
theorem dX11_fills_49 : decode cX11_fills 49 = .ok (.iconst 2, 1) := by decide +kernel
theorem dX11_fills_50 : decode cX11_fills 50 = .ok (.invokevirtual 97, 3) := by decide +kernel
theorem dX11_fills_53 : decode cX11_fills 53 = .ok (.invokevirtual 79, 3) := by decide +kernel
theorem dX11_fills_56 : decode cX11_fills 56 = .ok (.aload_n 0, 1) := by decide +kernel
theorem dX11_fills_57 : decode cX11_fills 57 = .ok (.iload_n 1, 1) := by decide +kernel
theorem dX11_fills_58 : decode cX11_fills 58 = .ok (.iconst 3, 1) := by decide +kernel
theorem dX11_fills_59 : decode cX11_fills 59 = .ok (.aload_n 0, 1) := by decide +kernel
theorem dX11_fills_60 : decode cX11_fills 60 = .ok (.getfield 7, 3) := by decide +kernel
theorem dX11_fills_63 : decode cX11_fills 63 = .ok (.iconst 2, 1) := by decide +kernel
theorem dX11_fills_64 : decode cX11_fills 64 = .ok (.iaload, 1) := by decide +kernel
theorem dX11_fills_65 : decode cX11_fills 65 = .ok (.invokevirtual 79, 3) := by decide +kernel
theorem dX11_fills_68 : decode cX11_fills 68 = .ok (.aload_n 0, 1) := by decide +kernel
theorem dX11_fills_69 : decode cX11_fills 69 = .ok (.iload_n 1, 1) := by decide +kernel
theorem dX11_fills_70 : decode cX11_fills 70 = .ok (.iconst 4, 1) := by decide +kernel
theorem dX11_fills_71 : decode cX11_fills 71 = .ok (.iconst 0, 1) := by decide +kernel
theorem dX11_fills_72 : decode cX11_fills 72 = .ok (.invokevirtual 79, 3) := by decide +kernel
theorem dX11_fills_75 : decode cX11_fills 75 = .ok (.aload_n 0, 1) := by decide +kernel
theorem dX11_fills_76 : decode cX11_fills 76 = .ok (.iload_n 3, 1) := by decide +kernel
theorem dX11_fills_77 : decode cX11_fills 77 = .ok (.iconst 5, 1) := by decide +kernel
theorem dX11_fills_78 : decode cX11_fills 78 = .ok (.aload_n 0, 1) := by decide +kernel
theorem dX11_fills_79 : decode cX11_fills 79 = .ok (.iload_n 3, 1) := by decide +kernel
theorem dX11_fills_80 : decode cX11_fills 80 = .ok (.iconst 5, 1) := by decide +kernel
theorem dX11_fills_81 : decode cX11_fills 81 = .ok (.invokevirtual 100, 3) := by decide +kernel
theorem dX11_fills_84 : decode cX11_fills 84 = .ok (.iconst 1, 1) := by decide +kernel
theorem dX11_fills_85 : decode cX11_fills 85 = .ok (.iadd, 1) := by decide +kernel
theorem dX11_fills_86 : decode cX11_fills 86 = .ok (.invokevirtual 138, 3) := by decide +kernel
theorem dX11_fills_89 : decode cX11_fills 89 = .ok (.aload_n 0, 1) := by decide +kernel
theorem dX11_fills_90 : decode cX11_fills 90 = .ok (.aload_n 0, 1) := by decide +kernel
theorem dX11_fills_91 : decode cX11_fills 91 = .ok (.iload_n 2, 1) := by decide +kernel
theorem dX11_fills_92 : decode cX11_fills 92 = .ok (.iconst 1, 1) := by decide +kernel
theorem dX11_fills_93 : decode cX11_fills 93 = .ok (.invokevirtual 97, 3) := by decide +kernel
theorem dX11_fills_96 : decode cX11_fills 96 = .ok (.iconst 4, 1) := by decide +kernel
theorem dX11_fills_97 : decode cX11_fills 97 = .ok (.aload_n 0, 1) := by decide +kernel
theorem dX11_fills_98 : decode cX11_fills 98 = .ok (.iload_n 2, 1) := by decide +kernel
theorem dX11_fills_99 : decode cX11_fills 99 = .ok (.iconst 2, 1) := by decide +kernel
theorem dX11_fills_100 : decode cX11_fills 100 = .ok (.invokevirtual 97, 3) := by decide +kernel
theorem dX11_fills_103 : decode cX11_fills 103 = .ok (.invokevirtual 132, 3) := by decide +kernel
theorem dX11_fills_106 : decode cX11_fills 106 = .ok (.aload_n 0, 1) := by decide +kernel
theorem dX11_fills_107 : decode cX11_fills 107 = .ok (.iload_n 2, 1) := by decide +kernel
theorem dX11_fills_108 : decode cX11_fills 108 = .ok (.invokevirtual 110, 3) := by decide +kernel
theorem dX11_fills_111 : decode cX11_fills 111 = .ok (.return_, 1) := by decide +kernel
theorem dX11_minutePasses_0 : decode cX11_minutePasses 0 = .ok (.aload_n 0, 1) := by decide +kernel
theorem dX11_minutePasses_1 : decode cX11_minutePasses 1 = .ok (.getfield 7, 3) := by decide +kernel
theorem dX11_minutePasses_4 : decode cX11_minutePasses 4 = .ok (.bipush 7, 2) := by decide +kernel
theorem dX11_minutePasses_6 : decode cX11_minutePasses 6 = .ok (.dup2, 1) := by decide +kernel
theorem dX11_minutePasses_7 : decode cX11_minutePasses 7 = .ok (.iaload, 1) := by decide +kernel
theorem dX11_minutePasses_8 : decode cX11_minutePasses 8 = .ok (.iconst 1, 1) := by decide +kernel
theorem dX11_minutePasses_9 : decode cX11_minutePasses 9 = .ok (.iadd, 1) := by decide +kernel
theorem dX11_minutePasses_10 : decode cX11_minutePasses 10 = .ok (.iastore, 1) := by decide +kernel
theorem dX11_minutePasses_11 : decode cX11_minutePasses 11 = .ok (.iconst 0, 1) := by decide +kernel
theorem dX11_minutePasses_12 : decode cX11_minutePasses 12 = .ok (.istore_n 1, 1) := by decide +kernel
theorem dX11_minutePasses_13 : decode cX11_minutePasses 13 = .ok (.iload_n 1, 1) := by decide +kernel
theorem dX11_minutePasses_14 : decode cX11_minutePasses 14 = .ok (.aload_n 0, 1) := by decide +kernel
theorem dX11_minutePasses_15 : decode cX11_minutePasses 15 = .ok (.getfield 7, 3) := by decide +kernel
theorem dX11_minutePasses_18 : decode cX11_minutePasses 18 = .ok (.bipush 9, 2) := by decide +kernel
theorem dX11_minutePasses_20 : decode cX11_minutePasses 20 = .ok (.iaload, 1) := by decide +kernel
theorem dX11_minutePasses_21 : decode cX11_minutePasses 21 = .ok (.if_icmp .ge 52, 3) := by decide +kernel
theorem dX11_minutePasses_24 : decode cX11_minutePasses 24 = .ok (.aload_n 0, 1) := by decide +kernel
theorem dX11_minutePasses_25 : decode cX11_minutePasses 25 = .ok (.iload_n 1, 1) := by decide +kernel
theorem dX11_minutePasses_26 : decode cX11_minutePasses 26 = .ok (.invokevirtual 141, 3) := by decide +kernel
theorem dX11_minutePasses_29 : decode cX11_minutePasses 29 = .ok (.ifCond .eq 38, 3) := by decide +kernel
theorem dX11_minutePasses_32 : decode cX11_minutePasses 32 = .ok (.aload_n 0, 1) := by decide +kernel
theorem dX11_minutePasses_33 : decode cX11_minutePasses 33 = .ok (.getfield 7, 3) := by decide +kernel
theorem dX11_minutePasses_36 : decode cX11_minutePasses 36 = .ok (.bipush 7, 2) := by decide +kernel
theorem dX11_minutePasses_38 : decode cX11_minutePasses 38 = .ok (.iaload, 1) := by decide +kernel
theorem dX11_minutePasses_39 : decode cX11_minutePasses 39 = .ok (.aload_n 0, 1) := by decide +kernel
theorem dX11_minutePasses_40 : decode cX11_minutePasses 40 = .ok (.getfield 7, 3) := by decide +kernel
theorem dX11_minutePasses_43 : decode cX11_minutePasses 43 = .ok (.iconst 4, 1) := by decide +kernel
theorem dX11_minutePasses_44 : decode cX11_minutePasses 44 = .ok (.iaload, 1) := by decide +kernel
theorem dX11_minutePasses_45 : decode cX11_minutePasses 45 = .ok (.irem, 1) := by decide +kernel
theorem dX11_minutePasses_46 : decode cX11_minutePasses 46 = .ok (.ifCond .ne 21, 3) := by decide +kernel
theorem dX11_minutePasses_49 : decode cX11_minutePasses 49 = .ok (.aload_n 0, 1) := by decide +kernel
theorem dX11_minutePasses_50 : decode cX11_minutePasses 50 = .ok (.iload_n 1, 1) := by decide +kernel
theorem dX11_minutePasses_51 : decode cX11_minutePasses 51 = .ok (.iconst 2, 1) := by decide +kernel
theorem dX11_minutePasses_52 : decode cX11_minutePasses 52 = .ok (.iconst 0, 1) := by decide +kernel
theorem dX11_minutePasses_53 : decode cX11_minutePasses 53 = .ok (.aload_n 0, 1) := by decide +kernel
theorem dX11_minutePasses_54 : decode cX11_minutePasses 54 = .ok (.iload_n 1, 1) := by decide +kernel
theorem dX11_minutePasses_55 : decode cX11_minutePasses 55 = .ok (.iconst 2, 1) := by decide +kernel
theorem dX11_minutePasses_56 : decode cX11_minutePasses 56 = .ok (.invokevirtual 90, 3) := by decide +kernel
theorem dX11_minutePasses_59 : decode cX11_minutePasses 59 = .ok (.iconst 1, 1) := by decide +kernel
theorem dX11_minutePasses_60 : decode cX11_minutePasses 60 = .ok (.isub, 1) := by decide +kernel
theorem dX11_minutePasses_61 : decode cX11_minutePasses 61 = .ok (.invokestatic 122, 3) := by decide +kernel
theorem dX11_minutePasses_64 : decode cX11_minutePasses 64 = .ok (.invokevirtual 132, 3) := by decide +kernel
theorem dX11_minutePasses_67 : decode cX11_minutePasses 67 = .ok (.iinc 1 1, 3) := by decide +kernel
theorem dX11_minutePasses_70 : decode cX11_minutePasses 70 = .ok (.goto (-57), 3) := by decide +kernel
theorem dX11_minutePasses_73 : decode cX11_minutePasses 73 = .ok (.iconst 0, 1) := by decide +kernel
theorem dX11_minutePasses_74 : decode cX11_minutePasses 74 = .ok (.istore_n 1, 1) := by decide +kernel
theorem dX11_minutePasses_75 : decode cX11_minutePasses 75 = .ok (.iload_n 1, 1) := by decide +kernel
theorem dX11_minutePasses_76 : decode cX11_minutePasses 76 = .ok (.aload_n 0, 1) := by decide +kernel
theorem dX11_minutePasses_77 : decode cX11_minutePasses 77 = .ok (.getfield 7, 3) := by decide +kernel
theorem dX11_minutePasses_80 : decode cX11_minutePasses 80 = .ok (.iconst 0, 1) := by decide +kernel
theorem dX11_minutePasses_81 : decode cX11_minutePasses 81 = .ok (.iaload, 1) := by decide +kernel
theorem dX11_minutePasses_82 : decode cX11_minutePasses 82 = .ok (.if_icmp .ge 50, 3) := by decide +kernel
theorem dX11_minutePasses_85 : decode cX11_minutePasses 85 = .ok (.aload_n 0, 1) := by decide +kernel
theorem dX11_minutePasses_86 : decode cX11_minutePasses 86 = .ok (.iload_n 1, 1) := by decide +kernel
theorem dX11_minutePasses_87 : decode cX11_minutePasses 87 = .ok (.iconst 0, 1) := by decide +kernel
theorem dX11_minutePasses_88 : decode cX11_minutePasses 88 = .ok (.invokevirtual 94, 3) := by decide +kernel
theorem dX11_minutePasses_91 : decode cX11_minutePasses 91 = .ok (.iconst (-1), 1) := by decide +kernel
theorem dX11_minutePasses_92 : decode cX11_minutePasses 92 = .ok (.if_icmp .ne 6, 3) := by decide +kernel
theorem dX11_minutePasses_95 : decode cX11_minutePasses 95 = .ok (.goto 31, 3) := by decide +kernel
theorem dX11_minutePasses_98 : decode cX11_minutePasses 98 = .ok (.aload_n 0, 1) := by decide +kernel
theorem dX11_minutePasses_99 : decode cX11_minutePasses 99 = .ok (.iload_n 1, 1) := by decide +kernel
theorem dX11_minutePasses_100 : decode cX11_minutePasses 100 = .ok (.iconst 3, 1) := by decide +kernel
theorem dX11_minutePasses_101 : decode cX11_minutePasses 101 = .ok (.aload_n 0, 1) := by decide +kernel
theorem dX11_minutePasses_102 : decode cX11_minutePasses 102 = .ok (.iload_n 1, 1) := by decide +kernel
theorem dX11_minutePasses_103 : decode cX11_minutePasses 103 = .ok (.iconst 3, 1) := by decide +kernel
theorem dX11_minutePasses_104 : decode cX11_minutePasses 104 = .ok (.invokevirtual 94, 3) := by decide +kernel
theorem dX11_minutePasses_107 : decode cX11_minutePasses 107 = .ok (.iconst 1, 1) := by decide +kernel
theorem dX11_minutePasses_108 : decode cX11_minutePasses 108 = .ok (.isub, 1) := by decide +kernel
theorem dX11_minutePasses_109 : decode cX11_minutePasses 109 = .ok (.invokevirtual 79, 3) := by decide +kernel
theorem dX11_minutePasses_112 : decode cX11_minutePasses 112 = .ok (.aload_n 0, 1) := by decide +kernel
theorem dX11_minutePasses_113 : decode cX11_minutePasses 113 = .ok (.iload_n 1, 1) := by decide +kernel
theorem dX11_minutePasses_114 : decode cX11_minutePasses 114 = .ok (.iconst 3, 1) := by decide +kernel
theorem dX11_minutePasses_115 : decode cX11_minutePasses 115 = .ok (.invokevirtual 94, 3) := by decide +kernel
theorem dX11_minutePasses_118 : decode cX11_minutePasses 118 = .ok (.ifCond .ne 8, 3) := by decide +kernel
theorem dX11_minutePasses_121 : decode cX11_minutePasses 121 = .ok (.aload_n 0, 1) := by decide +kernel
theorem dX11_minutePasses_122 : decode cX11_minutePasses 122 = .ok (.iload_n 1, 1) := by decide +kernel
theorem dX11_minutePasses_123 : decode cX11_minutePasses 123 = .ok (.invokevirtual 144, 3) := by decide +kernel
theorem dX11_minutePasses_126 : decode cX11_minutePasses 126 = .ok (.iinc 1 1, 3) := by decide +kernel
theorem dX11_minutePasses_129 : decode cX11_minutePasses 129 = .ok (.goto (-54), 3) := by decide +kernel
theorem dX11_minutePasses_132 : decode cX11_minutePasses 132 = .ok (.iconst 0, 1) := by decide +kernel
theorem dX11_minutePasses_133 : decode cX11_minutePasses 133 = .ok (.istore_n 1, 1) := by decide +kernel
theorem dX11_minutePasses_134 : decode cX11_minutePasses 134 = .ok (.iload_n 1, 1) := by decide +kernel
theorem dX11_minutePasses_135 : decode cX11_minutePasses 135 = .ok (.aload_n 0, 1) := by decide +kernel
theorem dX11_minutePasses_136 : decode cX11_minutePasses 136 = .ok (.getfield 7, 3) := by decide +kernel
theorem dX11_minutePasses_139 : decode cX11_minutePasses 139 = .ok (.iconst 0, 1) := by decide +kernel
theorem dX11_minutePasses_140 : decode cX11_minutePasses 140 = .ok (.iaload, 1) := by decide +kernel
theorem dX11_minutePasses_141 : decode cX11_minutePasses 141 = .ok (.if_icmp .ge 24, 3) := by decide +kernel
theorem dX11_minutePasses_144 : decode cX11_minutePasses 144 = .ok (.aload_n 0, 1) := by decide +kernel
theorem dX11_minutePasses_145 : decode cX11_minutePasses 145 = .ok (.iload_n 1, 1) := by decide +kernel
theorem dX11_minutePasses_146 : decode cX11_minutePasses 146 = .ok (.iconst 0, 1) := by decide +kernel
theorem dX11_minutePasses_147 : decode cX11_minutePasses 147 = .ok (.invokevirtual 94, 3) := by decide +kernel
theorem dX11_minutePasses_150 : decode cX11_minutePasses 150 = .ok (.iconst (-1), 1) := by decide +kernel
theorem dX11_minutePasses_151 : decode cX11_minutePasses 151 = .ok (.if_icmp .ne 8, 3) := by decide +kernel
theorem dX11_minutePasses_154 : decode cX11_minutePasses 154 = .ok (.aload_n 0, 1) := by decide +kernel
theorem dX11_minutePasses_155 : decode cX11_minutePasses 155 = .ok (.iload_n 1, 1) := by decide +kernel
theorem dX11_minutePasses_156 : decode cX11_minutePasses 156 = .ok (.invokevirtual 147, 3) := by decide +kernel
theorem dX11_minutePasses_159 : decode cX11_minutePasses 159 = .ok (.iinc 1 1, 3) := by decide +kernel
theorem dX11_minutePasses_162 : decode cX11_minutePasses 162 = .ok (.goto (-28), 3) := by decide +kernel
theorem dX11_minutePasses_165 : decode cX11_minutePasses 165 = .ok (.return_, 1) := by decide +kernel
theorem dX11_votes_0 : decode cX11_votes 0 = .ok (.aload_n 0, 1) := by decide +kernel
theorem dX11_votes_1 : decode cX11_votes 1 = .ok (.iload_n 1, 1) := by decide +kernel
theorem dX11_votes_2 : decode cX11_votes 2 = .ok (.iconst 4, 1) := by decide +kernel
theorem dX11_votes_3 : decode cX11_votes 3 = .ok (.invokevirtual 100, 3) := by decide +kernel
theorem dX11_votes_6 : decode cX11_votes 6 = .ok (.ifCond .le 16, 3) := by decide +kernel
theorem dX11_votes_9 : decode cX11_votes 9 = .ok (.aload_n 0, 1) := by decide +kernel
theorem dX11_votes_10 : decode cX11_votes 10 = .ok (.iload_n 1, 1) := by decide +kernel
theorem dX11_votes_11 : decode cX11_votes 11 = .ok (.iload_n 2, 1) := by decide +kernel
theorem dX11_votes_12 : decode cX11_votes 12 = .ok (.invokevirtual 114, 3) := by decide +kernel
theorem dX11_votes_15 : decode cX11_votes 15 = .ok (.ifCond .eq 7, 3) := by decide +kernel
theorem dX11_votes_18 : decode cX11_votes 18 = .ok (.iconst 1, 1) := by decide +kernel
theorem dX11_votes_19 : decode cX11_votes 19 = .ok (.goto 4, 3) := by decide +kernel
theorem dX11_votes_22 : decode cX11_votes 22 = .ok (.iconst 0, 1) := by decide +kernel
theorem dX11_votes_23 : decode cX11_votes 23 = .ok (.ireturn, 1) := by decide +kernel
theorem dX11_heft_0 : decode cX11_heft 0 = .ok (.iconst 0, 1) := by decide +kernel
theorem dX11_heft_1 : decode cX11_heft 1 = .ok (.istore_n 3, 1) := by decide +kernel
theorem dX11_heft_2 : decode cX11_heft 2 = .ok (.iconst 0, 1) := by decide +kernel
theorem dX11_heft_3 : decode cX11_heft 3 = .ok (.istore 4, 2) := by decide +kernel
theorem dX11_heft_5 : decode cX11_heft 5 = .ok (.iload 4, 2) := by decide +kernel
theorem dX11_heft_7 : decode cX11_heft 7 = .ok (.aload_n 0, 1) := by decide +kernel
theorem dX11_heft_8 : decode cX11_heft 8 = .ok (.getfield 7, 3) := by decide +kernel
theorem dX11_heft_11 : decode cX11_heft 11 = .ok (.bipush 8, 2) := by decide +kernel
theorem dX11_heft_13 : decode cX11_heft 13 = .ok (.iaload, 1) := by decide +kernel
theorem dX11_heft_14 : decode cX11_heft 14 = .ok (.if_icmp .ge 48, 3) := by decide +kernel
theorem dX11_heft_17 : decode cX11_heft 17 = .ok (.aload_n 0, 1) := by decide +kernel
theorem dX11_heft_18 : decode cX11_heft 18 = .ok (.iload 4, 2) := by decide +kernel
theorem dX11_heft_20 : decode cX11_heft 20 = .ok (.iload_n 1, 1) := by decide +kernel
theorem dX11_heft_21 : decode cX11_heft 21 = .ok (.invokevirtual 150, 3) := by decide +kernel
theorem dX11_heft_24 : decode cX11_heft 24 = .ok (.ifCond .eq 32, 3) := by decide +kernel
theorem dX11_heft_27 : decode cX11_heft 27 = .ok (.aload_n 0, 1) := by decide +kernel
theorem dX11_heft_28 : decode cX11_heft 28 = .ok (.iload 4, 2) := by decide +kernel
theorem dX11_heft_30 : decode cX11_heft 30 = .ok (.iload_n 1, 1) := by decide +kernel
theorem dX11_heft_31 : decode cX11_heft 31 = .ok (.invokevirtual 114, 3) := by decide +kernel
theorem dX11_heft_34 : decode cX11_heft 34 = .ok (.ifCond .le 7, 3) := by decide +kernel
theorem dX11_heft_37 : decode cX11_heft 37 = .ok (.iconst 1, 1) := by decide +kernel
theorem dX11_heft_38 : decode cX11_heft 38 = .ok (.goto 4, 3) := by decide +kernel
theorem dX11_heft_41 : decode cX11_heft 41 = .ok (.iconst 0, 1) := by decide +kernel
theorem dX11_heft_42 : decode cX11_heft 42 = .ok (.iload_n 2, 1) := by decide +kernel
theorem dX11_heft_43 : decode cX11_heft 43 = .ok (.if_icmp .ne 13, 3) := by decide +kernel
theorem dX11_heft_46 : decode cX11_heft 46 = .ok (.iload_n 3, 1) := by decide +kernel
theorem dX11_heft_47 : decode cX11_heft 47 = .ok (.aload_n 0, 1) := by decide +kernel
theorem dX11_heft_48 : decode cX11_heft 48 = .ok (.iload 4, 2) := by decide +kernel
theorem dX11_heft_50 : decode cX11_heft 50 = .ok (.iconst 1, 1) := by decide +kernel
theorem dX11_heft_51 : decode cX11_heft 51 = .ok (.invokevirtual 100, 3) := by decide +kernel
theorem dX11_heft_54 : decode cX11_heft 54 = .ok (.iadd, 1) := by decide +kernel
theorem dX11_heft_55 : decode cX11_heft 55 = .ok (.istore_n 3, 1) := by decide +kernel
theorem dX11_heft_56 : decode cX11_heft 56 = .ok (.iinc 4 1, 3) := by decide +kernel
theorem dX11_heft_59 : decode cX11_heft 59 = .ok (.goto (-54), 3) := by decide +kernel
theorem dX11_heft_62 : decode cX11_heft 62 = .ok (.iload_n 3, 1) := by decide +kernel
theorem dX11_heft_63 : decode cX11_heft 63 = .ok (.ireturn, 1) := by decide +kernel
theorem dX11_voters_0 : decode cX11_voters 0 = .ok (.iconst 0, 1) := by decide +kernel
theorem dX11_voters_1 : decode cX11_voters 1 = .ok (.istore_n 2, 1) := by decide +kernel
theorem dX11_voters_2 : decode cX11_voters 2 = .ok (.iconst 0, 1) := by decide +kernel
theorem dX11_voters_3 : decode cX11_voters 3 = .ok (.istore_n 3, 1) := by decide +kernel
theorem dX11_voters_4 : decode cX11_voters 4 = .ok (.iload_n 3, 1) := by decide +kernel
theorem dX11_voters_5 : decode cX11_voters 5 = .ok (.aload_n 0, 1) := by decide +kernel
theorem dX11_voters_6 : decode cX11_voters 6 = .ok (.getfield 7, 3) := by decide +kernel
theorem dX11_voters_9 : decode cX11_voters 9 = .ok (.bipush 8, 2) := by decide +kernel
theorem dX11_voters_11 : decode cX11_voters 11 = .ok (.iaload, 1) := by decide +kernel
theorem dX11_voters_12 : decode cX11_voters 12 = .ok (.if_icmp .ge 21, 3) := by decide +kernel
theorem dX11_voters_15 : decode cX11_voters 15 = .ok (.aload_n 0, 1) := by decide +kernel
theorem dX11_voters_16 : decode cX11_voters 16 = .ok (.iload_n 3, 1) := by decide +kernel
theorem dX11_voters_17 : decode cX11_voters 17 = .ok (.iload_n 1, 1) := by decide +kernel
theorem dX11_voters_18 : decode cX11_voters 18 = .ok (.invokevirtual 150, 3) := by decide +kernel
theorem dX11_voters_21 : decode cX11_voters 21 = .ok (.ifCond .eq 6, 3) := by decide +kernel
theorem dX11_voters_24 : decode cX11_voters 24 = .ok (.iinc 2 1, 3) := by decide +kernel
theorem dX11_voters_27 : decode cX11_voters 27 = .ok (.iinc 3 1, 3) := by decide +kernel
theorem dX11_voters_30 : decode cX11_voters 30 = .ok (.goto (-26), 3) := by decide +kernel
theorem dX11_voters_33 : decode cX11_voters 33 = .ok (.iload_n 2, 1) := by decide +kernel
theorem dX11_voters_34 : decode cX11_voters 34 = .ok (.ireturn, 1) := by decide +kernel
theorem dX11_passes_0 : decode cX11_passes 0 = .ok (.aload_n 0, 1) := by decide +kernel
theorem dX11_passes_1 : decode cX11_passes 1 = .ok (.iload_n 1, 1) := by decide +kernel
theorem dX11_passes_2 : decode cX11_passes 2 = .ok (.iconst 1, 1) := by decide +kernel
theorem dX11_passes_3 : decode cX11_passes 3 = .ok (.invokevirtual 154, 3) := by decide +kernel
theorem dX11_passes_6 : decode cX11_passes 6 = .ok (.aload_n 0, 1) := by decide +kernel
theorem dX11_passes_7 : decode cX11_passes 7 = .ok (.iload_n 1, 1) := by decide +kernel
theorem dX11_passes_8 : decode cX11_passes 8 = .ok (.iconst 0, 1) := by decide +kernel
theorem dX11_passes_9 : decode cX11_passes 9 = .ok (.invokevirtual 154, 3) := by decide +kernel
theorem dX11_passes_12 : decode cX11_passes 12 = .ok (.if_icmp .le 7, 3) := by decide +kernel
theorem dX11_passes_15 : decode cX11_passes 15 = .ok (.iconst 1, 1) := by decide +kernel
theorem dX11_passes_16 : decode cX11_passes 16 = .ok (.goto 4, 3) := by decide +kernel
theorem dX11_passes_19 : decode cX11_passes 19 = .ok (.iconst 0, 1) := by decide +kernel
theorem dX11_passes_20 : decode cX11_passes 20 = .ok (.ireturn, 1) := by decide +kernel
theorem dX11_prevents_0 : decode cX11_prevents 0 = .ok (.aload_n 0, 1) := by decide +kernel
theorem dX11_prevents_1 : decode cX11_prevents 1 = .ok (.iload_n 1, 1) := by decide +kernel
theorem dX11_prevents_2 : decode cX11_prevents 2 = .ok (.invokevirtual 141, 3) := by decide +kernel
theorem dX11_prevents_5 : decode cX11_prevents 5 = .ok (.ifCond .ne 5, 3) := by decide +kernel
theorem dX11_prevents_8 : decode cX11_prevents 8 = .ok (.iconst 1, 1) := by decide +kernel
theorem dX11_prevents_9 : decode cX11_prevents 9 = .ok (.ireturn, 1) := by decide +kernel
theorem dX11_prevents_10 : decode cX11_prevents 10 = .ok (.aload_n 0, 1) := by decide +kernel
theorem dX11_prevents_11 : decode cX11_prevents 11 = .ok (.iload_n 1, 1) := by decide +kernel
theorem dX11_prevents_12 : decode cX11_prevents 12 = .ok (.iconst 2, 1) := by decide +kernel
theorem dX11_prevents_13 : decode cX11_prevents 13 = .ok (.invokevirtual 90, 3) := by decide +kernel
theorem dX11_prevents_16 : decode cX11_prevents 16 = .ok (.aload_n 0, 1) := by decide +kernel
theorem dX11_prevents_17 : decode cX11_prevents 17 = .ok (.getfield 7, 3) := by decide +kernel
theorem dX11_prevents_20 : decode cX11_prevents 20 = .ok (.iconst 5, 1) := by decide +kernel
theorem dX11_prevents_21 : decode cX11_prevents 21 = .ok (.iaload, 1) := by decide +kernel
theorem dX11_prevents_22 : decode cX11_prevents 22 = .ok (.if_icmp .ge 5, 3) := by decide +kernel
theorem dX11_prevents_25 : decode cX11_prevents 25 = .ok (.iconst 2, 1) := by decide +kernel
theorem dX11_prevents_26 : decode cX11_prevents 26 = .ok (.ireturn, 1) := by decide +kernel
theorem dX11_prevents_27 : decode cX11_prevents 27 = .ok (.aload_n 0, 1) := by decide +kernel
theorem dX11_prevents_28 : decode cX11_prevents 28 = .ok (.iload_n 1, 1) := by decide +kernel
theorem dX11_prevents_29 : decode cX11_prevents 29 = .ok (.invokevirtual 158, 3) := by decide +kernel
theorem dX11_prevents_32 : decode cX11_prevents 32 = .ok (.ifCond .eq 5, 3) := by decide +kernel
theorem dX11_prevents_35 : decode cX11_prevents 35 = .ok (.iconst 3, 1) := by decide +kernel
theorem dX11_prevents_36 : decode cX11_prevents 36 = .ok (.ireturn, 1) := by decide +kernel
theorem dX11_prevents_37 : decode cX11_prevents 37 = .ok (.aload_n 0, 1) := by decide +kernel
theorem dX11_prevents_38 : decode cX11_prevents 38 = .ok (.iload_n 1, 1) := by decide +kernel
theorem dX11_prevents_39 : decode cX11_prevents 39 = .ok (.invokevirtual 161, 3) := by decide +kernel
theorem dX11_prevents_42 : decode cX11_prevents 42 = .ok (.aload_n 0, 1) := by decide +kernel
theorem dX11_prevents_43 : decode cX11_prevents 43 = .ok (.getfield 7, 3) := by decide +kernel
theorem dX11_prevents_46 : decode cX11_prevents 46 = .ok (.bipush 6, 2) := by decide +kernel
theorem dX11_prevents_48 : decode cX11_prevents 48 = .ok (.iaload, 1) := by decide +kernel
theorem dX11_prevents_49 : decode cX11_prevents 49 = .ok (.if_icmp .ge 7, 3) := by decide +kernel
theorem dX11_prevents_52 : decode cX11_prevents 52 = .ok (.iconst 4, 1) := by decide +kernel
theorem dX11_prevents_53 : decode cX11_prevents 53 = .ok (.goto 4, 3) := by decide +kernel
theorem dX11_prevents_56 : decode cX11_prevents 56 = .ok (.iconst 0, 1) := by decide +kernel
theorem dX11_prevents_57 : decode cX11_prevents 57 = .ok (.ireturn, 1) := by decide +kernel
theorem dX11_isDecisive_0 : decode cX11_isDecisive 0 = .ok (.aload_n 0, 1) := by decide +kernel
theorem dX11_isDecisive_1 : decode cX11_isDecisive 1 = .ok (.iload_n 1, 1) := by decide +kernel
theorem dX11_isDecisive_2 : decode cX11_isDecisive 2 = .ok (.iload_n 2, 1) := by decide +kernel
theorem dX11_isDecisive_3 : decode cX11_isDecisive 3 = .ok (.invokevirtual 150, 3) := by decide +kernel
theorem dX11_isDecisive_6 : decode cX11_isDecisive 6 = .ok (.ifCond .ne 5, 3) := by decide +kernel
theorem dX11_isDecisive_9 : decode cX11_isDecisive 9 = .ok (.iconst 0, 1) := by decide +kernel
theorem dX11_isDecisive_10 : decode cX11_isDecisive 10 = .ok (.ireturn, 1) := by decide +kernel
theorem dX11_isDecisive_11 : decode cX11_isDecisive 11 = .ok (.aload_n 0, 1) := by decide +kernel
theorem dX11_isDecisive_12 : decode cX11_isDecisive 12 = .ok (.iload_n 2, 1) := by decide +kernel
theorem dX11_isDecisive_13 : decode cX11_isDecisive 13 = .ok (.iconst 1, 1) := by decide +kernel
theorem dX11_isDecisive_14 : decode cX11_isDecisive 14 = .ok (.invokevirtual 154, 3) := by decide +kernel
theorem dX11_isDecisive_17 : decode cX11_isDecisive 17 = .ok (.aload_n 0, 1) := by decide +kernel
theorem dX11_isDecisive_18 : decode cX11_isDecisive 18 = .ok (.iload_n 2, 1) := by decide +kernel
theorem dX11_isDecisive_19 : decode cX11_isDecisive 19 = .ok (.iconst 0, 1) := by decide +kernel
theorem dX11_isDecisive_20 : decode cX11_isDecisive 20 = .ok (.invokevirtual 154, 3) := by decide +kernel
theorem dX11_isDecisive_23 : decode cX11_isDecisive 23 = .ok (.isub, 1) := by decide +kernel
theorem dX11_isDecisive_24 : decode cX11_isDecisive 24 = .ok (.istore_n 3, 1) := by decide +kernel
theorem dX11_isDecisive_25 : decode cX11_isDecisive 25 = .ok (.iload_n 3, 1) := by decide +kernel
theorem dX11_isDecisive_26 : decode cX11_isDecisive 26 = .ok (.aload_n 0, 1) := by decide +kernel
theorem dX11_isDecisive_27 : decode cX11_isDecisive 27 = .ok (.iload_n 1, 1) := by decide +kernel
theorem dX11_isDecisive_28 : decode cX11_isDecisive 28 = .ok (.iload_n 2, 1) := by decide +kernel
theorem dX11_isDecisive_29 : decode cX11_isDecisive 29 = .ok (.invokevirtual 114, 3) := by decide +kernel
theorem dX11_isDecisive_32 : decode cX11_isDecisive 32 = .ok (.ifCond .le 8, 3) := by decide +kernel
theorem dX11_isDecisive_35 : decode cX11_isDecisive 35 = .ok (.bipush (-2), 2) := by decide +kernel
theorem dX11_isDecisive_37 : decode cX11_isDecisive 37 = .ok (.goto 4, 3) := by decide +kernel
theorem dX11_isDecisive_40 : decode cX11_isDecisive 40 = .ok (.iconst 2, 1) := by decide +kernel
theorem dX11_isDecisive_41 : decode cX11_isDecisive 41 = .ok (.aload_n 0, 1) := by decide +kernel
theorem dX11_isDecisive_42 : decode cX11_isDecisive 42 = .ok (.iload_n 1, 1) := by decide +kernel
theorem dX11_isDecisive_43 : decode cX11_isDecisive 43 = .ok (.iconst 1, 1) := by decide +kernel
theorem dX11_isDecisive_44 : decode cX11_isDecisive 44 = .ok (.invokevirtual 100, 3) := by decide +kernel
theorem dX11_isDecisive_47 : decode cX11_isDecisive 47 = .ok (.imul, 1) := by decide +kernel
theorem dX11_isDecisive_48 : decode cX11_isDecisive 48 = .ok (.iadd, 1) := by decide +kernel
theorem dX11_isDecisive_49 : decode cX11_isDecisive 49 = .ok (.istore 4, 2) := by decide +kernel
theorem dX11_isDecisive_51 : decode cX11_isDecisive 51 = .ok (.iload_n 3, 1) := by decide +kernel
theorem dX11_isDecisive_52 : decode cX11_isDecisive 52 = .ok (.ifCond .le 7, 3) := by decide +kernel
theorem dX11_isDecisive_55 : decode cX11_isDecisive 55 = .ok (.iconst 1, 1) := by decide +kernel
theorem dX11_isDecisive_56 : decode cX11_isDecisive 56 = .ok (.goto 4, 3) := by decide +kernel
theorem dX11_isDecisive_59 : decode cX11_isDecisive 59 = .ok (.iconst 0, 1) := by decide +kernel
theorem dX11_isDecisive_60 : decode cX11_isDecisive 60 = .ok (.iload 4, 2) := by decide +kernel
theorem dX11_isDecisive_62 : decode cX11_isDecisive 62 = .ok (.ifCond .le 7, 3) := by decide +kernel
theorem dX11_isDecisive_65 : decode cX11_isDecisive 65 = .ok (.iconst 1, 1) := by decide +kernel
theorem dX11_isDecisive_66 : decode cX11_isDecisive 66 = .ok (.goto 4, 3) := by decide +kernel
theorem dX11_isDecisive_69 : decode cX11_isDecisive 69 = .ok (.iconst 0, 1) := by decide +kernel
theorem dX11_isDecisive_70 : decode cX11_isDecisive 70 = .ok (.if_icmp .eq 7, 3) := by decide +kernel
theorem dX11_isDecisive_73 : decode cX11_isDecisive 73 = .ok (.iconst 1, 1) := by decide +kernel
theorem dX11_isDecisive_74 : decode cX11_isDecisive 74 = .ok (.goto 4, 3) := by decide +kernel
theorem dX11_isDecisive_77 : decode cX11_isDecisive 77 = .ok (.iconst 0, 1) := by decide +kernel
theorem dX11_isDecisive_78 : decode cX11_isDecisive 78 = .ok (.ireturn, 1) := by decide +kernel
theorem dX11_tries_0 : decode cX11_tries 0 = .ok (.iconst 0, 1) := by decide +kernel
theorem dX11_tries_1 : decode cX11_tries 1 = .ok (.istore_n 1, 1) := by decide +kernel
theorem dX11_tries_2 : decode cX11_tries 2 = .ok (.iload_n 1, 1) := by decide +kernel
theorem dX11_tries_3 : decode cX11_tries 3 = .ok (.sipush 418, 3) := by decide +kernel
theorem dX11_tries_6 : decode cX11_tries 6 = .ok (.if_icmp .ge 21, 3) := by decide +kernel
theorem dX11_tries_9 : decode cX11_tries 9 = .ok (.aload_n 0, 1) := by decide +kernel
theorem dX11_tries_10 : decode cX11_tries 10 = .ok (.getfield 13, 3) := by decide +kernel
theorem dX11_tries_13 : decode cX11_tries 13 = .ok (.iload_n 1, 1) := by decide +kernel
theorem dX11_tries_14 : decode cX11_tries 14 = .ok (.aload_n 0, 1) := by decide +kernel
theorem dX11_tries_15 : decode cX11_tries 15 = .ok (.getfield 7, 3) := by decide +kernel
theorem dX11_tries_18 : decode cX11_tries 18 = .ok (.iload_n 1, 1) := by decide +kernel
theorem dX11_tries_19 : decode cX11_tries 19 = .ok (.iaload, 1) := by decide +kernel
theorem dX11_tries_20 : decode cX11_tries 20 = .ok (.iastore, 1) := by decide +kernel
theorem dX11_tries_21 : decode cX11_tries 21 = .ok (.iinc 1 1, 3) := by decide +kernel
theorem dX11_tries_24 : decode cX11_tries 24 = .ok (.goto (-22), 3) := by decide +kernel
theorem dX11_tries_27 : decode cX11_tries 27 = .ok (.return_, 1) := by decide +kernel
theorem dX11_back_0 : decode cX11_back 0 = .ok (.iconst 0, 1) := by decide +kernel
theorem dX11_back_1 : decode cX11_back 1 = .ok (.istore_n 2, 1) := by decide +kernel
theorem dX11_back_2 : decode cX11_back 2 = .ok (.iload_n 2, 1) := by decide +kernel
theorem dX11_back_3 : decode cX11_back 3 = .ok (.sipush 418, 3) := by decide +kernel
theorem dX11_back_6 : decode cX11_back 6 = .ok (.if_icmp .ge 21, 3) := by decide +kernel
theorem dX11_back_9 : decode cX11_back 9 = .ok (.aload_n 0, 1) := by decide +kernel
theorem dX11_back_10 : decode cX11_back 10 = .ok (.getfield 7, 3) := by decide +kernel
theorem dX11_back_13 : decode cX11_back 13 = .ok (.iload_n 2, 1) := by decide +kernel
theorem dX11_back_14 : decode cX11_back 14 = .ok (.aload_n 0, 1) := by decide +kernel
theorem dX11_back_15 : decode cX11_back 15 = .ok (.getfield 13, 3) := by decide +kernel
theorem dX11_back_18 : decode cX11_back 18 = .ok (.iload_n 2, 1) := by decide +kernel
theorem dX11_back_19 : decode cX11_back 19 = .ok (.iaload, 1) := by decide +kernel
theorem dX11_back_20 : decode cX11_back 20 = .ok (.iastore, 1) := by decide +kernel
theorem dX11_back_21 : decode cX11_back 21 = .ok (.iinc 2 1, 3) := by decide +kernel
theorem dX11_back_24 : decode cX11_back 24 = .ok (.goto (-22), 3) := by decide +kernel
theorem dX11_back_27 : decode cX11_back 27 = .ok (.iload_n 1, 1) := by decide +kernel
theorem dX11_back_28 : decode cX11_back 28 = .ok (.ireturn, 1) := by decide +kernel
theorem dX11_feeds_0 : decode cX11_feeds 0 = .ok (.bipush 24, 2) := by decide +kernel
theorem dX11_feeds_2 : decode cX11_feeds 2 = .ok (.istore_n 2, 1) := by decide +kernel
theorem dX11_feeds_3 : decode cX11_feeds 3 = .ok (.iload_n 2, 1) := by decide +kernel
theorem dX11_feeds_4 : decode cX11_feeds 4 = .ok (.ifCond .lt 54, 3) := by decide +kernel
theorem dX11_feeds_7 : decode cX11_feeds 7 = .ok (.iload_n 1, 1) := by decide +kernel
theorem dX11_feeds_8 : decode cX11_feeds 8 = .ok (.iload_n 2, 1) := by decide +kernel
theorem dX11_feeds_9 : decode cX11_feeds 9 = .ok (.ishr, 1) := by decide +kernel
theorem dX11_feeds_10 : decode cX11_feeds 10 = .ok (.sipush 255, 3) := by decide +kernel
theorem dX11_feeds_13 : decode cX11_feeds 13 = .ok (.iand, 1) := by decide +kernel
theorem dX11_feeds_14 : decode cX11_feeds 14 = .ok (.istore_n 3, 1) := by decide +kernel
theorem dX11_feeds_15 : decode cX11_feeds 15 = .ok (.iload_n 3, 1) := by decide +kernel
theorem dX11_feeds_16 : decode cX11_feeds 16 = .ok (.ifCond .ne 6, 3) := by decide +kernel
theorem dX11_feeds_19 : decode cX11_feeds 19 = .ok (.goto 33, 3) := by decide +kernel
theorem dX11_feeds_22 : decode cX11_feeds 22 = .ok (.aload_n 0, 1) := by decide +kernel
theorem dX11_feeds_23 : decode cX11_feeds 23 = .ok (.getfield 67, 3) := by decide +kernel
theorem dX11_feeds_26 : decode cX11_feeds 26 = .ok (.sipush 700, 3) := by decide +kernel
theorem dX11_feeds_29 : decode cX11_feeds 29 = .ok (.if_icmp .ge 13, 3) := by decide +kernel
theorem dX11_feeds_32 : decode cX11_feeds 32 = .ok (.aload_n 0, 1) := by decide +kernel
theorem dX11_feeds_33 : decode cX11_feeds 33 = .ok (.getfield 29, 3) := by decide +kernel
theorem dX11_feeds_36 : decode cX11_feeds 36 = .ok (.aload_n 0, 1) := by decide +kernel
theorem dX11_feeds_37 : decode cX11_feeds 37 = .ok (.getfield 67, 3) := by decide +kernel
theorem dX11_feeds_40 : decode cX11_feeds 40 = .ok (.iload_n 3, 1) := by decide +kernel
theorem dX11_feeds_41 : decode cX11_feeds 41 = .ok (.iastore, 1) := by decide +kernel
theorem dX11_feeds_42 : decode cX11_feeds 42 = .ok (.aload_n 0, 1) := by decide +kernel
theorem dX11_feeds_43 : decode cX11_feeds 43 = .ok (.dup, 1) := by decide +kernel
theorem dX11_feeds_44 : decode cX11_feeds 44 = .ok (.getfield 67, 3) := by decide +kernel
theorem dX11_feeds_47 : decode cX11_feeds 47 = .ok (.iconst 1, 1) := by decide +kernel
theorem dX11_feeds_48 : decode cX11_feeds 48 = .ok (.iadd, 1) := by decide +kernel
theorem dX11_feeds_49 : decode cX11_feeds 49 = .ok (.putfield 67, 3) := by decide +kernel
theorem dX11_feeds_52 : decode cX11_feeds 52 = .ok (.iinc 2 (-8), 3) := by decide +kernel
theorem dX11_feeds_55 : decode cX11_feeds 55 = .ok (.goto (-52), 3) := by decide +kernel
theorem dX11_feeds_58 : decode cX11_feeds 58 = .ok (.return_, 1) := by decide +kernel
theorem dX11_append_0 : decode cX11_append 0 = .ok (.aload_n 0, 1) := by decide +kernel
theorem dX11_append_1 : decode cX11_append 1 = .ok (.iconst 0, 1) := by decide +kernel
theorem dX11_append_2 : decode cX11_append 2 = .ok (.putfield 83, 3) := by decide +kernel
theorem dX11_append_5 : decode cX11_append 5 = .ok (.aload_n 0, 1) := by decide +kernel
theorem dX11_append_6 : decode cX11_append 6 = .ok (.getfield 67, 3) := by decide +kernel
theorem dX11_append_9 : decode cX11_append 9 = .ok (.istore 6, 2) := by decide +kernel
theorem dX11_append_11 : decode cX11_append 11 = .ok (.aload_n 0, 1) := by decide +kernel
theorem dX11_append_12 : decode cX11_append 12 = .ok (.iload_n 1, 1) := by decide +kernel
theorem dX11_append_13 : decode cX11_append 13 = .ok (.invokevirtual 164, 3) := by decide +kernel
theorem dX11_append_16 : decode cX11_append 16 = .ok (.aload_n 0, 1) := by decide +kernel
theorem dX11_append_17 : decode cX11_append 17 = .ok (.iload_n 2, 1) := by decide +kernel
theorem dX11_append_18 : decode cX11_append 18 = .ok (.invokevirtual 164, 3) := by decide +kernel
theorem dX11_append_21 : decode cX11_append 21 = .ok (.aload_n 0, 1) := by decide +kernel
theorem dX11_append_22 : decode cX11_append 22 = .ok (.iload_n 3, 1) := by decide +kernel
theorem dX11_append_23 : decode cX11_append 23 = .ok (.invokevirtual 164, 3) := by decide +kernel
theorem dX11_append_26 : decode cX11_append 26 = .ok (.aload_n 0, 1) := by decide +kernel
theorem dX11_append_27 : decode cX11_append 27 = .ok (.iload 4, 2) := by decide +kernel
theorem dX11_append_29 : decode cX11_append 29 = .ok (.invokevirtual 164, 3) := by decide +kernel
theorem dX11_append_32 : decode cX11_append 32 = .ok (.aload_n 0, 1) := by decide +kernel
theorem dX11_append_33 : decode cX11_append 33 = .ok (.iload 5, 2) := by decide +kernel
theorem dX11_append_35 : decode cX11_append 35 = .ok (.invokevirtual 164, 3) := by decide +kernel
theorem dX11_append_38 : decode cX11_append 38 = .ok (.aload_n 0, 1) := by decide +kernel
theorem dX11_append_39 : decode cX11_append 39 = .ok (.aload_n 0, 1) := by decide +kernel
theorem dX11_append_40 : decode cX11_append 40 = .ok (.getfield 67, 3) := by decide +kernel
theorem dX11_append_43 : decode cX11_append 43 = .ok (.sipush 700, 3) := by decide +kernel
theorem dX11_append_46 : decode cX11_append 46 = .ok (.if_icmp .gt 7, 3) := by decide +kernel
theorem dX11_append_49 : decode cX11_append 49 = .ok (.iconst 1, 1) := by decide +kernel
theorem dX11_append_50 : decode cX11_append 50 = .ok (.goto 4, 3) := by decide +kernel
theorem dX11_append_53 : decode cX11_append 53 = .ok (.iconst 0, 1) := by decide +kernel
theorem dX11_append_54 : decode cX11_append 54 = .ok (.iconst 1, 1) := by decide +kernel
theorem dX11_append_55 : decode cX11_append 55 = .ok (.invokevirtual 167, 3) := by decide +kernel
theorem dX11_append_58 : decode cX11_append 58 = .ok (.ifCond .eq 8, 3) := by decide +kernel
theorem dX11_append_61 : decode cX11_append 61 = .ok (.aload_n 0, 1) := by decide +kernel
theorem dX11_append_62 : decode cX11_append 62 = .ok (.getfield 67, 3) := by decide +kernel
theorem dX11_append_65 : decode cX11_append 65 = .ok (.ireturn, 1) := by decide +kernel
theorem dX11_append_66 : decode cX11_append 66 = .ok (.aload_n 0, 1) := by decide +kernel
theorem dX11_append_67 : decode cX11_append 67 = .ok (.iload 6, 2) := by decide +kernel
theorem dX11_append_69 : decode cX11_append 69 = .ok (.putfield 67, 3) := by decide +kernel
theorem dX11_append_72 : decode cX11_append 72 = .ok (.iconst 0, 1) := by decide +kernel
theorem dX11_append_73 : decode cX11_append 73 = .ok (.ireturn, 1) := by decide +kernel
theorem dX11_truncate_0 : decode cX11_truncate 0 = .ok (.aload_n 0, 1) := by decide +kernel
theorem dX11_truncate_1 : decode cX11_truncate 1 = .ok (.iconst 0, 1) := by decide +kernel
theorem dX11_truncate_2 : decode cX11_truncate 2 = .ok (.putfield 83, 3) := by decide +kernel
theorem dX11_truncate_5 : decode cX11_truncate 5 = .ok (.aload_n 0, 1) := by decide +kernel
theorem dX11_truncate_6 : decode cX11_truncate 6 = .ok (.iload_n 1, 1) := by decide +kernel
theorem dX11_truncate_7 : decode cX11_truncate 7 = .ok (.iconst 0, 1) := by decide +kernel
theorem dX11_truncate_8 : decode cX11_truncate 8 = .ok (.aload_n 0, 1) := by decide +kernel
theorem dX11_truncate_9 : decode cX11_truncate 9 = .ok (.getfield 67, 3) := by decide +kernel
theorem dX11_truncate_12 : decode cX11_truncate 12 = .ok (.invokestatic 86, 3) := by decide +kernel
theorem dX11_truncate_15 : decode cX11_truncate 15 = .ok (.iconst 1, 1) := by decide +kernel
theorem dX11_truncate_16 : decode cX11_truncate 16 = .ok (.invokevirtual 167, 3) := by decide +kernel
theorem dX11_truncate_19 : decode cX11_truncate 19 = .ok (.ifCond .ne 5, 3) := by decide +kernel
theorem dX11_truncate_22 : decode cX11_truncate 22 = .ok (.iconst 0, 1) := by decide +kernel
theorem dX11_truncate_23 : decode cX11_truncate 23 = .ok (.ireturn, 1) := by decide +kernel
theorem dX11_truncate_24 : decode cX11_truncate 24 = .ok (.aload_n 0, 1) := by decide +kernel
theorem dX11_truncate_25 : decode cX11_truncate 25 = .ok (.getfield 67, 3) := by decide +kernel
theorem dX11_truncate_28 : decode cX11_truncate 28 = .ok (.iload_n 1, 1) := by decide +kernel
theorem dX11_truncate_29 : decode cX11_truncate 29 = .ok (.isub, 1) := by decide +kernel
theorem dX11_truncate_30 : decode cX11_truncate 30 = .ok (.istore_n 2, 1) := by decide +kernel
theorem dX11_truncate_31 : decode cX11_truncate 31 = .ok (.aload_n 0, 1) := by decide +kernel
theorem dX11_truncate_32 : decode cX11_truncate 32 = .ok (.iload_n 1, 1) := by decide +kernel
theorem dX11_truncate_33 : decode cX11_truncate 33 = .ok (.putfield 67, 3) := by decide +kernel
theorem dX11_truncate_36 : decode cX11_truncate 36 = .ok (.iload_n 2, 1) := by decide +kernel
theorem dX11_truncate_37 : decode cX11_truncate 37 = .ok (.ireturn, 1) := by decide +kernel
theorem dX11_errorCode_0 : decode cX11_errorCode 0 = .ok (.aload_n 0, 1) := by decide +kernel
theorem dX11_errorCode_1 : decode cX11_errorCode 1 = .ok (.iconst 0, 1) := by decide +kernel
theorem dX11_errorCode_2 : decode cX11_errorCode 2 = .ok (.putfield 83, 3) := by decide +kernel
theorem dX11_errorCode_5 : decode cX11_errorCode 5 = .ok (.aload_n 0, 1) := by decide +kernel
theorem dX11_errorCode_6 : decode cX11_errorCode 6 = .ok (.getfield 171, 3) := by decide +kernel
theorem dX11_errorCode_9 : decode cX11_errorCode 9 = .ok (.ireturn, 1) := by decide +kernel
theorem dX11_errorPosition_0 : decode cX11_errorPosition 0 = .ok (.aload_n 0, 1) := by decide +kernel
theorem dX11_errorPosition_1 : decode cX11_errorPosition 1 = .ok (.iconst 0, 1) := by decide +kernel
theorem dX11_errorPosition_2 : decode cX11_errorPosition 2 = .ok (.putfield 83, 3) := by decide +kernel
theorem dX11_errorPosition_5 : decode cX11_errorPosition 5 = .ok (.aload_n 0, 1) := by decide +kernel
theorem dX11_errorPosition_6 : decode cX11_errorPosition 6 = .ok (.getfield 32, 3) := by decide +kernel
theorem dX11_errorPosition_9 : decode cX11_errorPosition 9 = .ok (.ireturn, 1) := by decide +kernel
theorem dX11_seen_0 : decode cX11_seen 0 = .ok (.iload_n 1, 1) := by decide +kernel
theorem dX11_seen_1 : decode cX11_seen 1 = .ok (.aload_n 0, 1) := by decide +kernel
theorem dX11_seen_2 : decode cX11_seen 2 = .ok (.getfield 67, 3) := by decide +kernel
theorem dX11_seen_5 : decode cX11_seen 5 = .ok (.if_icmp .ge 12, 3) := by decide +kernel
theorem dX11_seen_8 : decode cX11_seen 8 = .ok (.aload_n 0, 1) := by decide +kernel
theorem dX11_seen_9 : decode cX11_seen 9 = .ok (.getfield 29, 3) := by decide +kernel
theorem dX11_seen_12 : decode cX11_seen 12 = .ok (.iload_n 1, 1) := by decide +kernel
theorem dX11_seen_13 : decode cX11_seen 13 = .ok (.iaload, 1) := by decide +kernel
theorem dX11_seen_14 : decode cX11_seen 14 = .ok (.goto 4, 3) := by decide +kernel
theorem dX11_seen_17 : decode cX11_seen 17 = .ok (.iconst (-1), 1) := by decide +kernel
theorem dX11_seen_18 : decode cX11_seen 18 = .ok (.ireturn, 1) := by decide +kernel
theorem dX11_reads_0 : decode cX11_reads 0 = .ok (.aload_n 0, 1) := by decide +kernel
theorem dX11_reads_1 : decode cX11_reads 1 = .ok (.aload_n 0, 1) := by decide +kernel
theorem dX11_reads_2 : decode cX11_reads 2 = .ok (.getfield 174, 3) := by decide +kernel
theorem dX11_reads_5 : decode cX11_reads 5 = .ok (.invokevirtual 177, 3) := by decide +kernel
theorem dX11_reads_8 : decode cX11_reads 8 = .ok (.bipush 32, 2) := by decide +kernel
theorem dX11_reads_10 : decode cX11_reads 10 = .ok (.if_icmp .eq 16, 3) := by decide +kernel
theorem dX11_reads_13 : decode cX11_reads 13 = .ok (.aload_n 0, 1) := by decide +kernel
theorem dX11_reads_14 : decode cX11_reads 14 = .ok (.aload_n 0, 1) := by decide +kernel
theorem dX11_reads_15 : decode cX11_reads 15 = .ok (.getfield 174, 3) := by decide +kernel
theorem dX11_reads_18 : decode cX11_reads 18 = .ok (.invokevirtual 177, 3) := by decide +kernel
theorem dX11_reads_21 : decode cX11_reads 21 = .ok (.bipush 10, 2) := by decide +kernel
theorem dX11_reads_23 : decode cX11_reads 23 = .ok (.if_icmp .ne 16, 3) := by decide +kernel
theorem dX11_reads_26 : decode cX11_reads 26 = .ok (.aload_n 0, 1) := by decide +kernel
theorem dX11_reads_27 : decode cX11_reads 27 = .ok (.dup, 1) := by decide +kernel
theorem dX11_reads_28 : decode cX11_reads 28 = .ok (.getfield 174, 3) := by decide +kernel
theorem dX11_reads_31 : decode cX11_reads 31 = .ok (.iconst 1, 1) := by decide +kernel
theorem dX11_reads_32 : decode cX11_reads 32 = .ok (.iadd, 1) := by decide +kernel
theorem dX11_reads_33 : decode cX11_reads 33 = .ok (.putfield 174, 3) := by decide +kernel
theorem dX11_reads_36 : decode cX11_reads 36 = .ok (.goto (-36), 3) := by decide +kernel
theorem dX11_reads_39 : decode cX11_reads 39 = .ok (.aload_n 0, 1) := by decide +kernel
theorem dX11_reads_40 : decode cX11_reads 40 = .ok (.aload_n 0, 1) := by decide +kernel
theorem dX11_reads_41 : decode cX11_reads 41 = .ok (.getfield 174, 3) := by decide +kernel
theorem dX11_reads_44 : decode cX11_reads 44 = .ok (.putfield 180, 3) := by decide +kernel
theorem dX11_reads_47 : decode cX11_reads 47 = .ok (.aload_n 0, 1) := by decide +kernel
theorem dX11_reads_48 : decode cX11_reads 48 = .ok (.aload_n 0, 1) := by decide +kernel
theorem dX11_reads_49 : decode cX11_reads 49 = .ok (.getfield 174, 3) := by decide +kernel
theorem dX11_reads_52 : decode cX11_reads 52 = .ok (.invokevirtual 177, 3) := by decide +kernel
theorem dX11_reads_55 : decode cX11_reads 55 = .ok (.istore_n 1, 1) := by decide +kernel
theorem dX11_reads_56 : decode cX11_reads 56 = .ok (.iload_n 1, 1) := by decide +kernel
theorem dX11_reads_57 : decode cX11_reads 57 = .ok (.iconst (-1), 1) := by decide +kernel
theorem dX11_reads_58 : decode cX11_reads 58 = .ok (.if_icmp .ne 11, 3) := by decide +kernel
theorem dX11_reads_61 : decode cX11_reads 61 = .ok (.aload_n 0, 1) := by decide +kernel
theorem dX11_reads_62 : decode cX11_reads 62 = .ok (.iconst 0, 1) := by decide +kernel
theorem dX11_reads_63 : decode cX11_reads 63 = .ok (.putfield 183, 3) := by decide +kernel
theorem dX11_reads_66 : decode cX11_reads 66 = .ok (.goto 168, 3) := by decide +kernel
theorem dX11_reads_69 : decode cX11_reads 69 = .ok (.iload_n 1, 1) := by decide +kernel
theorem dX11_reads_70 : decode cX11_reads 70 = .ok (.bipush 97, 2) := by decide +kernel
theorem dX11_reads_72 : decode cX11_reads 72 = .ok (.bipush 122, 2) := by decide +kernel
theorem dX11_reads_74 : decode cX11_reads 74 = .ok (.invokestatic 86, 3) := by decide +kernel
theorem dX11_reads_77 : decode cX11_reads 77 = .ok (.ifCond .eq 39, 3) := by decide +kernel
theorem dX11_reads_80 : decode cX11_reads 80 = .ok (.aload_n 0, 1) := by decide +kernel
theorem dX11_reads_81 : decode cX11_reads 81 = .ok (.iconst 1, 1) := by decide +kernel
theorem dX11_reads_82 : decode cX11_reads 82 = .ok (.putfield 183, 3) := by decide +kernel
theorem dX11_reads_85 : decode cX11_reads 85 = .ok (.aload_n 0, 1) := by decide +kernel
theorem dX11_reads_86 : decode cX11_reads 86 = .ok (.aload_n 0, 1) := by decide +kernel
theorem dX11_reads_87 : decode cX11_reads 87 = .ok (.getfield 174, 3) := by decide +kernel
theorem dX11_reads_90 : decode cX11_reads 90 = .ok (.invokevirtual 177, 3) := by decide +kernel
theorem dX11_reads_93 : decode cX11_reads 93 = .ok (.bipush 97, 2) := by decide +kernel
theorem dX11_reads_95 : decode cX11_reads 95 = .ok (.bipush 122, 2) := by decide +kernel
theorem dX11_reads_97 : decode cX11_reads 97 = .ok (.invokestatic 86, 3) := by decide +kernel
theorem dX11_reads_100 : decode cX11_reads 100 = .ok (.ifCond .eq 134, 3) := by decide +kernel
theorem dX11_reads_103 : decode cX11_reads 103 = .ok (.aload_n 0, 1) := by decide +kernel
theorem dX11_reads_104 : decode cX11_reads 104 = .ok (.dup, 1) := by decide +kernel
theorem dX11_reads_105 : decode cX11_reads 105 = .ok (.getfield 174, 3) := by decide +kernel
theorem dX11_reads_108 : decode cX11_reads 108 = .ok (.iconst 1, 1) := by decide +kernel
theorem dX11_reads_109 : decode cX11_reads 109 = .ok (.iadd, 1) := by decide +kernel
theorem dX11_reads_110 : decode cX11_reads 110 = .ok (.putfield 174, 3) := by decide +kernel
theorem dX11_reads_113 : decode cX11_reads 113 = .ok (.goto (-28), 3) := by decide +kernel
theorem dX11_reads_116 : decode cX11_reads 116 = .ok (.iload_n 1, 1) := by decide +kernel
theorem dX11_reads_117 : decode cX11_reads 117 = .ok (.bipush 48, 2) := by decide +kernel
theorem dX11_reads_119 : decode cX11_reads 119 = .ok (.bipush 57, 2) := by decide +kernel
theorem dX11_reads_121 : decode cX11_reads 121 = .ok (.invokestatic 86, 3) := by decide +kernel
theorem dX11_reads_124 : decode cX11_reads 124 = .ok (.ifCond .eq 73, 3) := by decide +kernel
theorem dX11_reads_127 : decode cX11_reads 127 = .ok (.aload_n 0, 1) := by decide +kernel
theorem dX11_reads_128 : decode cX11_reads 128 = .ok (.iconst 2, 1) := by decide +kernel
theorem dX11_reads_129 : decode cX11_reads 129 = .ok (.putfield 183, 3) := by decide +kernel
theorem dX11_reads_132 : decode cX11_reads 132 = .ok (.aload_n 0, 1) := by decide +kernel
theorem dX11_reads_133 : decode cX11_reads 133 = .ok (.iconst 0, 1) := by decide +kernel
theorem dX11_reads_134 : decode cX11_reads 134 = .ok (.putfield 186, 3) := by decide +kernel
theorem dX11_reads_137 : decode cX11_reads 137 = .ok (.aload_n 0, 1) := by decide +kernel
theorem dX11_reads_138 : decode cX11_reads 138 = .ok (.aload_n 0, 1) := by decide +kernel
theorem dX11_reads_139 : decode cX11_reads 139 = .ok (.getfield 174, 3) := by decide +kernel
theorem dX11_reads_142 : decode cX11_reads 142 = .ok (.invokevirtual 177, 3) := by decide +kernel
theorem dX11_reads_145 : decode cX11_reads 145 = .ok (.bipush 48, 2) := by decide +kernel
theorem dX11_reads_147 : decode cX11_reads 147 = .ok (.bipush 57, 2) := by decide +kernel
theorem dX11_reads_149 : decode cX11_reads 149 = .ok (.invokestatic 86, 3) := by decide +kernel
theorem dX11_reads_152 : decode cX11_reads 152 = .ok (.ifCond .eq 82, 3) := by decide +kernel
theorem dX11_reads_155 : decode cX11_reads 155 = .ok (.aload_n 0, 1) := by decide +kernel
theorem dX11_reads_156 : decode cX11_reads 156 = .ok (.sipush 1000, 3) := by decide +kernel
theorem dX11_reads_159 : decode cX11_reads 159 = .ok (.bipush 10, 2) := by decide +kernel
theorem dX11_reads_161 : decode cX11_reads 161 = .ok (.aload_n 0, 1) := by decide +kernel
theorem dX11_reads_162 : decode cX11_reads 162 = .ok (.getfield 186, 3) := by decide +kernel
theorem dX11_reads_165 : decode cX11_reads 165 = .ok (.imul, 1) := by decide +kernel
theorem dX11_reads_166 : decode cX11_reads 166 = .ok (.aload_n 0, 1) := by decide +kernel
theorem dX11_reads_167 : decode cX11_reads 167 = .ok (.aload_n 0, 1) := by decide +kernel
theorem dX11_reads_168 : decode cX11_reads 168 = .ok (.getfield 174, 3) := by decide +kernel
theorem dX11_reads_171 : decode cX11_reads 171 = .ok (.invokevirtual 177, 3) := by decide +kernel
theorem dX11_reads_174 : decode cX11_reads 174 = .ok (.iadd, 1) := by decide +kernel
theorem dX11_reads_175 : decode cX11_reads 175 = .ok (.bipush 48, 2) := by decide +kernel
theorem dX11_reads_177 : decode cX11_reads 177 = .ok (.isub, 1) := by decide +kernel
theorem dX11_reads_178 : decode cX11_reads 178 = .ok (.invokestatic 117, 3) := by decide +kernel
theorem dX11_reads_181 : decode cX11_reads 181 = .ok (.putfield 186, 3) := by decide +kernel
theorem dX11_reads_184 : decode cX11_reads 184 = .ok (.aload_n 0, 1) := by decide +kernel
theorem dX11_reads_185 : decode cX11_reads 185 = .ok (.dup, 1) := by decide +kernel
theorem dX11_reads_186 : decode cX11_reads 186 = .ok (.getfield 174, 3) := by decide +kernel
theorem dX11_reads_189 : decode cX11_reads 189 = .ok (.iconst 1, 1) := by decide +kernel
theorem dX11_reads_190 : decode cX11_reads 190 = .ok (.iadd, 1) := by decide +kernel
theorem dX11_reads_191 : decode cX11_reads 191 = .ok (.putfield 174, 3) := by decide +kernel
theorem dX11_reads_194 : decode cX11_reads 194 = .ok (.goto (-57), 3) := by decide +kernel
theorem dX11_reads_197 : decode cX11_reads 197 = .ok (.aload_n 0, 1) := by decide +kernel
theorem dX11_reads_198 : decode cX11_reads 198 = .ok (.iload_n 1, 1) := by decide +kernel
theorem dX11_reads_199 : decode cX11_reads 199 = .ok (.bipush 59, 2) := by decide +kernel
theorem dX11_reads_201 : decode cX11_reads 201 = .ok (.if_icmp .eq 15, 3) := by decide +kernel
theorem dX11_reads_204 : decode cX11_reads 204 = .ok (.iload_n 1, 1) := by decide +kernel
theorem dX11_reads_205 : decode cX11_reads 205 = .ok (.bipush 40, 2) := by decide +kernel
theorem dX11_reads_207 : decode cX11_reads 207 = .ok (.if_icmp .eq 9, 3) := by decide +kernel
theorem dX11_reads_210 : decode cX11_reads 210 = .ok (.iload_n 1, 1) := by decide +kernel
theorem dX11_reads_211 : decode cX11_reads 211 = .ok (.bipush 41, 2) := by decide +kernel
theorem dX11_reads_213 : decode cX11_reads 213 = .ok (.if_icmp .ne 7, 3) := by decide +kernel
theorem dX11_reads_216 : decode cX11_reads 216 = .ok (.iconst 3, 1) := by decide +kernel
theorem dX11_reads_217 : decode cX11_reads 217 = .ok (.goto 4, 3) := by decide +kernel
theorem dX11_reads_220 : decode cX11_reads 220 = .ok (.iconst 4, 1) := by decide +kernel
theorem dX11_reads_221 : decode cX11_reads 221 = .ok (.putfield 183, 3) := by decide +kernel
theorem dX11_reads_224 : decode cX11_reads 224 = .ok (.aload_n 0, 1) := by decide +kernel
theorem dX11_reads_225 : decode cX11_reads 225 = .ok (.dup, 1) := by decide +kernel
theorem dX11_reads_226 : decode cX11_reads 226 = .ok (.getfield 174, 3) := by decide +kernel
theorem dX11_reads_229 : decode cX11_reads 229 = .ok (.iconst 1, 1) := by decide +kernel
theorem dX11_reads_230 : decode cX11_reads 230 = .ok (.iadd, 1) := by decide +kernel
theorem dX11_reads_231 : decode cX11_reads 231 = .ok (.putfield 174, 3) := by decide +kernel
theorem dX11_reads_234 : decode cX11_reads 234 = .ok (.return_, 1) := by decide +kernel
theorem dX11_starts_0 : decode cX11_starts 0 = .ok (.aload_n 0, 1) := by decide +kernel
theorem dX11_starts_1 : decode cX11_starts 1 = .ok (.iconst 0, 1) := by decide +kernel
theorem dX11_starts_2 : decode cX11_starts 2 = .ok (.putfield 174, 3) := by decide +kernel
theorem dX11_starts_5 : decode cX11_starts 5 = .ok (.aload_n 0, 1) := by decide +kernel
theorem dX11_starts_6 : decode cX11_starts 6 = .ok (.iconst 0, 1) := by decide +kernel
theorem dX11_starts_7 : decode cX11_starts 7 = .ok (.putfield 189, 3) := by decide +kernel
theorem dX11_starts_10 : decode cX11_starts 10 = .ok (.aload_n 0, 1) := by decide +kernel
theorem dX11_starts_11 : decode cX11_starts 11 = .ok (.iconst (-1), 1) := by decide +kernel
theorem dX11_starts_12 : decode cX11_starts 12 = .ok (.putfield 192, 3) := by decide +kernel
theorem dX11_starts_15 : decode cX11_starts 15 = .ok (.aload_n 0, 1) := by decide +kernel
theorem dX11_starts_16 : decode cX11_starts 16 = .ok (.invokevirtual 195, 3) := by decide +kernel
theorem dX11_starts_19 : decode cX11_starts 19 = .ok (.return_, 1) := by decide +kernel
theorem dX11_must_0 : decode cX11_must 0 = .ok (.aload_n 0, 1) := by decide +kernel
theorem dX11_must_1 : decode cX11_must 1 = .ok (.getfield 189, 3) := by decide +kernel
theorem dX11_must_4 : decode cX11_must 4 = .ok (.ifCond .ne 20, 3) := by decide +kernel
theorem dX11_must_7 : decode cX11_must 7 = .ok (.iload_n 1, 1) := by decide +kernel
theorem dX11_must_8 : decode cX11_must 8 = .ok (.ifCond .ne 16, 3) := by decide +kernel
theorem dX11_must_11 : decode cX11_must 11 = .ok (.aload_n 0, 1) := by decide +kernel
theorem dX11_must_12 : decode cX11_must 12 = .ok (.iload_n 2, 1) := by decide +kernel
theorem dX11_must_13 : decode cX11_must 13 = .ok (.putfield 189, 3) := by decide +kernel
theorem dX11_must_16 : decode cX11_must 16 = .ok (.aload_n 0, 1) := by decide +kernel
theorem dX11_must_17 : decode cX11_must 17 = .ok (.aload_n 0, 1) := by decide +kernel
theorem dX11_must_18 : decode cX11_must 18 = .ok (.getfield 180, 3) := by decide +kernel
theorem dX11_must_21 : decode cX11_must 21 = .ok (.putfield 192, 3) := by decide +kernel
theorem dX11_must_24 : decode cX11_must 24 = .ok (.aload_n 0, 1) := by decide +kernel
theorem dX11_must_25 : decode cX11_must 25 = .ok (.getfield 189, 3) := by decide +kernel
theorem dX11_must_28 : decode cX11_must 28 = .ok (.ifCond .ne 7, 3) := by decide +kernel
theorem dX11_must_31 : decode cX11_must 31 = .ok (.iconst 1, 1) := by decide +kernel
theorem dX11_must_32 : decode cX11_must 32 = .ok (.goto 4, 3) := by decide +kernel
theorem dX11_must_35 : decode cX11_must 35 = .ok (.iconst 0, 1) := by decide +kernel
theorem dX11_must_36 : decode cX11_must 36 = .ok (.ireturn, 1) := by decide +kernel
theorem dX11_goesOn_0 : decode cX11_goesOn 0 = .ok (.aload_n 0, 1) := by decide +kernel
theorem dX11_goesOn_1 : decode cX11_goesOn 1 = .ok (.getfield 189, 3) := by decide +kernel
theorem dX11_goesOn_4 : decode cX11_goesOn 4 = .ok (.ifCond .ne 7, 3) := by decide +kernel
theorem dX11_goesOn_7 : decode cX11_goesOn 7 = .ok (.aload_n 0, 1) := by decide +kernel
theorem dX11_goesOn_8 : decode cX11_goesOn 8 = .ok (.invokevirtual 195, 3) := by decide +kernel
theorem dX11_goesOn_11 : decode cX11_goesOn 11 = .ok (.return_, 1) := by decide +kernel
theorem dX11_isSign_0 : decode cX11_isSign 0 = .ok (.aload_n 0, 1) := by decide +kernel
theorem dX11_isSign_1 : decode cX11_isSign 1 = .ok (.getfield 189, 3) := by decide +kernel
theorem dX11_isSign_4 : decode cX11_isSign 4 = .ok (.ifCond .ne 27, 3) := by decide +kernel
theorem dX11_isSign_7 : decode cX11_isSign 7 = .ok (.aload_n 0, 1) := by decide +kernel
theorem dX11_isSign_8 : decode cX11_isSign 8 = .ok (.getfield 183, 3) := by decide +kernel
theorem dX11_isSign_11 : decode cX11_isSign 11 = .ok (.iconst 3, 1) := by decide +kernel
theorem dX11_isSign_12 : decode cX11_isSign 12 = .ok (.if_icmp .ne 19, 3) := by decide +kernel
theorem dX11_isSign_15 : decode cX11_isSign 15 = .ok (.aload_n 0, 1) := by decide +kernel
theorem dX11_isSign_16 : decode cX11_isSign 16 = .ok (.aload_n 0, 1) := by decide +kernel
theorem dX11_isSign_17 : decode cX11_isSign 17 = .ok (.getfield 180, 3) := by decide +kernel
theorem dX11_isSign_20 : decode cX11_isSign 20 = .ok (.invokevirtual 177, 3) := by decide +kernel
theorem dX11_isSign_23 : decode cX11_isSign 23 = .ok (.iload_n 1, 1) := by decide +kernel
theorem dX11_isSign_24 : decode cX11_isSign 24 = .ok (.if_icmp .ne 7, 3) := by decide +kernel
theorem dX11_isSign_27 : decode cX11_isSign 27 = .ok (.iconst 1, 1) := by decide +kernel
theorem dX11_isSign_28 : decode cX11_isSign 28 = .ok (.goto 4, 3) := by decide +kernel
theorem dX11_isSign_31 : decode cX11_isSign 31 = .ok (.iconst 0, 1) := by decide +kernel
theorem dX11_isSign_32 : decode cX11_isSign 32 = .ok (.ireturn, 1) := by decide +kernel
theorem dX11_isWord_0 : decode cX11_isWord 0 = .ok (.aload_n 0, 1) := by decide +kernel
theorem dX11_isWord_1 : decode cX11_isWord 1 = .ok (.getfield 189, 3) := by decide +kernel
theorem dX11_isWord_4 : decode cX11_isWord 4 = .ok (.ifCond .ne 27, 3) := by decide +kernel
theorem dX11_isWord_7 : decode cX11_isWord 7 = .ok (.aload_n 0, 1) := by decide +kernel
theorem dX11_isWord_8 : decode cX11_isWord 8 = .ok (.getfield 183, 3) := by decide +kernel
theorem dX11_isWord_11 : decode cX11_isWord 11 = .ok (.iconst 1, 1) := by decide +kernel
theorem dX11_isWord_12 : decode cX11_isWord 12 = .ok (.if_icmp .ne 19, 3) := by decide +kernel
theorem dX11_isWord_15 : decode cX11_isWord 15 = .ok (.aload_n 0, 1) := by decide +kernel
theorem dX11_isWord_16 : decode cX11_isWord 16 = .ok (.getfield 174, 3) := by decide +kernel
theorem dX11_isWord_19 : decode cX11_isWord 19 = .ok (.aload_n 0, 1) := by decide +kernel
theorem dX11_isWord_20 : decode cX11_isWord 20 = .ok (.getfield 180, 3) := by decide +kernel
theorem dX11_isWord_23 : decode cX11_isWord 23 = .ok (.isub, 1) := by decide +kernel
theorem dX11_isWord_24 : decode cX11_isWord 24 = .ok (.aload_n 1, 1) := by decide +kernel
theorem dX11_isWord_25 : decode cX11_isWord 25 = .ok (.invokevirtual 57, 3) := by decide +kernel
theorem dX11_isWord_28 : decode cX11_isWord 28 = .ok (.if_icmp .eq 5, 3) := by decide +kernel
theorem dX11_isWord_31 : decode cX11_isWord 31 = .ok (.iconst 0, 1) := by decide +kernel
theorem dX11_isWord_32 : decode cX11_isWord 32 = .ok (.ireturn, 1) := by decide +kernel
theorem dX11_isWord_33 : decode cX11_isWord 33 = .ok (.iconst 0, 1) := by decide +kernel
theorem dX11_isWord_34 : decode cX11_isWord 34 = .ok (.istore_n 2, 1) := by decide +kernel
theorem dX11_isWord_35 : decode cX11_isWord 35 = .ok (.iload_n 2, 1) := by decide +kernel
theorem dX11_isWord_36 : decode cX11_isWord 36 = .ok (.aload_n 1, 1) := by decide +kernel
theorem dX11_isWord_37 : decode cX11_isWord 37 = .ok (.invokevirtual 57, 3) := by decide +kernel
theorem dX11_isWord_40 : decode cX11_isWord 40 = .ok (.if_icmp .ge 30, 3) := by decide +kernel
theorem dX11_isWord_43 : decode cX11_isWord 43 = .ok (.aload_n 0, 1) := by decide +kernel
theorem dX11_isWord_44 : decode cX11_isWord 44 = .ok (.getfield 29, 3) := by decide +kernel
theorem dX11_isWord_47 : decode cX11_isWord 47 = .ok (.aload_n 0, 1) := by decide +kernel
theorem dX11_isWord_48 : decode cX11_isWord 48 = .ok (.getfield 180, 3) := by decide +kernel
theorem dX11_isWord_51 : decode cX11_isWord 51 = .ok (.iload_n 2, 1) := by decide +kernel
theorem dX11_isWord_52 : decode cX11_isWord 52 = .ok (.iadd, 1) := by decide +kernel
theorem dX11_isWord_53 : decode cX11_isWord 53 = .ok (.iaload, 1) := by decide +kernel
theorem dX11_isWord_54 : decode cX11_isWord 54 = .ok (.aload_n 1, 1) := by decide +kernel
theorem dX11_isWord_55 : decode cX11_isWord 55 = .ok (.iload_n 2, 1) := by decide +kernel
theorem dX11_isWord_56 : decode cX11_isWord 56 = .ok (.invokevirtual 63, 3) := by decide +kernel
theorem dX11_isWord_59 : decode cX11_isWord 59 = .ok (.if_icmp .eq 5, 3) := by decide +kernel
theorem dX11_isWord_62 : decode cX11_isWord 62 = .ok (.iconst 0, 1) := by decide +kernel
theorem dX11_isWord_63 : decode cX11_isWord 63 = .ok (.ireturn, 1) := by decide +kernel
theorem dX11_isWord_64 : decode cX11_isWord 64 = .ok (.iinc 2 1, 3) := by decide +kernel
theorem dX11_isWord_67 : decode cX11_isWord 67 = .ok (.goto (-32), 3) := by decide +kernel
theorem dX11_isWord_70 : decode cX11_isWord 70 = .ok (.iconst 1, 1) := by decide +kernel
theorem dX11_isWord_71 : decode cX11_isWord 71 = .ok (.ireturn, 1) := by decide +kernel
theorem dX11_takesSign_0 : decode cX11_takesSign 0 = .ok (.aload_n 0, 1) := by decide +kernel
theorem dX11_takesSign_1 : decode cX11_takesSign 1 = .ok (.aload_n 0, 1) := by decide +kernel
theorem dX11_takesSign_2 : decode cX11_takesSign 2 = .ok (.iload_n 1, 1) := by decide +kernel
theorem dX11_takesSign_3 : decode cX11_takesSign 3 = .ok (.invokevirtual 202, 3) := by decide +kernel
theorem dX11_takesSign_6 : decode cX11_takesSign 6 = .ok (.iconst 1, 1) := by decide +kernel
theorem dX11_takesSign_7 : decode cX11_takesSign 7 = .ok (.invokevirtual 205, 3) := by decide +kernel
theorem dX11_takesSign_10 : decode cX11_takesSign 10 = .ok (.pop, 1) := by decide +kernel
theorem dX11_takesSign_11 : decode cX11_takesSign 11 = .ok (.aload_n 0, 1) := by decide +kernel
theorem dX11_takesSign_12 : decode cX11_takesSign 12 = .ok (.invokevirtual 208, 3) := by decide +kernel
theorem dX11_takesSign_15 : decode cX11_takesSign 15 = .ok (.return_, 1) := by decide +kernel
theorem dX11_number_0 : decode cX11_number 0 = .ok (.aload_n 0, 1) := by decide +kernel
theorem dX11_number_1 : decode cX11_number 1 = .ok (.aload_n 0, 1) := by decide +kernel
theorem dX11_number_2 : decode cX11_number 2 = .ok (.getfield 183, 3) := by decide +kernel
theorem dX11_number_5 : decode cX11_number 5 = .ok (.iconst 2, 1) := by decide +kernel
theorem dX11_number_6 : decode cX11_number 6 = .ok (.if_icmp .ne 7, 3) := by decide +kernel
theorem dX11_number_9 : decode cX11_number 9 = .ok (.iconst 1, 1) := by decide +kernel
theorem dX11_number_10 : decode cX11_number 10 = .ok (.goto 4, 3) := by decide +kernel
theorem dX11_number_13 : decode cX11_number 13 = .ok (.iconst 0, 1) := by decide +kernel
theorem dX11_number_14 : decode cX11_number 14 = .ok (.iconst 1, 1) := by decide +kernel
theorem dX11_number_15 : decode cX11_number 15 = .ok (.invokevirtual 205, 3) := by decide +kernel
theorem dX11_number_18 : decode cX11_number 18 = .ok (.ifCond .eq 18, 3) := by decide +kernel
theorem dX11_number_21 : decode cX11_number 21 = .ok (.aload_n 0, 1) := by decide +kernel
theorem dX11_number_22 : decode cX11_number 22 = .ok (.aload_n 0, 1) := by decide +kernel
theorem dX11_number_23 : decode cX11_number 23 = .ok (.getfield 186, 3) := by decide +kernel
theorem dX11_number_26 : decode cX11_number 26 = .ok (.iload_n 1, 1) := by decide +kernel
theorem dX11_number_27 : decode cX11_number 27 = .ok (.iload_n 2, 1) := by decide +kernel
theorem dX11_number_28 : decode cX11_number 28 = .ok (.invokestatic 86, 3) := by decide +kernel
theorem dX11_number_31 : decode cX11_number 31 = .ok (.iconst 2, 1) := by decide +kernel
theorem dX11_number_32 : decode cX11_number 32 = .ok (.invokevirtual 205, 3) := by decide +kernel
theorem dX11_number_35 : decode cX11_number 35 = .ok (.pop, 1) := by decide +kernel
theorem dX11_number_36 : decode cX11_number 36 = .ok (.aload_n 0, 1) := by decide +kernel
theorem dX11_number_37 : decode cX11_number 37 = .ok (.getfield 186, 3) := by decide +kernel
theorem dX11_number_40 : decode cX11_number 40 = .ok (.istore_n 3, 1) := by decide +kernel
theorem dX11_number_41 : decode cX11_number 41 = .ok (.aload_n 0, 1) := by decide +kernel
theorem dX11_number_42 : decode cX11_number 42 = .ok (.invokevirtual 208, 3) := by decide +kernel
theorem dX11_number_45 : decode cX11_number 45 = .ok (.iload_n 3, 1) := by decide +kernel
theorem dX11_number_46 : decode cX11_number 46 = .ok (.ireturn, 1) := by decide +kernel
theorem dX11_packed_0 : decode cX11_packed 0 = .ok (.iconst 0, 1) := by decide +kernel
theorem dX11_packed_1 : decode cX11_packed 1 = .ok (.istore_n 3, 1) := by decide +kernel
theorem dX11_packed_2 : decode cX11_packed 2 = .ok (.iconst 0, 1) := by decide +kernel
theorem dX11_packed_3 : decode cX11_packed 3 = .ok (.istore 4, 2) := by decide +kernel
theorem dX11_packed_5 : decode cX11_packed 5 = .ok (.iload 4, 2) := by decide +kernel
theorem dX11_packed_7 : decode cX11_packed 7 = .ok (.iload_n 2, 1) := by decide +kernel
theorem dX11_packed_8 : decode cX11_packed 8 = .ok (.if_icmp .ge 27, 3) := by decide +kernel
theorem dX11_packed_11 : decode cX11_packed 11 = .ok (.bipush 27, 2) := by decide +kernel
theorem dX11_packed_13 : decode cX11_packed 13 = .ok (.iload_n 3, 1) := by decide +kernel
theorem dX11_packed_14 : decode cX11_packed 14 = .ok (.imul, 1) := by decide +kernel
theorem dX11_packed_15 : decode cX11_packed 15 = .ok (.aload_n 0, 1) := by decide +kernel
theorem dX11_packed_16 : decode cX11_packed 16 = .ok (.getfield 29, 3) := by decide +kernel
theorem dX11_packed_19 : decode cX11_packed 19 = .ok (.iload_n 1, 1) := by decide +kernel
theorem dX11_packed_20 : decode cX11_packed 20 = .ok (.iload 4, 2) := by decide +kernel
theorem dX11_packed_22 : decode cX11_packed 22 = .ok (.iadd, 1) := by decide +kernel
theorem dX11_packed_23 : decode cX11_packed 23 = .ok (.iaload, 1) := by decide +kernel
theorem dX11_packed_24 : decode cX11_packed 24 = .ok (.iadd, 1) := by decide +kernel
theorem dX11_packed_25 : decode cX11_packed 25 = .ok (.bipush 96, 2) := by decide +kernel
theorem dX11_packed_27 : decode cX11_packed 27 = .ok (.isub, 1) := by decide +kernel
theorem dX11_packed_28 : decode cX11_packed 28 = .ok (.istore_n 3, 1) := by decide +kernel
theorem dX11_packed_29 : decode cX11_packed 29 = .ok (.iinc 4 1, 3) := by decide +kernel
theorem dX11_packed_32 : decode cX11_packed 32 = .ok (.goto (-27), 3) := by decide +kernel
theorem dX11_packed_35 : decode cX11_packed 35 = .ok (.iload_n 3, 1) := by decide +kernel
theorem dX11_packed_36 : decode cX11_packed 36 = .ok (.ireturn, 1) := by decide +kernel
theorem dX11_named_0 : decode cX11_named 0 = .ok (.iconst 0, 1) := by decide +kernel
theorem dX11_named_1 : decode cX11_named 1 = .ok (.istore_n 2, 1) := by decide +kernel
theorem dX11_named_2 : decode cX11_named 2 = .ok (.iload_n 2, 1) := by decide +kernel
theorem dX11_named_3 : decode cX11_named 3 = .ok (.aload_n 0, 1) := by decide +kernel
theorem dX11_named_4 : decode cX11_named 4 = .ok (.getfield 7, 3) := by decide +kernel
theorem dX11_named_7 : decode cX11_named 7 = .ok (.bipush 8, 2) := by decide +kernel
theorem dX11_named_9 : decode cX11_named 9 = .ok (.iaload, 1) := by decide +kernel
theorem dX11_named_10 : decode cX11_named 10 = .ok (.if_icmp .ge 21, 3) := by decide +kernel
theorem dX11_named_13 : decode cX11_named 13 = .ok (.aload_n 0, 1) := by decide +kernel
theorem dX11_named_14 : decode cX11_named 14 = .ok (.iload_n 2, 1) := by decide +kernel
theorem dX11_named_15 : decode cX11_named 15 = .ok (.iconst 0, 1) := by decide +kernel
theorem dX11_named_16 : decode cX11_named 16 = .ok (.invokevirtual 100, 3) := by decide +kernel
theorem dX11_named_19 : decode cX11_named 19 = .ok (.iload_n 1, 1) := by decide +kernel
theorem dX11_named_20 : decode cX11_named 20 = .ok (.if_icmp .ne 5, 3) := by decide +kernel
theorem dX11_named_23 : decode cX11_named 23 = .ok (.iload_n 2, 1) := by decide +kernel
theorem dX11_named_24 : decode cX11_named 24 = .ok (.ireturn, 1) := by decide +kernel
theorem dX11_named_25 : decode cX11_named 25 = .ok (.iinc 2 1, 3) := by decide +kernel
theorem dX11_named_28 : decode cX11_named 28 = .ok (.goto (-26), 3) := by decide +kernel
theorem dX11_named_31 : decode cX11_named 31 = .ok (.iconst (-1), 1) := by decide +kernel
theorem dX11_named_32 : decode cX11_named 32 = .ok (.ireturn, 1) := by decide +kernel
theorem dX11_looksAtName_0 : decode cX11_looksAtName 0 = .ok (.aload_n 0, 1) := by decide +kernel
theorem dX11_looksAtName_1 : decode cX11_looksAtName 1 = .ok (.aload_n 0, 1) := by decide +kernel
theorem dX11_looksAtName_2 : decode cX11_looksAtName 2 = .ok (.getfield 183, 3) := by decide +kernel
theorem dX11_looksAtName_5 : decode cX11_looksAtName 5 = .ok (.iconst 1, 1) := by decide +kernel
theorem dX11_looksAtName_6 : decode cX11_looksAtName 6 = .ok (.if_icmp .ne 7, 3) := by decide +kernel
theorem dX11_looksAtName_9 : decode cX11_looksAtName 9 = .ok (.iconst 1, 1) := by decide +kernel
theorem dX11_looksAtName_10 : decode cX11_looksAtName 10 = .ok (.goto 4, 3) := by decide +kernel
theorem dX11_looksAtName_13 : decode cX11_looksAtName 13 = .ok (.iconst 0, 1) := by decide +kernel
theorem dX11_looksAtName_14 : decode cX11_looksAtName 14 = .ok (.iconst 1, 1) := by decide +kernel
theorem dX11_looksAtName_15 : decode cX11_looksAtName 15 = .ok (.invokevirtual 205, 3) := by decide +kernel
theorem dX11_looksAtName_18 : decode cX11_looksAtName 18 = .ok (.ifCond .eq 28, 3) := by decide +kernel
theorem dX11_looksAtName_21 : decode cX11_looksAtName 21 = .ok (.aload_n 0, 1) := by decide +kernel
theorem dX11_looksAtName_22 : decode cX11_looksAtName 22 = .ok (.aload_n 0, 1) := by decide +kernel
theorem dX11_looksAtName_23 : decode cX11_looksAtName 23 = .ok (.getfield 174, 3) := by decide +kernel
theorem dX11_looksAtName_26 : decode cX11_looksAtName 26 = .ok (.aload_n 0, 1) := by decide +kernel
theorem dX11_looksAtName_27 : decode cX11_looksAtName 27 = .ok (.getfield 180, 3) := by decide +kernel
theorem dX11_looksAtName_30 : decode cX11_looksAtName 30 = .ok (.isub, 1) := by decide +kernel
theorem dX11_looksAtName_31 : decode cX11_looksAtName 31 = .ok (.bipush 6, 2) := by decide +kernel
theorem dX11_looksAtName_33 : decode cX11_looksAtName 33 = .ok (.if_icmp .gt 7, 3) := by decide +kernel
theorem dX11_looksAtName_36 : decode cX11_looksAtName 36 = .ok (.iconst 1, 1) := by decide +kernel
theorem dX11_looksAtName_37 : decode cX11_looksAtName 37 = .ok (.goto 4, 3) := by decide +kernel
theorem dX11_looksAtName_40 : decode cX11_looksAtName 40 = .ok (.iconst 0, 1) := by decide +kernel
theorem dX11_looksAtName_41 : decode cX11_looksAtName 41 = .ok (.iconst 2, 1) := by decide +kernel
theorem dX11_looksAtName_42 : decode cX11_looksAtName 42 = .ok (.invokevirtual 205, 3) := by decide +kernel
theorem dX11_looksAtName_45 : decode cX11_looksAtName 45 = .ok (.pop, 1) := by decide +kernel
theorem dX11_looksAtName_46 : decode cX11_looksAtName 46 = .ok (.aload_n 0, 1) := by decide +kernel
theorem dX11_looksAtName_47 : decode cX11_looksAtName 47 = .ok (.getfield 189, 3) := by decide +kernel
theorem dX11_looksAtName_50 : decode cX11_looksAtName 50 = .ok (.ifCond .ne 23, 3) := by decide +kernel
theorem dX11_looksAtName_53 : decode cX11_looksAtName 53 = .ok (.aload_n 0, 1) := by decide +kernel
theorem dX11_looksAtName_54 : decode cX11_looksAtName 54 = .ok (.aload_n 0, 1) := by decide +kernel
theorem dX11_looksAtName_55 : decode cX11_looksAtName 55 = .ok (.getfield 180, 3) := by decide +kernel
theorem dX11_looksAtName_58 : decode cX11_looksAtName 58 = .ok (.aload_n 0, 1) := by decide +kernel
theorem dX11_looksAtName_59 : decode cX11_looksAtName 59 = .ok (.getfield 174, 3) := by decide +kernel
theorem dX11_looksAtName_62 : decode cX11_looksAtName 62 = .ok (.aload_n 0, 1) := by decide +kernel
theorem dX11_looksAtName_63 : decode cX11_looksAtName 63 = .ok (.getfield 180, 3) := by decide +kernel
theorem dX11_looksAtName_66 : decode cX11_looksAtName 66 = .ok (.isub, 1) := by decide +kernel
theorem dX11_looksAtName_67 : decode cX11_looksAtName 67 = .ok (.invokevirtual 211, 3) := by decide +kernel
theorem dX11_looksAtName_70 : decode cX11_looksAtName 70 = .ok (.goto 4, 3) := by decide +kernel
theorem dX11_looksAtName_73 : decode cX11_looksAtName 73 = .ok (.iconst 0, 1) := by decide +kernel
theorem dX11_looksAtName_74 : decode cX11_looksAtName 74 = .ok (.ireturn, 1) := by decide +kernel
theorem dX11_takesMember_0 : decode cX11_takesMember 0 = .ok (.aload_n 0, 1) := by decide +kernel
theorem dX11_takesMember_1 : decode cX11_takesMember 1 = .ok (.aload_n 0, 1) := by decide +kernel
theorem dX11_takesMember_2 : decode cX11_takesMember 2 = .ok (.invokevirtual 214, 3) := by decide +kernel
theorem dX11_takesMember_5 : decode cX11_takesMember 5 = .ok (.invokevirtual 217, 3) := by decide +kernel
theorem dX11_takesMember_8 : decode cX11_takesMember 8 = .ok (.istore_n 1, 1) := by decide +kernel
theorem dX11_takesMember_9 : decode cX11_takesMember 9 = .ok (.aload_n 0, 1) := by decide +kernel
theorem dX11_takesMember_10 : decode cX11_takesMember 10 = .ok (.aload_n 0, 1) := by decide +kernel
theorem dX11_takesMember_11 : decode cX11_takesMember 11 = .ok (.getfield 189, 3) := by decide +kernel
theorem dX11_takesMember_14 : decode cX11_takesMember 14 = .ok (.ifCond .ne 8, 3) := by decide +kernel
theorem dX11_takesMember_17 : decode cX11_takesMember 17 = .ok (.iload_n 1, 1) := by decide +kernel
theorem dX11_takesMember_18 : decode cX11_takesMember 18 = .ok (.iconst (-1), 1) := by decide +kernel
theorem dX11_takesMember_19 : decode cX11_takesMember 19 = .ok (.if_icmp .eq 7, 3) := by decide +kernel
theorem dX11_takesMember_22 : decode cX11_takesMember 22 = .ok (.iconst 1, 1) := by decide +kernel
theorem dX11_takesMember_23 : decode cX11_takesMember 23 = .ok (.goto 4, 3) := by decide +kernel
theorem dX11_takesMember_26 : decode cX11_takesMember 26 = .ok (.iconst 0, 1) := by decide +kernel
theorem dX11_takesMember_27 : decode cX11_takesMember 27 = .ok (.iconst 3, 1) := by decide +kernel
theorem dX11_takesMember_28 : decode cX11_takesMember 28 = .ok (.invokevirtual 205, 3) := by decide +kernel
theorem dX11_takesMember_31 : decode cX11_takesMember 31 = .ok (.pop, 1) := by decide +kernel
theorem dX11_takesMember_32 : decode cX11_takesMember 32 = .ok (.aload_n 0, 1) := by decide +kernel
theorem dX11_takesMember_33 : decode cX11_takesMember 33 = .ok (.invokevirtual 208, 3) := by decide +kernel
theorem dX11_takesMember_36 : decode cX11_takesMember 36 = .ok (.iload_n 1, 1) := by decide +kernel
theorem dX11_takesMember_37 : decode cX11_takesMember 37 = .ok (.ireturn, 1) := by decide +kernel
theorem dX11_isWhole_0 : decode cX11_isWhole 0 = .ok (.aload_n 0, 1) := by decide +kernel
theorem dX11_isWhole_1 : decode cX11_isWhole 1 = .ok (.iconst 0, 1) := by decide +kernel
theorem dX11_isWhole_2 : decode cX11_isWhole 2 = .ok (.putfield 67, 3) := by decide +kernel
theorem dX11_isWhole_5 : decode cX11_isWhole 5 = .ok (.aload_n 0, 1) := by decide +kernel
theorem dX11_isWhole_6 : decode cX11_isWhole 6 = .ok (.aload_n 0, 1) := by decide +kernel
theorem dX11_isWhole_7 : decode cX11_isWhole 7 = .ok (.getfield 189, 3) := by decide +kernel
theorem dX11_isWhole_10 : decode cX11_isWhole 10 = .ok (.putfield 171, 3) := by decide +kernel
theorem dX11_isWhole_13 : decode cX11_isWhole 13 = .ok (.aload_n 0, 1) := by decide +kernel
theorem dX11_isWhole_14 : decode cX11_isWhole 14 = .ok (.aload_n 0, 1) := by decide +kernel
theorem dX11_isWhole_15 : decode cX11_isWhole 15 = .ok (.getfield 192, 3) := by decide +kernel
theorem dX11_isWhole_18 : decode cX11_isWhole 18 = .ok (.putfield 32, 3) := by decide +kernel
theorem dX11_isWhole_21 : decode cX11_isWhole 21 = .ok (.aload_n 0, 1) := by decide +kernel
theorem dX11_isWhole_22 : decode cX11_isWhole 22 = .ok (.getfield 189, 3) := by decide +kernel
theorem dX11_isWhole_25 : decode cX11_isWhole 25 = .ok (.ifCond .ne 7, 3) := by decide +kernel
theorem dX11_isWhole_28 : decode cX11_isWhole 28 = .ok (.iconst 1, 1) := by decide +kernel
theorem dX11_isWhole_29 : decode cX11_isWhole 29 = .ok (.goto 4, 3) := by decide +kernel
theorem dX11_isWhole_32 : decode cX11_isWhole 32 = .ok (.iconst 0, 1) := by decide +kernel
theorem dX11_isWhole_33 : decode cX11_isWhole 33 = .ok (.ireturn, 1) := by decide +kernel
theorem dX11_readsMember_0 : decode cX11_readsMember 0 = .ok (.aload_n 0, 1) := by decide +kernel
theorem dX11_readsMember_1 : decode cX11_readsMember 1 = .ok (.aload_n 0, 1) := by decide +kernel
theorem dX11_readsMember_2 : decode cX11_readsMember 2 = .ok (.ldc 220, 2) := by decide +kernel
theorem dX11_readsMember_4 : decode cX11_readsMember 4 = .ok (.invokevirtual 198, 3) := by decide +kernel
theorem dX11_readsMember_7 : decode cX11_readsMember 7 = .ok (.iconst 1, 1) := by decide +kernel
theorem dX11_readsMember_8 : decode cX11_readsMember 8 = .ok (.invokevirtual 205, 3) := by decide +kernel
theorem dX11_readsMember_11 : decode cX11_readsMember 11 = .ok (.pop, 1) := by decide +kernel
theorem dX11_readsMember_12 : decode cX11_readsMember 12 = .ok (.aload_n 0, 1) := by decide +kernel
theorem dX11_readsMember_13 : decode cX11_readsMember 13 = .ok (.aload_n 0, 1) := by decide +kernel
theorem dX11_readsMember_14 : decode cX11_readsMember 14 = .ok (.getfield 7, 3) := by decide +kernel
theorem dX11_readsMember_17 : decode cX11_readsMember 17 = .ok (.bipush 8, 2) := by decide +kernel
theorem dX11_readsMember_19 : decode cX11_readsMember 19 = .ok (.iaload, 1) := by decide +kernel
theorem dX11_readsMember_20 : decode cX11_readsMember 20 = .ok (.bipush 12, 2) := by decide +kernel
theorem dX11_readsMember_22 : decode cX11_readsMember 22 = .ok (.if_icmp .ge 7, 3) := by decide +kernel
theorem dX11_readsMember_25 : decode cX11_readsMember 25 = .ok (.iconst 1, 1) := by decide +kernel
theorem dX11_readsMember_26 : decode cX11_readsMember 26 = .ok (.goto 4, 3) := by decide +kernel
theorem dX11_readsMember_29 : decode cX11_readsMember 29 = .ok (.iconst 0, 1) := by decide +kernel
theorem dX11_readsMember_30 : decode cX11_readsMember 30 = .ok (.iconst 4, 1) := by decide +kernel
theorem dX11_readsMember_31 : decode cX11_readsMember 31 = .ok (.invokevirtual 205, 3) := by decide +kernel
theorem dX11_readsMember_34 : decode cX11_readsMember 34 = .ok (.pop, 1) := by decide +kernel
theorem dX11_readsMember_35 : decode cX11_readsMember 35 = .ok (.aload_n 0, 1) := by decide +kernel
theorem dX11_readsMember_36 : decode cX11_readsMember 36 = .ok (.invokevirtual 208, 3) := by decide +kernel
theorem dX11_readsMember_39 : decode cX11_readsMember 39 = .ok (.aload_n 0, 1) := by decide +kernel
theorem dX11_readsMember_40 : decode cX11_readsMember 40 = .ok (.invokevirtual 214, 3) := by decide +kernel
theorem dX11_readsMember_43 : decode cX11_readsMember 43 = .ok (.istore_n 1, 1) := by decide +kernel
theorem dX11_readsMember_44 : decode cX11_readsMember 44 = .ok (.aload_n 0, 1) := by decide +kernel
theorem dX11_readsMember_45 : decode cX11_readsMember 45 = .ok (.aload_n 0, 1) := by decide +kernel
theorem dX11_readsMember_46 : decode cX11_readsMember 46 = .ok (.getfield 189, 3) := by decide +kernel
theorem dX11_readsMember_49 : decode cX11_readsMember 49 = .ok (.ifCond .ne 12, 3) := by decide +kernel
theorem dX11_readsMember_52 : decode cX11_readsMember 52 = .ok (.aload_n 0, 1) := by decide +kernel
theorem dX11_readsMember_53 : decode cX11_readsMember 53 = .ok (.iload_n 1, 1) := by decide +kernel
theorem dX11_readsMember_54 : decode cX11_readsMember 54 = .ok (.invokevirtual 217, 3) := by decide +kernel
theorem dX11_readsMember_57 : decode cX11_readsMember 57 = .ok (.iconst (-1), 1) := by decide +kernel
theorem dX11_readsMember_58 : decode cX11_readsMember 58 = .ok (.if_icmp .ne 7, 3) := by decide +kernel
theorem dX11_readsMember_61 : decode cX11_readsMember 61 = .ok (.iconst 1, 1) := by decide +kernel
theorem dX11_readsMember_62 : decode cX11_readsMember 62 = .ok (.goto 4, 3) := by decide +kernel
theorem dX11_readsMember_65 : decode cX11_readsMember 65 = .ok (.iconst 0, 1) := by decide +kernel
theorem dX11_readsMember_66 : decode cX11_readsMember 66 = .ok (.iconst 3, 1) := by decide +kernel
theorem dX11_readsMember_67 : decode cX11_readsMember 67 = .ok (.invokevirtual 205, 3) := by decide +kernel
theorem dX11_readsMember_70 : decode cX11_readsMember 70 = .ok (.pop, 1) := by decide +kernel
theorem dX11_readsMember_71 : decode cX11_readsMember 71 = .ok (.aload_n 0, 1) := by decide +kernel
theorem dX11_readsMember_72 : decode cX11_readsMember 72 = .ok (.invokevirtual 208, 3) := by decide +kernel
theorem dX11_readsMember_75 : decode cX11_readsMember 75 = .ok (.aload_n 0, 1) := by decide +kernel
theorem dX11_readsMember_76 : decode cX11_readsMember 76 = .ok (.iconst 1, 1) := by decide +kernel
theorem dX11_readsMember_77 : decode cX11_readsMember 77 = .ok (.bipush 9, 2) := by decide +kernel
theorem dX11_readsMember_79 : decode cX11_readsMember 79 = .ok (.invokevirtual 222, 3) := by decide +kernel
theorem dX11_readsMember_82 : decode cX11_readsMember 82 = .ok (.istore_n 2, 1) := by decide +kernel
theorem dX11_readsMember_83 : decode cX11_readsMember 83 = .ok (.aload_n 0, 1) := by decide +kernel
theorem dX11_readsMember_84 : decode cX11_readsMember 84 = .ok (.iconst 0, 1) := by decide +kernel
theorem dX11_readsMember_85 : decode cX11_readsMember 85 = .ok (.bipush 20, 2) := by decide +kernel
theorem dX11_readsMember_87 : decode cX11_readsMember 87 = .ok (.invokevirtual 222, 3) := by decide +kernel
theorem dX11_readsMember_90 : decode cX11_readsMember 90 = .ok (.istore_n 3, 1) := by decide +kernel
theorem dX11_readsMember_91 : decode cX11_readsMember 91 = .ok (.aload_n 0, 1) := by decide +kernel
theorem dX11_readsMember_92 : decode cX11_readsMember 92 = .ok (.iconst 0, 1) := by decide +kernel
theorem dX11_readsMember_93 : decode cX11_readsMember 93 = .ok (.bipush 99, 2) := by decide +kernel
theorem dX11_readsMember_95 : decode cX11_readsMember 95 = .ok (.invokevirtual 222, 3) := by decide +kernel
theorem dX11_readsMember_98 : decode cX11_readsMember 98 = .ok (.istore 4, 2) := by decide +kernel
theorem dX11_readsMember_100 : decode cX11_readsMember 100 = .ok (.aload_n 0, 1) := by decide +kernel
theorem dX11_readsMember_101 : decode cX11_readsMember 101 = .ok (.bipush 59, 2) := by decide +kernel
theorem dX11_readsMember_103 : decode cX11_readsMember 103 = .ok (.invokevirtual 225, 3) := by decide +kernel
theorem dX11_readsMember_106 : decode cX11_readsMember 106 = .ok (.aload_n 0, 1) := by decide +kernel
theorem dX11_readsMember_107 : decode cX11_readsMember 107 = .ok (.getfield 189, 3) := by decide +kernel
theorem dX11_readsMember_110 : decode cX11_readsMember 110 = .ok (.ifCond .eq 4, 3) := by decide +kernel
theorem dX11_readsMember_113 : decode cX11_readsMember 113 = .ok (.return_, 1) := by decide +kernel
theorem dX11_readsMember_114 : decode cX11_readsMember 114 = .ok (.aload_n 0, 1) := by decide +kernel
theorem dX11_readsMember_115 : decode cX11_readsMember 115 = .ok (.getfield 7, 3) := by decide +kernel
theorem dX11_readsMember_118 : decode cX11_readsMember 118 = .ok (.bipush 8, 2) := by decide +kernel
theorem dX11_readsMember_120 : decode cX11_readsMember 120 = .ok (.iaload, 1) := by decide +kernel
theorem dX11_readsMember_121 : decode cX11_readsMember 121 = .ok (.istore 5, 2) := by decide +kernel
theorem dX11_readsMember_123 : decode cX11_readsMember 123 = .ok (.aload_n 0, 1) := by decide +kernel
theorem dX11_readsMember_124 : decode cX11_readsMember 124 = .ok (.iload 5, 2) := by decide +kernel
theorem dX11_readsMember_126 : decode cX11_readsMember 126 = .ok (.iconst 0, 1) := by decide +kernel
theorem dX11_readsMember_127 : decode cX11_readsMember 127 = .ok (.iload_n 1, 1) := by decide +kernel
theorem dX11_readsMember_128 : decode cX11_readsMember 128 = .ok (.invokevirtual 138, 3) := by decide +kernel
theorem dX11_readsMember_131 : decode cX11_readsMember 131 = .ok (.aload_n 0, 1) := by decide +kernel
theorem dX11_readsMember_132 : decode cX11_readsMember 132 = .ok (.iload 5, 2) := by decide +kernel
theorem dX11_readsMember_134 : decode cX11_readsMember 134 = .ok (.iconst 1, 1) := by decide +kernel
theorem dX11_readsMember_135 : decode cX11_readsMember 135 = .ok (.iload_n 2, 1) := by decide +kernel
theorem dX11_readsMember_136 : decode cX11_readsMember 136 = .ok (.invokevirtual 138, 3) := by decide +kernel
theorem dX11_readsMember_139 : decode cX11_readsMember 139 = .ok (.aload_n 0, 1) := by decide +kernel
theorem dX11_readsMember_140 : decode cX11_readsMember 140 = .ok (.iload 5, 2) := by decide +kernel
theorem dX11_readsMember_142 : decode cX11_readsMember 142 = .ok (.iconst 2, 1) := by decide +kernel
theorem dX11_readsMember_143 : decode cX11_readsMember 143 = .ok (.iload_n 3, 1) := by decide +kernel
theorem dX11_readsMember_144 : decode cX11_readsMember 144 = .ok (.invokevirtual 138, 3) := by decide +kernel
theorem dX11_readsMember_147 : decode cX11_readsMember 147 = .ok (.aload_n 0, 1) := by decide +kernel
theorem dX11_readsMember_148 : decode cX11_readsMember 148 = .ok (.iload 5, 2) := by decide +kernel
theorem dX11_readsMember_150 : decode cX11_readsMember 150 = .ok (.iconst 3, 1) := by decide +kernel
theorem dX11_readsMember_151 : decode cX11_readsMember 151 = .ok (.iload 4, 2) := by decide +kernel
theorem dX11_readsMember_153 : decode cX11_readsMember 153 = .ok (.invokevirtual 138, 3) := by decide +kernel
theorem dX11_readsMember_156 : decode cX11_readsMember 156 = .ok (.aload_n 0, 1) := by decide +kernel
theorem dX11_readsMember_157 : decode cX11_readsMember 157 = .ok (.iload 5, 2) := by decide +kernel
theorem dX11_readsMember_159 : decode cX11_readsMember 159 = .ok (.iconst 4, 1) := by decide +kernel
theorem dX11_readsMember_160 : decode cX11_readsMember 160 = .ok (.iconst 5, 1) := by decide +kernel
theorem dX11_readsMember_161 : decode cX11_readsMember 161 = .ok (.invokevirtual 138, 3) := by decide +kernel
theorem dX11_readsMember_164 : decode cX11_readsMember 164 = .ok (.aload_n 0, 1) := by decide +kernel
theorem dX11_readsMember_165 : decode cX11_readsMember 165 = .ok (.getfield 7, 3) := by decide +kernel
theorem dX11_readsMember_168 : decode cX11_readsMember 168 = .ok (.bipush 16, 2) := by decide +kernel
theorem dX11_readsMember_170 : decode cX11_readsMember 170 = .ok (.dup2, 1) := by decide +kernel
theorem dX11_readsMember_171 : decode cX11_readsMember 171 = .ok (.iaload, 1) := by decide +kernel
theorem dX11_readsMember_172 : decode cX11_readsMember 172 = .ok (.iload 4, 2) := by decide +kernel
theorem dX11_readsMember_174 : decode cX11_readsMember 174 = .ok (.iadd, 1) := by decide +kernel
theorem dX11_readsMember_175 : decode cX11_readsMember 175 = .ok (.iastore, 1) := by decide +kernel
theorem dX11_readsMember_176 : decode cX11_readsMember 176 = .ok (.aload_n 0, 1) := by decide +kernel
theorem dX11_readsMember_177 : decode cX11_readsMember 177 = .ok (.getfield 7, 3) := by decide +kernel
theorem dX11_readsMember_180 : decode cX11_readsMember 180 = .ok (.bipush 8, 2) := by decide +kernel
theorem dX11_readsMember_182 : decode cX11_readsMember 182 = .ok (.dup2, 1) := by decide +kernel
theorem dX11_readsMember_183 : decode cX11_readsMember 183 = .ok (.iaload, 1) := by decide +kernel
theorem dX11_readsMember_184 : decode cX11_readsMember 184 = .ok (.iconst 1, 1) := by decide +kernel
theorem dX11_readsMember_185 : decode cX11_readsMember 185 = .ok (.iadd, 1) := by decide +kernel
theorem dX11_readsMember_186 : decode cX11_readsMember 186 = .ok (.iastore, 1) := by decide +kernel
theorem dX11_readsMember_187 : decode cX11_readsMember 187 = .ok (.return_, 1) := by decide +kernel
theorem dX11_readsSetup_0 : decode cX11_readsSetup 0 = .ok (.aload_n 0, 1) := by decide +kernel
theorem dX11_readsSetup_1 : decode cX11_readsSetup 1 = .ok (.aload_n 0, 1) := by decide +kernel
theorem dX11_readsSetup_2 : decode cX11_readsSetup 2 = .ok (.ldc 228, 2) := by decide +kernel
theorem dX11_readsSetup_4 : decode cX11_readsSetup 4 = .ok (.invokevirtual 198, 3) := by decide +kernel
theorem dX11_readsSetup_7 : decode cX11_readsSetup 7 = .ok (.iconst 1, 1) := by decide +kernel
theorem dX11_readsSetup_8 : decode cX11_readsSetup 8 = .ok (.invokevirtual 205, 3) := by decide +kernel
theorem dX11_readsSetup_11 : decode cX11_readsSetup 11 = .ok (.pop, 1) := by decide +kernel
theorem dX11_readsSetup_12 : decode cX11_readsSetup 12 = .ok (.aload_n 0, 1) := by decide +kernel
theorem dX11_readsSetup_13 : decode cX11_readsSetup 13 = .ok (.invokevirtual 208, 3) := by decide +kernel
theorem dX11_readsSetup_16 : decode cX11_readsSetup 16 = .ok (.aload_n 0, 1) := by decide +kernel
theorem dX11_readsSetup_17 : decode cX11_readsSetup 17 = .ok (.getfield 7, 3) := by decide +kernel
theorem dX11_readsSetup_20 : decode cX11_readsSetup 20 = .ok (.iconst 0, 1) := by decide +kernel
theorem dX11_readsSetup_21 : decode cX11_readsSetup 21 = .ok (.aload_n 0, 1) := by decide +kernel
theorem dX11_readsSetup_22 : decode cX11_readsSetup 22 = .ok (.iconst 1, 1) := by decide +kernel
theorem dX11_readsSetup_23 : decode cX11_readsSetup 23 = .ok (.iconst 4, 1) := by decide +kernel
theorem dX11_readsSetup_24 : decode cX11_readsSetup 24 = .ok (.invokevirtual 222, 3) := by decide +kernel
theorem dX11_readsSetup_27 : decode cX11_readsSetup 27 = .ok (.iastore, 1) := by decide +kernel
theorem dX11_readsSetup_28 : decode cX11_readsSetup 28 = .ok (.aload_n 0, 1) := by decide +kernel
theorem dX11_readsSetup_29 : decode cX11_readsSetup 29 = .ok (.getfield 7, 3) := by decide +kernel
theorem dX11_readsSetup_32 : decode cX11_readsSetup 32 = .ok (.iconst 1, 1) := by decide +kernel
theorem dX11_readsSetup_33 : decode cX11_readsSetup 33 = .ok (.aload_n 0, 1) := by decide +kernel
theorem dX11_readsSetup_34 : decode cX11_readsSetup 34 = .ok (.iconst 0, 1) := by decide +kernel
theorem dX11_readsSetup_35 : decode cX11_readsSetup 35 = .ok (.iconst 5, 1) := by decide +kernel
theorem dX11_readsSetup_36 : decode cX11_readsSetup 36 = .ok (.invokevirtual 222, 3) := by decide +kernel
theorem dX11_readsSetup_39 : decode cX11_readsSetup 39 = .ok (.iastore, 1) := by decide +kernel
theorem dX11_readsSetup_40 : decode cX11_readsSetup 40 = .ok (.aload_n 0, 1) := by decide +kernel
theorem dX11_readsSetup_41 : decode cX11_readsSetup 41 = .ok (.getfield 7, 3) := by decide +kernel
theorem dX11_readsSetup_44 : decode cX11_readsSetup 44 = .ok (.iconst 2, 1) := by decide +kernel
theorem dX11_readsSetup_45 : decode cX11_readsSetup 45 = .ok (.aload_n 0, 1) := by decide +kernel
theorem dX11_readsSetup_46 : decode cX11_readsSetup 46 = .ok (.iconst 1, 1) := by decide +kernel
theorem dX11_readsSetup_47 : decode cX11_readsSetup 47 = .ok (.bipush 20, 2) := by decide +kernel
theorem dX11_readsSetup_49 : decode cX11_readsSetup 49 = .ok (.invokevirtual 222, 3) := by decide +kernel
theorem dX11_readsSetup_52 : decode cX11_readsSetup 52 = .ok (.iastore, 1) := by decide +kernel
theorem dX11_readsSetup_53 : decode cX11_readsSetup 53 = .ok (.aload_n 0, 1) := by decide +kernel
theorem dX11_readsSetup_54 : decode cX11_readsSetup 54 = .ok (.getfield 7, 3) := by decide +kernel
theorem dX11_readsSetup_57 : decode cX11_readsSetup 57 = .ok (.iconst 3, 1) := by decide +kernel
theorem dX11_readsSetup_58 : decode cX11_readsSetup 58 = .ok (.aload_n 0, 1) := by decide +kernel
theorem dX11_readsSetup_59 : decode cX11_readsSetup 59 = .ok (.iconst 0, 1) := by decide +kernel
theorem dX11_readsSetup_60 : decode cX11_readsSetup 60 = .ok (.bipush 20, 2) := by decide +kernel
theorem dX11_readsSetup_62 : decode cX11_readsSetup 62 = .ok (.invokevirtual 222, 3) := by decide +kernel
theorem dX11_readsSetup_65 : decode cX11_readsSetup 65 = .ok (.iastore, 1) := by decide +kernel
theorem dX11_readsSetup_66 : decode cX11_readsSetup 66 = .ok (.aload_n 0, 1) := by decide +kernel
theorem dX11_readsSetup_67 : decode cX11_readsSetup 67 = .ok (.getfield 7, 3) := by decide +kernel
theorem dX11_readsSetup_70 : decode cX11_readsSetup 70 = .ok (.iconst 4, 1) := by decide +kernel
theorem dX11_readsSetup_71 : decode cX11_readsSetup 71 = .ok (.aload_n 0, 1) := by decide +kernel
theorem dX11_readsSetup_72 : decode cX11_readsSetup 72 = .ok (.iconst 2, 1) := by decide +kernel
theorem dX11_readsSetup_73 : decode cX11_readsSetup 73 = .ok (.bipush 30, 2) := by decide +kernel
theorem dX11_readsSetup_75 : decode cX11_readsSetup 75 = .ok (.invokevirtual 222, 3) := by decide +kernel
theorem dX11_readsSetup_78 : decode cX11_readsSetup 78 = .ok (.iastore, 1) := by decide +kernel
theorem dX11_readsSetup_79 : decode cX11_readsSetup 79 = .ok (.aload_n 0, 1) := by decide +kernel
theorem dX11_readsSetup_80 : decode cX11_readsSetup 80 = .ok (.getfield 7, 3) := by decide +kernel
theorem dX11_readsSetup_83 : decode cX11_readsSetup 83 = .ok (.iconst 5, 1) := by decide +kernel
theorem dX11_readsSetup_84 : decode cX11_readsSetup 84 = .ok (.aload_n 0, 1) := by decide +kernel
theorem dX11_readsSetup_85 : decode cX11_readsSetup 85 = .ok (.iconst 0, 1) := by decide +kernel
theorem dX11_readsSetup_86 : decode cX11_readsSetup 86 = .ok (.bipush 9, 2) := by decide +kernel
theorem dX11_readsSetup_88 : decode cX11_readsSetup 88 = .ok (.invokevirtual 222, 3) := by decide +kernel
theorem dX11_readsSetup_91 : decode cX11_readsSetup 91 = .ok (.iastore, 1) := by decide +kernel
theorem dX11_readsSetup_92 : decode cX11_readsSetup 92 = .ok (.aload_n 0, 1) := by decide +kernel
theorem dX11_readsSetup_93 : decode cX11_readsSetup 93 = .ok (.getfield 7, 3) := by decide +kernel
theorem dX11_readsSetup_96 : decode cX11_readsSetup 96 = .ok (.bipush 6, 2) := by decide +kernel
theorem dX11_readsSetup_98 : decode cX11_readsSetup 98 = .ok (.aload_n 0, 1) := by decide +kernel
theorem dX11_readsSetup_99 : decode cX11_readsSetup 99 = .ok (.iconst 0, 1) := by decide +kernel
theorem dX11_readsSetup_100 : decode cX11_readsSetup 100 = .ok (.bipush 12, 2) := by decide +kernel
theorem dX11_readsSetup_102 : decode cX11_readsSetup 102 = .ok (.invokevirtual 222, 3) := by decide +kernel
theorem dX11_readsSetup_105 : decode cX11_readsSetup 105 = .ok (.iastore, 1) := by decide +kernel
theorem dX11_readsSetup_106 : decode cX11_readsSetup 106 = .ok (.aload_n 0, 1) := by decide +kernel
theorem dX11_readsSetup_107 : decode cX11_readsSetup 107 = .ok (.bipush 59, 2) := by decide +kernel
theorem dX11_readsSetup_109 : decode cX11_readsSetup 109 = .ok (.invokevirtual 225, 3) := by decide +kernel
theorem dX11_readsSetup_112 : decode cX11_readsSetup 112 = .ok (.aload_n 0, 1) := by decide +kernel
theorem dX11_readsSetup_113 : decode cX11_readsSetup 113 = .ok (.invokevirtual 230, 3) := by decide +kernel
theorem dX11_readsSetup_116 : decode cX11_readsSetup 116 = .ok (.aload_n 0, 1) := by decide +kernel
theorem dX11_readsSetup_117 : decode cX11_readsSetup 117 = .ok (.getfield 189, 3) := by decide +kernel
theorem dX11_readsSetup_120 : decode cX11_readsSetup 120 = .ok (.ifCond .ne 17, 3) := by decide +kernel
theorem dX11_readsSetup_123 : decode cX11_readsSetup 123 = .ok (.aload_n 0, 1) := by decide +kernel
theorem dX11_readsSetup_124 : decode cX11_readsSetup 124 = .ok (.getfield 183, 3) := by decide +kernel
theorem dX11_readsSetup_127 : decode cX11_readsSetup 127 = .ok (.ifCond .eq 10, 3) := by decide +kernel
theorem dX11_readsSetup_130 : decode cX11_readsSetup 130 = .ok (.aload_n 0, 1) := by decide +kernel
theorem dX11_readsSetup_131 : decode cX11_readsSetup 131 = .ok (.invokevirtual 230, 3) := by decide +kernel
theorem dX11_readsSetup_134 : decode cX11_readsSetup 134 = .ok (.goto (-18), 3) := by decide +kernel
theorem dX11_readsSetup_137 : decode cX11_readsSetup 137 = .ok (.return_, 1) := by decide +kernel
theorem dX11_load_0 : decode cX11_load 0 = .ok (.aload_n 0, 1) := by decide +kernel
theorem dX11_load_1 : decode cX11_load 1 = .ok (.iconst 0, 1) := by decide +kernel
theorem dX11_load_2 : decode cX11_load 2 = .ok (.putfield 83, 3) := by decide +kernel
theorem dX11_load_5 : decode cX11_load 5 = .ok (.iconst 0, 1) := by decide +kernel
theorem dX11_load_6 : decode cX11_load 6 = .ok (.istore_n 1, 1) := by decide +kernel
theorem dX11_load_7 : decode cX11_load 7 = .ok (.iload_n 1, 1) := by decide +kernel
theorem dX11_load_8 : decode cX11_load 8 = .ok (.sipush 418, 3) := by decide +kernel
theorem dX11_load_11 : decode cX11_load 11 = .ok (.if_icmp .ge 21, 3) := by decide +kernel
theorem dX11_load_14 : decode cX11_load 14 = .ok (.aload_n 0, 1) := by decide +kernel
theorem dX11_load_15 : decode cX11_load 15 = .ok (.getfield 16, 3) := by decide +kernel
theorem dX11_load_18 : decode cX11_load 18 = .ok (.iload_n 1, 1) := by decide +kernel
theorem dX11_load_19 : decode cX11_load 19 = .ok (.aload_n 0, 1) := by decide +kernel
theorem dX11_load_20 : decode cX11_load 20 = .ok (.getfield 7, 3) := by decide +kernel
theorem dX11_load_23 : decode cX11_load 23 = .ok (.iload_n 1, 1) := by decide +kernel
theorem dX11_load_24 : decode cX11_load 24 = .ok (.iaload, 1) := by decide +kernel
theorem dX11_load_25 : decode cX11_load 25 = .ok (.iastore, 1) := by decide +kernel
theorem dX11_load_26 : decode cX11_load 26 = .ok (.iinc 1 1, 3) := by decide +kernel
theorem dX11_load_29 : decode cX11_load 29 = .ok (.goto (-22), 3) := by decide +kernel
theorem dX11_load_32 : decode cX11_load 32 = .ok (.aload_n 0, 1) := by decide +kernel
theorem dX11_load_33 : decode cX11_load 33 = .ok (.invokevirtual 70, 3) := by decide +kernel
theorem dX11_load_36 : decode cX11_load 36 = .ok (.aload_n 0, 1) := by decide +kernel
theorem dX11_load_37 : decode cX11_load 37 = .ok (.invokevirtual 73, 3) := by decide +kernel
theorem dX11_load_40 : decode cX11_load 40 = .ok (.aload_n 0, 1) := by decide +kernel
theorem dX11_load_41 : decode cX11_load 41 = .ok (.invokevirtual 76, 3) := by decide +kernel
theorem dX11_load_44 : decode cX11_load 44 = .ok (.aload_n 0, 1) := by decide +kernel
theorem dX11_load_45 : decode cX11_load 45 = .ok (.invokevirtual 233, 3) := by decide +kernel
theorem dX11_load_48 : decode cX11_load 48 = .ok (.ifCond .ne 35, 3) := by decide +kernel
theorem dX11_load_51 : decode cX11_load 51 = .ok (.iconst 0, 1) := by decide +kernel
theorem dX11_load_52 : decode cX11_load 52 = .ok (.istore_n 1, 1) := by decide +kernel
theorem dX11_load_53 : decode cX11_load 53 = .ok (.iload_n 1, 1) := by decide +kernel
theorem dX11_load_54 : decode cX11_load 54 = .ok (.sipush 418, 3) := by decide +kernel
theorem dX11_load_57 : decode cX11_load 57 = .ok (.if_icmp .ge 21, 3) := by decide +kernel
theorem dX11_load_60 : decode cX11_load 60 = .ok (.aload_n 0, 1) := by decide +kernel
theorem dX11_load_61 : decode cX11_load 61 = .ok (.getfield 7, 3) := by decide +kernel
theorem dX11_load_64 : decode cX11_load 64 = .ok (.iload_n 1, 1) := by decide +kernel
theorem dX11_load_65 : decode cX11_load 65 = .ok (.aload_n 0, 1) := by decide +kernel
theorem dX11_load_66 : decode cX11_load 66 = .ok (.getfield 16, 3) := by decide +kernel
theorem dX11_load_69 : decode cX11_load 69 = .ok (.iload_n 1, 1) := by decide +kernel
theorem dX11_load_70 : decode cX11_load 70 = .ok (.iaload, 1) := by decide +kernel
theorem dX11_load_71 : decode cX11_load 71 = .ok (.iastore, 1) := by decide +kernel
theorem dX11_load_72 : decode cX11_load 72 = .ok (.iinc 1 1, 3) := by decide +kernel
theorem dX11_load_75 : decode cX11_load 75 = .ok (.goto (-22), 3) := by decide +kernel
theorem dX11_load_78 : decode cX11_load 78 = .ok (.aload_n 0, 1) := by decide +kernel
theorem dX11_load_79 : decode cX11_load 79 = .ok (.getfield 171, 3) := by decide +kernel
theorem dX11_load_82 : decode cX11_load 82 = .ok (.ireturn, 1) := by decide +kernel
theorem dX11_load_83 : decode cX11_load 83 = .ok (.aload_n 0, 1) := by decide +kernel
theorem dX11_load_84 : decode cX11_load 84 = .ok (.iconst 0, 1) := by decide +kernel
theorem dX11_load_85 : decode cX11_load 85 = .ok (.putfield 237, 3) := by decide +kernel
theorem dX11_load_88 : decode cX11_load 88 = .ok (.aload_n 0, 1) := by decide +kernel
theorem dX11_load_89 : decode cX11_load 89 = .ok (.getfield 25, 3) := by decide +kernel
theorem dX11_load_92 : decode cX11_load 92 = .ok (.iconst 0, 1) := by decide +kernel
theorem dX11_load_93 : decode cX11_load 93 = .ok (.iconst 0, 1) := by decide +kernel
theorem dX11_load_94 : decode cX11_load 94 = .ok (.bastore, 1) := by decide +kernel
theorem dX11_load_95 : decode cX11_load 95 = .ok (.aload_n 0, 1) := by decide +kernel
theorem dX11_load_96 : decode cX11_load 96 = .ok (.getfield 25, 3) := by decide +kernel
theorem dX11_load_99 : decode cX11_load 99 = .ok (.iconst 1, 1) := by decide +kernel
theorem dX11_load_100 : decode cX11_load 100 = .ok (.iconst 0, 1) := by decide +kernel
theorem dX11_load_101 : decode cX11_load 101 = .ok (.bastore, 1) := by decide +kernel
theorem dX11_load_102 : decode cX11_load 102 = .ok (.iconst 0, 1) := by decide +kernel
theorem dX11_load_103 : decode cX11_load 103 = .ok (.ireturn, 1) := by decide +kernel
theorem dX11_commandHere_0 : decode cX11_commandHere 0 = .ok (.aload_n 0, 1) := by decide +kernel
theorem dX11_commandHere_1 : decode cX11_commandHere 1 = .ok (.ldc 240, 2) := by decide +kernel
theorem dX11_commandHere_3 : decode cX11_commandHere 3 = .ok (.invokevirtual 198, 3) := by decide +kernel
theorem dX11_commandHere_6 : decode cX11_commandHere 6 = .ok (.ifCond .eq 5, 3) := by decide +kernel
theorem dX11_commandHere_9 : decode cX11_commandHere 9 = .ok (.iconst 0, 1) := by decide +kernel
theorem dX11_commandHere_10 : decode cX11_commandHere 10 = .ok (.ireturn, 1) := by decide +kernel
theorem dX11_commandHere_11 : decode cX11_commandHere 11 = .ok (.aload_n 0, 1) := by decide +kernel
theorem dX11_commandHere_12 : decode cX11_commandHere 12 = .ok (.ldc 242, 2) := by decide +kernel
theorem dX11_commandHere_14 : decode cX11_commandHere 14 = .ok (.invokevirtual 198, 3) := by decide +kernel
theorem dX11_commandHere_17 : decode cX11_commandHere 17 = .ok (.ifCond .eq 5, 3) := by decide +kernel
theorem dX11_commandHere_20 : decode cX11_commandHere 20 = .ok (.iconst 1, 1) := by decide +kernel
theorem dX11_commandHere_21 : decode cX11_commandHere 21 = .ok (.ireturn, 1) := by decide +kernel
theorem dX11_commandHere_22 : decode cX11_commandHere 22 = .ok (.aload_n 0, 1) := by decide +kernel
theorem dX11_commandHere_23 : decode cX11_commandHere 23 = .ok (.ldc 244, 2) := by decide +kernel
theorem dX11_commandHere_25 : decode cX11_commandHere 25 = .ok (.invokevirtual 198, 3) := by decide +kernel
theorem dX11_commandHere_28 : decode cX11_commandHere 28 = .ok (.ifCond .eq 5, 3) := by decide +kernel
theorem dX11_commandHere_31 : decode cX11_commandHere 31 = .ok (.iconst 2, 1) := by decide +kernel
theorem dX11_commandHere_32 : decode cX11_commandHere 32 = .ok (.ireturn, 1) := by decide +kernel
theorem dX11_commandHere_33 : decode cX11_commandHere 33 = .ok (.aload_n 0, 1) := by decide +kernel
theorem dX11_commandHere_34 : decode cX11_commandHere 34 = .ok (.ldc 246, 2) := by decide +kernel
theorem dX11_commandHere_36 : decode cX11_commandHere 36 = .ok (.invokevirtual 198, 3) := by decide +kernel
theorem dX11_commandHere_39 : decode cX11_commandHere 39 = .ok (.ifCond .eq 5, 3) := by decide +kernel
theorem dX11_commandHere_42 : decode cX11_commandHere 42 = .ok (.iconst 3, 1) := by decide +kernel
theorem dX11_commandHere_43 : decode cX11_commandHere 43 = .ok (.ireturn, 1) := by decide +kernel
theorem dX11_commandHere_44 : decode cX11_commandHere 44 = .ok (.aload_n 0, 1) := by decide +kernel
theorem dX11_commandHere_45 : decode cX11_commandHere 45 = .ok (.ldc 248, 2) := by decide +kernel
theorem dX11_commandHere_47 : decode cX11_commandHere 47 = .ok (.invokevirtual 198, 3) := by decide +kernel
theorem dX11_commandHere_50 : decode cX11_commandHere 50 = .ok (.ifCond .eq 5, 3) := by decide +kernel
theorem dX11_commandHere_53 : decode cX11_commandHere 53 = .ok (.iconst 4, 1) := by decide +kernel
theorem dX11_commandHere_54 : decode cX11_commandHere 54 = .ok (.ireturn, 1) := by decide +kernel
theorem dX11_commandHere_55 : decode cX11_commandHere 55 = .ok (.aload_n 0, 1) := by decide +kernel
theorem dX11_commandHere_56 : decode cX11_commandHere 56 = .ok (.ldc 250, 2) := by decide +kernel
theorem dX11_commandHere_58 : decode cX11_commandHere 58 = .ok (.invokevirtual 198, 3) := by decide +kernel
theorem dX11_commandHere_61 : decode cX11_commandHere 61 = .ok (.ifCond .eq 5, 3) := by decide +kernel
theorem dX11_commandHere_64 : decode cX11_commandHere 64 = .ok (.iconst 5, 1) := by decide +kernel
theorem dX11_commandHere_65 : decode cX11_commandHere 65 = .ok (.ireturn, 1) := by decide +kernel
theorem dX11_commandHere_66 : decode cX11_commandHere 66 = .ok (.aload_n 0, 1) := by decide +kernel
theorem dX11_commandHere_67 : decode cX11_commandHere 67 = .ok (.ldc 252, 2) := by decide +kernel
theorem dX11_commandHere_69 : decode cX11_commandHere 69 = .ok (.invokevirtual 198, 3) := by decide +kernel
theorem dX11_commandHere_72 : decode cX11_commandHere 72 = .ok (.ifCond .eq 6, 3) := by decide +kernel
theorem dX11_commandHere_75 : decode cX11_commandHere 75 = .ok (.bipush 6, 2) := by decide +kernel
theorem dX11_commandHere_77 : decode cX11_commandHere 77 = .ok (.ireturn, 1) := by decide +kernel
theorem dX11_commandHere_78 : decode cX11_commandHere 78 = .ok (.aload_n 0, 1) := by decide +kernel
theorem dX11_commandHere_79 : decode cX11_commandHere 79 = .ok (.ldc 254, 2) := by decide +kernel
theorem dX11_commandHere_81 : decode cX11_commandHere 81 = .ok (.invokevirtual 198, 3) := by decide +kernel
theorem dX11_commandHere_84 : decode cX11_commandHere 84 = .ok (.ifCond .eq 6, 3) := by decide +kernel
theorem dX11_commandHere_87 : decode cX11_commandHere 87 = .ok (.bipush 7, 2) := by decide +kernel
theorem dX11_commandHere_89 : decode cX11_commandHere 89 = .ok (.ireturn, 1) := by decide +kernel
theorem dX11_commandHere_90 : decode cX11_commandHere 90 = .ok (.aload_n 0, 1) := by decide +kernel
theorem dX11_commandHere_91 : decode cX11_commandHere 91 = .ok (.ldc_w 256, 3) := by decide +kernel
theorem dX11_commandHere_94 : decode cX11_commandHere 94 = .ok (.invokevirtual 198, 3) := by decide +kernel
theorem dX11_commandHere_97 : decode cX11_commandHere 97 = .ok (.ifCond .eq 8, 3) := by decide +kernel
theorem dX11_commandHere_100 : decode cX11_commandHere 100 = .ok (.bipush 8, 2) := by decide +kernel
theorem dX11_commandHere_102 : decode cX11_commandHere 102 = .ok (.goto 4, 3) := by decide +kernel
theorem dX11_commandHere_105 : decode cX11_commandHere 105 = .ok (.iconst (-1), 1) := by decide +kernel
theorem dX11_commandHere_106 : decode cX11_commandHere 106 = .ok (.ireturn, 1) := by decide +kernel
theorem dX11_readsRepeat_0 : decode cX11_readsRepeat 0 = .ok (.aload_n 0, 1) := by decide +kernel
theorem dX11_readsRepeat_1 : decode cX11_readsRepeat 1 = .ok (.getfield 42, 3) := by decide +kernel
theorem dX11_readsRepeat_4 : decode cX11_readsRepeat 4 = .ok (.iload_n 1, 1) := by decide +kernel
theorem dX11_readsRepeat_5 : decode cX11_readsRepeat 5 = .ok (.aload_n 0, 1) := by decide +kernel
theorem dX11_readsRepeat_6 : decode cX11_readsRepeat 6 = .ok (.iconst 0, 1) := by decide +kernel
theorem dX11_readsRepeat_7 : decode cX11_readsRepeat 7 = .ok (.bipush 20, 2) := by decide +kernel
theorem dX11_readsRepeat_9 : decode cX11_readsRepeat 9 = .ok (.invokevirtual 222, 3) := by decide +kernel
theorem dX11_readsRepeat_12 : decode cX11_readsRepeat 12 = .ok (.iastore, 1) := by decide +kernel
theorem dX11_readsRepeat_13 : decode cX11_readsRepeat 13 = .ok (.aload_n 0, 1) := by decide +kernel
theorem dX11_readsRepeat_14 : decode cX11_readsRepeat 14 = .ok (.aload_n 0, 1) := by decide +kernel
theorem dX11_readsRepeat_15 : decode cX11_readsRepeat 15 = .ok (.bipush 40, 2) := by decide +kernel
theorem dX11_readsRepeat_17 : decode cX11_readsRepeat 17 = .ok (.invokevirtual 202, 3) := by decide +kernel
theorem dX11_readsRepeat_20 : decode cX11_readsRepeat 20 = .ok (.iconst 1, 1) := by decide +kernel
theorem dX11_readsRepeat_21 : decode cX11_readsRepeat 21 = .ok (.invokevirtual 205, 3) := by decide +kernel
theorem dX11_readsRepeat_24 : decode cX11_readsRepeat 24 = .ok (.ifCond .eq 19, 3) := by decide +kernel
theorem dX11_readsRepeat_27 : decode cX11_readsRepeat 27 = .ok (.aload_n 0, 1) := by decide +kernel
theorem dX11_readsRepeat_28 : decode cX11_readsRepeat 28 = .ok (.iload_n 2, 1) := by decide +kernel
theorem dX11_readsRepeat_29 : decode cX11_readsRepeat 29 = .ok (.iconst 2, 1) := by decide +kernel
theorem dX11_readsRepeat_30 : decode cX11_readsRepeat 30 = .ok (.if_icmp .ge 7, 3) := by decide +kernel
theorem dX11_readsRepeat_33 : decode cX11_readsRepeat 33 = .ok (.iconst 1, 1) := by decide +kernel
theorem dX11_readsRepeat_34 : decode cX11_readsRepeat 34 = .ok (.goto 4, 3) := by decide +kernel
theorem dX11_readsRepeat_37 : decode cX11_readsRepeat 37 = .ok (.iconst 0, 1) := by decide +kernel
theorem dX11_readsRepeat_38 : decode cX11_readsRepeat 38 = .ok (.iconst 4, 1) := by decide +kernel
theorem dX11_readsRepeat_39 : decode cX11_readsRepeat 39 = .ok (.invokevirtual 205, 3) := by decide +kernel
theorem dX11_readsRepeat_42 : decode cX11_readsRepeat 42 = .ok (.pop, 1) := by decide +kernel
theorem dX11_readsRepeat_43 : decode cX11_readsRepeat 43 = .ok (.aload_n 0, 1) := by decide +kernel
theorem dX11_readsRepeat_44 : decode cX11_readsRepeat 44 = .ok (.invokevirtual 208, 3) := by decide +kernel
theorem dX11_readsRepeat_47 : decode cX11_readsRepeat 47 = .ok (.aload_n 0, 1) := by decide +kernel
theorem dX11_readsRepeat_48 : decode cX11_readsRepeat 48 = .ok (.iload_n 2, 1) := by decide +kernel
theorem dX11_readsRepeat_49 : decode cX11_readsRepeat 49 = .ok (.iconst 1, 1) := by decide +kernel
theorem dX11_readsRepeat_50 : decode cX11_readsRepeat 50 = .ok (.iadd, 1) := by decide +kernel
theorem dX11_readsRepeat_51 : decode cX11_readsRepeat 51 = .ok (.invokevirtual 258, 3) := by decide +kernel
theorem dX11_readsRepeat_54 : decode cX11_readsRepeat 54 = .ok (.aload_n 0, 1) := by decide +kernel
theorem dX11_readsRepeat_55 : decode cX11_readsRepeat 55 = .ok (.bipush 41, 2) := by decide +kernel
theorem dX11_readsRepeat_57 : decode cX11_readsRepeat 57 = .ok (.invokevirtual 225, 3) := by decide +kernel
theorem dX11_readsRepeat_60 : decode cX11_readsRepeat 60 = .ok (.aload_n 0, 1) := by decide +kernel
theorem dX11_readsRepeat_61 : decode cX11_readsRepeat 61 = .ok (.getfield 45, 3) := by decide +kernel
theorem dX11_readsRepeat_64 : decode cX11_readsRepeat 64 = .ok (.iload_n 1, 1) := by decide +kernel
theorem dX11_readsRepeat_65 : decode cX11_readsRepeat 65 = .ok (.aload_n 0, 1) := by decide +kernel
theorem dX11_readsRepeat_66 : decode cX11_readsRepeat 66 = .ok (.getfield 261, 3) := by decide +kernel
theorem dX11_readsRepeat_69 : decode cX11_readsRepeat 69 = .ok (.iastore, 1) := by decide +kernel
theorem dX11_readsRepeat_70 : decode cX11_readsRepeat 70 = .ok (.return_, 1) := by decide +kernel
theorem dX11_takesSide_0 : decode cX11_takesSide 0 = .ok (.aload_n 0, 1) := by decide +kernel
theorem dX11_takesSide_1 : decode cX11_takesSide 1 = .ok (.ldc_w 264, 3) := by decide +kernel
theorem dX11_takesSide_4 : decode cX11_takesSide 4 = .ok (.invokevirtual 198, 3) := by decide +kernel
theorem dX11_takesSide_7 : decode cX11_takesSide 7 = .ok (.ifCond .eq 7, 3) := by decide +kernel
theorem dX11_takesSide_10 : decode cX11_takesSide 10 = .ok (.iconst 1, 1) := by decide +kernel
theorem dX11_takesSide_11 : decode cX11_takesSide 11 = .ok (.goto 4, 3) := by decide +kernel
theorem dX11_takesSide_14 : decode cX11_takesSide 14 = .ok (.iconst 0, 1) := by decide +kernel
theorem dX11_takesSide_15 : decode cX11_takesSide 15 = .ok (.istore_n 1, 1) := by decide +kernel
theorem dX11_takesSide_16 : decode cX11_takesSide 16 = .ok (.aload_n 0, 1) := by decide +kernel
theorem dX11_takesSide_17 : decode cX11_takesSide 17 = .ok (.iload_n 1, 1) := by decide +kernel
theorem dX11_takesSide_18 : decode cX11_takesSide 18 = .ok (.iconst 1, 1) := by decide +kernel
theorem dX11_takesSide_19 : decode cX11_takesSide 19 = .ok (.if_icmp .eq 13, 3) := by decide +kernel
theorem dX11_takesSide_22 : decode cX11_takesSide 22 = .ok (.aload_n 0, 1) := by decide +kernel
theorem dX11_takesSide_23 : decode cX11_takesSide 23 = .ok (.ldc_w 266, 3) := by decide +kernel
theorem dX11_takesSide_26 : decode cX11_takesSide 26 = .ok (.invokevirtual 198, 3) := by decide +kernel
theorem dX11_takesSide_29 : decode cX11_takesSide 29 = .ok (.ifCond .eq 7, 3) := by decide +kernel
theorem dX11_takesSide_32 : decode cX11_takesSide 32 = .ok (.iconst 1, 1) := by decide +kernel
theorem dX11_takesSide_33 : decode cX11_takesSide 33 = .ok (.goto 4, 3) := by decide +kernel
theorem dX11_takesSide_36 : decode cX11_takesSide 36 = .ok (.iconst 0, 1) := by decide +kernel
theorem dX11_takesSide_37 : decode cX11_takesSide 37 = .ok (.iconst 1, 1) := by decide +kernel
theorem dX11_takesSide_38 : decode cX11_takesSide 38 = .ok (.invokevirtual 205, 3) := by decide +kernel
theorem dX11_takesSide_41 : decode cX11_takesSide 41 = .ok (.pop, 1) := by decide +kernel
theorem dX11_takesSide_42 : decode cX11_takesSide 42 = .ok (.aload_n 0, 1) := by decide +kernel
theorem dX11_takesSide_43 : decode cX11_takesSide 43 = .ok (.invokevirtual 208, 3) := by decide +kernel
theorem dX11_takesSide_46 : decode cX11_takesSide 46 = .ok (.iload_n 1, 1) := by decide +kernel
theorem dX11_takesSide_47 : decode cX11_takesSide 47 = .ok (.ireturn, 1) := by decide +kernel
theorem dX11_takesRanking_0 : decode cX11_takesRanking 0 = .ok (.aload_n 0, 1) := by decide +kernel
theorem dX11_takesRanking_1 : decode cX11_takesRanking 1 = .ok (.ldc_w 268, 3) := by decide +kernel
theorem dX11_takesRanking_4 : decode cX11_takesRanking 4 = .ok (.invokevirtual 198, 3) := by decide +kernel
theorem dX11_takesRanking_7 : decode cX11_takesRanking 7 = .ok (.ifCond .eq 7, 3) := by decide +kernel
theorem dX11_takesRanking_10 : decode cX11_takesRanking 10 = .ok (.iconst 0, 1) := by decide +kernel
theorem dX11_takesRanking_11 : decode cX11_takesRanking 11 = .ok (.goto 46, 3) := by decide +kernel
theorem dX11_takesRanking_14 : decode cX11_takesRanking 14 = .ok (.aload_n 0, 1) := by decide +kernel
theorem dX11_takesRanking_15 : decode cX11_takesRanking 15 = .ok (.ldc_w 270, 3) := by decide +kernel
theorem dX11_takesRanking_18 : decode cX11_takesRanking 18 = .ok (.invokevirtual 198, 3) := by decide +kernel
theorem dX11_takesRanking_21 : decode cX11_takesRanking 21 = .ok (.ifCond .eq 7, 3) := by decide +kernel
theorem dX11_takesRanking_24 : decode cX11_takesRanking 24 = .ok (.iconst 1, 1) := by decide +kernel
theorem dX11_takesRanking_25 : decode cX11_takesRanking 25 = .ok (.goto 32, 3) := by decide +kernel
theorem dX11_takesRanking_28 : decode cX11_takesRanking 28 = .ok (.aload_n 0, 1) := by decide +kernel
theorem dX11_takesRanking_29 : decode cX11_takesRanking 29 = .ok (.ldc_w 272, 3) := by decide +kernel
theorem dX11_takesRanking_32 : decode cX11_takesRanking 32 = .ok (.invokevirtual 198, 3) := by decide +kernel
theorem dX11_takesRanking_35 : decode cX11_takesRanking 35 = .ok (.ifCond .eq 7, 3) := by decide +kernel
theorem dX11_takesRanking_38 : decode cX11_takesRanking 38 = .ok (.iconst 2, 1) := by decide +kernel
theorem dX11_takesRanking_39 : decode cX11_takesRanking 39 = .ok (.goto 18, 3) := by decide +kernel
theorem dX11_takesRanking_42 : decode cX11_takesRanking 42 = .ok (.aload_n 0, 1) := by decide +kernel
theorem dX11_takesRanking_43 : decode cX11_takesRanking 43 = .ok (.ldc_w 274, 3) := by decide +kernel
theorem dX11_takesRanking_46 : decode cX11_takesRanking 46 = .ok (.invokevirtual 198, 3) := by decide +kernel
theorem dX11_takesRanking_49 : decode cX11_takesRanking 49 = .ok (.ifCond .eq 7, 3) := by decide +kernel
theorem dX11_takesRanking_52 : decode cX11_takesRanking 52 = .ok (.iconst 3, 1) := by decide +kernel
theorem dX11_takesRanking_53 : decode cX11_takesRanking 53 = .ok (.goto 4, 3) := by decide +kernel
theorem dX11_takesRanking_56 : decode cX11_takesRanking 56 = .ok (.iconst (-1), 1) := by decide +kernel
theorem dX11_takesRanking_57 : decode cX11_takesRanking 57 = .ok (.istore_n 1, 1) := by decide +kernel
theorem dX11_takesRanking_58 : decode cX11_takesRanking 58 = .ok (.aload_n 0, 1) := by decide +kernel
theorem dX11_takesRanking_59 : decode cX11_takesRanking 59 = .ok (.iload_n 1, 1) := by decide +kernel
theorem dX11_takesRanking_60 : decode cX11_takesRanking 60 = .ok (.iconst (-1), 1) := by decide +kernel
theorem dX11_takesRanking_61 : decode cX11_takesRanking 61 = .ok (.if_icmp .eq 7, 3) := by decide +kernel
theorem dX11_takesRanking_64 : decode cX11_takesRanking 64 = .ok (.iconst 1, 1) := by decide +kernel
theorem dX11_takesRanking_65 : decode cX11_takesRanking 65 = .ok (.goto 4, 3) := by decide +kernel
theorem dX11_takesRanking_68 : decode cX11_takesRanking 68 = .ok (.iconst 0, 1) := by decide +kernel
theorem dX11_takesRanking_69 : decode cX11_takesRanking 69 = .ok (.iconst 1, 1) := by decide +kernel
theorem dX11_takesRanking_70 : decode cX11_takesRanking 70 = .ok (.invokevirtual 205, 3) := by decide +kernel
theorem dX11_takesRanking_73 : decode cX11_takesRanking 73 = .ok (.pop, 1) := by decide +kernel
theorem dX11_takesRanking_74 : decode cX11_takesRanking 74 = .ok (.aload_n 0, 1) := by decide +kernel
theorem dX11_takesRanking_75 : decode cX11_takesRanking 75 = .ok (.invokevirtual 208, 3) := by decide +kernel
theorem dX11_takesRanking_78 : decode cX11_takesRanking 78 = .ok (.iload_n 1, 1) := by decide +kernel
theorem dX11_takesRanking_79 : decode cX11_takesRanking 79 = .ok (.ireturn, 1) := by decide +kernel
theorem dX11_readsSingle_0 : decode cX11_readsSingle 0 = .ok (.aload_n 0, 1) := by decide +kernel
theorem dX11_readsSingle_1 : decode cX11_readsSingle 1 = .ok (.getfield 36, 3) := by decide +kernel
theorem dX11_readsSingle_4 : decode cX11_readsSingle 4 = .ok (.iload_n 1, 1) := by decide +kernel
theorem dX11_readsSingle_5 : decode cX11_readsSingle 5 = .ok (.iaload, 1) := by decide +kernel
theorem dX11_readsSingle_6 : decode cX11_readsSingle 6 = .ok (.tableswitch 174 0 6 #[42, 68, 104, 129, 145, 145, 161], 42) := by decide +kernel
theorem dX11_readsSingle_48 : decode cX11_readsSingle 48 = .ok (.aload_n 0, 1) := by decide +kernel
theorem dX11_readsSingle_49 : decode cX11_readsSingle 49 = .ok (.getfield 39, 3) := by decide +kernel
theorem dX11_readsSingle_52 : decode cX11_readsSingle 52 = .ok (.iload_n 1, 1) := by decide +kernel
theorem dX11_readsSingle_53 : decode cX11_readsSingle 53 = .ok (.aload_n 0, 1) := by decide +kernel
theorem dX11_readsSingle_54 : decode cX11_readsSingle 54 = .ok (.invokevirtual 276, 3) := by decide +kernel
theorem dX11_readsSingle_57 : decode cX11_readsSingle 57 = .ok (.iastore, 1) := by decide +kernel
theorem dX11_readsSingle_58 : decode cX11_readsSingle 58 = .ok (.aload_n 0, 1) := by decide +kernel
theorem dX11_readsSingle_59 : decode cX11_readsSingle 59 = .ok (.getfield 42, 3) := by decide +kernel
theorem dX11_readsSingle_62 : decode cX11_readsSingle 62 = .ok (.iload_n 1, 1) := by decide +kernel
theorem dX11_readsSingle_63 : decode cX11_readsSingle 63 = .ok (.aload_n 0, 1) := by decide +kernel
theorem dX11_readsSingle_64 : decode cX11_readsSingle 64 = .ok (.iconst 0, 1) := by decide +kernel
theorem dX11_readsSingle_65 : decode cX11_readsSingle 65 = .ok (.bipush 20, 2) := by decide +kernel
theorem dX11_readsSingle_67 : decode cX11_readsSingle 67 = .ok (.invokevirtual 222, 3) := by decide +kernel
theorem dX11_readsSingle_70 : decode cX11_readsSingle 70 = .ok (.iastore, 1) := by decide +kernel
theorem dX11_readsSingle_71 : decode cX11_readsSingle 71 = .ok (.goto 119, 3) := by decide +kernel
theorem dX11_readsSingle_74 : decode cX11_readsSingle 74 = .ok (.aload_n 0, 1) := by decide +kernel
theorem dX11_readsSingle_75 : decode cX11_readsSingle 75 = .ok (.getfield 39, 3) := by decide +kernel
theorem dX11_readsSingle_78 : decode cX11_readsSingle 78 = .ok (.iload_n 1, 1) := by decide +kernel
theorem dX11_readsSingle_79 : decode cX11_readsSingle 79 = .ok (.aload_n 0, 1) := by decide +kernel
theorem dX11_readsSingle_80 : decode cX11_readsSingle 80 = .ok (.invokevirtual 276, 3) := by decide +kernel
theorem dX11_readsSingle_83 : decode cX11_readsSingle 83 = .ok (.iastore, 1) := by decide +kernel
theorem dX11_readsSingle_84 : decode cX11_readsSingle 84 = .ok (.aload_n 0, 1) := by decide +kernel
theorem dX11_readsSingle_85 : decode cX11_readsSingle 85 = .ok (.getfield 45, 3) := by decide +kernel
theorem dX11_readsSingle_88 : decode cX11_readsSingle 88 = .ok (.iload_n 1, 1) := by decide +kernel
theorem dX11_readsSingle_89 : decode cX11_readsSingle 89 = .ok (.aload_n 0, 1) := by decide +kernel
theorem dX11_readsSingle_90 : decode cX11_readsSingle 90 = .ok (.invokevirtual 279, 3) := by decide +kernel
theorem dX11_readsSingle_93 : decode cX11_readsSingle 93 = .ok (.iastore, 1) := by decide +kernel
theorem dX11_readsSingle_94 : decode cX11_readsSingle 94 = .ok (.aload_n 0, 1) := by decide +kernel
theorem dX11_readsSingle_95 : decode cX11_readsSingle 95 = .ok (.getfield 42, 3) := by decide +kernel
theorem dX11_readsSingle_98 : decode cX11_readsSingle 98 = .ok (.iload_n 1, 1) := by decide +kernel
theorem dX11_readsSingle_99 : decode cX11_readsSingle 99 = .ok (.aload_n 0, 1) := by decide +kernel
theorem dX11_readsSingle_100 : decode cX11_readsSingle 100 = .ok (.iconst 0, 1) := by decide +kernel
theorem dX11_readsSingle_101 : decode cX11_readsSingle 101 = .ok (.bipush 15, 2) := by decide +kernel
theorem dX11_readsSingle_103 : decode cX11_readsSingle 103 = .ok (.invokevirtual 222, 3) := by decide +kernel
theorem dX11_readsSingle_106 : decode cX11_readsSingle 106 = .ok (.iastore, 1) := by decide +kernel
theorem dX11_readsSingle_107 : decode cX11_readsSingle 107 = .ok (.goto 83, 3) := by decide +kernel
theorem dX11_readsSingle_110 : decode cX11_readsSingle 110 = .ok (.aload_n 0, 1) := by decide +kernel
theorem dX11_readsSingle_111 : decode cX11_readsSingle 111 = .ok (.getfield 39, 3) := by decide +kernel
theorem dX11_readsSingle_114 : decode cX11_readsSingle 114 = .ok (.iload_n 1, 1) := by decide +kernel
theorem dX11_readsSingle_115 : decode cX11_readsSingle 115 = .ok (.aload_n 0, 1) := by decide +kernel
theorem dX11_readsSingle_116 : decode cX11_readsSingle 116 = .ok (.invokevirtual 276, 3) := by decide +kernel
theorem dX11_readsSingle_119 : decode cX11_readsSingle 119 = .ok (.iastore, 1) := by decide +kernel
theorem dX11_readsSingle_120 : decode cX11_readsSingle 120 = .ok (.aload_n 0, 1) := by decide +kernel
theorem dX11_readsSingle_121 : decode cX11_readsSingle 121 = .ok (.getfield 42, 3) := by decide +kernel
theorem dX11_readsSingle_124 : decode cX11_readsSingle 124 = .ok (.iload_n 1, 1) := by decide +kernel
theorem dX11_readsSingle_125 : decode cX11_readsSingle 125 = .ok (.aload_n 0, 1) := by decide +kernel
theorem dX11_readsSingle_126 : decode cX11_readsSingle 126 = .ok (.iconst 0, 1) := by decide +kernel
theorem dX11_readsSingle_127 : decode cX11_readsSingle 127 = .ok (.iconst 3, 1) := by decide +kernel
theorem dX11_readsSingle_128 : decode cX11_readsSingle 128 = .ok (.invokevirtual 222, 3) := by decide +kernel
theorem dX11_readsSingle_131 : decode cX11_readsSingle 131 = .ok (.iastore, 1) := by decide +kernel
theorem dX11_readsSingle_132 : decode cX11_readsSingle 132 = .ok (.goto 58, 3) := by decide +kernel
theorem dX11_readsSingle_135 : decode cX11_readsSingle 135 = .ok (.aload_n 0, 1) := by decide +kernel
theorem dX11_readsSingle_136 : decode cX11_readsSingle 136 = .ok (.getfield 42, 3) := by decide +kernel
theorem dX11_readsSingle_139 : decode cX11_readsSingle 139 = .ok (.iload_n 1, 1) := by decide +kernel
theorem dX11_readsSingle_140 : decode cX11_readsSingle 140 = .ok (.aload_n 0, 1) := by decide +kernel
theorem dX11_readsSingle_141 : decode cX11_readsSingle 141 = .ok (.iconst 1, 1) := by decide +kernel
theorem dX11_readsSingle_142 : decode cX11_readsSingle 142 = .ok (.bipush 60, 2) := by decide +kernel
theorem dX11_readsSingle_144 : decode cX11_readsSingle 144 = .ok (.invokevirtual 222, 3) := by decide +kernel
theorem dX11_readsSingle_147 : decode cX11_readsSingle 147 = .ok (.iastore, 1) := by decide +kernel
theorem dX11_readsSingle_148 : decode cX11_readsSingle 148 = .ok (.goto 42, 3) := by decide +kernel
theorem dX11_readsSingle_151 : decode cX11_readsSingle 151 = .ok (.aload_n 0, 1) := by decide +kernel
theorem dX11_readsSingle_152 : decode cX11_readsSingle 152 = .ok (.getfield 42, 3) := by decide +kernel
theorem dX11_readsSingle_155 : decode cX11_readsSingle 155 = .ok (.iload_n 1, 1) := by decide +kernel
theorem dX11_readsSingle_156 : decode cX11_readsSingle 156 = .ok (.aload_n 0, 1) := by decide +kernel
theorem dX11_readsSingle_157 : decode cX11_readsSingle 157 = .ok (.iconst 0, 1) := by decide +kernel
theorem dX11_readsSingle_158 : decode cX11_readsSingle 158 = .ok (.bipush 15, 2) := by decide +kernel
theorem dX11_readsSingle_160 : decode cX11_readsSingle 160 = .ok (.invokevirtual 222, 3) := by decide +kernel
theorem dX11_readsSingle_163 : decode cX11_readsSingle 163 = .ok (.iastore, 1) := by decide +kernel
theorem dX11_readsSingle_164 : decode cX11_readsSingle 164 = .ok (.goto 26, 3) := by decide +kernel
theorem dX11_readsSingle_167 : decode cX11_readsSingle 167 = .ok (.aload_n 0, 1) := by decide +kernel
theorem dX11_readsSingle_168 : decode cX11_readsSingle 168 = .ok (.getfield 39, 3) := by decide +kernel
theorem dX11_readsSingle_171 : decode cX11_readsSingle 171 = .ok (.iload_n 1, 1) := by decide +kernel
theorem dX11_readsSingle_172 : decode cX11_readsSingle 172 = .ok (.aload_n 0, 1) := by decide +kernel
theorem dX11_readsSingle_173 : decode cX11_readsSingle 173 = .ok (.invokevirtual 276, 3) := by decide +kernel
theorem dX11_readsSingle_176 : decode cX11_readsSingle 176 = .ok (.iastore, 1) := by decide +kernel
theorem dX11_readsSingle_177 : decode cX11_readsSingle 177 = .ok (.goto 13, 3) := by decide +kernel
theorem dX11_readsSingle_180 : decode cX11_readsSingle 180 = .ok (.aload_n 0, 1) := by decide +kernel
theorem dX11_readsSingle_181 : decode cX11_readsSingle 181 = .ok (.getfield 42, 3) := by decide +kernel
theorem dX11_readsSingle_184 : decode cX11_readsSingle 184 = .ok (.iload_n 1, 1) := by decide +kernel
theorem dX11_readsSingle_185 : decode cX11_readsSingle 185 = .ok (.aload_n 0, 1) := by decide +kernel
theorem dX11_readsSingle_186 : decode cX11_readsSingle 186 = .ok (.invokevirtual 282, 3) := by decide +kernel
theorem dX11_readsSingle_189 : decode cX11_readsSingle 189 = .ok (.iastore, 1) := by decide +kernel
theorem dX11_readsSingle_190 : decode cX11_readsSingle 190 = .ok (.return_, 1) := by decide +kernel
theorem dX11_readsCommand_0 : decode cX11_readsCommand 0 = .ok (.aload_n 0, 1) := by decide +kernel
theorem dX11_readsCommand_1 : decode cX11_readsCommand 1 = .ok (.invokevirtual 285, 3) := by decide +kernel
theorem dX11_readsCommand_4 : decode cX11_readsCommand 4 = .ok (.istore_n 2, 1) := by decide +kernel
theorem dX11_readsCommand_5 : decode cX11_readsCommand 5 = .ok (.aload_n 0, 1) := by decide +kernel
theorem dX11_readsCommand_6 : decode cX11_readsCommand 6 = .ok (.iload_n 2, 1) := by decide +kernel
theorem dX11_readsCommand_7 : decode cX11_readsCommand 7 = .ok (.iconst (-1), 1) := by decide +kernel
theorem dX11_readsCommand_8 : decode cX11_readsCommand 8 = .ok (.if_icmp .eq 7, 3) := by decide +kernel
theorem dX11_readsCommand_11 : decode cX11_readsCommand 11 = .ok (.iconst 1, 1) := by decide +kernel
theorem dX11_readsCommand_12 : decode cX11_readsCommand 12 = .ok (.goto 4, 3) := by decide +kernel
theorem dX11_readsCommand_15 : decode cX11_readsCommand 15 = .ok (.iconst 0, 1) := by decide +kernel
theorem dX11_readsCommand_16 : decode cX11_readsCommand 16 = .ok (.iconst 1, 1) := by decide +kernel
theorem dX11_readsCommand_17 : decode cX11_readsCommand 17 = .ok (.invokevirtual 205, 3) := by decide +kernel
theorem dX11_readsCommand_20 : decode cX11_readsCommand 20 = .ok (.ifCond .eq 25, 3) := by decide +kernel
theorem dX11_readsCommand_23 : decode cX11_readsCommand 23 = .ok (.aload_n 0, 1) := by decide +kernel
theorem dX11_readsCommand_24 : decode cX11_readsCommand 24 = .ok (.aload_n 0, 1) := by decide +kernel
theorem dX11_readsCommand_25 : decode cX11_readsCommand 25 = .ok (.getfield 261, 3) := by decide +kernel
theorem dX11_readsCommand_28 : decode cX11_readsCommand 28 = .ok (.bipush 30, 2) := by decide +kernel
theorem dX11_readsCommand_30 : decode cX11_readsCommand 30 = .ok (.if_icmp .ge 7, 3) := by decide +kernel
theorem dX11_readsCommand_33 : decode cX11_readsCommand 33 = .ok (.iconst 1, 1) := by decide +kernel
theorem dX11_readsCommand_34 : decode cX11_readsCommand 34 = .ok (.goto 4, 3) := by decide +kernel
theorem dX11_readsCommand_37 : decode cX11_readsCommand 37 = .ok (.iconst 0, 1) := by decide +kernel
theorem dX11_readsCommand_38 : decode cX11_readsCommand 38 = .ok (.iconst 4, 1) := by decide +kernel
theorem dX11_readsCommand_39 : decode cX11_readsCommand 39 = .ok (.invokevirtual 205, 3) := by decide +kernel
theorem dX11_readsCommand_42 : decode cX11_readsCommand 42 = .ok (.ifCond .ne 4, 3) := by decide +kernel
theorem dX11_readsCommand_45 : decode cX11_readsCommand 45 = .ok (.return_, 1) := by decide +kernel
theorem dX11_readsCommand_46 : decode cX11_readsCommand 46 = .ok (.aload_n 0, 1) := by decide +kernel
theorem dX11_readsCommand_47 : decode cX11_readsCommand 47 = .ok (.getfield 261, 3) := by decide +kernel
theorem dX11_readsCommand_50 : decode cX11_readsCommand 50 = .ok (.istore_n 3, 1) := by decide +kernel
theorem dX11_readsCommand_51 : decode cX11_readsCommand 51 = .ok (.aload_n 0, 1) := by decide +kernel
theorem dX11_readsCommand_52 : decode cX11_readsCommand 52 = .ok (.getfield 36, 3) := by decide +kernel
theorem dX11_readsCommand_55 : decode cX11_readsCommand 55 = .ok (.iload_n 3, 1) := by decide +kernel
theorem dX11_readsCommand_56 : decode cX11_readsCommand 56 = .ok (.iload_n 2, 1) := by decide +kernel
theorem dX11_readsCommand_57 : decode cX11_readsCommand 57 = .ok (.iastore, 1) := by decide +kernel
theorem dX11_readsCommand_58 : decode cX11_readsCommand 58 = .ok (.aload_n 0, 1) := by decide +kernel
theorem dX11_readsCommand_59 : decode cX11_readsCommand 59 = .ok (.dup, 1) := by decide +kernel
theorem dX11_readsCommand_60 : decode cX11_readsCommand 60 = .ok (.getfield 261, 3) := by decide +kernel
theorem dX11_readsCommand_63 : decode cX11_readsCommand 63 = .ok (.iconst 1, 1) := by decide +kernel
theorem dX11_readsCommand_64 : decode cX11_readsCommand 64 = .ok (.iadd, 1) := by decide +kernel
theorem dX11_readsCommand_65 : decode cX11_readsCommand 65 = .ok (.putfield 261, 3) := by decide +kernel
theorem dX11_readsCommand_68 : decode cX11_readsCommand 68 = .ok (.aload_n 0, 1) := by decide +kernel
theorem dX11_readsCommand_69 : decode cX11_readsCommand 69 = .ok (.invokevirtual 195, 3) := by decide +kernel
theorem dX11_readsCommand_72 : decode cX11_readsCommand 72 = .ok (.iload_n 2, 1) := by decide +kernel
theorem dX11_readsCommand_73 : decode cX11_readsCommand 73 = .ok (.bipush 8, 2) := by decide +kernel
theorem dX11_readsCommand_75 : decode cX11_readsCommand 75 = .ok (.if_icmp .ne 12, 3) := by decide +kernel
theorem dX11_readsCommand_78 : decode cX11_readsCommand 78 = .ok (.aload_n 0, 1) := by decide +kernel
theorem dX11_readsCommand_79 : decode cX11_readsCommand 79 = .ok (.iload_n 3, 1) := by decide +kernel
theorem dX11_readsCommand_80 : decode cX11_readsCommand 80 = .ok (.iload_n 1, 1) := by decide +kernel
theorem dX11_readsCommand_81 : decode cX11_readsCommand 81 = .ok (.invokevirtual 288, 3) := by decide +kernel
theorem dX11_readsCommand_84 : decode cX11_readsCommand 84 = .ok (.goto 8, 3) := by decide +kernel
theorem dX11_readsCommand_87 : decode cX11_readsCommand 87 = .ok (.aload_n 0, 1) := by decide +kernel
theorem dX11_readsCommand_88 : decode cX11_readsCommand 88 = .ok (.iload_n 3, 1) := by decide +kernel
theorem dX11_readsCommand_89 : decode cX11_readsCommand 89 = .ok (.invokevirtual 292, 3) := by decide +kernel
theorem dX11_readsCommand_92 : decode cX11_readsCommand 92 = .ok (.aload_n 0, 1) := by decide +kernel
theorem dX11_readsCommand_93 : decode cX11_readsCommand 93 = .ok (.bipush 59, 2) := by decide +kernel
theorem dX11_readsCommand_95 : decode cX11_readsCommand 95 = .ok (.invokevirtual 225, 3) := by decide +kernel
theorem dX11_readsCommand_98 : decode cX11_readsCommand 98 = .ok (.return_, 1) := by decide +kernel
theorem dX11_readsCommands_0 : decode cX11_readsCommands 0 = .ok (.aload_n 0, 1) := by decide +kernel
theorem dX11_readsCommands_1 : decode cX11_readsCommands 1 = .ok (.getfield 189, 3) := by decide +kernel
theorem dX11_readsCommands_4 : decode cX11_readsCommands 4 = .ok (.ifCond .ne 27, 3) := by decide +kernel
theorem dX11_readsCommands_7 : decode cX11_readsCommands 7 = .ok (.aload_n 0, 1) := by decide +kernel
theorem dX11_readsCommands_8 : decode cX11_readsCommands 8 = .ok (.getfield 183, 3) := by decide +kernel
theorem dX11_readsCommands_11 : decode cX11_readsCommands 11 = .ok (.ifCond .eq 20, 3) := by decide +kernel
theorem dX11_readsCommands_14 : decode cX11_readsCommands 14 = .ok (.aload_n 0, 1) := by decide +kernel
theorem dX11_readsCommands_15 : decode cX11_readsCommands 15 = .ok (.bipush 41, 2) := by decide +kernel
theorem dX11_readsCommands_17 : decode cX11_readsCommands 17 = .ok (.invokevirtual 202, 3) := by decide +kernel
theorem dX11_readsCommands_20 : decode cX11_readsCommands 20 = .ok (.ifCond .ne 11, 3) := by decide +kernel
theorem dX11_readsCommands_23 : decode cX11_readsCommands 23 = .ok (.aload_n 0, 1) := by decide +kernel
theorem dX11_readsCommands_24 : decode cX11_readsCommands 24 = .ok (.iload_n 1, 1) := by decide +kernel
theorem dX11_readsCommands_25 : decode cX11_readsCommands 25 = .ok (.invokevirtual 295, 3) := by decide +kernel
theorem dX11_readsCommands_28 : decode cX11_readsCommands 28 = .ok (.goto (-28), 3) := by decide +kernel
theorem dX11_readsCommands_31 : decode cX11_readsCommands 31 = .ok (.return_, 1) := by decide +kernel
theorem dX11_does_0 : decode cX11_does 0 = .ok (.aload_n 0, 1) := by decide +kernel
theorem dX11_does_1 : decode cX11_does 1 = .ok (.iconst 0, 1) := by decide +kernel
theorem dX11_does_2 : decode cX11_does 2 = .ok (.putfield 83, 3) := by decide +kernel
theorem dX11_does_5 : decode cX11_does 5 = .ok (.aload_n 0, 1) := by decide +kernel
theorem dX11_does_6 : decode cX11_does 6 = .ok (.getfield 39, 3) := by decide +kernel
theorem dX11_does_9 : decode cX11_does 9 = .ok (.iload_n 1, 1) := by decide +kernel
theorem dX11_does_10 : decode cX11_does 10 = .ok (.iaload, 1) := by decide +kernel
theorem dX11_does_11 : decode cX11_does 11 = .ok (.istore_n 2, 1) := by decide +kernel
theorem dX11_does_12 : decode cX11_does 12 = .ok (.aload_n 0, 1) := by decide +kernel
theorem dX11_does_13 : decode cX11_does 13 = .ok (.getfield 42, 3) := by decide +kernel
theorem dX11_does_16 : decode cX11_does 16 = .ok (.iload_n 1, 1) := by decide +kernel
theorem dX11_does_17 : decode cX11_does 17 = .ok (.iaload, 1) := by decide +kernel
theorem dX11_does_18 : decode cX11_does 18 = .ok (.istore_n 3, 1) := by decide +kernel
theorem dX11_does_19 : decode cX11_does 19 = .ok (.aload_n 0, 1) := by decide +kernel
theorem dX11_does_20 : decode cX11_does 20 = .ok (.getfield 36, 3) := by decide +kernel
theorem dX11_does_23 : decode cX11_does 23 = .ok (.iload_n 1, 1) := by decide +kernel
theorem dX11_does_24 : decode cX11_does 24 = .ok (.iaload, 1) := by decide +kernel
theorem dX11_does_25 : decode cX11_does 25 = .ok (.tableswitch 94 0 6 #[43, 50, 63, 70, 76, 82, 88], 43) := by decide +kernel
theorem dX11_does_68 : decode cX11_does 68 = .ok (.aload_n 0, 1) := by decide +kernel
theorem dX11_does_69 : decode cX11_does 69 = .ok (.iload_n 2, 1) := by decide +kernel
theorem dX11_does_70 : decode cX11_does 70 = .ok (.iload_n 3, 1) := by decide +kernel
theorem dX11_does_71 : decode cX11_does 71 = .ok (.invokevirtual 298, 3) := by decide +kernel
theorem dX11_does_74 : decode cX11_does 74 = .ok (.ireturn, 1) := by decide +kernel
theorem dX11_does_75 : decode cX11_does 75 = .ok (.aload_n 0, 1) := by decide +kernel
theorem dX11_does_76 : decode cX11_does 76 = .ok (.iload_n 2, 1) := by decide +kernel
theorem dX11_does_77 : decode cX11_does 77 = .ok (.iload_n 3, 1) := by decide +kernel
theorem dX11_does_78 : decode cX11_does 78 = .ok (.aload_n 0, 1) := by decide +kernel
theorem dX11_does_79 : decode cX11_does 79 = .ok (.getfield 45, 3) := by decide +kernel
theorem dX11_does_82 : decode cX11_does 82 = .ok (.iload_n 1, 1) := by decide +kernel
theorem dX11_does_83 : decode cX11_does 83 = .ok (.iaload, 1) := by decide +kernel
theorem dX11_does_84 : decode cX11_does 84 = .ok (.invokevirtual 301, 3) := by decide +kernel
theorem dX11_does_87 : decode cX11_does 87 = .ok (.ireturn, 1) := by decide +kernel
theorem dX11_does_88 : decode cX11_does 88 = .ok (.aload_n 0, 1) := by decide +kernel
theorem dX11_does_89 : decode cX11_does 89 = .ok (.iload_n 2, 1) := by decide +kernel
theorem dX11_does_90 : decode cX11_does 90 = .ok (.iload_n 3, 1) := by decide +kernel
theorem dX11_does_91 : decode cX11_does 91 = .ok (.invokevirtual 305, 3) := by decide +kernel
theorem dX11_does_94 : decode cX11_does 94 = .ok (.ireturn, 1) := by decide +kernel
theorem dX11_does_95 : decode cX11_does 95 = .ok (.aload_n 0, 1) := by decide +kernel
theorem dX11_does_96 : decode cX11_does 96 = .ok (.iload_n 3, 1) := by decide +kernel
theorem dX11_does_97 : decode cX11_does 97 = .ok (.invokevirtual 308, 3) := by decide +kernel
theorem dX11_does_100 : decode cX11_does 100 = .ok (.ireturn, 1) := by decide +kernel
theorem dX11_does_101 : decode cX11_does 101 = .ok (.aload_n 0, 1) := by decide +kernel
theorem dX11_does_102 : decode cX11_does 102 = .ok (.iload_n 3, 1) := by decide +kernel
theorem dX11_does_103 : decode cX11_does 103 = .ok (.invokevirtual 311, 3) := by decide +kernel
theorem dX11_does_106 : decode cX11_does 106 = .ok (.ireturn, 1) := by decide +kernel
theorem dX11_does_107 : decode cX11_does 107 = .ok (.aload_n 0, 1) := by decide +kernel
theorem dX11_does_108 : decode cX11_does 108 = .ok (.iload_n 3, 1) := by decide +kernel
theorem dX11_does_109 : decode cX11_does 109 = .ok (.invokevirtual 314, 3) := by decide +kernel
theorem dX11_does_112 : decode cX11_does 112 = .ok (.ireturn, 1) := by decide +kernel
theorem dX11_does_113 : decode cX11_does 113 = .ok (.aload_n 0, 1) := by decide +kernel
theorem dX11_does_114 : decode cX11_does 114 = .ok (.iload_n 2, 1) := by decide +kernel
theorem dX11_does_115 : decode cX11_does 115 = .ok (.invokevirtual 317, 3) := by decide +kernel
theorem dX11_does_118 : decode cX11_does 118 = .ok (.ireturn, 1) := by decide +kernel
theorem dX11_does_119 : decode cX11_does 119 = .ok (.aload_n 0, 1) := by decide +kernel
theorem dX11_does_120 : decode cX11_does 120 = .ok (.iload_n 3, 1) := by decide +kernel
theorem dX11_does_121 : decode cX11_does 121 = .ok (.invokevirtual 320, 3) := by decide +kernel
theorem dX11_does_124 : decode cX11_does 124 = .ok (.ireturn, 1) := by decide +kernel
theorem dX11_doesAll_0 : decode cX11_doesAll 0 = .ok (.iload_n 1, 1) := by decide +kernel
theorem dX11_doesAll_1 : decode cX11_doesAll 1 = .ok (.istore_n 3, 1) := by decide +kernel
theorem dX11_doesAll_2 : decode cX11_doesAll 2 = .ok (.iload_n 3, 1) := by decide +kernel
theorem dX11_doesAll_3 : decode cX11_doesAll 3 = .ok (.iload_n 2, 1) := by decide +kernel
theorem dX11_doesAll_4 : decode cX11_doesAll 4 = .ok (.if_icmp .ge 105, 3) := by decide +kernel
theorem dX11_doesAll_7 : decode cX11_doesAll 7 = .ok (.aload_n 0, 1) := by decide +kernel
theorem dX11_doesAll_8 : decode cX11_doesAll 8 = .ok (.getfield 36, 3) := by decide +kernel
theorem dX11_doesAll_11 : decode cX11_doesAll 11 = .ok (.iload_n 3, 1) := by decide +kernel
theorem dX11_doesAll_12 : decode cX11_doesAll 12 = .ok (.iaload, 1) := by decide +kernel
theorem dX11_doesAll_13 : decode cX11_doesAll 13 = .ok (.bipush 8, 2) := by decide +kernel
theorem dX11_doesAll_15 : decode cX11_doesAll 15 = .ok (.if_icmp .ne 51, 3) := by decide +kernel
theorem dX11_doesAll_18 : decode cX11_doesAll 18 = .ok (.iconst 0, 1) := by decide +kernel
theorem dX11_doesAll_19 : decode cX11_doesAll 19 = .ok (.istore 4, 2) := by decide +kernel
theorem dX11_doesAll_21 : decode cX11_doesAll 21 = .ok (.iload 4, 2) := by decide +kernel
theorem dX11_doesAll_23 : decode cX11_doesAll 23 = .ok (.aload_n 0, 1) := by decide +kernel
theorem dX11_doesAll_24 : decode cX11_doesAll 24 = .ok (.getfield 42, 3) := by decide +kernel
theorem dX11_doesAll_27 : decode cX11_doesAll 27 = .ok (.iload_n 3, 1) := by decide +kernel
theorem dX11_doesAll_28 : decode cX11_doesAll 28 = .ok (.iaload, 1) := by decide +kernel
theorem dX11_doesAll_29 : decode cX11_doesAll 29 = .ok (.if_icmp .ge 27, 3) := by decide +kernel
theorem dX11_doesAll_32 : decode cX11_doesAll 32 = .ok (.aload_n 0, 1) := by decide +kernel
theorem dX11_doesAll_33 : decode cX11_doesAll 33 = .ok (.iload_n 3, 1) := by decide +kernel
theorem dX11_doesAll_34 : decode cX11_doesAll 34 = .ok (.iconst 1, 1) := by decide +kernel
theorem dX11_doesAll_35 : decode cX11_doesAll 35 = .ok (.iadd, 1) := by decide +kernel
theorem dX11_doesAll_36 : decode cX11_doesAll 36 = .ok (.aload_n 0, 1) := by decide +kernel
theorem dX11_doesAll_37 : decode cX11_doesAll 37 = .ok (.getfield 45, 3) := by decide +kernel
theorem dX11_doesAll_40 : decode cX11_doesAll 40 = .ok (.iload_n 3, 1) := by decide +kernel
theorem dX11_doesAll_41 : decode cX11_doesAll 41 = .ok (.iaload, 1) := by decide +kernel
theorem dX11_doesAll_42 : decode cX11_doesAll 42 = .ok (.invokevirtual 323, 3) := by decide +kernel
theorem dX11_doesAll_45 : decode cX11_doesAll 45 = .ok (.ifCond .ne 5, 3) := by decide +kernel
theorem dX11_doesAll_48 : decode cX11_doesAll 48 = .ok (.iconst 0, 1) := by decide +kernel
theorem dX11_doesAll_49 : decode cX11_doesAll 49 = .ok (.ireturn, 1) := by decide +kernel
theorem dX11_doesAll_50 : decode cX11_doesAll 50 = .ok (.iinc 4 1, 3) := by decide +kernel
theorem dX11_doesAll_53 : decode cX11_doesAll 53 = .ok (.goto (-32), 3) := by decide +kernel
theorem dX11_doesAll_56 : decode cX11_doesAll 56 = .ok (.aload_n 0, 1) := by decide +kernel
theorem dX11_doesAll_57 : decode cX11_doesAll 57 = .ok (.getfield 45, 3) := by decide +kernel
theorem dX11_doesAll_60 : decode cX11_doesAll 60 = .ok (.iload_n 3, 1) := by decide +kernel
theorem dX11_doesAll_61 : decode cX11_doesAll 61 = .ok (.iaload, 1) := by decide +kernel
theorem dX11_doesAll_62 : decode cX11_doesAll 62 = .ok (.istore_n 3, 1) := by decide +kernel
theorem dX11_doesAll_63 : decode cX11_doesAll 63 = .ok (.goto (-61), 3) := by decide +kernel
theorem dX11_doesAll_66 : decode cX11_doesAll 66 = .ok (.aload_n 0, 1) := by decide +kernel
theorem dX11_doesAll_67 : decode cX11_doesAll 67 = .ok (.getfield 326, 3) := by decide +kernel
theorem dX11_doesAll_70 : decode cX11_doesAll 70 = .ok (.bipush 40, 2) := by decide +kernel
theorem dX11_doesAll_72 : decode cX11_doesAll 72 = .ok (.if_icmp .ne 5, 3) := by decide +kernel
theorem dX11_doesAll_75 : decode cX11_doesAll 75 = .ok (.iconst 0, 1) := by decide +kernel
theorem dX11_doesAll_76 : decode cX11_doesAll 76 = .ok (.ireturn, 1) := by decide +kernel
theorem dX11_doesAll_77 : decode cX11_doesAll 77 = .ok (.aload_n 0, 1) := by decide +kernel
theorem dX11_doesAll_78 : decode cX11_doesAll 78 = .ok (.iload_n 3, 1) := by decide +kernel
theorem dX11_doesAll_79 : decode cX11_doesAll 79 = .ok (.invokevirtual 329, 3) := by decide +kernel
theorem dX11_doesAll_82 : decode cX11_doesAll 82 = .ok (.istore 4, 2) := by decide +kernel
theorem dX11_doesAll_84 : decode cX11_doesAll 84 = .ok (.aload_n 0, 1) := by decide +kernel
theorem dX11_doesAll_85 : decode cX11_doesAll 85 = .ok (.getfield 83, 3) := by decide +kernel
theorem dX11_doesAll_88 : decode cX11_doesAll 88 = .ok (.ifCond .eq 5, 3) := by decide +kernel
theorem dX11_doesAll_91 : decode cX11_doesAll 91 = .ok (.iconst 0, 1) := by decide +kernel
theorem dX11_doesAll_92 : decode cX11_doesAll 92 = .ok (.ireturn, 1) := by decide +kernel
theorem dX11_doesAll_93 : decode cX11_doesAll 93 = .ok (.aload_n 0, 1) := by decide +kernel
theorem dX11_doesAll_94 : decode cX11_doesAll 94 = .ok (.dup, 1) := by decide +kernel
theorem dX11_doesAll_95 : decode cX11_doesAll 95 = .ok (.getfield 326, 3) := by decide +kernel
theorem dX11_doesAll_98 : decode cX11_doesAll 98 = .ok (.iconst 1, 1) := by decide +kernel
theorem dX11_doesAll_99 : decode cX11_doesAll 99 = .ok (.iadd, 1) := by decide +kernel
theorem dX11_doesAll_100 : decode cX11_doesAll 100 = .ok (.putfield 326, 3) := by decide +kernel
theorem dX11_doesAll_103 : decode cX11_doesAll 103 = .ok (.iinc 3 1, 3) := by decide +kernel
theorem dX11_doesAll_106 : decode cX11_doesAll 106 = .ok (.goto (-104), 3) := by decide +kernel
theorem dX11_doesAll_109 : decode cX11_doesAll 109 = .ok (.iconst 1, 1) := by decide +kernel
theorem dX11_doesAll_110 : decode cX11_doesAll 110 = .ok (.ireturn, 1) := by decide +kernel
theorem dX11_runScript_0 : decode cX11_runScript 0 = .ok (.aload_n 0, 1) := by decide +kernel
theorem dX11_runScript_1 : decode cX11_runScript 1 = .ok (.iconst 0, 1) := by decide +kernel
theorem dX11_runScript_2 : decode cX11_runScript 2 = .ok (.putfield 83, 3) := by decide +kernel
theorem dX11_runScript_5 : decode cX11_runScript 5 = .ok (.aload_n 0, 1) := by decide +kernel
theorem dX11_runScript_6 : decode cX11_runScript 6 = .ok (.invokevirtual 73, 3) := by decide +kernel
theorem dX11_runScript_9 : decode cX11_runScript 9 = .ok (.aload_n 0, 1) := by decide +kernel
theorem dX11_runScript_10 : decode cX11_runScript 10 = .ok (.iconst 0, 1) := by decide +kernel
theorem dX11_runScript_11 : decode cX11_runScript 11 = .ok (.putfield 261, 3) := by decide +kernel
theorem dX11_runScript_14 : decode cX11_runScript 14 = .ok (.aload_n 0, 1) := by decide +kernel
theorem dX11_runScript_15 : decode cX11_runScript 15 = .ok (.iconst 0, 1) := by decide +kernel
theorem dX11_runScript_16 : decode cX11_runScript 16 = .ok (.invokevirtual 258, 3) := by decide +kernel
theorem dX11_runScript_19 : decode cX11_runScript 19 = .ok (.aload_n 0, 1) := by decide +kernel
theorem dX11_runScript_20 : decode cX11_runScript 20 = .ok (.aload_n 0, 1) := by decide +kernel
theorem dX11_runScript_21 : decode cX11_runScript 21 = .ok (.getfield 183, 3) := by decide +kernel
theorem dX11_runScript_24 : decode cX11_runScript 24 = .ok (.ifCond .ne 7, 3) := by decide +kernel
theorem dX11_runScript_27 : decode cX11_runScript 27 = .ok (.iconst 1, 1) := by decide +kernel
theorem dX11_runScript_28 : decode cX11_runScript 28 = .ok (.goto 4, 3) := by decide +kernel
theorem dX11_runScript_31 : decode cX11_runScript 31 = .ok (.iconst 0, 1) := by decide +kernel
theorem dX11_runScript_32 : decode cX11_runScript 32 = .ok (.iconst 1, 1) := by decide +kernel
theorem dX11_runScript_33 : decode cX11_runScript 33 = .ok (.invokevirtual 205, 3) := by decide +kernel
theorem dX11_runScript_36 : decode cX11_runScript 36 = .ok (.pop, 1) := by decide +kernel
theorem dX11_runScript_37 : decode cX11_runScript 37 = .ok (.aload_n 0, 1) := by decide +kernel
theorem dX11_runScript_38 : decode cX11_runScript 38 = .ok (.invokevirtual 233, 3) := by decide +kernel
theorem dX11_runScript_41 : decode cX11_runScript 41 = .ok (.ifCond .ne 5, 3) := by decide +kernel
theorem dX11_runScript_44 : decode cX11_runScript 44 = .ok (.iconst (-1), 1) := by decide +kernel
theorem dX11_runScript_45 : decode cX11_runScript 45 = .ok (.ireturn, 1) := by decide +kernel
theorem dX11_runScript_46 : decode cX11_runScript 46 = .ok (.aload_n 0, 1) := by decide +kernel
theorem dX11_runScript_47 : decode cX11_runScript 47 = .ok (.invokevirtual 332, 3) := by decide +kernel
theorem dX11_runScript_50 : decode cX11_runScript 50 = .ok (.aload_n 0, 1) := by decide +kernel
theorem dX11_runScript_51 : decode cX11_runScript 51 = .ok (.iconst 1, 1) := by decide +kernel
theorem dX11_runScript_52 : decode cX11_runScript 52 = .ok (.putfield 335, 3) := by decide +kernel
theorem dX11_runScript_55 : decode cX11_runScript 55 = .ok (.aload_n 0, 1) := by decide +kernel
theorem dX11_runScript_56 : decode cX11_runScript 56 = .ok (.iconst 0, 1) := by decide +kernel
theorem dX11_runScript_57 : decode cX11_runScript 57 = .ok (.putfield 326, 3) := by decide +kernel
theorem dX11_runScript_60 : decode cX11_runScript 60 = .ok (.aload_n 0, 1) := by decide +kernel
theorem dX11_runScript_61 : decode cX11_runScript 61 = .ok (.iconst 0, 1) := by decide +kernel
theorem dX11_runScript_62 : decode cX11_runScript 62 = .ok (.aload_n 0, 1) := by decide +kernel
theorem dX11_runScript_63 : decode cX11_runScript 63 = .ok (.getfield 261, 3) := by decide +kernel
theorem dX11_runScript_66 : decode cX11_runScript 66 = .ok (.invokevirtual 323, 3) := by decide +kernel
theorem dX11_runScript_69 : decode cX11_runScript 69 = .ok (.istore_n 1, 1) := by decide +kernel
theorem dX11_runScript_70 : decode cX11_runScript 70 = .ok (.aload_n 0, 1) := by decide +kernel
theorem dX11_runScript_71 : decode cX11_runScript 71 = .ok (.iconst 0, 1) := by decide +kernel
theorem dX11_runScript_72 : decode cX11_runScript 72 = .ok (.putfield 335, 3) := by decide +kernel
theorem dX11_runScript_75 : decode cX11_runScript 75 = .ok (.aload_n 0, 1) := by decide +kernel
theorem dX11_runScript_76 : decode cX11_runScript 76 = .ok (.iconst 0, 1) := by decide +kernel
theorem dX11_runScript_77 : decode cX11_runScript 77 = .ok (.putfield 83, 3) := by decide +kernel
theorem dX11_runScript_80 : decode cX11_runScript 80 = .ok (.aload_n 0, 1) := by decide +kernel
theorem dX11_runScript_81 : decode cX11_runScript 81 = .ok (.getfield 326, 3) := by decide +kernel
theorem dX11_runScript_84 : decode cX11_runScript 84 = .ok (.ireturn, 1) := by decide +kernel
theorem dX11_memberCount_0 : decode cX11_memberCount 0 = .ok (.aload_n 0, 1) := by decide +kernel
theorem dX11_memberCount_1 : decode cX11_memberCount 1 = .ok (.iconst 0, 1) := by decide +kernel
theorem dX11_memberCount_2 : decode cX11_memberCount 2 = .ok (.putfield 83, 3) := by decide +kernel
theorem dX11_memberCount_5 : decode cX11_memberCount 5 = .ok (.aload_n 0, 1) := by decide +kernel
theorem dX11_memberCount_6 : decode cX11_memberCount 6 = .ok (.getfield 7, 3) := by decide +kernel
theorem dX11_memberCount_9 : decode cX11_memberCount 9 = .ok (.bipush 8, 2) := by decide +kernel
theorem dX11_memberCount_11 : decode cX11_memberCount 11 = .ok (.iaload, 1) := by decide +kernel
theorem dX11_memberCount_12 : decode cX11_memberCount 12 = .ok (.ireturn, 1) := by decide +kernel
theorem dX11_findMember_0 : decode cX11_findMember 0 = .ok (.aload_n 0, 1) := by decide +kernel
theorem dX11_findMember_1 : decode cX11_findMember 1 = .ok (.iconst 0, 1) := by decide +kernel
theorem dX11_findMember_2 : decode cX11_findMember 2 = .ok (.putfield 83, 3) := by decide +kernel
theorem dX11_findMember_5 : decode cX11_findMember 5 = .ok (.aload_n 0, 1) := by decide +kernel
theorem dX11_findMember_6 : decode cX11_findMember 6 = .ok (.getfield 67, 3) := by decide +kernel
theorem dX11_findMember_9 : decode cX11_findMember 9 = .ok (.iconst 1, 1) := by decide +kernel
theorem dX11_findMember_10 : decode cX11_findMember 10 = .ok (.bipush 6, 2) := by decide +kernel
theorem dX11_findMember_12 : decode cX11_findMember 12 = .ok (.invokestatic 86, 3) := by decide +kernel
theorem dX11_findMember_15 : decode cX11_findMember 15 = .ok (.ifCond .ne 5, 3) := by decide +kernel
theorem dX11_findMember_18 : decode cX11_findMember 18 = .ok (.iconst (-1), 1) := by decide +kernel
theorem dX11_findMember_19 : decode cX11_findMember 19 = .ok (.ireturn, 1) := by decide +kernel
theorem dX11_findMember_20 : decode cX11_findMember 20 = .ok (.iconst 0, 1) := by decide +kernel
theorem dX11_findMember_21 : decode cX11_findMember 21 = .ok (.istore_n 1, 1) := by decide +kernel
theorem dX11_findMember_22 : decode cX11_findMember 22 = .ok (.iload_n 1, 1) := by decide +kernel
theorem dX11_findMember_23 : decode cX11_findMember 23 = .ok (.aload_n 0, 1) := by decide +kernel
theorem dX11_findMember_24 : decode cX11_findMember 24 = .ok (.getfield 67, 3) := by decide +kernel
theorem dX11_findMember_27 : decode cX11_findMember 27 = .ok (.if_icmp .ge 27, 3) := by decide +kernel
theorem dX11_findMember_30 : decode cX11_findMember 30 = .ok (.aload_n 0, 1) := by decide +kernel
theorem dX11_findMember_31 : decode cX11_findMember 31 = .ok (.getfield 29, 3) := by decide +kernel
theorem dX11_findMember_34 : decode cX11_findMember 34 = .ok (.iload_n 1, 1) := by decide +kernel
theorem dX11_findMember_35 : decode cX11_findMember 35 = .ok (.iaload, 1) := by decide +kernel
theorem dX11_findMember_36 : decode cX11_findMember 36 = .ok (.bipush 97, 2) := by decide +kernel
theorem dX11_findMember_38 : decode cX11_findMember 38 = .ok (.bipush 122, 2) := by decide +kernel
theorem dX11_findMember_40 : decode cX11_findMember 40 = .ok (.invokestatic 86, 3) := by decide +kernel
theorem dX11_findMember_43 : decode cX11_findMember 43 = .ok (.ifCond .ne 5, 3) := by decide +kernel
theorem dX11_findMember_46 : decode cX11_findMember 46 = .ok (.iconst (-1), 1) := by decide +kernel
theorem dX11_findMember_47 : decode cX11_findMember 47 = .ok (.ireturn, 1) := by decide +kernel
theorem dX11_findMember_48 : decode cX11_findMember 48 = .ok (.iinc 1 1, 3) := by decide +kernel
theorem dX11_findMember_51 : decode cX11_findMember 51 = .ok (.goto (-29), 3) := by decide +kernel
theorem dX11_findMember_54 : decode cX11_findMember 54 = .ok (.aload_n 0, 1) := by decide +kernel
theorem dX11_findMember_55 : decode cX11_findMember 55 = .ok (.aload_n 0, 1) := by decide +kernel
theorem dX11_findMember_56 : decode cX11_findMember 56 = .ok (.iconst 0, 1) := by decide +kernel
theorem dX11_findMember_57 : decode cX11_findMember 57 = .ok (.aload_n 0, 1) := by decide +kernel
theorem dX11_findMember_58 : decode cX11_findMember 58 = .ok (.getfield 67, 3) := by decide +kernel
theorem dX11_findMember_61 : decode cX11_findMember 61 = .ok (.invokevirtual 211, 3) := by decide +kernel
theorem dX11_findMember_64 : decode cX11_findMember 64 = .ok (.invokevirtual 217, 3) := by decide +kernel
theorem dX11_findMember_67 : decode cX11_findMember 67 = .ok (.ireturn, 1) := by decide +kernel
theorem dX11_asked_0 : decode cX11_asked 0 = .ok (.aload_n 0, 1) := by decide +kernel
theorem dX11_asked_1 : decode cX11_asked 1 = .ok (.iconst 0, 1) := by decide +kernel
theorem dX11_asked_2 : decode cX11_asked 2 = .ok (.putfield 83, 3) := by decide +kernel
theorem dX11_asked_5 : decode cX11_asked 5 = .ok (.aload_n 0, 1) := by decide +kernel
theorem dX11_asked_6 : decode cX11_asked 6 = .ok (.aload_n 0, 1) := by decide +kernel
theorem dX11_asked_7 : decode cX11_asked 7 = .ok (.iload_n 1, 1) := by decide +kernel
theorem dX11_asked_8 : decode cX11_asked 8 = .ok (.invokevirtual 339, 3) := by decide +kernel
theorem dX11_asked_11 : decode cX11_asked 11 = .ok (.iconst 1, 1) := by decide +kernel
theorem dX11_asked_12 : decode cX11_asked 12 = .ok (.invokevirtual 167, 3) := by decide +kernel
theorem dX11_asked_15 : decode cX11_asked 15 = .ok (.ifCond .eq 12, 3) := by decide +kernel
theorem dX11_asked_18 : decode cX11_asked 18 = .ok (.aload_n 0, 1) := by decide +kernel
theorem dX11_asked_19 : decode cX11_asked 19 = .ok (.iload_n 1, 1) := by decide +kernel
theorem dX11_asked_20 : decode cX11_asked 20 = .ok (.iload_n 2, 1) := by decide +kernel
theorem dX11_asked_21 : decode cX11_asked 21 = .ok (.invokevirtual 100, 3) := by decide +kernel
theorem dX11_asked_24 : decode cX11_asked 24 = .ok (.goto 4, 3) := by decide +kernel
theorem dX11_asked_27 : decode cX11_asked 27 = .ok (.iconst 0, 1) := by decide +kernel
theorem dX11_asked_28 : decode cX11_asked 28 = .ok (.ireturn, 1) := by decide +kernel
theorem dX11_weight_0 : decode cX11_weight 0 = .ok (.aload_n 0, 1) := by decide +kernel
theorem dX11_weight_1 : decode cX11_weight 1 = .ok (.iload_n 1, 1) := by decide +kernel
theorem dX11_weight_2 : decode cX11_weight 2 = .ok (.iconst 1, 1) := by decide +kernel
theorem dX11_weight_3 : decode cX11_weight 3 = .ok (.invokevirtual 342, 3) := by decide +kernel
theorem dX11_weight_6 : decode cX11_weight 6 = .ok (.ireturn, 1) := by decide +kernel
theorem dX11_purse_0 : decode cX11_purse 0 = .ok (.aload_n 0, 1) := by decide +kernel
theorem dX11_purse_1 : decode cX11_purse 1 = .ok (.iload_n 1, 1) := by decide +kernel
theorem dX11_purse_2 : decode cX11_purse 2 = .ok (.iconst 3, 1) := by decide +kernel
theorem dX11_purse_3 : decode cX11_purse 3 = .ok (.invokevirtual 342, 3) := by decide +kernel
theorem dX11_purse_6 : decode cX11_purse 6 = .ok (.ireturn, 1) := by decide +kernel
theorem dX11_sharpness_0 : decode cX11_sharpness 0 = .ok (.aload_n 0, 1) := by decide +kernel
theorem dX11_sharpness_1 : decode cX11_sharpness 1 = .ok (.iload_n 1, 1) := by decide +kernel
theorem dX11_sharpness_2 : decode cX11_sharpness 2 = .ok (.iconst 4, 1) := by decide +kernel
theorem dX11_sharpness_3 : decode cX11_sharpness 3 = .ok (.invokevirtual 342, 3) := by decide +kernel
theorem dX11_sharpness_6 : decode cX11_sharpness 6 = .ok (.ireturn, 1) := by decide +kernel
theorem dX11_speechesOf_0 : decode cX11_speechesOf 0 = .ok (.aload_n 0, 1) := by decide +kernel
theorem dX11_speechesOf_1 : decode cX11_speechesOf 1 = .ok (.iload_n 1, 1) := by decide +kernel
theorem dX11_speechesOf_2 : decode cX11_speechesOf 2 = .ok (.iconst 5, 1) := by decide +kernel
theorem dX11_speechesOf_3 : decode cX11_speechesOf 3 = .ok (.invokevirtual 342, 3) := by decide +kernel
theorem dX11_speechesOf_6 : decode cX11_speechesOf 6 = .ok (.ireturn, 1) := by decide +kernel
theorem dX11_leaning_0 : decode cX11_leaning 0 = .ok (.aload_n 0, 1) := by decide +kernel
theorem dX11_leaning_1 : decode cX11_leaning 1 = .ok (.iconst 0, 1) := by decide +kernel
theorem dX11_leaning_2 : decode cX11_leaning 2 = .ok (.putfield 83, 3) := by decide +kernel
theorem dX11_leaning_5 : decode cX11_leaning 5 = .ok (.aload_n 0, 1) := by decide +kernel
theorem dX11_leaning_6 : decode cX11_leaning 6 = .ok (.aload_n 0, 1) := by decide +kernel
theorem dX11_leaning_7 : decode cX11_leaning 7 = .ok (.iload_n 1, 1) := by decide +kernel
theorem dX11_leaning_8 : decode cX11_leaning 8 = .ok (.invokevirtual 339, 3) := by decide +kernel
theorem dX11_leaning_11 : decode cX11_leaning 11 = .ok (.ifCond .eq 15, 3) := by decide +kernel
theorem dX11_leaning_14 : decode cX11_leaning 14 = .ok (.aload_n 0, 1) := by decide +kernel
theorem dX11_leaning_15 : decode cX11_leaning 15 = .ok (.iload_n 2, 1) := by decide +kernel
theorem dX11_leaning_16 : decode cX11_leaning 16 = .ok (.invokevirtual 345, 3) := by decide +kernel
theorem dX11_leaning_19 : decode cX11_leaning 19 = .ok (.ifCond .eq 7, 3) := by decide +kernel
theorem dX11_leaning_22 : decode cX11_leaning 22 = .ok (.iconst 1, 1) := by decide +kernel
theorem dX11_leaning_23 : decode cX11_leaning 23 = .ok (.goto 4, 3) := by decide +kernel
theorem dX11_leaning_26 : decode cX11_leaning 26 = .ok (.iconst 0, 1) := by decide +kernel
theorem dX11_leaning_27 : decode cX11_leaning 27 = .ok (.iconst 1, 1) := by decide +kernel
theorem dX11_leaning_28 : decode cX11_leaning 28 = .ok (.invokevirtual 167, 3) := by decide +kernel
theorem dX11_leaning_31 : decode cX11_leaning 31 = .ok (.ifCond .eq 12, 3) := by decide +kernel
theorem dX11_leaning_34 : decode cX11_leaning 34 = .ok (.aload_n 0, 1) := by decide +kernel
theorem dX11_leaning_35 : decode cX11_leaning 35 = .ok (.iload_n 1, 1) := by decide +kernel
theorem dX11_leaning_36 : decode cX11_leaning 36 = .ok (.iload_n 2, 1) := by decide +kernel
theorem dX11_leaning_37 : decode cX11_leaning 37 = .ok (.invokevirtual 114, 3) := by decide +kernel
theorem dX11_leaning_40 : decode cX11_leaning 40 = .ok (.goto 4, 3) := by decide +kernel
theorem dX11_leaning_43 : decode cX11_leaning 43 = .ok (.iconst 0, 1) := by decide +kernel
theorem dX11_leaning_44 : decode cX11_leaning 44 = .ok (.ireturn, 1) := by decide +kernel
theorem dX11_chairOf_0 : decode cX11_chairOf 0 = .ok (.aload_n 0, 1) := by decide +kernel
theorem dX11_chairOf_1 : decode cX11_chairOf 1 = .ok (.iconst 0, 1) := by decide +kernel
theorem dX11_chairOf_2 : decode cX11_chairOf 2 = .ok (.putfield 83, 3) := by decide +kernel
theorem dX11_chairOf_5 : decode cX11_chairOf 5 = .ok (.aload_n 0, 1) := by decide +kernel
theorem dX11_chairOf_6 : decode cX11_chairOf 6 = .ok (.aload_n 0, 1) := by decide +kernel
theorem dX11_chairOf_7 : decode cX11_chairOf 7 = .ok (.iload_n 1, 1) := by decide +kernel
theorem dX11_chairOf_8 : decode cX11_chairOf 8 = .ok (.invokevirtual 339, 3) := by decide +kernel
theorem dX11_chairOf_11 : decode cX11_chairOf 11 = .ok (.iconst 1, 1) := by decide +kernel
theorem dX11_chairOf_12 : decode cX11_chairOf 12 = .ok (.invokevirtual 167, 3) := by decide +kernel
theorem dX11_chairOf_15 : decode cX11_chairOf 15 = .ok (.ifCond .eq 11, 3) := by decide +kernel
theorem dX11_chairOf_18 : decode cX11_chairOf 18 = .ok (.aload_n 0, 1) := by decide +kernel
theorem dX11_chairOf_19 : decode cX11_chairOf 19 = .ok (.iload_n 1, 1) := by decide +kernel
theorem dX11_chairOf_20 : decode cX11_chairOf 20 = .ok (.invokevirtual 348, 3) := by decide +kernel
theorem dX11_chairOf_23 : decode cX11_chairOf 23 = .ok (.goto 4, 3) := by decide +kernel
theorem dX11_chairOf_26 : decode cX11_chairOf 26 = .ok (.iconst 0, 1) := by decide +kernel
theorem dX11_chairOf_27 : decode cX11_chairOf 27 = .ok (.ireturn, 1) := by decide +kernel
theorem dX11_placeInList_0 : decode cX11_placeInList 0 = .ok (.aload_n 0, 1) := by decide +kernel
theorem dX11_placeInList_1 : decode cX11_placeInList 1 = .ok (.iconst 0, 1) := by decide +kernel
theorem dX11_placeInList_2 : decode cX11_placeInList 2 = .ok (.putfield 83, 3) := by decide +kernel
theorem dX11_placeInList_5 : decode cX11_placeInList 5 = .ok (.aload_n 0, 1) := by decide +kernel
theorem dX11_placeInList_6 : decode cX11_placeInList 6 = .ok (.aload_n 0, 1) := by decide +kernel
theorem dX11_placeInList_7 : decode cX11_placeInList 7 = .ok (.iload_n 1, 1) := by decide +kernel
theorem dX11_placeInList_8 : decode cX11_placeInList 8 = .ok (.invokevirtual 339, 3) := by decide +kernel
theorem dX11_placeInList_11 : decode cX11_placeInList 11 = .ok (.iconst 1, 1) := by decide +kernel
theorem dX11_placeInList_12 : decode cX11_placeInList 12 = .ok (.invokevirtual 167, 3) := by decide +kernel
theorem dX11_placeInList_15 : decode cX11_placeInList 15 = .ok (.ifCond .eq 11, 3) := by decide +kernel
theorem dX11_placeInList_18 : decode cX11_placeInList 18 = .ok (.aload_n 0, 1) := by decide +kernel
theorem dX11_placeInList_19 : decode cX11_placeInList 19 = .ok (.iload_n 1, 1) := by decide +kernel
theorem dX11_placeInList_20 : decode cX11_placeInList 20 = .ok (.invokevirtual 351, 3) := by decide +kernel
theorem dX11_placeInList_23 : decode cX11_placeInList 23 = .ok (.goto 4, 3) := by decide +kernel
theorem dX11_placeInList_26 : decode cX11_placeInList 26 = .ok (.iconst 0, 1) := by decide +kernel
theorem dX11_placeInList_27 : decode cX11_placeInList 27 = .ok (.ireturn, 1) := by decide +kernel
theorem dX11_motionCount_0 : decode cX11_motionCount 0 = .ok (.aload_n 0, 1) := by decide +kernel
theorem dX11_motionCount_1 : decode cX11_motionCount 1 = .ok (.iconst 0, 1) := by decide +kernel
theorem dX11_motionCount_2 : decode cX11_motionCount 2 = .ok (.putfield 83, 3) := by decide +kernel
theorem dX11_motionCount_5 : decode cX11_motionCount 5 = .ok (.aload_n 0, 1) := by decide +kernel
theorem dX11_motionCount_6 : decode cX11_motionCount 6 = .ok (.getfield 7, 3) := by decide +kernel
theorem dX11_motionCount_9 : decode cX11_motionCount 9 = .ok (.bipush 9, 2) := by decide +kernel
theorem dX11_motionCount_11 : decode cX11_motionCount 11 = .ok (.iaload, 1) := by decide +kernel
theorem dX11_motionCount_12 : decode cX11_motionCount 12 = .ok (.ireturn, 1) := by decide +kernel
theorem dX11_finds_0 : decode cX11_finds 0 = .ok (.aload_n 0, 1) := by decide +kernel
theorem dX11_finds_1 : decode cX11_finds 1 = .ok (.iconst 0, 1) := by decide +kernel
theorem dX11_finds_2 : decode cX11_finds 2 = .ok (.putfield 83, 3) := by decide +kernel
theorem dX11_finds_5 : decode cX11_finds 5 = .ok (.aload_n 0, 1) := by decide +kernel
theorem dX11_finds_6 : decode cX11_finds 6 = .ok (.aload_n 0, 1) := by decide +kernel
theorem dX11_finds_7 : decode cX11_finds 7 = .ok (.iload_n 1, 1) := by decide +kernel
theorem dX11_finds_8 : decode cX11_finds 8 = .ok (.invokevirtual 345, 3) := by decide +kernel
theorem dX11_finds_11 : decode cX11_finds 11 = .ok (.iconst 1, 1) := by decide +kernel
theorem dX11_finds_12 : decode cX11_finds 12 = .ok (.invokevirtual 167, 3) := by decide +kernel
theorem dX11_finds_15 : decode cX11_finds 15 = .ok (.ireturn, 1) := by decide +kernel
theorem dX11_proposer_0 : decode cX11_proposer 0 = .ok (.aload_n 0, 1) := by decide +kernel
theorem dX11_proposer_1 : decode cX11_proposer 1 = .ok (.iload_n 1, 1) := by decide +kernel
theorem dX11_proposer_2 : decode cX11_proposer 2 = .ok (.invokevirtual 354, 3) := by decide +kernel
theorem dX11_proposer_5 : decode cX11_proposer 5 = .ok (.ifCond .eq 12, 3) := by decide +kernel
theorem dX11_proposer_8 : decode cX11_proposer 8 = .ok (.aload_n 0, 1) := by decide +kernel
theorem dX11_proposer_9 : decode cX11_proposer 9 = .ok (.iload_n 1, 1) := by decide +kernel
theorem dX11_proposer_10 : decode cX11_proposer 10 = .ok (.iconst 0, 1) := by decide +kernel
theorem dX11_proposer_11 : decode cX11_proposer 11 = .ok (.invokevirtual 90, 3) := by decide +kernel
theorem dX11_proposer_14 : decode cX11_proposer 14 = .ok (.goto 4, 3) := by decide +kernel
theorem dX11_proposer_17 : decode cX11_proposer 17 = .ok (.iconst 0, 1) := by decide +kernel
theorem dX11_proposer_18 : decode cX11_proposer 18 = .ok (.ireturn, 1) := by decide +kernel
theorem dX11_motionState_0 : decode cX11_motionState 0 = .ok (.aload_n 0, 1) := by decide +kernel
theorem dX11_motionState_1 : decode cX11_motionState 1 = .ok (.iload_n 1, 1) := by decide +kernel
theorem dX11_motionState_2 : decode cX11_motionState 2 = .ok (.invokevirtual 354, 3) := by decide +kernel
theorem dX11_motionState_5 : decode cX11_motionState 5 = .ok (.ifCond .eq 12, 3) := by decide +kernel
theorem dX11_motionState_8 : decode cX11_motionState 8 = .ok (.aload_n 0, 1) := by decide +kernel
theorem dX11_motionState_9 : decode cX11_motionState 9 = .ok (.iload_n 1, 1) := by decide +kernel
theorem dX11_motionState_10 : decode cX11_motionState 10 = .ok (.iconst 3, 1) := by decide +kernel
theorem dX11_motionState_11 : decode cX11_motionState 11 = .ok (.invokevirtual 90, 3) := by decide +kernel
theorem dX11_motionState_14 : decode cX11_motionState 14 = .ok (.goto 4, 3) := by decide +kernel
theorem dX11_motionState_17 : decode cX11_motionState 17 = .ok (.iconst 0, 1) := by decide +kernel
theorem dX11_motionState_18 : decode cX11_motionState 18 = .ok (.ireturn, 1) := by decide +kernel
theorem dX11_lather_0 : decode cX11_lather 0 = .ok (.aload_n 0, 1) := by decide +kernel
theorem dX11_lather_1 : decode cX11_lather 1 = .ok (.iload_n 1, 1) := by decide +kernel
theorem dX11_lather_2 : decode cX11_lather 2 = .ok (.invokevirtual 354, 3) := by decide +kernel
theorem dX11_lather_5 : decode cX11_lather 5 = .ok (.ifCond .eq 12, 3) := by decide +kernel
theorem dX11_lather_8 : decode cX11_lather 8 = .ok (.aload_n 0, 1) := by decide +kernel
theorem dX11_lather_9 : decode cX11_lather 9 = .ok (.iload_n 1, 1) := by decide +kernel
theorem dX11_lather_10 : decode cX11_lather 10 = .ok (.iconst 2, 1) := by decide +kernel
theorem dX11_lather_11 : decode cX11_lather 11 = .ok (.invokevirtual 90, 3) := by decide +kernel
theorem dX11_lather_14 : decode cX11_lather 14 = .ok (.goto 4, 3) := by decide +kernel
theorem dX11_lather_17 : decode cX11_lather 17 = .ok (.iconst 0, 1) := by decide +kernel
theorem dX11_lather_18 : decode cX11_lather 18 = .ok (.ireturn, 1) := by decide +kernel
theorem dX11_weightFor_0 : decode cX11_weightFor 0 = .ok (.aload_n 0, 1) := by decide +kernel
theorem dX11_weightFor_1 : decode cX11_weightFor 1 = .ok (.iload_n 1, 1) := by decide +kernel
theorem dX11_weightFor_2 : decode cX11_weightFor 2 = .ok (.invokevirtual 354, 3) := by decide +kernel
theorem dX11_weightFor_5 : decode cX11_weightFor 5 = .ok (.ifCond .eq 12, 3) := by decide +kernel
theorem dX11_weightFor_8 : decode cX11_weightFor 8 = .ok (.aload_n 0, 1) := by decide +kernel
theorem dX11_weightFor_9 : decode cX11_weightFor 9 = .ok (.iload_n 1, 1) := by decide +kernel
theorem dX11_weightFor_10 : decode cX11_weightFor 10 = .ok (.iconst 1, 1) := by decide +kernel
theorem dX11_weightFor_11 : decode cX11_weightFor 11 = .ok (.invokevirtual 154, 3) := by decide +kernel
theorem dX11_weightFor_14 : decode cX11_weightFor 14 = .ok (.goto 4, 3) := by decide +kernel
theorem dX11_weightFor_17 : decode cX11_weightFor 17 = .ok (.iconst 0, 1) := by decide +kernel
theorem dX11_weightFor_18 : decode cX11_weightFor 18 = .ok (.ireturn, 1) := by decide +kernel
theorem dX11_weightAgainst_0 : decode cX11_weightAgainst 0 = .ok (.aload_n 0, 1) := by decide +kernel
theorem dX11_weightAgainst_1 : decode cX11_weightAgainst 1 = .ok (.iload_n 1, 1) := by decide +kernel
theorem dX11_weightAgainst_2 : decode cX11_weightAgainst 2 = .ok (.invokevirtual 354, 3) := by decide +kernel
theorem dX11_weightAgainst_5 : decode cX11_weightAgainst 5 = .ok (.ifCond .eq 12, 3) := by decide +kernel
theorem dX11_weightAgainst_8 : decode cX11_weightAgainst 8 = .ok (.aload_n 0, 1) := by decide +kernel
theorem dX11_weightAgainst_9 : decode cX11_weightAgainst 9 = .ok (.iload_n 1, 1) := by decide +kernel
theorem dX11_weightAgainst_10 : decode cX11_weightAgainst 10 = .ok (.iconst 0, 1) := by decide +kernel
theorem dX11_weightAgainst_11 : decode cX11_weightAgainst 11 = .ok (.invokevirtual 154, 3) := by decide +kernel
theorem dX11_weightAgainst_14 : decode cX11_weightAgainst 14 = .ok (.goto 4, 3) := by decide +kernel
theorem dX11_weightAgainst_17 : decode cX11_weightAgainst 17 = .ok (.iconst 0, 1) := by decide +kernel
theorem dX11_weightAgainst_18 : decode cX11_weightAgainst 18 = .ok (.ireturn, 1) := by decide +kernel
theorem dX11_voterCount_0 : decode cX11_voterCount 0 = .ok (.aload_n 0, 1) := by decide +kernel
theorem dX11_voterCount_1 : decode cX11_voterCount 1 = .ok (.iload_n 1, 1) := by decide +kernel
theorem dX11_voterCount_2 : decode cX11_voterCount 2 = .ok (.invokevirtual 354, 3) := by decide +kernel
theorem dX11_voterCount_5 : decode cX11_voterCount 5 = .ok (.ifCond .eq 11, 3) := by decide +kernel
theorem dX11_voterCount_8 : decode cX11_voterCount 8 = .ok (.aload_n 0, 1) := by decide +kernel
theorem dX11_voterCount_9 : decode cX11_voterCount 9 = .ok (.iload_n 1, 1) := by decide +kernel
theorem dX11_voterCount_10 : decode cX11_voterCount 10 = .ok (.invokevirtual 161, 3) := by decide +kernel
theorem dX11_voterCount_13 : decode cX11_voterCount 13 = .ok (.goto 4, 3) := by decide +kernel
theorem dX11_voterCount_16 : decode cX11_voterCount 16 = .ok (.iconst 0, 1) := by decide +kernel
theorem dX11_voterCount_17 : decode cX11_voterCount 17 = .ok (.ireturn, 1) := by decide +kernel
theorem dX11_obstacle_0 : decode cX11_obstacle 0 = .ok (.aload_n 0, 1) := by decide +kernel
theorem dX11_obstacle_1 : decode cX11_obstacle 1 = .ok (.iload_n 1, 1) := by decide +kernel
theorem dX11_obstacle_2 : decode cX11_obstacle 2 = .ok (.invokevirtual 354, 3) := by decide +kernel
theorem dX11_obstacle_5 : decode cX11_obstacle 5 = .ok (.ifCond .eq 11, 3) := by decide +kernel
theorem dX11_obstacle_8 : decode cX11_obstacle 8 = .ok (.aload_n 0, 1) := by decide +kernel
theorem dX11_obstacle_9 : decode cX11_obstacle 9 = .ok (.iload_n 1, 1) := by decide +kernel
theorem dX11_obstacle_10 : decode cX11_obstacle 10 = .ok (.invokevirtual 357, 3) := by decide +kernel
theorem dX11_obstacle_13 : decode cX11_obstacle 13 = .ok (.goto 4, 3) := by decide +kernel
theorem dX11_obstacle_16 : decode cX11_obstacle 16 = .ok (.iconst 0, 1) := by decide +kernel
theorem dX11_obstacle_17 : decode cX11_obstacle 17 = .ok (.ireturn, 1) := by decide +kernel
theorem dX11_wouldPass_0 : decode cX11_wouldPass 0 = .ok (.aload_n 0, 1) := by decide +kernel
theorem dX11_wouldPass_1 : decode cX11_wouldPass 1 = .ok (.iload_n 1, 1) := by decide +kernel
theorem dX11_wouldPass_2 : decode cX11_wouldPass 2 = .ok (.invokevirtual 354, 3) := by decide +kernel
theorem dX11_wouldPass_5 : decode cX11_wouldPass 5 = .ok (.ifCond .eq 15, 3) := by decide +kernel
theorem dX11_wouldPass_8 : decode cX11_wouldPass 8 = .ok (.aload_n 0, 1) := by decide +kernel
theorem dX11_wouldPass_9 : decode cX11_wouldPass 9 = .ok (.iload_n 1, 1) := by decide +kernel
theorem dX11_wouldPass_10 : decode cX11_wouldPass 10 = .ok (.invokevirtual 360, 3) := by decide +kernel
theorem dX11_wouldPass_13 : decode cX11_wouldPass 13 = .ok (.ifCond .eq 7, 3) := by decide +kernel
theorem dX11_wouldPass_16 : decode cX11_wouldPass 16 = .ok (.iconst 1, 1) := by decide +kernel
theorem dX11_wouldPass_17 : decode cX11_wouldPass 17 = .ok (.goto 4, 3) := by decide +kernel
theorem dX11_wouldPass_20 : decode cX11_wouldPass 20 = .ok (.iconst 0, 1) := by decide +kernel
theorem dX11_wouldPass_21 : decode cX11_wouldPass 21 = .ok (.ireturn, 1) := by decide +kernel
theorem dX11_decisiveVoter_0 : decode cX11_decisiveVoter 0 = .ok (.aload_n 0, 1) := by decide +kernel
theorem dX11_decisiveVoter_1 : decode cX11_decisiveVoter 1 = .ok (.iload_n 1, 1) := by decide +kernel
theorem dX11_decisiveVoter_2 : decode cX11_decisiveVoter 2 = .ok (.invokevirtual 354, 3) := by decide +kernel
theorem dX11_decisiveVoter_5 : decode cX11_decisiveVoter 5 = .ok (.ifCond .ne 5, 3) := by decide +kernel
theorem dX11_decisiveVoter_8 : decode cX11_decisiveVoter 8 = .ok (.iconst 0, 1) := by decide +kernel
theorem dX11_decisiveVoter_9 : decode cX11_decisiveVoter 9 = .ok (.ireturn, 1) := by decide +kernel
theorem dX11_decisiveVoter_10 : decode cX11_decisiveVoter 10 = .ok (.iconst (-1), 1) := by decide +kernel
theorem dX11_decisiveVoter_11 : decode cX11_decisiveVoter 11 = .ok (.istore_n 2, 1) := by decide +kernel
theorem dX11_decisiveVoter_12 : decode cX11_decisiveVoter 12 = .ok (.iconst 0, 1) := by decide +kernel
theorem dX11_decisiveVoter_13 : decode cX11_decisiveVoter 13 = .ok (.istore_n 3, 1) := by decide +kernel
theorem dX11_decisiveVoter_14 : decode cX11_decisiveVoter 14 = .ok (.iload_n 3, 1) := by decide +kernel
theorem dX11_decisiveVoter_15 : decode cX11_decisiveVoter 15 = .ok (.aload_n 0, 1) := by decide +kernel
theorem dX11_decisiveVoter_16 : decode cX11_decisiveVoter 16 = .ok (.getfield 7, 3) := by decide +kernel
theorem dX11_decisiveVoter_19 : decode cX11_decisiveVoter 19 = .ok (.bipush 8, 2) := by decide +kernel
theorem dX11_decisiveVoter_21 : decode cX11_decisiveVoter 21 = .ok (.iaload, 1) := by decide +kernel
theorem dX11_decisiveVoter_22 : decode cX11_decisiveVoter 22 = .ok (.if_icmp .ge 40, 3) := by decide +kernel
theorem dX11_decisiveVoter_25 : decode cX11_decisiveVoter 25 = .ok (.aload_n 0, 1) := by decide +kernel
theorem dX11_decisiveVoter_26 : decode cX11_decisiveVoter 26 = .ok (.iload_n 3, 1) := by decide +kernel
theorem dX11_decisiveVoter_27 : decode cX11_decisiveVoter 27 = .ok (.iload_n 1, 1) := by decide +kernel
theorem dX11_decisiveVoter_28 : decode cX11_decisiveVoter 28 = .ok (.invokevirtual 363, 3) := by decide +kernel
theorem dX11_decisiveVoter_31 : decode cX11_decisiveVoter 31 = .ok (.ifCond .eq 25, 3) := by decide +kernel
theorem dX11_decisiveVoter_34 : decode cX11_decisiveVoter 34 = .ok (.iload_n 2, 1) := by decide +kernel
theorem dX11_decisiveVoter_35 : decode cX11_decisiveVoter 35 = .ok (.iconst (-1), 1) := by decide +kernel
theorem dX11_decisiveVoter_36 : decode cX11_decisiveVoter 36 = .ok (.if_icmp .eq 18, 3) := by decide +kernel
theorem dX11_decisiveVoter_39 : decode cX11_decisiveVoter 39 = .ok (.aload_n 0, 1) := by decide +kernel
theorem dX11_decisiveVoter_40 : decode cX11_decisiveVoter 40 = .ok (.iload_n 3, 1) := by decide +kernel
theorem dX11_decisiveVoter_41 : decode cX11_decisiveVoter 41 = .ok (.iconst 1, 1) := by decide +kernel
theorem dX11_decisiveVoter_42 : decode cX11_decisiveVoter 42 = .ok (.invokevirtual 100, 3) := by decide +kernel
theorem dX11_decisiveVoter_45 : decode cX11_decisiveVoter 45 = .ok (.aload_n 0, 1) := by decide +kernel
theorem dX11_decisiveVoter_46 : decode cX11_decisiveVoter 46 = .ok (.iload_n 2, 1) := by decide +kernel
theorem dX11_decisiveVoter_47 : decode cX11_decisiveVoter 47 = .ok (.iconst 1, 1) := by decide +kernel
theorem dX11_decisiveVoter_48 : decode cX11_decisiveVoter 48 = .ok (.invokevirtual 100, 3) := by decide +kernel
theorem dX11_decisiveVoter_51 : decode cX11_decisiveVoter 51 = .ok (.if_icmp .ge 5, 3) := by decide +kernel
theorem dX11_decisiveVoter_54 : decode cX11_decisiveVoter 54 = .ok (.iload_n 3, 1) := by decide +kernel
theorem dX11_decisiveVoter_55 : decode cX11_decisiveVoter 55 = .ok (.istore_n 2, 1) := by decide +kernel
theorem dX11_decisiveVoter_56 : decode cX11_decisiveVoter 56 = .ok (.iinc 3 1, 3) := by decide +kernel
theorem dX11_decisiveVoter_59 : decode cX11_decisiveVoter 59 = .ok (.goto (-45), 3) := by decide +kernel
theorem dX11_decisiveVoter_62 : decode cX11_decisiveVoter 62 = .ok (.iload_n 2, 1) := by decide +kernel
theorem dX11_decisiveVoter_63 : decode cX11_decisiveVoter 63 = .ok (.ireturn, 1) := by decide +kernel
theorem dX11_chairCount_0 : decode cX11_chairCount 0 = .ok (.aload_n 0, 1) := by decide +kernel
theorem dX11_chairCount_1 : decode cX11_chairCount 1 = .ok (.iconst 0, 1) := by decide +kernel
theorem dX11_chairCount_2 : decode cX11_chairCount 2 = .ok (.putfield 83, 3) := by decide +kernel
theorem dX11_chairCount_5 : decode cX11_chairCount 5 = .ok (.aload_n 0, 1) := by decide +kernel
theorem dX11_chairCount_6 : decode cX11_chairCount 6 = .ok (.getfield 7, 3) := by decide +kernel
theorem dX11_chairCount_9 : decode cX11_chairCount 9 = .ok (.iconst 0, 1) := by decide +kernel
theorem dX11_chairCount_10 : decode cX11_chairCount 10 = .ok (.iaload, 1) := by decide +kernel
theorem dX11_chairCount_11 : decode cX11_chairCount 11 = .ok (.ireturn, 1) := by decide +kernel
theorem dX11_minute_0 : decode cX11_minute 0 = .ok (.aload_n 0, 1) := by decide +kernel
theorem dX11_minute_1 : decode cX11_minute 1 = .ok (.iconst 0, 1) := by decide +kernel
theorem dX11_minute_2 : decode cX11_minute 2 = .ok (.putfield 83, 3) := by decide +kernel
theorem dX11_minute_5 : decode cX11_minute 5 = .ok (.aload_n 0, 1) := by decide +kernel
theorem dX11_minute_6 : decode cX11_minute 6 = .ok (.getfield 7, 3) := by decide +kernel
theorem dX11_minute_9 : decode cX11_minute 9 = .ok (.bipush 7, 2) := by decide +kernel
theorem dX11_minute_11 : decode cX11_minute 11 = .ok (.iaload, 1) := by decide +kernel
theorem dX11_minute_12 : decode cX11_minute 12 = .ok (.ireturn, 1) := by decide +kernel
theorem dX11_freeMirrors_0 : decode cX11_freeMirrors 0 = .ok (.aload_n 0, 1) := by decide +kernel
theorem dX11_freeMirrors_1 : decode cX11_freeMirrors 1 = .ok (.iconst 0, 1) := by decide +kernel
theorem dX11_freeMirrors_2 : decode cX11_freeMirrors 2 = .ok (.putfield 83, 3) := by decide +kernel
theorem dX11_freeMirrors_5 : decode cX11_freeMirrors 5 = .ok (.aload_n 0, 1) := by decide +kernel
theorem dX11_freeMirrors_6 : decode cX11_freeMirrors 6 = .ok (.invokevirtual 366, 3) := by decide +kernel
theorem dX11_freeMirrors_9 : decode cX11_freeMirrors 9 = .ok (.ireturn, 1) := by decide +kernel
theorem dX11_ranking_0 : decode cX11_ranking 0 = .ok (.aload_n 0, 1) := by decide +kernel
theorem dX11_ranking_1 : decode cX11_ranking 1 = .ok (.iconst 0, 1) := by decide +kernel
theorem dX11_ranking_2 : decode cX11_ranking 2 = .ok (.putfield 83, 3) := by decide +kernel
theorem dX11_ranking_5 : decode cX11_ranking 5 = .ok (.aload_n 0, 1) := by decide +kernel
theorem dX11_ranking_6 : decode cX11_ranking 6 = .ok (.getfield 7, 3) := by decide +kernel
theorem dX11_ranking_9 : decode cX11_ranking 9 = .ok (.bipush 10, 2) := by decide +kernel
theorem dX11_ranking_11 : decode cX11_ranking 11 = .ok (.iaload, 1) := by decide +kernel
theorem dX11_ranking_12 : decode cX11_ranking 12 = .ok (.ireturn, 1) := by decide +kernel
theorem dX11_requestCount_0 : decode cX11_requestCount 0 = .ok (.aload_n 0, 1) := by decide +kernel
theorem dX11_requestCount_1 : decode cX11_requestCount 1 = .ok (.iconst 0, 1) := by decide +kernel
theorem dX11_requestCount_2 : decode cX11_requestCount 2 = .ok (.putfield 83, 3) := by decide +kernel
theorem dX11_requestCount_5 : decode cX11_requestCount 5 = .ok (.aload_n 0, 1) := by decide +kernel
theorem dX11_requestCount_6 : decode cX11_requestCount 6 = .ok (.getfield 7, 3) := by decide +kernel
theorem dX11_requestCount_9 : decode cX11_requestCount 9 = .ok (.bipush 11, 2) := by decide +kernel
theorem dX11_requestCount_11 : decode cX11_requestCount 11 = .ok (.iaload, 1) := by decide +kernel
theorem dX11_requestCount_12 : decode cX11_requestCount 12 = .ok (.ireturn, 1) := by decide +kernel
theorem dX11_sees_0 : decode cX11_sees 0 = .ok (.aload_n 0, 1) := by decide +kernel
theorem dX11_sees_1 : decode cX11_sees 1 = .ok (.iconst 0, 1) := by decide +kernel
theorem dX11_sees_2 : decode cX11_sees 2 = .ok (.putfield 83, 3) := by decide +kernel
theorem dX11_sees_5 : decode cX11_sees 5 = .ok (.aload_n 0, 1) := by decide +kernel
theorem dX11_sees_6 : decode cX11_sees 6 = .ok (.aload_n 0, 1) := by decide +kernel
theorem dX11_sees_7 : decode cX11_sees 7 = .ok (.iload_n 1, 1) := by decide +kernel
theorem dX11_sees_8 : decode cX11_sees 8 = .ok (.invokevirtual 369, 3) := by decide +kernel
theorem dX11_sees_11 : decode cX11_sees 11 = .ok (.iconst 1, 1) := by decide +kernel
theorem dX11_sees_12 : decode cX11_sees 12 = .ok (.invokevirtual 167, 3) := by decide +kernel
theorem dX11_sees_15 : decode cX11_sees 15 = .ok (.ireturn, 1) := by decide +kernel
theorem dX11_speaker_0 : decode cX11_speaker 0 = .ok (.aload_n 0, 1) := by decide +kernel
theorem dX11_speaker_1 : decode cX11_speaker 1 = .ok (.iload_n 1, 1) := by decide +kernel
theorem dX11_speaker_2 : decode cX11_speaker 2 = .ok (.invokevirtual 372, 3) := by decide +kernel
theorem dX11_speaker_5 : decode cX11_speaker 5 = .ok (.ifCond .eq 12, 3) := by decide +kernel
theorem dX11_speaker_8 : decode cX11_speaker 8 = .ok (.aload_n 0, 1) := by decide +kernel
theorem dX11_speaker_9 : decode cX11_speaker 9 = .ok (.iload_n 1, 1) := by decide +kernel
theorem dX11_speaker_10 : decode cX11_speaker 10 = .ok (.iconst 0, 1) := by decide +kernel
theorem dX11_speaker_11 : decode cX11_speaker 11 = .ok (.invokevirtual 94, 3) := by decide +kernel
theorem dX11_speaker_14 : decode cX11_speaker 14 = .ok (.goto 4, 3) := by decide +kernel
theorem dX11_speaker_17 : decode cX11_speaker 17 = .ok (.iconst 0, 1) := by decide +kernel
theorem dX11_speaker_18 : decode cX11_speaker 18 = .ok (.ireturn, 1) := by decide +kernel
theorem dX11_speechMotion_0 : decode cX11_speechMotion 0 = .ok (.aload_n 0, 1) := by decide +kernel
theorem dX11_speechMotion_1 : decode cX11_speechMotion 1 = .ok (.iload_n 1, 1) := by decide +kernel
theorem dX11_speechMotion_2 : decode cX11_speechMotion 2 = .ok (.invokevirtual 372, 3) := by decide +kernel
theorem dX11_speechMotion_5 : decode cX11_speechMotion 5 = .ok (.ifCond .eq 35, 3) := by decide +kernel
theorem dX11_speechMotion_8 : decode cX11_speechMotion 8 = .ok (.aload_n 0, 1) := by decide +kernel
theorem dX11_speechMotion_9 : decode cX11_speechMotion 9 = .ok (.aload_n 0, 1) := by decide +kernel
theorem dX11_speechMotion_10 : decode cX11_speechMotion 10 = .ok (.iload_n 1, 1) := by decide +kernel
theorem dX11_speechMotion_11 : decode cX11_speechMotion 11 = .ok (.iconst 0, 1) := by decide +kernel
theorem dX11_speechMotion_12 : decode cX11_speechMotion 12 = .ok (.invokevirtual 94, 3) := by decide +kernel
theorem dX11_speechMotion_15 : decode cX11_speechMotion 15 = .ok (.iconst (-1), 1) := by decide +kernel
theorem dX11_speechMotion_16 : decode cX11_speechMotion 16 = .ok (.if_icmp .eq 7, 3) := by decide +kernel
theorem dX11_speechMotion_19 : decode cX11_speechMotion 19 = .ok (.iconst 1, 1) := by decide +kernel
theorem dX11_speechMotion_20 : decode cX11_speechMotion 20 = .ok (.goto 4, 3) := by decide +kernel
theorem dX11_speechMotion_23 : decode cX11_speechMotion 23 = .ok (.iconst 0, 1) := by decide +kernel
theorem dX11_speechMotion_24 : decode cX11_speechMotion 24 = .ok (.iconst 2, 1) := by decide +kernel
theorem dX11_speechMotion_25 : decode cX11_speechMotion 25 = .ok (.invokevirtual 167, 3) := by decide +kernel
theorem dX11_speechMotion_28 : decode cX11_speechMotion 28 = .ok (.ifCond .eq 12, 3) := by decide +kernel
theorem dX11_speechMotion_31 : decode cX11_speechMotion 31 = .ok (.aload_n 0, 1) := by decide +kernel
theorem dX11_speechMotion_32 : decode cX11_speechMotion 32 = .ok (.iload_n 1, 1) := by decide +kernel
theorem dX11_speechMotion_33 : decode cX11_speechMotion 33 = .ok (.iconst 1, 1) := by decide +kernel
theorem dX11_speechMotion_34 : decode cX11_speechMotion 34 = .ok (.invokevirtual 94, 3) := by decide +kernel
theorem dX11_speechMotion_37 : decode cX11_speechMotion 37 = .ok (.goto 4, 3) := by decide +kernel
theorem dX11_speechMotion_40 : decode cX11_speechMotion 40 = .ok (.iconst 0, 1) := by decide +kernel
theorem dX11_speechMotion_41 : decode cX11_speechMotion 41 = .ok (.ireturn, 1) := by decide +kernel
theorem dX11_remainingTime_0 : decode cX11_remainingTime 0 = .ok (.aload_n 0, 1) := by decide +kernel
theorem dX11_remainingTime_1 : decode cX11_remainingTime 1 = .ok (.iload_n 1, 1) := by decide +kernel
theorem dX11_remainingTime_2 : decode cX11_remainingTime 2 = .ok (.invokevirtual 372, 3) := by decide +kernel
theorem dX11_remainingTime_5 : decode cX11_remainingTime 5 = .ok (.ifCond .eq 22, 3) := by decide +kernel
theorem dX11_remainingTime_8 : decode cX11_remainingTime 8 = .ok (.aload_n 0, 1) := by decide +kernel
theorem dX11_remainingTime_9 : decode cX11_remainingTime 9 = .ok (.iload_n 1, 1) := by decide +kernel
theorem dX11_remainingTime_10 : decode cX11_remainingTime 10 = .ok (.iconst 0, 1) := by decide +kernel
theorem dX11_remainingTime_11 : decode cX11_remainingTime 11 = .ok (.invokevirtual 94, 3) := by decide +kernel
theorem dX11_remainingTime_14 : decode cX11_remainingTime 14 = .ok (.iconst (-1), 1) := by decide +kernel
theorem dX11_remainingTime_15 : decode cX11_remainingTime 15 = .ok (.if_icmp .eq 12, 3) := by decide +kernel
theorem dX11_remainingTime_18 : decode cX11_remainingTime 18 = .ok (.aload_n 0, 1) := by decide +kernel
theorem dX11_remainingTime_19 : decode cX11_remainingTime 19 = .ok (.iload_n 1, 1) := by decide +kernel
theorem dX11_remainingTime_20 : decode cX11_remainingTime 20 = .ok (.iconst 3, 1) := by decide +kernel
theorem dX11_remainingTime_21 : decode cX11_remainingTime 21 = .ok (.invokevirtual 94, 3) := by decide +kernel
theorem dX11_remainingTime_24 : decode cX11_remainingTime 24 = .ok (.goto 4, 3) := by decide +kernel
theorem dX11_remainingTime_27 : decode cX11_remainingTime 27 = .ok (.iconst 0, 1) := by decide +kernel
theorem dX11_remainingTime_28 : decode cX11_remainingTime 28 = .ok (.ireturn, 1) := by decide +kernel
theorem dX11_isRebutted_0 : decode cX11_isRebutted 0 = .ok (.aload_n 0, 1) := by decide +kernel
theorem dX11_isRebutted_1 : decode cX11_isRebutted 1 = .ok (.iload_n 1, 1) := by decide +kernel
theorem dX11_isRebutted_2 : decode cX11_isRebutted 2 = .ok (.invokevirtual 372, 3) := by decide +kernel
theorem dX11_isRebutted_5 : decode cX11_isRebutted 5 = .ok (.ifCond .eq 27, 3) := by decide +kernel
theorem dX11_isRebutted_8 : decode cX11_isRebutted 8 = .ok (.aload_n 0, 1) := by decide +kernel
theorem dX11_isRebutted_9 : decode cX11_isRebutted 9 = .ok (.iload_n 1, 1) := by decide +kernel
theorem dX11_isRebutted_10 : decode cX11_isRebutted 10 = .ok (.iconst 0, 1) := by decide +kernel
theorem dX11_isRebutted_11 : decode cX11_isRebutted 11 = .ok (.invokevirtual 94, 3) := by decide +kernel
theorem dX11_isRebutted_14 : decode cX11_isRebutted 14 = .ok (.iconst (-1), 1) := by decide +kernel
theorem dX11_isRebutted_15 : decode cX11_isRebutted 15 = .ok (.if_icmp .eq 17, 3) := by decide +kernel
theorem dX11_isRebutted_18 : decode cX11_isRebutted 18 = .ok (.aload_n 0, 1) := by decide +kernel
theorem dX11_isRebutted_19 : decode cX11_isRebutted 19 = .ok (.iload_n 1, 1) := by decide +kernel
theorem dX11_isRebutted_20 : decode cX11_isRebutted 20 = .ok (.iconst 4, 1) := by decide +kernel
theorem dX11_isRebutted_21 : decode cX11_isRebutted 21 = .ok (.invokevirtual 94, 3) := by decide +kernel
theorem dX11_isRebutted_24 : decode cX11_isRebutted 24 = .ok (.iconst 1, 1) := by decide +kernel
theorem dX11_isRebutted_25 : decode cX11_isRebutted 25 = .ok (.if_icmp .ne 7, 3) := by decide +kernel
theorem dX11_isRebutted_28 : decode cX11_isRebutted 28 = .ok (.iconst 1, 1) := by decide +kernel
theorem dX11_isRebutted_29 : decode cX11_isRebutted 29 = .ok (.goto 4, 3) := by decide +kernel
theorem dX11_isRebutted_32 : decode cX11_isRebutted 32 = .ok (.iconst 0, 1) := by decide +kernel
theorem dX11_isRebutted_33 : decode cX11_isRebutted 33 = .ok (.ireturn, 1) := by decide +kernel
theorem dX11_firstBy_0 : decode cX11_firstBy 0 = .ok (.aload_n 0, 1) := by decide +kernel
theorem dX11_firstBy_1 : decode cX11_firstBy 1 = .ok (.iconst 0, 1) := by decide +kernel
theorem dX11_firstBy_2 : decode cX11_firstBy 2 = .ok (.putfield 83, 3) := by decide +kernel
theorem dX11_firstBy_5 : decode cX11_firstBy 5 = .ok (.aload_n 0, 1) := by decide +kernel
theorem dX11_firstBy_6 : decode cX11_firstBy 6 = .ok (.iload_n 1, 1) := by decide +kernel
theorem dX11_firstBy_7 : decode cX11_firstBy 7 = .ok (.invokestatic 375, 3) := by decide +kernel
theorem dX11_firstBy_10 : decode cX11_firstBy 10 = .ok (.iconst 1, 1) := by decide +kernel
theorem dX11_firstBy_11 : decode cX11_firstBy 11 = .ok (.invokevirtual 167, 3) := by decide +kernel
theorem dX11_firstBy_14 : decode cX11_firstBy 14 = .ok (.ifCond .ne 5, 3) := by decide +kernel
theorem dX11_firstBy_17 : decode cX11_firstBy 17 = .ok (.iconst 0, 1) := by decide +kernel
theorem dX11_firstBy_18 : decode cX11_firstBy 18 = .ok (.ireturn, 1) := by decide +kernel
theorem dX11_firstBy_19 : decode cX11_firstBy 19 = .ok (.aload_n 0, 1) := by decide +kernel
theorem dX11_firstBy_20 : decode cX11_firstBy 20 = .ok (.iload_n 1, 1) := by decide +kernel
theorem dX11_firstBy_21 : decode cX11_firstBy 21 = .ok (.invokevirtual 135, 3) := by decide +kernel
theorem dX11_firstBy_24 : decode cX11_firstBy 24 = .ok (.istore_n 2, 1) := by decide +kernel
theorem dX11_firstBy_25 : decode cX11_firstBy 25 = .ok (.iload_n 2, 1) := by decide +kernel
theorem dX11_firstBy_26 : decode cX11_firstBy 26 = .ok (.iconst (-1), 1) := by decide +kernel
theorem dX11_firstBy_27 : decode cX11_firstBy 27 = .ok (.if_icmp .ne 7, 3) := by decide +kernel
theorem dX11_firstBy_30 : decode cX11_firstBy 30 = .ok (.iconst (-1), 1) := by decide +kernel
theorem dX11_firstBy_31 : decode cX11_firstBy 31 = .ok (.goto 9, 3) := by decide +kernel
theorem dX11_firstBy_34 : decode cX11_firstBy 34 = .ok (.aload_n 0, 1) := by decide +kernel
theorem dX11_firstBy_35 : decode cX11_firstBy 35 = .ok (.iload_n 2, 1) := by decide +kernel
theorem dX11_firstBy_36 : decode cX11_firstBy 36 = .ok (.iconst 0, 1) := by decide +kernel
theorem dX11_firstBy_37 : decode cX11_firstBy 37 = .ok (.invokevirtual 97, 3) := by decide +kernel
theorem dX11_firstBy_40 : decode cX11_firstBy 40 = .ok (.ireturn, 1) := by decide +kernel
theorem dX11_tips_0 : decode cX11_tips 0 = .ok (.aload_n 0, 1) := by decide +kernel
theorem dX11_tips_1 : decode cX11_tips 1 = .ok (.iconst 0, 1) := by decide +kernel
theorem dX11_tips_2 : decode cX11_tips 2 = .ok (.putfield 83, 3) := by decide +kernel
theorem dX11_tips_5 : decode cX11_tips 5 = .ok (.aload_n 0, 1) := by decide +kernel
theorem dX11_tips_6 : decode cX11_tips 6 = .ok (.getfield 7, 3) := by decide +kernel
theorem dX11_tips_9 : decode cX11_tips 9 = .ok (.bipush 12, 2) := by decide +kernel
theorem dX11_tips_11 : decode cX11_tips 11 = .ok (.iaload, 1) := by decide +kernel
theorem dX11_tips_12 : decode cX11_tips 12 = .ok (.ireturn, 1) := by decide +kernel
theorem dX11_voteCount_0 : decode cX11_voteCount 0 = .ok (.aload_n 0, 1) := by decide +kernel
theorem dX11_voteCount_1 : decode cX11_voteCount 1 = .ok (.iconst 0, 1) := by decide +kernel
theorem dX11_voteCount_2 : decode cX11_voteCount 2 = .ok (.putfield 83, 3) := by decide +kernel
theorem dX11_voteCount_5 : decode cX11_voteCount 5 = .ok (.aload_n 0, 1) := by decide +kernel
theorem dX11_voteCount_6 : decode cX11_voteCount 6 = .ok (.getfield 7, 3) := by decide +kernel
theorem dX11_voteCount_9 : decode cX11_voteCount 9 = .ok (.bipush 13, 2) := by decide +kernel
theorem dX11_voteCount_11 : decode cX11_voteCount 11 = .ok (.iaload, 1) := by decide +kernel
theorem dX11_voteCount_12 : decode cX11_voteCount 12 = .ok (.ireturn, 1) := by decide +kernel
theorem dX11_rebuttalCount_0 : decode cX11_rebuttalCount 0 = .ok (.aload_n 0, 1) := by decide +kernel
theorem dX11_rebuttalCount_1 : decode cX11_rebuttalCount 1 = .ok (.iconst 0, 1) := by decide +kernel
theorem dX11_rebuttalCount_2 : decode cX11_rebuttalCount 2 = .ok (.putfield 83, 3) := by decide +kernel
theorem dX11_rebuttalCount_5 : decode cX11_rebuttalCount 5 = .ok (.aload_n 0, 1) := by decide +kernel
theorem dX11_rebuttalCount_6 : decode cX11_rebuttalCount 6 = .ok (.getfield 7, 3) := by decide +kernel
theorem dX11_rebuttalCount_9 : decode cX11_rebuttalCount 9 = .ok (.bipush 14, 2) := by decide +kernel
theorem dX11_rebuttalCount_11 : decode cX11_rebuttalCount 11 = .ok (.iaload, 1) := by decide +kernel
theorem dX11_rebuttalCount_12 : decode cX11_rebuttalCount 12 = .ok (.ireturn, 1) := by decide +kernel
theorem dX11_meanLeaning_0 : decode cX11_meanLeaning 0 = .ok (.aload_n 0, 1) := by decide +kernel
theorem dX11_meanLeaning_1 : decode cX11_meanLeaning 1 = .ok (.iload_n 1, 1) := by decide +kernel
theorem dX11_meanLeaning_2 : decode cX11_meanLeaning 2 = .ok (.invokevirtual 354, 3) := by decide +kernel
theorem dX11_meanLeaning_5 : decode cX11_meanLeaning 5 = .ok (.ifCond .ne 5, 3) := by decide +kernel
theorem dX11_meanLeaning_8 : decode cX11_meanLeaning 8 = .ok (.dconst 0, 1) := by decide +kernel
theorem dX11_meanLeaning_9 : decode cX11_meanLeaning 9 = .ok (.dreturn, 1) := by decide +kernel
theorem dX11_meanLeaning_10 : decode cX11_meanLeaning 10 = .ok (.iconst 0, 1) := by decide +kernel
theorem dX11_meanLeaning_11 : decode cX11_meanLeaning 11 = .ok (.istore_n 2, 1) := by decide +kernel
theorem dX11_meanLeaning_12 : decode cX11_meanLeaning 12 = .ok (.iconst 0, 1) := by decide +kernel
theorem dX11_meanLeaning_13 : decode cX11_meanLeaning 13 = .ok (.istore_n 3, 1) := by decide +kernel
theorem dX11_meanLeaning_14 : decode cX11_meanLeaning 14 = .ok (.iload_n 3, 1) := by decide +kernel
theorem dX11_meanLeaning_15 : decode cX11_meanLeaning 15 = .ok (.aload_n 0, 1) := by decide +kernel
theorem dX11_meanLeaning_16 : decode cX11_meanLeaning 16 = .ok (.getfield 7, 3) := by decide +kernel
theorem dX11_meanLeaning_19 : decode cX11_meanLeaning 19 = .ok (.bipush 8, 2) := by decide +kernel
theorem dX11_meanLeaning_21 : decode cX11_meanLeaning 21 = .ok (.iaload, 1) := by decide +kernel
theorem dX11_meanLeaning_22 : decode cX11_meanLeaning 22 = .ok (.if_icmp .ge 18, 3) := by decide +kernel
theorem dX11_meanLeaning_25 : decode cX11_meanLeaning 25 = .ok (.iload_n 2, 1) := by decide +kernel
theorem dX11_meanLeaning_26 : decode cX11_meanLeaning 26 = .ok (.aload_n 0, 1) := by decide +kernel
theorem dX11_meanLeaning_27 : decode cX11_meanLeaning 27 = .ok (.iload_n 3, 1) := by decide +kernel
theorem dX11_meanLeaning_28 : decode cX11_meanLeaning 28 = .ok (.iload_n 1, 1) := by decide +kernel
theorem dX11_meanLeaning_29 : decode cX11_meanLeaning 29 = .ok (.invokevirtual 114, 3) := by decide +kernel
theorem dX11_meanLeaning_32 : decode cX11_meanLeaning 32 = .ok (.iadd, 1) := by decide +kernel
theorem dX11_meanLeaning_33 : decode cX11_meanLeaning 33 = .ok (.istore_n 2, 1) := by decide +kernel
theorem dX11_meanLeaning_34 : decode cX11_meanLeaning 34 = .ok (.iinc 3 1, 3) := by decide +kernel
theorem dX11_meanLeaning_37 : decode cX11_meanLeaning 37 = .ok (.goto (-23), 3) := by decide +kernel
theorem dX11_meanLeaning_40 : decode cX11_meanLeaning 40 = .ok (.iload_n 2, 1) := by decide +kernel
theorem dX11_meanLeaning_41 : decode cX11_meanLeaning 41 = .ok (.i2d, 1) := by decide +kernel
theorem dX11_meanLeaning_42 : decode cX11_meanLeaning 42 = .ok (.aload_n 0, 1) := by decide +kernel
theorem dX11_meanLeaning_43 : decode cX11_meanLeaning 43 = .ok (.getfield 7, 3) := by decide +kernel
theorem dX11_meanLeaning_46 : decode cX11_meanLeaning 46 = .ok (.bipush 8, 2) := by decide +kernel
theorem dX11_meanLeaning_48 : decode cX11_meanLeaning 48 = .ok (.iaload, 1) := by decide +kernel
theorem dX11_meanLeaning_49 : decode cX11_meanLeaning 49 = .ok (.i2d, 1) := by decide +kernel
theorem dX11_meanLeaning_50 : decode cX11_meanLeaning 50 = .ok (.ddiv, 1) := by decide +kernel
theorem dX11_meanLeaning_51 : decode cX11_meanLeaning 51 = .ok (.dreturn, 1) := by decide +kernel
theorem dX11_weightShare_0 : decode cX11_weightShare 0 = .ok (.aload_n 0, 1) := by decide +kernel
theorem dX11_weightShare_1 : decode cX11_weightShare 1 = .ok (.iconst 0, 1) := by decide +kernel
theorem dX11_weightShare_2 : decode cX11_weightShare 2 = .ok (.putfield 83, 3) := by decide +kernel
theorem dX11_weightShare_5 : decode cX11_weightShare 5 = .ok (.aload_n 0, 1) := by decide +kernel
theorem dX11_weightShare_6 : decode cX11_weightShare 6 = .ok (.aload_n 0, 1) := by decide +kernel
theorem dX11_weightShare_7 : decode cX11_weightShare 7 = .ok (.iload_n 1, 1) := by decide +kernel
theorem dX11_weightShare_8 : decode cX11_weightShare 8 = .ok (.invokevirtual 339, 3) := by decide +kernel
theorem dX11_weightShare_11 : decode cX11_weightShare 11 = .ok (.iconst 1, 1) := by decide +kernel
theorem dX11_weightShare_12 : decode cX11_weightShare 12 = .ok (.invokevirtual 167, 3) := by decide +kernel
theorem dX11_weightShare_15 : decode cX11_weightShare 15 = .ok (.ifCond .ne 5, 3) := by decide +kernel
theorem dX11_weightShare_18 : decode cX11_weightShare 18 = .ok (.fconst 0, 1) := by decide +kernel
theorem dX11_weightShare_19 : decode cX11_weightShare 19 = .ok (.freturn, 1) := by decide +kernel
theorem dX11_weightShare_20 : decode cX11_weightShare 20 = .ok (.iconst 0, 1) := by decide +kernel
theorem dX11_weightShare_21 : decode cX11_weightShare 21 = .ok (.istore_n 2, 1) := by decide +kernel
theorem dX11_weightShare_22 : decode cX11_weightShare 22 = .ok (.iconst 0, 1) := by decide +kernel
theorem dX11_weightShare_23 : decode cX11_weightShare 23 = .ok (.istore_n 3, 1) := by decide +kernel
theorem dX11_weightShare_24 : decode cX11_weightShare 24 = .ok (.iload_n 3, 1) := by decide +kernel
theorem dX11_weightShare_25 : decode cX11_weightShare 25 = .ok (.aload_n 0, 1) := by decide +kernel
theorem dX11_weightShare_26 : decode cX11_weightShare 26 = .ok (.getfield 7, 3) := by decide +kernel
theorem dX11_weightShare_29 : decode cX11_weightShare 29 = .ok (.bipush 8, 2) := by decide +kernel
theorem dX11_weightShare_31 : decode cX11_weightShare 31 = .ok (.iaload, 1) := by decide +kernel
theorem dX11_weightShare_32 : decode cX11_weightShare 32 = .ok (.if_icmp .ge 18, 3) := by decide +kernel
theorem dX11_weightShare_35 : decode cX11_weightShare 35 = .ok (.iload_n 2, 1) := by decide +kernel
theorem dX11_weightShare_36 : decode cX11_weightShare 36 = .ok (.aload_n 0, 1) := by decide +kernel
theorem dX11_weightShare_37 : decode cX11_weightShare 37 = .ok (.iload_n 3, 1) := by decide +kernel
theorem dX11_weightShare_38 : decode cX11_weightShare 38 = .ok (.iconst 1, 1) := by decide +kernel
theorem dX11_weightShare_39 : decode cX11_weightShare 39 = .ok (.invokevirtual 100, 3) := by decide +kernel
theorem dX11_weightShare_42 : decode cX11_weightShare 42 = .ok (.iadd, 1) := by decide +kernel
theorem dX11_weightShare_43 : decode cX11_weightShare 43 = .ok (.istore_n 2, 1) := by decide +kernel
theorem dX11_weightShare_44 : decode cX11_weightShare 44 = .ok (.iinc 3 1, 3) := by decide +kernel
theorem dX11_weightShare_47 : decode cX11_weightShare 47 = .ok (.goto (-23), 3) := by decide +kernel
theorem dX11_weightShare_50 : decode cX11_weightShare 50 = .ok (.aload_n 0, 1) := by decide +kernel
theorem dX11_weightShare_51 : decode cX11_weightShare 51 = .ok (.iload_n 1, 1) := by decide +kernel
theorem dX11_weightShare_52 : decode cX11_weightShare 52 = .ok (.iconst 1, 1) := by decide +kernel
theorem dX11_weightShare_53 : decode cX11_weightShare 53 = .ok (.invokevirtual 100, 3) := by decide +kernel
theorem dX11_weightShare_56 : decode cX11_weightShare 56 = .ok (.i2f, 1) := by decide +kernel
theorem dX11_weightShare_57 : decode cX11_weightShare 57 = .ok (.iload_n 2, 1) := by decide +kernel
theorem dX11_weightShare_58 : decode cX11_weightShare 58 = .ok (.i2f, 1) := by decide +kernel
theorem dX11_weightShare_59 : decode cX11_weightShare 59 = .ok (.fdiv, 1) := by decide +kernel
theorem dX11_weightShare_60 : decode cX11_weightShare 60 = .ok (.freturn, 1) := by decide +kernel
theorem dX11_contradictions_0 : decode cX11_contradictions 0 = .ok (.aload_n 0, 1) := by decide +kernel
theorem dX11_contradictions_1 : decode cX11_contradictions 1 = .ok (.iconst 0, 1) := by decide +kernel
theorem dX11_contradictions_2 : decode cX11_contradictions 2 = .ok (.putfield 83, 3) := by decide +kernel
theorem dX11_contradictions_5 : decode cX11_contradictions 5 = .ok (.aload_n 0, 1) := by decide +kernel
theorem dX11_contradictions_6 : decode cX11_contradictions 6 = .ok (.getfield 7, 3) := by decide +kernel
theorem dX11_contradictions_9 : decode cX11_contradictions 9 = .ok (.bipush 12, 2) := by decide +kernel
theorem dX11_contradictions_11 : decode cX11_contradictions 11 = .ok (.iaload, 1) := by decide +kernel
theorem dX11_contradictions_12 : decode cX11_contradictions 12 = .ok (.iconst 2, 1) := by decide +kernel
theorem dX11_contradictions_13 : decode cX11_contradictions 13 = .ok (.aload_n 0, 1) := by decide +kernel
theorem dX11_contradictions_14 : decode cX11_contradictions 14 = .ok (.getfield 7, 3) := by decide +kernel
theorem dX11_contradictions_17 : decode cX11_contradictions 17 = .ok (.bipush 15, 2) := by decide +kernel
theorem dX11_contradictions_19 : decode cX11_contradictions 19 = .ok (.iaload, 1) := by decide +kernel
theorem dX11_contradictions_20 : decode cX11_contradictions 20 = .ok (.imul, 1) := by decide +kernel
theorem dX11_contradictions_21 : decode cX11_contradictions 21 = .ok (.iadd, 1) := by decide +kernel
theorem dX11_contradictions_22 : decode cX11_contradictions 22 = .ok (.istore_n 1, 1) := by decide +kernel
theorem dX11_contradictions_23 : decode cX11_contradictions 23 = .ok (.iconst 0, 1) := by decide +kernel
theorem dX11_contradictions_24 : decode cX11_contradictions 24 = .ok (.istore_n 2, 1) := by decide +kernel
theorem dX11_contradictions_25 : decode cX11_contradictions 25 = .ok (.iconst 0, 1) := by decide +kernel
theorem dX11_contradictions_26 : decode cX11_contradictions 26 = .ok (.istore_n 3, 1) := by decide +kernel
theorem dX11_contradictions_27 : decode cX11_contradictions 27 = .ok (.iconst 0, 1) := by decide +kernel
theorem dX11_contradictions_28 : decode cX11_contradictions 28 = .ok (.istore 4, 2) := by decide +kernel
theorem dX11_contradictions_30 : decode cX11_contradictions 30 = .ok (.iload 4, 2) := by decide +kernel
theorem dX11_contradictions_32 : decode cX11_contradictions 32 = .ok (.aload_n 0, 1) := by decide +kernel
theorem dX11_contradictions_33 : decode cX11_contradictions 33 = .ok (.getfield 7, 3) := by decide +kernel
theorem dX11_contradictions_36 : decode cX11_contradictions 36 = .ok (.bipush 8, 2) := by decide +kernel
theorem dX11_contradictions_38 : decode cX11_contradictions 38 = .ok (.iaload, 1) := by decide +kernel
theorem dX11_contradictions_39 : decode cX11_contradictions 39 = .ok (.if_icmp .ge 42, 3) := by decide +kernel
theorem dX11_contradictions_42 : decode cX11_contradictions 42 = .ok (.iload_n 1, 1) := by decide +kernel
theorem dX11_contradictions_43 : decode cX11_contradictions 43 = .ok (.aload_n 0, 1) := by decide +kernel
theorem dX11_contradictions_44 : decode cX11_contradictions 44 = .ok (.iload 4, 2) := by decide +kernel
theorem dX11_contradictions_46 : decode cX11_contradictions 46 = .ok (.iconst 3, 1) := by decide +kernel
theorem dX11_contradictions_47 : decode cX11_contradictions 47 = .ok (.invokevirtual 100, 3) := by decide +kernel
theorem dX11_contradictions_50 : decode cX11_contradictions 50 = .ok (.iadd, 1) := by decide +kernel
theorem dX11_contradictions_51 : decode cX11_contradictions 51 = .ok (.istore_n 1, 1) := by decide +kernel
theorem dX11_contradictions_52 : decode cX11_contradictions 52 = .ok (.aload_n 0, 1) := by decide +kernel
theorem dX11_contradictions_53 : decode cX11_contradictions 53 = .ok (.iload 4, 2) := by decide +kernel
theorem dX11_contradictions_55 : decode cX11_contradictions 55 = .ok (.invokevirtual 351, 3) := by decide +kernel
theorem dX11_contradictions_58 : decode cX11_contradictions 58 = .ok (.iconst (-1), 1) := by decide +kernel
theorem dX11_contradictions_59 : decode cX11_contradictions 59 = .ok (.if_icmp .eq 16, 3) := by decide +kernel
theorem dX11_contradictions_62 : decode cX11_contradictions 62 = .ok (.aload_n 0, 1) := by decide +kernel
theorem dX11_contradictions_63 : decode cX11_contradictions 63 = .ok (.iload 4, 2) := by decide +kernel
theorem dX11_contradictions_65 : decode cX11_contradictions 65 = .ok (.invokevirtual 348, 3) := by decide +kernel
theorem dX11_contradictions_68 : decode cX11_contradictions 68 = .ok (.iconst (-1), 1) := by decide +kernel
theorem dX11_contradictions_69 : decode cX11_contradictions 69 = .ok (.if_icmp .eq 6, 3) := by decide +kernel
theorem dX11_contradictions_72 : decode cX11_contradictions 72 = .ok (.iinc 3 1, 3) := by decide +kernel
theorem dX11_contradictions_75 : decode cX11_contradictions 75 = .ok (.iinc 4 1, 3) := by decide +kernel
theorem dX11_contradictions_78 : decode cX11_contradictions 78 = .ok (.goto (-48), 3) := by decide +kernel
theorem dX11_contradictions_81 : decode cX11_contradictions 81 = .ok (.iconst 0, 1) := by decide +kernel
theorem dX11_contradictions_82 : decode cX11_contradictions 82 = .ok (.istore 4, 2) := by decide +kernel
theorem dX11_contradictions_84 : decode cX11_contradictions 84 = .ok (.iload 4, 2) := by decide +kernel
theorem dX11_contradictions_86 : decode cX11_contradictions 86 = .ok (.aload_n 0, 1) := by decide +kernel
theorem dX11_contradictions_87 : decode cX11_contradictions 87 = .ok (.getfield 7, 3) := by decide +kernel
theorem dX11_contradictions_90 : decode cX11_contradictions 90 = .ok (.bipush 9, 2) := by decide +kernel
theorem dX11_contradictions_92 : decode cX11_contradictions 92 = .ok (.iaload, 1) := by decide +kernel
theorem dX11_contradictions_93 : decode cX11_contradictions 93 = .ok (.if_icmp .ge 27, 3) := by decide +kernel
theorem dX11_contradictions_96 : decode cX11_contradictions 96 = .ok (.aload_n 0, 1) := by decide +kernel
theorem dX11_contradictions_97 : decode cX11_contradictions 97 = .ok (.iload 4, 2) := by decide +kernel
theorem dX11_contradictions_99 : decode cX11_contradictions 99 = .ok (.iconst 3, 1) := by decide +kernel
theorem dX11_contradictions_100 : decode cX11_contradictions 100 = .ok (.invokevirtual 90, 3) := by decide +kernel
theorem dX11_contradictions_103 : decode cX11_contradictions 103 = .ok (.iconst 1, 1) := by decide +kernel
theorem dX11_contradictions_104 : decode cX11_contradictions 104 = .ok (.iconst 2, 1) := by decide +kernel
theorem dX11_contradictions_105 : decode cX11_contradictions 105 = .ok (.invokestatic 86, 3) := by decide +kernel
theorem dX11_contradictions_108 : decode cX11_contradictions 108 = .ok (.ifCond .eq 6, 3) := by decide +kernel
theorem dX11_contradictions_111 : decode cX11_contradictions 111 = .ok (.iinc 2 1, 3) := by decide +kernel
theorem dX11_contradictions_114 : decode cX11_contradictions 114 = .ok (.iinc 4 1, 3) := by decide +kernel
theorem dX11_contradictions_117 : decode cX11_contradictions 117 = .ok (.goto (-33), 3) := by decide +kernel
theorem dX11_contradictions_120 : decode cX11_contradictions 120 = .ok (.iconst 0, 1) := by decide +kernel
theorem dX11_contradictions_121 : decode cX11_contradictions 121 = .ok (.istore 4, 2) := by decide +kernel
theorem dX11_contradictions_123 : decode cX11_contradictions 123 = .ok (.iload 4, 2) := by decide +kernel
theorem dX11_contradictions_125 : decode cX11_contradictions 125 = .ok (.aload_n 0, 1) := by decide +kernel
theorem dX11_contradictions_126 : decode cX11_contradictions 126 = .ok (.getfield 7, 3) := by decide +kernel
theorem dX11_contradictions_129 : decode cX11_contradictions 129 = .ok (.bipush 11, 2) := by decide +kernel
theorem dX11_contradictions_131 : decode cX11_contradictions 131 = .ok (.iaload, 1) := by decide +kernel
theorem dX11_contradictions_132 : decode cX11_contradictions 132 = .ok (.if_icmp .ge 26, 3) := by decide +kernel
theorem dX11_contradictions_135 : decode cX11_contradictions 135 = .ok (.aload_n 0, 1) := by decide +kernel
theorem dX11_contradictions_136 : decode cX11_contradictions 136 = .ok (.aload_n 0, 1) := by decide +kernel
theorem dX11_contradictions_137 : decode cX11_contradictions 137 = .ok (.iload 4, 2) := by decide +kernel
theorem dX11_contradictions_139 : decode cX11_contradictions 139 = .ok (.iconst 1, 1) := by decide +kernel
theorem dX11_contradictions_140 : decode cX11_contradictions 140 = .ok (.invokevirtual 97, 3) := by decide +kernel
theorem dX11_contradictions_143 : decode cX11_contradictions 143 = .ok (.invokevirtual 141, 3) := by decide +kernel
theorem dX11_contradictions_146 : decode cX11_contradictions 146 = .ok (.ifCond .ne 6, 3) := by decide +kernel
theorem dX11_contradictions_149 : decode cX11_contradictions 149 = .ok (.iinc 3 1, 3) := by decide +kernel
theorem dX11_contradictions_152 : decode cX11_contradictions 152 = .ok (.iinc 4 1, 3) := by decide +kernel
theorem dX11_contradictions_155 : decode cX11_contradictions 155 = .ok (.goto (-32), 3) := by decide +kernel
theorem dX11_contradictions_158 : decode cX11_contradictions 158 = .ok (.iload_n 3, 1) := by decide +kernel
theorem dX11_contradictions_159 : decode cX11_contradictions 159 = .ok (.aload_n 0, 1) := by decide +kernel
theorem dX11_contradictions_160 : decode cX11_contradictions 160 = .ok (.getfield 7, 3) := by decide +kernel
theorem dX11_contradictions_163 : decode cX11_contradictions 163 = .ok (.bipush 16, 2) := by decide +kernel
theorem dX11_contradictions_165 : decode cX11_contradictions 165 = .ok (.iaload, 1) := by decide +kernel
theorem dX11_contradictions_166 : decode cX11_contradictions 166 = .ok (.iload_n 1, 1) := by decide +kernel
theorem dX11_contradictions_167 : decode cX11_contradictions 167 = .ok (.isub, 1) := by decide +kernel
theorem dX11_contradictions_168 : decode cX11_contradictions 168 = .ok (.invokestatic 125, 3) := by decide +kernel
theorem dX11_contradictions_171 : decode cX11_contradictions 171 = .ok (.iadd, 1) := by decide +kernel
theorem dX11_contradictions_172 : decode cX11_contradictions 172 = .ok (.aload_n 0, 1) := by decide +kernel
theorem dX11_contradictions_173 : decode cX11_contradictions 173 = .ok (.getfield 7, 3) := by decide +kernel
theorem dX11_contradictions_176 : decode cX11_contradictions 176 = .ok (.bipush 13, 2) := by decide +kernel
theorem dX11_contradictions_178 : decode cX11_contradictions 178 = .ok (.iaload, 1) := by decide +kernel
theorem dX11_contradictions_179 : decode cX11_contradictions 179 = .ok (.iload_n 2, 1) := by decide +kernel
theorem dX11_contradictions_180 : decode cX11_contradictions 180 = .ok (.isub, 1) := by decide +kernel
theorem dX11_contradictions_181 : decode cX11_contradictions 181 = .ok (.invokestatic 125, 3) := by decide +kernel
theorem dX11_contradictions_184 : decode cX11_contradictions 184 = .ok (.iadd, 1) := by decide +kernel
theorem dX11_contradictions_185 : decode cX11_contradictions 185 = .ok (.ireturn, 1) := by decide +kernel
theorem dX11_minutesUntilSpeech_0 : decode cX11_minutesUntilSpeech 0 = .ok (.aload_n 0, 1) := by decide +kernel
theorem dX11_minutesUntilSpeech_1 : decode cX11_minutesUntilSpeech 1 = .ok (.iconst 0, 1) := by decide +kernel
theorem dX11_minutesUntilSpeech_2 : decode cX11_minutesUntilSpeech 2 = .ok (.putfield 83, 3) := by decide +kernel
theorem dX11_minutesUntilSpeech_5 : decode cX11_minutesUntilSpeech 5 = .ok (.aload_n 0, 1) := by decide +kernel
theorem dX11_minutesUntilSpeech_6 : decode cX11_minutesUntilSpeech 6 = .ok (.aload_n 0, 1) := by decide +kernel
theorem dX11_minutesUntilSpeech_7 : decode cX11_minutesUntilSpeech 7 = .ok (.iload_n 1, 1) := by decide +kernel
theorem dX11_minutesUntilSpeech_8 : decode cX11_minutesUntilSpeech 8 = .ok (.invokevirtual 339, 3) := by decide +kernel
theorem dX11_minutesUntilSpeech_11 : decode cX11_minutesUntilSpeech 11 = .ok (.iconst 1, 1) := by decide +kernel
theorem dX11_minutesUntilSpeech_12 : decode cX11_minutesUntilSpeech 12 = .ok (.invokevirtual 167, 3) := by decide +kernel
theorem dX11_minutesUntilSpeech_15 : decode cX11_minutesUntilSpeech 15 = .ok (.ifCond .ne 5, 3) := by decide +kernel
theorem dX11_minutesUntilSpeech_18 : decode cX11_minutesUntilSpeech 18 = .ok (.iconst 0, 1) := by decide +kernel
theorem dX11_minutesUntilSpeech_19 : decode cX11_minutesUntilSpeech 19 = .ok (.ireturn, 1) := by decide +kernel
theorem dX11_minutesUntilSpeech_20 : decode cX11_minutesUntilSpeech 20 = .ok (.aload_n 0, 1) := by decide +kernel
theorem dX11_minutesUntilSpeech_21 : decode cX11_minutesUntilSpeech 21 = .ok (.iload_n 1, 1) := by decide +kernel
theorem dX11_minutesUntilSpeech_22 : decode cX11_minutesUntilSpeech 22 = .ok (.invokevirtual 351, 3) := by decide +kernel
theorem dX11_minutesUntilSpeech_25 : decode cX11_minutesUntilSpeech 25 = .ok (.iconst (-1), 1) := by decide +kernel
theorem dX11_minutesUntilSpeech_26 : decode cX11_minutesUntilSpeech 26 = .ok (.if_icmp .ne 5, 3) := by decide +kernel
theorem dX11_minutesUntilSpeech_29 : decode cX11_minutesUntilSpeech 29 = .ok (.iconst (-1), 1) := by decide +kernel
theorem dX11_minutesUntilSpeech_30 : decode cX11_minutesUntilSpeech 30 = .ok (.ireturn, 1) := by decide +kernel
theorem dX11_minutesUntilSpeech_31 : decode cX11_minutesUntilSpeech 31 = .ok (.aload_n 0, 1) := by decide +kernel
theorem dX11_minutesUntilSpeech_32 : decode cX11_minutesUntilSpeech 32 = .ok (.invokevirtual 378, 3) := by decide +kernel
theorem dX11_minutesUntilSpeech_35 : decode cX11_minutesUntilSpeech 35 = .ok (.iconst 1, 1) := by decide +kernel
theorem dX11_minutesUntilSpeech_36 : decode cX11_minutesUntilSpeech 36 = .ok (.istore_n 2, 1) := by decide +kernel
theorem dX11_minutesUntilSpeech_37 : decode cX11_minutesUntilSpeech 37 = .ok (.iload_n 2, 1) := by decide +kernel
theorem dX11_minutesUntilSpeech_38 : decode cX11_minutesUntilSpeech 38 = .ok (.sipush 300, 3) := by decide +kernel
theorem dX11_minutesUntilSpeech_41 : decode cX11_minutesUntilSpeech 41 = .ok (.if_icmp .gt 28, 3) := by decide +kernel
theorem dX11_minutesUntilSpeech_44 : decode cX11_minutesUntilSpeech 44 = .ok (.aload_n 0, 1) := by decide +kernel
theorem dX11_minutesUntilSpeech_45 : decode cX11_minutesUntilSpeech 45 = .ok (.invokevirtual 381, 3) := by decide +kernel
theorem dX11_minutesUntilSpeech_48 : decode cX11_minutesUntilSpeech 48 = .ok (.aload_n 0, 1) := by decide +kernel
theorem dX11_minutesUntilSpeech_49 : decode cX11_minutesUntilSpeech 49 = .ok (.iload_n 1, 1) := by decide +kernel
theorem dX11_minutesUntilSpeech_50 : decode cX11_minutesUntilSpeech 50 = .ok (.invokevirtual 351, 3) := by decide +kernel
theorem dX11_minutesUntilSpeech_53 : decode cX11_minutesUntilSpeech 53 = .ok (.iconst (-1), 1) := by decide +kernel
theorem dX11_minutesUntilSpeech_54 : decode cX11_minutesUntilSpeech 54 = .ok (.if_icmp .ne 9, 3) := by decide +kernel
theorem dX11_minutesUntilSpeech_57 : decode cX11_minutesUntilSpeech 57 = .ok (.aload_n 0, 1) := by decide +kernel
theorem dX11_minutesUntilSpeech_58 : decode cX11_minutesUntilSpeech 58 = .ok (.iload_n 2, 1) := by decide +kernel
theorem dX11_minutesUntilSpeech_59 : decode cX11_minutesUntilSpeech 59 = .ok (.invokevirtual 384, 3) := by decide +kernel
theorem dX11_minutesUntilSpeech_62 : decode cX11_minutesUntilSpeech 62 = .ok (.ireturn, 1) := by decide +kernel
theorem dX11_minutesUntilSpeech_63 : decode cX11_minutesUntilSpeech 63 = .ok (.iinc 2 1, 3) := by decide +kernel
theorem dX11_minutesUntilSpeech_66 : decode cX11_minutesUntilSpeech 66 = .ok (.goto (-29), 3) := by decide +kernel
theorem dX11_minutesUntilSpeech_69 : decode cX11_minutesUntilSpeech 69 = .ok (.aload_n 0, 1) := by decide +kernel
theorem dX11_minutesUntilSpeech_70 : decode cX11_minutesUntilSpeech 70 = .ok (.iconst (-1), 1) := by decide +kernel
theorem dX11_minutesUntilSpeech_71 : decode cX11_minutesUntilSpeech 71 = .ok (.invokevirtual 384, 3) := by decide +kernel
theorem dX11_minutesUntilSpeech_74 : decode cX11_minutesUntilSpeech 74 = .ok (.ireturn, 1) := by decide +kernel
theorem dX11_latherAfter_0 : decode cX11_latherAfter 0 = .ok (.aload_n 0, 1) := by decide +kernel
theorem dX11_latherAfter_1 : decode cX11_latherAfter 1 = .ok (.iload_n 1, 1) := by decide +kernel
theorem dX11_latherAfter_2 : decode cX11_latherAfter 2 = .ok (.invokevirtual 354, 3) := by decide +kernel
theorem dX11_latherAfter_5 : decode cX11_latherAfter 5 = .ok (.ifCond .eq 19, 3) := by decide +kernel
theorem dX11_latherAfter_8 : decode cX11_latherAfter 8 = .ok (.aload_n 0, 1) := by decide +kernel
theorem dX11_latherAfter_9 : decode cX11_latherAfter 9 = .ok (.iload_n 2, 1) := by decide +kernel
theorem dX11_latherAfter_10 : decode cX11_latherAfter 10 = .ok (.iconst 0, 1) := by decide +kernel
theorem dX11_latherAfter_11 : decode cX11_latherAfter 11 = .ok (.sipush 300, 3) := by decide +kernel
theorem dX11_latherAfter_14 : decode cX11_latherAfter 14 = .ok (.invokestatic 86, 3) := by decide +kernel
theorem dX11_latherAfter_17 : decode cX11_latherAfter 17 = .ok (.iconst 2, 1) := by decide +kernel
theorem dX11_latherAfter_18 : decode cX11_latherAfter 18 = .ok (.invokevirtual 167, 3) := by decide +kernel
theorem dX11_latherAfter_21 : decode cX11_latherAfter 21 = .ok (.ifCond .ne 5, 3) := by decide +kernel
theorem dX11_latherAfter_24 : decode cX11_latherAfter 24 = .ok (.iconst 0, 1) := by decide +kernel
theorem dX11_latherAfter_25 : decode cX11_latherAfter 25 = .ok (.ireturn, 1) := by decide +kernel
theorem dX11_latherAfter_26 : decode cX11_latherAfter 26 = .ok (.aload_n 0, 1) := by decide +kernel
theorem dX11_latherAfter_27 : decode cX11_latherAfter 27 = .ok (.invokevirtual 378, 3) := by decide +kernel
theorem dX11_latherAfter_30 : decode cX11_latherAfter 30 = .ok (.iconst 0, 1) := by decide +kernel
theorem dX11_latherAfter_31 : decode cX11_latherAfter 31 = .ok (.istore_n 3, 1) := by decide +kernel
theorem dX11_latherAfter_32 : decode cX11_latherAfter 32 = .ok (.iload_n 3, 1) := by decide +kernel
theorem dX11_latherAfter_33 : decode cX11_latherAfter 33 = .ok (.iload_n 2, 1) := by decide +kernel
theorem dX11_latherAfter_34 : decode cX11_latherAfter 34 = .ok (.if_icmp .ge 13, 3) := by decide +kernel
theorem dX11_latherAfter_37 : decode cX11_latherAfter 37 = .ok (.aload_n 0, 1) := by decide +kernel
theorem dX11_latherAfter_38 : decode cX11_latherAfter 38 = .ok (.invokevirtual 381, 3) := by decide +kernel
theorem dX11_latherAfter_41 : decode cX11_latherAfter 41 = .ok (.iinc 3 1, 3) := by decide +kernel
theorem dX11_latherAfter_44 : decode cX11_latherAfter 44 = .ok (.goto (-12), 3) := by decide +kernel
theorem dX11_latherAfter_47 : decode cX11_latherAfter 47 = .ok (.aload_n 0, 1) := by decide +kernel
theorem dX11_latherAfter_48 : decode cX11_latherAfter 48 = .ok (.aload_n 0, 1) := by decide +kernel
theorem dX11_latherAfter_49 : decode cX11_latherAfter 49 = .ok (.iload_n 1, 1) := by decide +kernel
theorem dX11_latherAfter_50 : decode cX11_latherAfter 50 = .ok (.iconst 2, 1) := by decide +kernel
theorem dX11_latherAfter_51 : decode cX11_latherAfter 51 = .ok (.invokevirtual 90, 3) := by decide +kernel
theorem dX11_latherAfter_54 : decode cX11_latherAfter 54 = .ok (.invokevirtual 384, 3) := by decide +kernel
theorem dX11_latherAfter_57 : decode cX11_latherAfter 57 = .ok (.ireturn, 1) := by decide +kernel
theorem dX11_minutesUntilVote_0 : decode cX11_minutesUntilVote 0 = .ok (.aload_n 0, 1) := by decide +kernel
theorem dX11_minutesUntilVote_1 : decode cX11_minutesUntilVote 1 = .ok (.iload_n 1, 1) := by decide +kernel
theorem dX11_minutesUntilVote_2 : decode cX11_minutesUntilVote 2 = .ok (.invokevirtual 354, 3) := by decide +kernel
theorem dX11_minutesUntilVote_5 : decode cX11_minutesUntilVote 5 = .ok (.ifCond .ne 5, 3) := by decide +kernel
theorem dX11_minutesUntilVote_8 : decode cX11_minutesUntilVote 8 = .ok (.iconst 0, 1) := by decide +kernel
theorem dX11_minutesUntilVote_9 : decode cX11_minutesUntilVote 9 = .ok (.ireturn, 1) := by decide +kernel
theorem dX11_minutesUntilVote_10 : decode cX11_minutesUntilVote 10 = .ok (.aload_n 0, 1) := by decide +kernel
theorem dX11_minutesUntilVote_11 : decode cX11_minutesUntilVote 11 = .ok (.invokevirtual 378, 3) := by decide +kernel
theorem dX11_minutesUntilVote_14 : decode cX11_minutesUntilVote 14 = .ok (.iconst 0, 1) := by decide +kernel
theorem dX11_minutesUntilVote_15 : decode cX11_minutesUntilVote 15 = .ok (.istore_n 2, 1) := by decide +kernel
theorem dX11_minutesUntilVote_16 : decode cX11_minutesUntilVote 16 = .ok (.iload_n 2, 1) := by decide +kernel
theorem dX11_minutesUntilVote_17 : decode cX11_minutesUntilVote 17 = .ok (.sipush 300, 3) := by decide +kernel
theorem dX11_minutesUntilVote_20 : decode cX11_minutesUntilVote 20 = .ok (.if_icmp .gt 27, 3) := by decide +kernel
theorem dX11_minutesUntilVote_23 : decode cX11_minutesUntilVote 23 = .ok (.aload_n 0, 1) := by decide +kernel
theorem dX11_minutesUntilVote_24 : decode cX11_minutesUntilVote 24 = .ok (.iload_n 1, 1) := by decide +kernel
theorem dX11_minutesUntilVote_25 : decode cX11_minutesUntilVote 25 = .ok (.invokevirtual 357, 3) := by decide +kernel
theorem dX11_minutesUntilVote_28 : decode cX11_minutesUntilVote 28 = .ok (.ifCond .ne 9, 3) := by decide +kernel
theorem dX11_minutesUntilVote_31 : decode cX11_minutesUntilVote 31 = .ok (.aload_n 0, 1) := by decide +kernel
theorem dX11_minutesUntilVote_32 : decode cX11_minutesUntilVote 32 = .ok (.iload_n 2, 1) := by decide +kernel
theorem dX11_minutesUntilVote_33 : decode cX11_minutesUntilVote 33 = .ok (.invokevirtual 384, 3) := by decide +kernel
theorem dX11_minutesUntilVote_36 : decode cX11_minutesUntilVote 36 = .ok (.ireturn, 1) := by decide +kernel
theorem dX11_minutesUntilVote_37 : decode cX11_minutesUntilVote 37 = .ok (.aload_n 0, 1) := by decide +kernel
theorem dX11_minutesUntilVote_38 : decode cX11_minutesUntilVote 38 = .ok (.invokevirtual 381, 3) := by decide +kernel
theorem dX11_minutesUntilVote_41 : decode cX11_minutesUntilVote 41 = .ok (.iinc 2 1, 3) := by decide +kernel
theorem dX11_minutesUntilVote_44 : decode cX11_minutesUntilVote 44 = .ok (.goto (-28), 3) := by decide +kernel
theorem dX11_minutesUntilVote_47 : decode cX11_minutesUntilVote 47 = .ok (.aload_n 0, 1) := by decide +kernel
theorem dX11_minutesUntilVote_48 : decode cX11_minutesUntilVote 48 = .ok (.iconst (-1), 1) := by decide +kernel
theorem dX11_minutesUntilVote_49 : decode cX11_minutesUntilVote 49 = .ok (.invokevirtual 384, 3) := by decide +kernel
theorem dX11_minutesUntilVote_52 : decode cX11_minutesUntilVote 52 = .ok (.ireturn, 1) := by decide +kernel
theorem dX11_keeps_0 : decode cX11_keeps 0 = .ok (.aload_n 0, 1) := by decide +kernel
theorem dX11_keeps_1 : decode cX11_keeps 1 = .ok (.getfield 237, 3) := by decide +kernel
theorem dX11_keeps_4 : decode cX11_keeps 4 = .ok (.bipush 8, 2) := by decide +kernel
theorem dX11_keeps_6 : decode cX11_keeps 6 = .ok (.if_icmp .ne 44, 3) := by decide +kernel
theorem dX11_keeps_9 : decode cX11_keeps 9 = .ok (.iconst 0, 1) := by decide +kernel
theorem dX11_keeps_10 : decode cX11_keeps 10 = .ok (.istore_n 1, 1) := by decide +kernel
theorem dX11_keeps_11 : decode cX11_keeps 11 = .ok (.iload_n 1, 1) := by decide +kernel
theorem dX11_keeps_12 : decode cX11_keeps 12 = .ok (.sipush 2926, 3) := by decide +kernel
theorem dX11_keeps_15 : decode cX11_keeps 15 = .ok (.if_icmp .ge 25, 3) := by decide +kernel
theorem dX11_keeps_18 : decode cX11_keeps 18 = .ok (.aload_n 0, 1) := by decide +kernel
theorem dX11_keeps_19 : decode cX11_keeps 19 = .ok (.getfield 19, 3) := by decide +kernel
theorem dX11_keeps_22 : decode cX11_keeps 22 = .ok (.iload_n 1, 1) := by decide +kernel
theorem dX11_keeps_23 : decode cX11_keeps 23 = .ok (.aload_n 0, 1) := by decide +kernel
theorem dX11_keeps_24 : decode cX11_keeps 24 = .ok (.getfield 19, 3) := by decide +kernel
theorem dX11_keeps_27 : decode cX11_keeps 27 = .ok (.iload_n 1, 1) := by decide +kernel
theorem dX11_keeps_28 : decode cX11_keeps 28 = .ok (.sipush 418, 3) := by decide +kernel
theorem dX11_keeps_31 : decode cX11_keeps 31 = .ok (.iadd, 1) := by decide +kernel
theorem dX11_keeps_32 : decode cX11_keeps 32 = .ok (.iaload, 1) := by decide +kernel
theorem dX11_keeps_33 : decode cX11_keeps 33 = .ok (.iastore, 1) := by decide +kernel
theorem dX11_keeps_34 : decode cX11_keeps 34 = .ok (.iinc 1 1, 3) := by decide +kernel
theorem dX11_keeps_37 : decode cX11_keeps 37 = .ok (.goto (-26), 3) := by decide +kernel
theorem dX11_keeps_40 : decode cX11_keeps 40 = .ok (.aload_n 0, 1) := by decide +kernel
theorem dX11_keeps_41 : decode cX11_keeps 41 = .ok (.dup, 1) := by decide +kernel
theorem dX11_keeps_42 : decode cX11_keeps 42 = .ok (.getfield 237, 3) := by decide +kernel
theorem dX11_keeps_45 : decode cX11_keeps 45 = .ok (.iconst 1, 1) := by decide +kernel
theorem dX11_keeps_46 : decode cX11_keeps 46 = .ok (.isub, 1) := by decide +kernel
theorem dX11_keeps_47 : decode cX11_keeps 47 = .ok (.putfield 237, 3) := by decide +kernel
theorem dX11_keeps_50 : decode cX11_keeps 50 = .ok (.iconst 0, 1) := by decide +kernel
theorem dX11_keeps_51 : decode cX11_keeps 51 = .ok (.istore_n 1, 1) := by decide +kernel
theorem dX11_keeps_52 : decode cX11_keeps 52 = .ok (.iload_n 1, 1) := by decide +kernel
theorem dX11_keeps_53 : decode cX11_keeps 53 = .ok (.sipush 418, 3) := by decide +kernel
theorem dX11_keeps_56 : decode cX11_keeps 56 = .ok (.if_icmp .ge 30, 3) := by decide +kernel
theorem dX11_keeps_59 : decode cX11_keeps 59 = .ok (.aload_n 0, 1) := by decide +kernel
theorem dX11_keeps_60 : decode cX11_keeps 60 = .ok (.getfield 19, 3) := by decide +kernel
theorem dX11_keeps_63 : decode cX11_keeps 63 = .ok (.sipush 418, 3) := by decide +kernel
theorem dX11_keeps_66 : decode cX11_keeps 66 = .ok (.aload_n 0, 1) := by decide +kernel
theorem dX11_keeps_67 : decode cX11_keeps 67 = .ok (.getfield 237, 3) := by decide +kernel
theorem dX11_keeps_70 : decode cX11_keeps 70 = .ok (.imul, 1) := by decide +kernel
theorem dX11_keeps_71 : decode cX11_keeps 71 = .ok (.iload_n 1, 1) := by decide +kernel
theorem dX11_keeps_72 : decode cX11_keeps 72 = .ok (.iadd, 1) := by decide +kernel
theorem dX11_keeps_73 : decode cX11_keeps 73 = .ok (.aload_n 0, 1) := by decide +kernel
theorem dX11_keeps_74 : decode cX11_keeps 74 = .ok (.getfield 7, 3) := by decide +kernel
theorem dX11_keeps_77 : decode cX11_keeps 77 = .ok (.iload_n 1, 1) := by decide +kernel
theorem dX11_keeps_78 : decode cX11_keeps 78 = .ok (.iaload, 1) := by decide +kernel
theorem dX11_keeps_79 : decode cX11_keeps 79 = .ok (.iastore, 1) := by decide +kernel
theorem dX11_keeps_80 : decode cX11_keeps 80 = .ok (.iinc 1 1, 3) := by decide +kernel
theorem dX11_keeps_83 : decode cX11_keeps 83 = .ok (.goto (-31), 3) := by decide +kernel
theorem dX11_keeps_86 : decode cX11_keeps 86 = .ok (.aload_n 0, 1) := by decide +kernel
theorem dX11_keeps_87 : decode cX11_keeps 87 = .ok (.dup, 1) := by decide +kernel
theorem dX11_keeps_88 : decode cX11_keeps 88 = .ok (.getfield 237, 3) := by decide +kernel
theorem dX11_keeps_91 : decode cX11_keeps 91 = .ok (.iconst 1, 1) := by decide +kernel
theorem dX11_keeps_92 : decode cX11_keeps 92 = .ok (.iadd, 1) := by decide +kernel
theorem dX11_keeps_93 : decode cX11_keeps 93 = .ok (.putfield 237, 3) := by decide +kernel
theorem dX11_keeps_96 : decode cX11_keeps 96 = .ok (.return_, 1) := by decide +kernel
theorem dX11_changes_0 : decode cX11_changes 0 = .ok (.aload_n 0, 1) := by decide +kernel
theorem dX11_changes_1 : decode cX11_changes 1 = .ok (.getfield 335, 3) := by decide +kernel
theorem dX11_changes_4 : decode cX11_changes 4 = .ok (.ifCond .ne 7, 3) := by decide +kernel
theorem dX11_changes_7 : decode cX11_changes 7 = .ok (.aload_n 0, 1) := by decide +kernel
theorem dX11_changes_8 : decode cX11_changes 8 = .ok (.invokevirtual 332, 3) := by decide +kernel
theorem dX11_changes_11 : decode cX11_changes 11 = .ok (.return_, 1) := by decide +kernel
theorem dX11_proposing_0 : decode cX11_proposing 0 = .ok (.aload_n 0, 1) := by decide +kernel
theorem dX11_proposing_1 : decode cX11_proposing 1 = .ok (.aload_n 0, 1) := by decide +kernel
theorem dX11_proposing_2 : decode cX11_proposing 2 = .ok (.iload_n 1, 1) := by decide +kernel
theorem dX11_proposing_3 : decode cX11_proposing 3 = .ok (.invokevirtual 339, 3) := by decide +kernel
theorem dX11_proposing_6 : decode cX11_proposing 6 = .ok (.iconst 1, 1) := by decide +kernel
theorem dX11_proposing_7 : decode cX11_proposing 7 = .ok (.invokevirtual 167, 3) := by decide +kernel
theorem dX11_proposing_10 : decode cX11_proposing 10 = .ok (.ifCond .eq 43, 3) := by decide +kernel
theorem dX11_proposing_13 : decode cX11_proposing 13 = .ok (.aload_n 0, 1) := by decide +kernel
theorem dX11_proposing_14 : decode cX11_proposing 14 = .ok (.iload_n 2, 1) := by decide +kernel
theorem dX11_proposing_15 : decode cX11_proposing 15 = .ok (.iconst 0, 1) := by decide +kernel
theorem dX11_proposing_16 : decode cX11_proposing 16 = .ok (.bipush 20, 2) := by decide +kernel
theorem dX11_proposing_18 : decode cX11_proposing 18 = .ok (.invokestatic 86, 3) := by decide +kernel
theorem dX11_proposing_21 : decode cX11_proposing 21 = .ok (.iconst 2, 1) := by decide +kernel
theorem dX11_proposing_22 : decode cX11_proposing 22 = .ok (.invokevirtual 167, 3) := by decide +kernel
theorem dX11_proposing_25 : decode cX11_proposing 25 = .ok (.ifCond .eq 28, 3) := by decide +kernel
theorem dX11_proposing_28 : decode cX11_proposing 28 = .ok (.aload_n 0, 1) := by decide +kernel
theorem dX11_proposing_29 : decode cX11_proposing 29 = .ok (.aload_n 0, 1) := by decide +kernel
theorem dX11_proposing_30 : decode cX11_proposing 30 = .ok (.getfield 7, 3) := by decide +kernel
theorem dX11_proposing_33 : decode cX11_proposing 33 = .ok (.bipush 9, 2) := by decide +kernel
theorem dX11_proposing_35 : decode cX11_proposing 35 = .ok (.iaload, 1) := by decide +kernel
theorem dX11_proposing_36 : decode cX11_proposing 36 = .ok (.bipush 16, 2) := by decide +kernel
theorem dX11_proposing_38 : decode cX11_proposing 38 = .ok (.if_icmp .ge 7, 3) := by decide +kernel
theorem dX11_proposing_41 : decode cX11_proposing 41 = .ok (.iconst 1, 1) := by decide +kernel
theorem dX11_proposing_42 : decode cX11_proposing 42 = .ok (.goto 4, 3) := by decide +kernel
theorem dX11_proposing_45 : decode cX11_proposing 45 = .ok (.iconst 0, 1) := by decide +kernel
theorem dX11_proposing_46 : decode cX11_proposing 46 = .ok (.iconst 3, 1) := by decide +kernel
theorem dX11_proposing_47 : decode cX11_proposing 47 = .ok (.invokevirtual 167, 3) := by decide +kernel
theorem dX11_proposing_50 : decode cX11_proposing 50 = .ok (.ifCond .ne 5, 3) := by decide +kernel
theorem dX11_proposing_53 : decode cX11_proposing 53 = .ok (.iconst 0, 1) := by decide +kernel
theorem dX11_proposing_54 : decode cX11_proposing 54 = .ok (.ireturn, 1) := by decide +kernel
theorem dX11_proposing_55 : decode cX11_proposing 55 = .ok (.aload_n 0, 1) := by decide +kernel
theorem dX11_proposing_56 : decode cX11_proposing 56 = .ok (.invokevirtual 387, 3) := by decide +kernel
theorem dX11_proposing_59 : decode cX11_proposing 59 = .ok (.aload_n 0, 1) := by decide +kernel
theorem dX11_proposing_60 : decode cX11_proposing 60 = .ok (.getfield 7, 3) := by decide +kernel
theorem dX11_proposing_63 : decode cX11_proposing 63 = .ok (.bipush 9, 2) := by decide +kernel
theorem dX11_proposing_65 : decode cX11_proposing 65 = .ok (.iaload, 1) := by decide +kernel
theorem dX11_proposing_66 : decode cX11_proposing 66 = .ok (.istore_n 3, 1) := by decide +kernel
theorem dX11_proposing_67 : decode cX11_proposing 67 = .ok (.aload_n 0, 1) := by decide +kernel
theorem dX11_proposing_68 : decode cX11_proposing 68 = .ok (.iload_n 3, 1) := by decide +kernel
theorem dX11_proposing_69 : decode cX11_proposing 69 = .ok (.iconst 0, 1) := by decide +kernel
theorem dX11_proposing_70 : decode cX11_proposing 70 = .ok (.iload_n 1, 1) := by decide +kernel
theorem dX11_proposing_71 : decode cX11_proposing 71 = .ok (.invokevirtual 132, 3) := by decide +kernel
theorem dX11_proposing_74 : decode cX11_proposing 74 = .ok (.aload_n 0, 1) := by decide +kernel
theorem dX11_proposing_75 : decode cX11_proposing 75 = .ok (.iload_n 3, 1) := by decide +kernel
theorem dX11_proposing_76 : decode cX11_proposing 76 = .ok (.iconst 1, 1) := by decide +kernel
theorem dX11_proposing_77 : decode cX11_proposing 77 = .ok (.iload_n 2, 1) := by decide +kernel
theorem dX11_proposing_78 : decode cX11_proposing 78 = .ok (.invokevirtual 132, 3) := by decide +kernel
theorem dX11_proposing_81 : decode cX11_proposing 81 = .ok (.aload_n 0, 1) := by decide +kernel
theorem dX11_proposing_82 : decode cX11_proposing 82 = .ok (.iload_n 3, 1) := by decide +kernel
theorem dX11_proposing_83 : decode cX11_proposing 83 = .ok (.iconst 2, 1) := by decide +kernel
theorem dX11_proposing_84 : decode cX11_proposing 84 = .ok (.iconst 0, 1) := by decide +kernel
theorem dX11_proposing_85 : decode cX11_proposing 85 = .ok (.invokevirtual 132, 3) := by decide +kernel
theorem dX11_proposing_88 : decode cX11_proposing 88 = .ok (.aload_n 0, 1) := by decide +kernel
theorem dX11_proposing_89 : decode cX11_proposing 89 = .ok (.iload_n 3, 1) := by decide +kernel
theorem dX11_proposing_90 : decode cX11_proposing 90 = .ok (.iconst 3, 1) := by decide +kernel
theorem dX11_proposing_91 : decode cX11_proposing 91 = .ok (.iconst 0, 1) := by decide +kernel
theorem dX11_proposing_92 : decode cX11_proposing 92 = .ok (.invokevirtual 132, 3) := by decide +kernel
theorem dX11_proposing_95 : decode cX11_proposing 95 = .ok (.aload_n 0, 1) := by decide +kernel
theorem dX11_proposing_96 : decode cX11_proposing 96 = .ok (.iload_n 3, 1) := by decide +kernel
theorem dX11_proposing_97 : decode cX11_proposing 97 = .ok (.iconst 4, 1) := by decide +kernel
theorem dX11_proposing_98 : decode cX11_proposing 98 = .ok (.iconst (-1), 1) := by decide +kernel
theorem dX11_proposing_99 : decode cX11_proposing 99 = .ok (.invokevirtual 132, 3) := by decide +kernel
theorem dX11_proposing_102 : decode cX11_proposing 102 = .ok (.iconst 0, 1) := by decide +kernel
theorem dX11_proposing_103 : decode cX11_proposing 103 = .ok (.istore 4, 2) := by decide +kernel
theorem dX11_proposing_105 : decode cX11_proposing 105 = .ok (.iload 4, 2) := by decide +kernel
theorem dX11_proposing_107 : decode cX11_proposing 107 = .ok (.aload_n 0, 1) := by decide +kernel
theorem dX11_proposing_108 : decode cX11_proposing 108 = .ok (.getfield 7, 3) := by decide +kernel
theorem dX11_proposing_111 : decode cX11_proposing 111 = .ok (.bipush 8, 2) := by decide +kernel
theorem dX11_proposing_113 : decode cX11_proposing 113 = .ok (.iaload, 1) := by decide +kernel
theorem dX11_proposing_114 : decode cX11_proposing 114 = .ok (.if_icmp .ge 39, 3) := by decide +kernel
theorem dX11_proposing_117 : decode cX11_proposing 117 = .ok (.aload_n 0, 1) := by decide +kernel
theorem dX11_proposing_118 : decode cX11_proposing 118 = .ok (.getfield 7, 3) := by decide +kernel
theorem dX11_proposing_121 : decode cX11_proposing 121 = .ok (.sipush 170, 3) := by decide +kernel
theorem dX11_proposing_124 : decode cX11_proposing 124 = .ok (.bipush 16, 2) := by decide +kernel
theorem dX11_proposing_126 : decode cX11_proposing 126 = .ok (.iload 4, 2) := by decide +kernel
theorem dX11_proposing_128 : decode cX11_proposing 128 = .ok (.imul, 1) := by decide +kernel
theorem dX11_proposing_129 : decode cX11_proposing 129 = .ok (.iadd, 1) := by decide +kernel
theorem dX11_proposing_130 : decode cX11_proposing 130 = .ok (.iload_n 3, 1) := by decide +kernel
theorem dX11_proposing_131 : decode cX11_proposing 131 = .ok (.iadd, 1) := by decide +kernel
theorem dX11_proposing_132 : decode cX11_proposing 132 = .ok (.iconst 5, 1) := by decide +kernel
theorem dX11_proposing_133 : decode cX11_proposing 133 = .ok (.aload_n 0, 1) := by decide +kernel
theorem dX11_proposing_134 : decode cX11_proposing 134 = .ok (.iload 4, 2) := by decide +kernel
theorem dX11_proposing_136 : decode cX11_proposing 136 = .ok (.iconst 2, 1) := by decide +kernel
theorem dX11_proposing_137 : decode cX11_proposing 137 = .ok (.invokevirtual 100, 3) := by decide +kernel
theorem dX11_proposing_140 : decode cX11_proposing 140 = .ok (.iload_n 2, 1) := by decide +kernel
theorem dX11_proposing_141 : decode cX11_proposing 141 = .ok (.isub, 1) := by decide +kernel
theorem dX11_proposing_142 : decode cX11_proposing 142 = .ok (.invokestatic 125, 3) := by decide +kernel
theorem dX11_proposing_145 : decode cX11_proposing 145 = .ok (.isub, 1) := by decide +kernel
theorem dX11_proposing_146 : decode cX11_proposing 146 = .ok (.iastore, 1) := by decide +kernel
theorem dX11_proposing_147 : decode cX11_proposing 147 = .ok (.iinc 4 1, 3) := by decide +kernel
theorem dX11_proposing_150 : decode cX11_proposing 150 = .ok (.goto (-45), 3) := by decide +kernel
theorem dX11_proposing_153 : decode cX11_proposing 153 = .ok (.aload_n 0, 1) := by decide +kernel
theorem dX11_proposing_154 : decode cX11_proposing 154 = .ok (.getfield 7, 3) := by decide +kernel
theorem dX11_proposing_157 : decode cX11_proposing 157 = .ok (.bipush 9, 2) := by decide +kernel
theorem dX11_proposing_159 : decode cX11_proposing 159 = .ok (.dup2, 1) := by decide +kernel
theorem dX11_proposing_160 : decode cX11_proposing 160 = .ok (.iaload, 1) := by decide +kernel
theorem dX11_proposing_161 : decode cX11_proposing 161 = .ok (.iconst 1, 1) := by decide +kernel
theorem dX11_proposing_162 : decode cX11_proposing 162 = .ok (.iadd, 1) := by decide +kernel
theorem dX11_proposing_163 : decode cX11_proposing 163 = .ok (.iastore, 1) := by decide +kernel
theorem dX11_proposing_164 : decode cX11_proposing 164 = .ok (.iload_n 3, 1) := by decide +kernel
theorem dX11_proposing_165 : decode cX11_proposing 165 = .ok (.ireturn, 1) := by decide +kernel
theorem dX11_propose_0 : decode cX11_propose 0 = .ok (.aload_n 0, 1) := by decide +kernel
theorem dX11_propose_1 : decode cX11_propose 1 = .ok (.iconst 0, 1) := by decide +kernel
theorem dX11_propose_2 : decode cX11_propose 2 = .ok (.putfield 83, 3) := by decide +kernel
theorem dX11_propose_5 : decode cX11_propose 5 = .ok (.aload_n 0, 1) := by decide +kernel
theorem dX11_propose_6 : decode cX11_propose 6 = .ok (.iload_n 1, 1) := by decide +kernel
theorem dX11_propose_7 : decode cX11_propose 7 = .ok (.iload_n 2, 1) := by decide +kernel
theorem dX11_propose_8 : decode cX11_propose 8 = .ok (.invokevirtual 298, 3) := by decide +kernel
theorem dX11_propose_11 : decode cX11_propose 11 = .ok (.ireturn, 1) := by decide +kernel
theorem dX11_asking_0 : decode cX11_asking 0 = .ok (.aload_n 0, 1) := by decide +kernel
theorem dX11_asking_1 : decode cX11_asking 1 = .ok (.aload_n 0, 1) := by decide +kernel
theorem dX11_asking_2 : decode cX11_asking 2 = .ok (.iload_n 1, 1) := by decide +kernel
theorem dX11_asking_3 : decode cX11_asking 3 = .ok (.invokevirtual 339, 3) := by decide +kernel
theorem dX11_asking_6 : decode cX11_asking 6 = .ok (.ifCond .eq 15, 3) := by decide +kernel
theorem dX11_asking_9 : decode cX11_asking 9 = .ok (.aload_n 0, 1) := by decide +kernel
theorem dX11_asking_10 : decode cX11_asking 10 = .ok (.iload_n 2, 1) := by decide +kernel
theorem dX11_asking_11 : decode cX11_asking 11 = .ok (.invokevirtual 345, 3) := by decide +kernel
theorem dX11_asking_14 : decode cX11_asking 14 = .ok (.ifCond .eq 7, 3) := by decide +kernel
theorem dX11_asking_17 : decode cX11_asking 17 = .ok (.iconst 1, 1) := by decide +kernel
theorem dX11_asking_18 : decode cX11_asking 18 = .ok (.goto 4, 3) := by decide +kernel
theorem dX11_asking_21 : decode cX11_asking 21 = .ok (.iconst 0, 1) := by decide +kernel
theorem dX11_asking_22 : decode cX11_asking 22 = .ok (.iconst 1, 1) := by decide +kernel
theorem dX11_asking_23 : decode cX11_asking 23 = .ok (.invokevirtual 167, 3) := by decide +kernel
theorem dX11_asking_26 : decode cX11_asking 26 = .ok (.ifCond .eq 42, 3) := by decide +kernel
theorem dX11_asking_29 : decode cX11_asking 29 = .ok (.aload_n 0, 1) := by decide +kernel
theorem dX11_asking_30 : decode cX11_asking 30 = .ok (.aload_n 0, 1) := by decide +kernel
theorem dX11_asking_31 : decode cX11_asking 31 = .ok (.iload_n 2, 1) := by decide +kernel
theorem dX11_asking_32 : decode cX11_asking 32 = .ok (.invokevirtual 141, 3) := by decide +kernel
theorem dX11_asking_35 : decode cX11_asking 35 = .ok (.ifCond .eq 25, 3) := by decide +kernel
theorem dX11_asking_38 : decode cX11_asking 38 = .ok (.aload_n 0, 1) := by decide +kernel
theorem dX11_asking_39 : decode cX11_asking 39 = .ok (.iload_n 1, 1) := by decide +kernel
theorem dX11_asking_40 : decode cX11_asking 40 = .ok (.invokevirtual 351, 3) := by decide +kernel
theorem dX11_asking_43 : decode cX11_asking 43 = .ok (.iconst (-1), 1) := by decide +kernel
theorem dX11_asking_44 : decode cX11_asking 44 = .ok (.if_icmp .ne 16, 3) := by decide +kernel
theorem dX11_asking_47 : decode cX11_asking 47 = .ok (.aload_n 0, 1) := by decide +kernel
theorem dX11_asking_48 : decode cX11_asking 48 = .ok (.iload_n 1, 1) := by decide +kernel
theorem dX11_asking_49 : decode cX11_asking 49 = .ok (.invokevirtual 348, 3) := by decide +kernel
theorem dX11_asking_52 : decode cX11_asking 52 = .ok (.iconst (-1), 1) := by decide +kernel
theorem dX11_asking_53 : decode cX11_asking 53 = .ok (.if_icmp .ne 7, 3) := by decide +kernel
theorem dX11_asking_56 : decode cX11_asking 56 = .ok (.iconst 1, 1) := by decide +kernel
theorem dX11_asking_57 : decode cX11_asking 57 = .ok (.goto 4, 3) := by decide +kernel
theorem dX11_asking_60 : decode cX11_asking 60 = .ok (.iconst 0, 1) := by decide +kernel
theorem dX11_asking_61 : decode cX11_asking 61 = .ok (.iconst 2, 1) := by decide +kernel
theorem dX11_asking_62 : decode cX11_asking 62 = .ok (.invokevirtual 167, 3) := by decide +kernel
theorem dX11_asking_65 : decode cX11_asking 65 = .ok (.ifCond .ne 5, 3) := by decide +kernel
theorem dX11_asking_68 : decode cX11_asking 68 = .ok (.iconst 0, 1) := by decide +kernel
theorem dX11_asking_69 : decode cX11_asking 69 = .ok (.ireturn, 1) := by decide +kernel
theorem dX11_asking_70 : decode cX11_asking 70 = .ok (.aload_n 0, 1) := by decide +kernel
theorem dX11_asking_71 : decode cX11_asking 71 = .ok (.invokevirtual 387, 3) := by decide +kernel
theorem dX11_asking_74 : decode cX11_asking 74 = .ok (.aload_n 0, 1) := by decide +kernel
theorem dX11_asking_75 : decode cX11_asking 75 = .ok (.getfield 7, 3) := by decide +kernel
theorem dX11_asking_78 : decode cX11_asking 78 = .ok (.bipush 11, 2) := by decide +kernel
theorem dX11_asking_80 : decode cX11_asking 80 = .ok (.iaload, 1) := by decide +kernel
theorem dX11_asking_81 : decode cX11_asking 81 = .ok (.istore 4, 2) := by decide +kernel
theorem dX11_asking_83 : decode cX11_asking 83 = .ok (.aload_n 0, 1) := by decide +kernel
theorem dX11_asking_84 : decode cX11_asking 84 = .ok (.getfield 7, 3) := by decide +kernel
theorem dX11_asking_87 : decode cX11_asking 87 = .ok (.sipush 382, 3) := by decide +kernel
theorem dX11_asking_90 : decode cX11_asking 90 = .ok (.iconst 3, 1) := by decide +kernel
theorem dX11_asking_91 : decode cX11_asking 91 = .ok (.iload 4, 2) := by decide +kernel
theorem dX11_asking_93 : decode cX11_asking 93 = .ok (.imul, 1) := by decide +kernel
theorem dX11_asking_94 : decode cX11_asking 94 = .ok (.iadd, 1) := by decide +kernel
theorem dX11_asking_95 : decode cX11_asking 95 = .ok (.iconst 0, 1) := by decide +kernel
theorem dX11_asking_96 : decode cX11_asking 96 = .ok (.iadd, 1) := by decide +kernel
theorem dX11_asking_97 : decode cX11_asking 97 = .ok (.iload_n 1, 1) := by decide +kernel
theorem dX11_asking_98 : decode cX11_asking 98 = .ok (.iastore, 1) := by decide +kernel
theorem dX11_asking_99 : decode cX11_asking 99 = .ok (.aload_n 0, 1) := by decide +kernel
theorem dX11_asking_100 : decode cX11_asking 100 = .ok (.getfield 7, 3) := by decide +kernel
theorem dX11_asking_103 : decode cX11_asking 103 = .ok (.sipush 382, 3) := by decide +kernel
theorem dX11_asking_106 : decode cX11_asking 106 = .ok (.iconst 3, 1) := by decide +kernel
theorem dX11_asking_107 : decode cX11_asking 107 = .ok (.iload 4, 2) := by decide +kernel
theorem dX11_asking_109 : decode cX11_asking 109 = .ok (.imul, 1) := by decide +kernel
theorem dX11_asking_110 : decode cX11_asking 110 = .ok (.iadd, 1) := by decide +kernel
theorem dX11_asking_111 : decode cX11_asking 111 = .ok (.iconst 1, 1) := by decide +kernel
theorem dX11_asking_112 : decode cX11_asking 112 = .ok (.iadd, 1) := by decide +kernel
theorem dX11_asking_113 : decode cX11_asking 113 = .ok (.iload_n 2, 1) := by decide +kernel
theorem dX11_asking_114 : decode cX11_asking 114 = .ok (.iastore, 1) := by decide +kernel
theorem dX11_asking_115 : decode cX11_asking 115 = .ok (.aload_n 0, 1) := by decide +kernel
theorem dX11_asking_116 : decode cX11_asking 116 = .ok (.getfield 7, 3) := by decide +kernel
theorem dX11_asking_119 : decode cX11_asking 119 = .ok (.sipush 382, 3) := by decide +kernel
theorem dX11_asking_122 : decode cX11_asking 122 = .ok (.iconst 3, 1) := by decide +kernel
theorem dX11_asking_123 : decode cX11_asking 123 = .ok (.iload 4, 2) := by decide +kernel
theorem dX11_asking_125 : decode cX11_asking 125 = .ok (.imul, 1) := by decide +kernel
theorem dX11_asking_126 : decode cX11_asking 126 = .ok (.iadd, 1) := by decide +kernel
theorem dX11_asking_127 : decode cX11_asking 127 = .ok (.iconst 2, 1) := by decide +kernel
theorem dX11_asking_128 : decode cX11_asking 128 = .ok (.iadd, 1) := by decide +kernel
theorem dX11_asking_129 : decode cX11_asking 129 = .ok (.iload_n 3, 1) := by decide +kernel
theorem dX11_asking_130 : decode cX11_asking 130 = .ok (.iastore, 1) := by decide +kernel
theorem dX11_asking_131 : decode cX11_asking 131 = .ok (.aload_n 0, 1) := by decide +kernel
theorem dX11_asking_132 : decode cX11_asking 132 = .ok (.getfield 7, 3) := by decide +kernel
theorem dX11_asking_135 : decode cX11_asking 135 = .ok (.bipush 11, 2) := by decide +kernel
theorem dX11_asking_137 : decode cX11_asking 137 = .ok (.dup2, 1) := by decide +kernel
theorem dX11_asking_138 : decode cX11_asking 138 = .ok (.iaload, 1) := by decide +kernel
theorem dX11_asking_139 : decode cX11_asking 139 = .ok (.iconst 1, 1) := by decide +kernel
theorem dX11_asking_140 : decode cX11_asking 140 = .ok (.iadd, 1) := by decide +kernel
theorem dX11_asking_141 : decode cX11_asking 141 = .ok (.iastore, 1) := by decide +kernel
theorem dX11_asking_142 : decode cX11_asking 142 = .ok (.iload 4, 2) := by decide +kernel
theorem dX11_asking_144 : decode cX11_asking 144 = .ok (.ireturn, 1) := by decide +kernel
theorem dX11_request_0 : decode cX11_request 0 = .ok (.aload_n 0, 1) := by decide +kernel
theorem dX11_request_1 : decode cX11_request 1 = .ok (.iconst 0, 1) := by decide +kernel
theorem dX11_request_2 : decode cX11_request 2 = .ok (.putfield 83, 3) := by decide +kernel
theorem dX11_request_5 : decode cX11_request 5 = .ok (.aload_n 0, 1) := by decide +kernel
theorem dX11_request_6 : decode cX11_request 6 = .ok (.iload_n 1, 1) := by decide +kernel
theorem dX11_request_7 : decode cX11_request 7 = .ok (.iload_n 2, 1) := by decide +kernel
theorem dX11_request_8 : decode cX11_request 8 = .ok (.iload_n 3, 1) := by decide +kernel
theorem dX11_request_9 : decode cX11_request 9 = .ok (.ifCond .eq 7, 3) := by decide +kernel
theorem dX11_request_12 : decode cX11_request 12 = .ok (.iconst 1, 1) := by decide +kernel
theorem dX11_request_13 : decode cX11_request 13 = .ok (.goto 4, 3) := by decide +kernel
theorem dX11_request_16 : decode cX11_request 16 = .ok (.iconst 0, 1) := by decide +kernel
theorem dX11_request_17 : decode cX11_request 17 = .ok (.invokevirtual 301, 3) := by decide +kernel
theorem dX11_request_20 : decode cX11_request 20 = .ok (.ireturn, 1) := by decide +kernel
theorem dX11_canRebut_0 : decode cX11_canRebut 0 = .ok (.aload_n 0, 1) := by decide +kernel
theorem dX11_canRebut_1 : decode cX11_canRebut 1 = .ok (.iload_n 2, 1) := by decide +kernel
theorem dX11_canRebut_2 : decode cX11_canRebut 2 = .ok (.iconst 0, 1) := by decide +kernel
theorem dX11_canRebut_3 : decode cX11_canRebut 3 = .ok (.invokevirtual 94, 3) := by decide +kernel
theorem dX11_canRebut_6 : decode cX11_canRebut 6 = .ok (.iconst (-1), 1) := by decide +kernel
theorem dX11_canRebut_7 : decode cX11_canRebut 7 = .ok (.if_icmp .eq 29, 3) := by decide +kernel
theorem dX11_canRebut_10 : decode cX11_canRebut 10 = .ok (.aload_n 0, 1) := by decide +kernel
theorem dX11_canRebut_11 : decode cX11_canRebut 11 = .ok (.iload_n 2, 1) := by decide +kernel
theorem dX11_canRebut_12 : decode cX11_canRebut 12 = .ok (.iconst 4, 1) := by decide +kernel
theorem dX11_canRebut_13 : decode cX11_canRebut 13 = .ok (.invokevirtual 94, 3) := by decide +kernel
theorem dX11_canRebut_16 : decode cX11_canRebut 16 = .ok (.iconst 1, 1) := by decide +kernel
theorem dX11_canRebut_17 : decode cX11_canRebut 17 = .ok (.if_icmp .eq 19, 3) := by decide +kernel
theorem dX11_canRebut_20 : decode cX11_canRebut 20 = .ok (.aload_n 0, 1) := by decide +kernel
theorem dX11_canRebut_21 : decode cX11_canRebut 21 = .ok (.invokevirtual 366, 3) := by decide +kernel
theorem dX11_canRebut_24 : decode cX11_canRebut 24 = .ok (.ifCond .eq 12, 3) := by decide +kernel
theorem dX11_canRebut_27 : decode cX11_canRebut 27 = .ok (.aload_n 0, 1) := by decide +kernel
theorem dX11_canRebut_28 : decode cX11_canRebut 28 = .ok (.iload_n 1, 1) := by decide +kernel
theorem dX11_canRebut_29 : decode cX11_canRebut 29 = .ok (.invokevirtual 348, 3) := by decide +kernel
theorem dX11_canRebut_32 : decode cX11_canRebut 32 = .ok (.iconst (-1), 1) := by decide +kernel
theorem dX11_canRebut_33 : decode cX11_canRebut 33 = .ok (.if_icmp .eq 5, 3) := by decide +kernel
theorem dX11_canRebut_36 : decode cX11_canRebut 36 = .ok (.iconst 0, 1) := by decide +kernel
theorem dX11_canRebut_37 : decode cX11_canRebut 37 = .ok (.ireturn, 1) := by decide +kernel
theorem dX11_canRebut_38 : decode cX11_canRebut 38 = .ok (.aload_n 0, 1) := by decide +kernel
theorem dX11_canRebut_39 : decode cX11_canRebut 39 = .ok (.iload_n 1, 1) := by decide +kernel
theorem dX11_canRebut_40 : decode cX11_canRebut 40 = .ok (.aload_n 0, 1) := by decide +kernel
theorem dX11_canRebut_41 : decode cX11_canRebut 41 = .ok (.iload_n 2, 1) := by decide +kernel
theorem dX11_canRebut_42 : decode cX11_canRebut 42 = .ok (.iconst 1, 1) := by decide +kernel
theorem dX11_canRebut_43 : decode cX11_canRebut 43 = .ok (.invokevirtual 94, 3) := by decide +kernel
theorem dX11_canRebut_46 : decode cX11_canRebut 46 = .ok (.invokevirtual 114, 3) := by decide +kernel
theorem dX11_canRebut_49 : decode cX11_canRebut 49 = .ok (.istore_n 3, 1) := by decide +kernel
theorem dX11_canRebut_50 : decode cX11_canRebut 50 = .ok (.aload_n 0, 1) := by decide +kernel
theorem dX11_canRebut_51 : decode cX11_canRebut 51 = .ok (.iload_n 2, 1) := by decide +kernel
theorem dX11_canRebut_52 : decode cX11_canRebut 52 = .ok (.iconst 2, 1) := by decide +kernel
theorem dX11_canRebut_53 : decode cX11_canRebut 53 = .ok (.invokevirtual 94, 3) := by decide +kernel
theorem dX11_canRebut_56 : decode cX11_canRebut 56 = .ok (.iconst 1, 1) := by decide +kernel
theorem dX11_canRebut_57 : decode cX11_canRebut 57 = .ok (.if_icmp .ne 15, 3) := by decide +kernel
theorem dX11_canRebut_60 : decode cX11_canRebut 60 = .ok (.iload_n 3, 1) := by decide +kernel
theorem dX11_canRebut_61 : decode cX11_canRebut 61 = .ok (.ifCond .ge 7, 3) := by decide +kernel
theorem dX11_canRebut_64 : decode cX11_canRebut 64 = .ok (.iconst 1, 1) := by decide +kernel
theorem dX11_canRebut_65 : decode cX11_canRebut 65 = .ok (.goto 16, 3) := by decide +kernel
theorem dX11_canRebut_68 : decode cX11_canRebut 68 = .ok (.iconst 0, 1) := by decide +kernel
theorem dX11_canRebut_69 : decode cX11_canRebut 69 = .ok (.goto 12, 3) := by decide +kernel
theorem dX11_canRebut_72 : decode cX11_canRebut 72 = .ok (.iload_n 3, 1) := by decide +kernel
theorem dX11_canRebut_73 : decode cX11_canRebut 73 = .ok (.ifCond .le 7, 3) := by decide +kernel
theorem dX11_canRebut_76 : decode cX11_canRebut 76 = .ok (.iconst 1, 1) := by decide +kernel
theorem dX11_canRebut_77 : decode cX11_canRebut 77 = .ok (.goto 4, 3) := by decide +kernel
theorem dX11_canRebut_80 : decode cX11_canRebut 80 = .ok (.iconst 0, 1) := by decide +kernel
theorem dX11_canRebut_81 : decode cX11_canRebut 81 = .ok (.ireturn, 1) := by decide +kernel
theorem dX11_rebutting_0 : decode cX11_rebutting 0 = .ok (.aload_n 0, 1) := by decide +kernel
theorem dX11_rebutting_1 : decode cX11_rebutting 1 = .ok (.aload_n 0, 1) := by decide +kernel
theorem dX11_rebutting_2 : decode cX11_rebutting 2 = .ok (.iload_n 1, 1) := by decide +kernel
theorem dX11_rebutting_3 : decode cX11_rebutting 3 = .ok (.invokevirtual 339, 3) := by decide +kernel
theorem dX11_rebutting_6 : decode cX11_rebutting 6 = .ok (.ifCond .eq 15, 3) := by decide +kernel
theorem dX11_rebutting_9 : decode cX11_rebutting 9 = .ok (.aload_n 0, 1) := by decide +kernel
theorem dX11_rebutting_10 : decode cX11_rebutting 10 = .ok (.iload_n 2, 1) := by decide +kernel
theorem dX11_rebutting_11 : decode cX11_rebutting 11 = .ok (.invokevirtual 369, 3) := by decide +kernel
theorem dX11_rebutting_14 : decode cX11_rebutting 14 = .ok (.ifCond .eq 7, 3) := by decide +kernel
theorem dX11_rebutting_17 : decode cX11_rebutting 17 = .ok (.iconst 1, 1) := by decide +kernel
theorem dX11_rebutting_18 : decode cX11_rebutting 18 = .ok (.goto 4, 3) := by decide +kernel
theorem dX11_rebutting_21 : decode cX11_rebutting 21 = .ok (.iconst 0, 1) := by decide +kernel
theorem dX11_rebutting_22 : decode cX11_rebutting 22 = .ok (.iconst 1, 1) := by decide +kernel
theorem dX11_rebutting_23 : decode cX11_rebutting 23 = .ok (.invokevirtual 167, 3) := by decide +kernel
theorem dX11_rebutting_26 : decode cX11_rebutting 26 = .ok (.ifCond .eq 17, 3) := by decide +kernel
theorem dX11_rebutting_29 : decode cX11_rebutting 29 = .ok (.aload_n 0, 1) := by decide +kernel
theorem dX11_rebutting_30 : decode cX11_rebutting 30 = .ok (.aload_n 0, 1) := by decide +kernel
theorem dX11_rebutting_31 : decode cX11_rebutting 31 = .ok (.iload_n 1, 1) := by decide +kernel
theorem dX11_rebutting_32 : decode cX11_rebutting 32 = .ok (.iload_n 2, 1) := by decide +kernel
theorem dX11_rebutting_33 : decode cX11_rebutting 33 = .ok (.invokevirtual 390, 3) := by decide +kernel
theorem dX11_rebutting_36 : decode cX11_rebutting 36 = .ok (.iconst 2, 1) := by decide +kernel
theorem dX11_rebutting_37 : decode cX11_rebutting 37 = .ok (.invokevirtual 167, 3) := by decide +kernel
theorem dX11_rebutting_40 : decode cX11_rebutting 40 = .ok (.ifCond .ne 5, 3) := by decide +kernel
theorem dX11_rebutting_43 : decode cX11_rebutting 43 = .ok (.iconst 0, 1) := by decide +kernel
theorem dX11_rebutting_44 : decode cX11_rebutting 44 = .ok (.ireturn, 1) := by decide +kernel
theorem dX11_rebutting_45 : decode cX11_rebutting 45 = .ok (.aload_n 0, 1) := by decide +kernel
theorem dX11_rebutting_46 : decode cX11_rebutting 46 = .ok (.invokevirtual 387, 3) := by decide +kernel
theorem dX11_rebutting_49 : decode cX11_rebutting 49 = .ok (.aload_n 0, 1) := by decide +kernel
theorem dX11_rebutting_50 : decode cX11_rebutting 50 = .ok (.iload_n 2, 1) := by decide +kernel
theorem dX11_rebutting_51 : decode cX11_rebutting 51 = .ok (.iconst 4, 1) := by decide +kernel
theorem dX11_rebutting_52 : decode cX11_rebutting 52 = .ok (.iconst 1, 1) := by decide +kernel
theorem dX11_rebutting_53 : decode cX11_rebutting 53 = .ok (.invokevirtual 79, 3) := by decide +kernel
theorem dX11_rebutting_56 : decode cX11_rebutting 56 = .ok (.aload_n 0, 1) := by decide +kernel
theorem dX11_rebutting_57 : decode cX11_rebutting 57 = .ok (.getfield 7, 3) := by decide +kernel
theorem dX11_rebutting_60 : decode cX11_rebutting 60 = .ok (.bipush 14, 2) := by decide +kernel
theorem dX11_rebutting_62 : decode cX11_rebutting 62 = .ok (.dup2, 1) := by decide +kernel
theorem dX11_rebutting_63 : decode cX11_rebutting 63 = .ok (.iaload, 1) := by decide +kernel
theorem dX11_rebutting_64 : decode cX11_rebutting 64 = .ok (.iconst 1, 1) := by decide +kernel
theorem dX11_rebutting_65 : decode cX11_rebutting 65 = .ok (.iadd, 1) := by decide +kernel
theorem dX11_rebutting_66 : decode cX11_rebutting 66 = .ok (.iastore, 1) := by decide +kernel
theorem dX11_rebutting_67 : decode cX11_rebutting 67 = .ok (.aload_n 0, 1) := by decide +kernel
theorem dX11_rebutting_68 : decode cX11_rebutting 68 = .ok (.invokevirtual 366, 3) := by decide +kernel
theorem dX11_rebutting_71 : decode cX11_rebutting 71 = .ok (.ireturn, 1) := by decide +kernel
theorem dX11_rebut_0 : decode cX11_rebut 0 = .ok (.aload_n 0, 1) := by decide +kernel
theorem dX11_rebut_1 : decode cX11_rebut 1 = .ok (.iconst 0, 1) := by decide +kernel
theorem dX11_rebut_2 : decode cX11_rebut 2 = .ok (.putfield 83, 3) := by decide +kernel
theorem dX11_rebut_5 : decode cX11_rebut 5 = .ok (.aload_n 0, 1) := by decide +kernel
theorem dX11_rebut_6 : decode cX11_rebut 6 = .ok (.iload_n 1, 1) := by decide +kernel
theorem dX11_rebut_7 : decode cX11_rebut 7 = .ok (.iload_n 2, 1) := by decide +kernel
theorem dX11_rebut_8 : decode cX11_rebut 8 = .ok (.invokevirtual 305, 3) := by decide +kernel
theorem dX11_rebut_11 : decode cX11_rebut 11 = .ok (.ireturn, 1) := by decide +kernel
theorem dX11_advancing_0 : decode cX11_advancing 0 = .ok (.aload_n 0, 1) := by decide +kernel
theorem dX11_advancing_1 : decode cX11_advancing 1 = .ok (.iload_n 1, 1) := by decide +kernel
theorem dX11_advancing_2 : decode cX11_advancing 2 = .ok (.iconst 1, 1) := by decide +kernel
theorem dX11_advancing_3 : decode cX11_advancing 3 = .ok (.bipush 60, 2) := by decide +kernel
theorem dX11_advancing_5 : decode cX11_advancing 5 = .ok (.invokestatic 86, 3) := by decide +kernel
theorem dX11_advancing_8 : decode cX11_advancing 8 = .ok (.iconst 1, 1) := by decide +kernel
theorem dX11_advancing_9 : decode cX11_advancing 9 = .ok (.invokevirtual 167, 3) := by decide +kernel
theorem dX11_advancing_12 : decode cX11_advancing 12 = .ok (.ifCond .eq 31, 3) := by decide +kernel
theorem dX11_advancing_15 : decode cX11_advancing 15 = .ok (.aload_n 0, 1) := by decide +kernel
theorem dX11_advancing_16 : decode cX11_advancing 16 = .ok (.aload_n 0, 1) := by decide +kernel
theorem dX11_advancing_17 : decode cX11_advancing 17 = .ok (.getfield 7, 3) := by decide +kernel
theorem dX11_advancing_20 : decode cX11_advancing 20 = .ok (.bipush 7, 2) := by decide +kernel
theorem dX11_advancing_22 : decode cX11_advancing 22 = .ok (.iaload, 1) := by decide +kernel
theorem dX11_advancing_23 : decode cX11_advancing 23 = .ok (.iload_n 1, 1) := by decide +kernel
theorem dX11_advancing_24 : decode cX11_advancing 24 = .ok (.iadd, 1) := by decide +kernel
theorem dX11_advancing_25 : decode cX11_advancing 25 = .ok (.sipush 9999, 3) := by decide +kernel
theorem dX11_advancing_28 : decode cX11_advancing 28 = .ok (.if_icmp .gt 7, 3) := by decide +kernel
theorem dX11_advancing_31 : decode cX11_advancing 31 = .ok (.iconst 1, 1) := by decide +kernel
theorem dX11_advancing_32 : decode cX11_advancing 32 = .ok (.goto 4, 3) := by decide +kernel
theorem dX11_advancing_35 : decode cX11_advancing 35 = .ok (.iconst 0, 1) := by decide +kernel
theorem dX11_advancing_36 : decode cX11_advancing 36 = .ok (.iconst 2, 1) := by decide +kernel
theorem dX11_advancing_37 : decode cX11_advancing 37 = .ok (.invokevirtual 167, 3) := by decide +kernel
theorem dX11_advancing_40 : decode cX11_advancing 40 = .ok (.ifCond .ne 5, 3) := by decide +kernel
theorem dX11_advancing_43 : decode cX11_advancing 43 = .ok (.iconst 0, 1) := by decide +kernel
theorem dX11_advancing_44 : decode cX11_advancing 44 = .ok (.ireturn, 1) := by decide +kernel
theorem dX11_advancing_45 : decode cX11_advancing 45 = .ok (.aload_n 0, 1) := by decide +kernel
theorem dX11_advancing_46 : decode cX11_advancing 46 = .ok (.invokevirtual 387, 3) := by decide +kernel
theorem dX11_advancing_49 : decode cX11_advancing 49 = .ok (.aload_n 0, 1) := by decide +kernel
theorem dX11_advancing_50 : decode cX11_advancing 50 = .ok (.getfield 7, 3) := by decide +kernel
theorem dX11_advancing_53 : decode cX11_advancing 53 = .ok (.bipush 17, 2) := by decide +kernel
theorem dX11_advancing_55 : decode cX11_advancing 55 = .ok (.iaload, 1) := by decide +kernel
theorem dX11_advancing_56 : decode cX11_advancing 56 = .ok (.istore_n 2, 1) := by decide +kernel
theorem dX11_advancing_57 : decode cX11_advancing 57 = .ok (.iconst 0, 1) := by decide +kernel
theorem dX11_advancing_58 : decode cX11_advancing 58 = .ok (.istore_n 3, 1) := by decide +kernel
theorem dX11_advancing_59 : decode cX11_advancing 59 = .ok (.iload_n 3, 1) := by decide +kernel
theorem dX11_advancing_60 : decode cX11_advancing 60 = .ok (.iload_n 1, 1) := by decide +kernel
theorem dX11_advancing_61 : decode cX11_advancing 61 = .ok (.if_icmp .ge 13, 3) := by decide +kernel
theorem dX11_advancing_64 : decode cX11_advancing 64 = .ok (.aload_n 0, 1) := by decide +kernel
theorem dX11_advancing_65 : decode cX11_advancing 65 = .ok (.invokevirtual 381, 3) := by decide +kernel
theorem dX11_advancing_68 : decode cX11_advancing 68 = .ok (.iinc 3 1, 3) := by decide +kernel
theorem dX11_advancing_71 : decode cX11_advancing 71 = .ok (.goto (-12), 3) := by decide +kernel
theorem dX11_advancing_74 : decode cX11_advancing 74 = .ok (.aload_n 0, 1) := by decide +kernel
theorem dX11_advancing_75 : decode cX11_advancing 75 = .ok (.getfield 7, 3) := by decide +kernel
theorem dX11_advancing_78 : decode cX11_advancing 78 = .ok (.bipush 17, 2) := by decide +kernel
theorem dX11_advancing_80 : decode cX11_advancing 80 = .ok (.iaload, 1) := by decide +kernel
theorem dX11_advancing_81 : decode cX11_advancing 81 = .ok (.iload_n 2, 1) := by decide +kernel
theorem dX11_advancing_82 : decode cX11_advancing 82 = .ok (.isub, 1) := by decide +kernel
theorem dX11_advancing_83 : decode cX11_advancing 83 = .ok (.ireturn, 1) := by decide +kernel
theorem dX11_advance_0 : decode cX11_advance 0 = .ok (.aload_n 0, 1) := by decide +kernel
theorem dX11_advance_1 : decode cX11_advance 1 = .ok (.iconst 0, 1) := by decide +kernel
theorem dX11_advance_2 : decode cX11_advance 2 = .ok (.putfield 83, 3) := by decide +kernel
theorem dX11_advance_5 : decode cX11_advance 5 = .ok (.aload_n 0, 1) := by decide +kernel
theorem dX11_advance_6 : decode cX11_advance 6 = .ok (.iload_n 1, 1) := by decide +kernel
theorem dX11_advance_7 : decode cX11_advance 7 = .ok (.invokevirtual 308, 3) := by decide +kernel
theorem dX11_advance_10 : decode cX11_advance 10 = .ok (.ireturn, 1) := by decide +kernel
theorem dX11_votesOf_0 : decode cX11_votesOf 0 = .ok (.aload_n 0, 1) := by decide +kernel
theorem dX11_votesOf_1 : decode cX11_votesOf 1 = .ok (.iload_n 1, 1) := by decide +kernel
theorem dX11_votesOf_2 : decode cX11_votesOf 2 = .ok (.iload_n 2, 1) := by decide +kernel
theorem dX11_votesOf_3 : decode cX11_votesOf 3 = .ok (.invokevirtual 150, 3) := by decide +kernel
theorem dX11_votesOf_6 : decode cX11_votesOf 6 = .ok (.ifCond .ne 4, 3) := by decide +kernel
theorem dX11_votesOf_9 : decode cX11_votesOf 9 = .ok (.return_, 1) := by decide +kernel
theorem dX11_votesOf_10 : decode cX11_votesOf 10 = .ok (.aload_n 0, 1) := by decide +kernel
theorem dX11_votesOf_11 : decode cX11_votesOf 11 = .ok (.iload_n 1, 1) := by decide +kernel
theorem dX11_votesOf_12 : decode cX11_votesOf 12 = .ok (.iconst 4, 1) := by decide +kernel
theorem dX11_votesOf_13 : decode cX11_votesOf 13 = .ok (.aload_n 0, 1) := by decide +kernel
theorem dX11_votesOf_14 : decode cX11_votesOf 14 = .ok (.iload_n 1, 1) := by decide +kernel
theorem dX11_votesOf_15 : decode cX11_votesOf 15 = .ok (.iconst 4, 1) := by decide +kernel
theorem dX11_votesOf_16 : decode cX11_votesOf 16 = .ok (.invokevirtual 100, 3) := by decide +kernel
theorem dX11_votesOf_19 : decode cX11_votesOf 19 = .ok (.iconst 1, 1) := by decide +kernel
theorem dX11_votesOf_20 : decode cX11_votesOf 20 = .ok (.isub, 1) := by decide +kernel
theorem dX11_votesOf_21 : decode cX11_votesOf 21 = .ok (.invokevirtual 138, 3) := by decide +kernel
theorem dX11_votesOf_24 : decode cX11_votesOf 24 = .ok (.aload_n 0, 1) := by decide +kernel
theorem dX11_votesOf_25 : decode cX11_votesOf 25 = .ok (.iload_n 1, 1) := by decide +kernel
theorem dX11_votesOf_26 : decode cX11_votesOf 26 = .ok (.iload_n 2, 1) := by decide +kernel
theorem dX11_votesOf_27 : decode cX11_votesOf 27 = .ok (.invokevirtual 114, 3) := by decide +kernel
theorem dX11_votesOf_30 : decode cX11_votesOf 30 = .ok (.ifCond .le 7, 3) := by decide +kernel
theorem dX11_votesOf_33 : decode cX11_votesOf 33 = .ok (.iconst 1, 1) := by decide +kernel
theorem dX11_votesOf_34 : decode cX11_votesOf 34 = .ok (.goto 4, 3) := by decide +kernel
theorem dX11_votesOf_37 : decode cX11_votesOf 37 = .ok (.iconst 0, 1) := by decide +kernel
theorem dX11_votesOf_38 : decode cX11_votesOf 38 = .ok (.iload_n 3, 1) := by decide +kernel
theorem dX11_votesOf_39 : decode cX11_votesOf 39 = .ok (.if_icmp .ne 12, 3) := by decide +kernel
theorem dX11_votesOf_42 : decode cX11_votesOf 42 = .ok (.aload_n 0, 1) := by decide +kernel
theorem dX11_votesOf_43 : decode cX11_votesOf 43 = .ok (.iload_n 1, 1) := by decide +kernel
theorem dX11_votesOf_44 : decode cX11_votesOf 44 = .ok (.iconst 3, 1) := by decide +kernel
theorem dX11_votesOf_45 : decode cX11_votesOf 45 = .ok (.invokevirtual 100, 3) := by decide +kernel
theorem dX11_votesOf_48 : decode cX11_votesOf 48 = .ok (.ifCond .ne 4, 3) := by decide +kernel
theorem dX11_votesOf_51 : decode cX11_votesOf 51 = .ok (.return_, 1) := by decide +kernel
theorem dX11_votesOf_52 : decode cX11_votesOf 52 = .ok (.aload_n 0, 1) := by decide +kernel
theorem dX11_votesOf_53 : decode cX11_votesOf 53 = .ok (.iload_n 1, 1) := by decide +kernel
theorem dX11_votesOf_54 : decode cX11_votesOf 54 = .ok (.iconst 3, 1) := by decide +kernel
theorem dX11_votesOf_55 : decode cX11_votesOf 55 = .ok (.aload_n 0, 1) := by decide +kernel
theorem dX11_votesOf_56 : decode cX11_votesOf 56 = .ok (.iload_n 1, 1) := by decide +kernel
theorem dX11_votesOf_57 : decode cX11_votesOf 57 = .ok (.iconst 3, 1) := by decide +kernel
theorem dX11_votesOf_58 : decode cX11_votesOf 58 = .ok (.invokevirtual 100, 3) := by decide +kernel
theorem dX11_votesOf_61 : decode cX11_votesOf 61 = .ok (.iconst 1, 1) := by decide +kernel
theorem dX11_votesOf_62 : decode cX11_votesOf 62 = .ok (.isub, 1) := by decide +kernel
theorem dX11_votesOf_63 : decode cX11_votesOf 63 = .ok (.invokevirtual 138, 3) := by decide +kernel
theorem dX11_votesOf_66 : decode cX11_votesOf 66 = .ok (.aload_n 0, 1) := by decide +kernel
theorem dX11_votesOf_67 : decode cX11_votesOf 67 = .ok (.getfield 7, 3) := by decide +kernel
theorem dX11_votesOf_70 : decode cX11_votesOf 70 = .ok (.bipush 12, 2) := by decide +kernel
theorem dX11_votesOf_72 : decode cX11_votesOf 72 = .ok (.dup2, 1) := by decide +kernel
theorem dX11_votesOf_73 : decode cX11_votesOf 73 = .ok (.iaload, 1) := by decide +kernel
theorem dX11_votesOf_74 : decode cX11_votesOf 74 = .ok (.iconst 1, 1) := by decide +kernel
theorem dX11_votesOf_75 : decode cX11_votesOf 75 = .ok (.iadd, 1) := by decide +kernel
theorem dX11_votesOf_76 : decode cX11_votesOf 76 = .ok (.iastore, 1) := by decide +kernel
theorem dX11_votesOf_77 : decode cX11_votesOf 77 = .ok (.return_, 1) := by decide +kernel
theorem dX11_voting_0 : decode cX11_voting 0 = .ok (.aload_n 0, 1) := by decide +kernel
theorem dX11_voting_1 : decode cX11_voting 1 = .ok (.aload_n 0, 1) := by decide +kernel
theorem dX11_voting_2 : decode cX11_voting 2 = .ok (.iload_n 1, 1) := by decide +kernel
theorem dX11_voting_3 : decode cX11_voting 3 = .ok (.invokevirtual 345, 3) := by decide +kernel
theorem dX11_voting_6 : decode cX11_voting 6 = .ok (.iconst 1, 1) := by decide +kernel
theorem dX11_voting_7 : decode cX11_voting 7 = .ok (.invokevirtual 167, 3) := by decide +kernel
theorem dX11_voting_10 : decode cX11_voting 10 = .ok (.ifCond .eq 24, 3) := by decide +kernel
theorem dX11_voting_13 : decode cX11_voting 13 = .ok (.aload_n 0, 1) := by decide +kernel
theorem dX11_voting_14 : decode cX11_voting 14 = .ok (.aload_n 0, 1) := by decide +kernel
theorem dX11_voting_15 : decode cX11_voting 15 = .ok (.iload_n 1, 1) := by decide +kernel
theorem dX11_voting_16 : decode cX11_voting 16 = .ok (.invokevirtual 357, 3) := by decide +kernel
theorem dX11_voting_19 : decode cX11_voting 19 = .ok (.ifCond .ne 7, 3) := by decide +kernel
theorem dX11_voting_22 : decode cX11_voting 22 = .ok (.iconst 1, 1) := by decide +kernel
theorem dX11_voting_23 : decode cX11_voting 23 = .ok (.goto 4, 3) := by decide +kernel
theorem dX11_voting_26 : decode cX11_voting 26 = .ok (.iconst 0, 1) := by decide +kernel
theorem dX11_voting_27 : decode cX11_voting 27 = .ok (.iconst 2, 1) := by decide +kernel
theorem dX11_voting_28 : decode cX11_voting 28 = .ok (.invokevirtual 167, 3) := by decide +kernel
theorem dX11_voting_31 : decode cX11_voting 31 = .ok (.ifCond .ne 5, 3) := by decide +kernel
theorem dX11_voting_34 : decode cX11_voting 34 = .ok (.iconst 0, 1) := by decide +kernel
theorem dX11_voting_35 : decode cX11_voting 35 = .ok (.ireturn, 1) := by decide +kernel
theorem dX11_voting_36 : decode cX11_voting 36 = .ok (.aload_n 0, 1) := by decide +kernel
theorem dX11_voting_37 : decode cX11_voting 37 = .ok (.invokevirtual 387, 3) := by decide +kernel
theorem dX11_voting_40 : decode cX11_voting 40 = .ok (.aload_n 0, 1) := by decide +kernel
theorem dX11_voting_41 : decode cX11_voting 41 = .ok (.iload_n 1, 1) := by decide +kernel
theorem dX11_voting_42 : decode cX11_voting 42 = .ok (.invokevirtual 360, 3) := by decide +kernel
theorem dX11_voting_45 : decode cX11_voting 45 = .ok (.istore_n 2, 1) := by decide +kernel
theorem dX11_voting_46 : decode cX11_voting 46 = .ok (.iconst 0, 1) := by decide +kernel
theorem dX11_voting_47 : decode cX11_voting 47 = .ok (.istore_n 3, 1) := by decide +kernel
theorem dX11_voting_48 : decode cX11_voting 48 = .ok (.iload_n 3, 1) := by decide +kernel
theorem dX11_voting_49 : decode cX11_voting 49 = .ok (.aload_n 0, 1) := by decide +kernel
theorem dX11_voting_50 : decode cX11_voting 50 = .ok (.getfield 7, 3) := by decide +kernel
theorem dX11_voting_53 : decode cX11_voting 53 = .ok (.bipush 8, 2) := by decide +kernel
theorem dX11_voting_55 : decode cX11_voting 55 = .ok (.iaload, 1) := by decide +kernel
theorem dX11_voting_56 : decode cX11_voting 56 = .ok (.if_icmp .ge 16, 3) := by decide +kernel
theorem dX11_voting_59 : decode cX11_voting 59 = .ok (.aload_n 0, 1) := by decide +kernel
theorem dX11_voting_60 : decode cX11_voting 60 = .ok (.iload_n 3, 1) := by decide +kernel
theorem dX11_voting_61 : decode cX11_voting 61 = .ok (.iload_n 1, 1) := by decide +kernel
theorem dX11_voting_62 : decode cX11_voting 62 = .ok (.iload_n 2, 1) := by decide +kernel
theorem dX11_voting_63 : decode cX11_voting 63 = .ok (.invokevirtual 393, 3) := by decide +kernel
theorem dX11_voting_66 : decode cX11_voting 66 = .ok (.iinc 3 1, 3) := by decide +kernel
theorem dX11_voting_69 : decode cX11_voting 69 = .ok (.goto (-21), 3) := by decide +kernel
theorem dX11_voting_72 : decode cX11_voting 72 = .ok (.aload_n 0, 1) := by decide +kernel
theorem dX11_voting_73 : decode cX11_voting 73 = .ok (.iload_n 1, 1) := by decide +kernel
theorem dX11_voting_74 : decode cX11_voting 74 = .ok (.iconst 3, 1) := by decide +kernel
theorem dX11_voting_75 : decode cX11_voting 75 = .ok (.iload_n 2, 1) := by decide +kernel
theorem dX11_voting_76 : decode cX11_voting 76 = .ok (.ifCond .eq 7, 3) := by decide +kernel
theorem dX11_voting_79 : decode cX11_voting 79 = .ok (.iconst 1, 1) := by decide +kernel
theorem dX11_voting_80 : decode cX11_voting 80 = .ok (.goto 4, 3) := by decide +kernel
theorem dX11_voting_83 : decode cX11_voting 83 = .ok (.iconst 2, 1) := by decide +kernel
theorem dX11_voting_84 : decode cX11_voting 84 = .ok (.invokevirtual 132, 3) := by decide +kernel
theorem dX11_voting_87 : decode cX11_voting 87 = .ok (.aload_n 0, 1) := by decide +kernel
theorem dX11_voting_88 : decode cX11_voting 88 = .ok (.getfield 7, 3) := by decide +kernel
theorem dX11_voting_91 : decode cX11_voting 91 = .ok (.bipush 13, 2) := by decide +kernel
theorem dX11_voting_93 : decode cX11_voting 93 = .ok (.dup2, 1) := by decide +kernel
theorem dX11_voting_94 : decode cX11_voting 94 = .ok (.iaload, 1) := by decide +kernel
theorem dX11_voting_95 : decode cX11_voting 95 = .ok (.iconst 1, 1) := by decide +kernel
theorem dX11_voting_96 : decode cX11_voting 96 = .ok (.iadd, 1) := by decide +kernel
theorem dX11_voting_97 : decode cX11_voting 97 = .ok (.iastore, 1) := by decide +kernel
theorem dX11_voting_98 : decode cX11_voting 98 = .ok (.aload_n 0, 1) := by decide +kernel
theorem dX11_voting_99 : decode cX11_voting 99 = .ok (.iload_n 1, 1) := by decide +kernel
theorem dX11_voting_100 : decode cX11_voting 100 = .ok (.invokevirtual 397, 3) := by decide +kernel
theorem dX11_voting_103 : decode cX11_voting 103 = .ok (.istore_n 3, 1) := by decide +kernel
theorem dX11_voting_104 : decode cX11_voting 104 = .ok (.iload_n 2, 1) := by decide +kernel
theorem dX11_voting_105 : decode cX11_voting 105 = .ok (.ifCond .eq 7, 3) := by decide +kernel
theorem dX11_voting_108 : decode cX11_voting 108 = .ok (.iconst 1, 1) := by decide +kernel
theorem dX11_voting_109 : decode cX11_voting 109 = .ok (.goto 4, 3) := by decide +kernel
theorem dX11_voting_112 : decode cX11_voting 112 = .ok (.iconst 0, 1) := by decide +kernel
theorem dX11_voting_113 : decode cX11_voting 113 = .ok (.ireturn, 1) := by decide +kernel
theorem dX11_vote_0 : decode cX11_vote 0 = .ok (.aload_n 0, 1) := by decide +kernel
theorem dX11_vote_1 : decode cX11_vote 1 = .ok (.iconst 0, 1) := by decide +kernel
theorem dX11_vote_2 : decode cX11_vote 2 = .ok (.putfield 83, 3) := by decide +kernel
theorem dX11_vote_5 : decode cX11_vote 5 = .ok (.aload_n 0, 1) := by decide +kernel
theorem dX11_vote_6 : decode cX11_vote 6 = .ok (.iload_n 1, 1) := by decide +kernel
theorem dX11_vote_7 : decode cX11_vote 7 = .ok (.invokevirtual 311, 3) := by decide +kernel
theorem dX11_vote_10 : decode cX11_vote 10 = .ok (.iconst 1, 1) := by decide +kernel
theorem dX11_vote_11 : decode cX11_vote 11 = .ok (.if_icmp .ne 7, 3) := by decide +kernel
theorem dX11_vote_14 : decode cX11_vote 14 = .ok (.iconst 1, 1) := by decide +kernel
theorem dX11_vote_15 : decode cX11_vote 15 = .ok (.goto 4, 3) := by decide +kernel
theorem dX11_vote_18 : decode cX11_vote 18 = .ok (.iconst 0, 1) := by decide +kernel
theorem dX11_vote_19 : decode cX11_vote 19 = .ok (.ireturn, 1) := by decide +kernel
theorem dX11_withdrawing_0 : decode cX11_withdrawing 0 = .ok (.aload_n 0, 1) := by decide +kernel
theorem dX11_withdrawing_1 : decode cX11_withdrawing 1 = .ok (.aload_n 0, 1) := by decide +kernel
theorem dX11_withdrawing_2 : decode cX11_withdrawing 2 = .ok (.iload_n 1, 1) := by decide +kernel
theorem dX11_withdrawing_3 : decode cX11_withdrawing 3 = .ok (.invokevirtual 345, 3) := by decide +kernel
theorem dX11_withdrawing_6 : decode cX11_withdrawing 6 = .ok (.iconst 1, 1) := by decide +kernel
theorem dX11_withdrawing_7 : decode cX11_withdrawing 7 = .ok (.invokevirtual 167, 3) := by decide +kernel
theorem dX11_withdrawing_10 : decode cX11_withdrawing 10 = .ok (.ifCond .eq 32, 3) := by decide +kernel
theorem dX11_withdrawing_13 : decode cX11_withdrawing 13 = .ok (.aload_n 0, 1) := by decide +kernel
theorem dX11_withdrawing_14 : decode cX11_withdrawing 14 = .ok (.aload_n 0, 1) := by decide +kernel
theorem dX11_withdrawing_15 : decode cX11_withdrawing 15 = .ok (.iload_n 1, 1) := by decide +kernel
theorem dX11_withdrawing_16 : decode cX11_withdrawing 16 = .ok (.invokevirtual 141, 3) := by decide +kernel
theorem dX11_withdrawing_19 : decode cX11_withdrawing 19 = .ok (.ifCond .eq 15, 3) := by decide +kernel
theorem dX11_withdrawing_22 : decode cX11_withdrawing 22 = .ok (.aload_n 0, 1) := by decide +kernel
theorem dX11_withdrawing_23 : decode cX11_withdrawing 23 = .ok (.iload_n 1, 1) := by decide +kernel
theorem dX11_withdrawing_24 : decode cX11_withdrawing 24 = .ok (.invokevirtual 158, 3) := by decide +kernel
theorem dX11_withdrawing_27 : decode cX11_withdrawing 27 = .ok (.ifCond .ne 7, 3) := by decide +kernel
theorem dX11_withdrawing_30 : decode cX11_withdrawing 30 = .ok (.iconst 1, 1) := by decide +kernel
theorem dX11_withdrawing_31 : decode cX11_withdrawing 31 = .ok (.goto 4, 3) := by decide +kernel
theorem dX11_withdrawing_34 : decode cX11_withdrawing 34 = .ok (.iconst 0, 1) := by decide +kernel
theorem dX11_withdrawing_35 : decode cX11_withdrawing 35 = .ok (.iconst 2, 1) := by decide +kernel
theorem dX11_withdrawing_36 : decode cX11_withdrawing 36 = .ok (.invokevirtual 167, 3) := by decide +kernel
theorem dX11_withdrawing_39 : decode cX11_withdrawing 39 = .ok (.ifCond .ne 5, 3) := by decide +kernel
theorem dX11_withdrawing_42 : decode cX11_withdrawing 42 = .ok (.iconst 0, 1) := by decide +kernel
theorem dX11_withdrawing_43 : decode cX11_withdrawing 43 = .ok (.ireturn, 1) := by decide +kernel
theorem dX11_withdrawing_44 : decode cX11_withdrawing 44 = .ok (.aload_n 0, 1) := by decide +kernel
theorem dX11_withdrawing_45 : decode cX11_withdrawing 45 = .ok (.invokevirtual 387, 3) := by decide +kernel
theorem dX11_withdrawing_48 : decode cX11_withdrawing 48 = .ok (.aload_n 0, 1) := by decide +kernel
theorem dX11_withdrawing_49 : decode cX11_withdrawing 49 = .ok (.iload_n 1, 1) := by decide +kernel
theorem dX11_withdrawing_50 : decode cX11_withdrawing 50 = .ok (.iconst 3, 1) := by decide +kernel
theorem dX11_withdrawing_51 : decode cX11_withdrawing 51 = .ok (.iconst 3, 1) := by decide +kernel
theorem dX11_withdrawing_52 : decode cX11_withdrawing 52 = .ok (.invokevirtual 132, 3) := by decide +kernel
theorem dX11_withdrawing_55 : decode cX11_withdrawing 55 = .ok (.aload_n 0, 1) := by decide +kernel
theorem dX11_withdrawing_56 : decode cX11_withdrawing 56 = .ok (.iload_n 1, 1) := by decide +kernel
theorem dX11_withdrawing_57 : decode cX11_withdrawing 57 = .ok (.invokevirtual 397, 3) := by decide +kernel
theorem dX11_withdrawing_60 : decode cX11_withdrawing 60 = .ok (.ireturn, 1) := by decide +kernel
theorem dX11_withdraw_0 : decode cX11_withdraw 0 = .ok (.aload_n 0, 1) := by decide +kernel
theorem dX11_withdraw_1 : decode cX11_withdraw 1 = .ok (.iconst 0, 1) := by decide +kernel
theorem dX11_withdraw_2 : decode cX11_withdraw 2 = .ok (.putfield 83, 3) := by decide +kernel
theorem dX11_withdraw_5 : decode cX11_withdraw 5 = .ok (.aload_n 0, 1) := by decide +kernel
theorem dX11_withdraw_6 : decode cX11_withdraw 6 = .ok (.iload_n 1, 1) := by decide +kernel
theorem dX11_withdraw_7 : decode cX11_withdraw 7 = .ok (.invokevirtual 314, 3) := by decide +kernel
theorem dX11_withdraw_10 : decode cX11_withdraw 10 = .ok (.ireturn, 1) := by decide +kernel
theorem dX11_sharpening_0 : decode cX11_sharpening 0 = .ok (.aload_n 0, 1) := by decide +kernel
theorem dX11_sharpening_1 : decode cX11_sharpening 1 = .ok (.aload_n 0, 1) := by decide +kernel
theorem dX11_sharpening_2 : decode cX11_sharpening 2 = .ok (.iload_n 1, 1) := by decide +kernel
theorem dX11_sharpening_3 : decode cX11_sharpening 3 = .ok (.invokevirtual 339, 3) := by decide +kernel
theorem dX11_sharpening_6 : decode cX11_sharpening 6 = .ok (.iconst 1, 1) := by decide +kernel
theorem dX11_sharpening_7 : decode cX11_sharpening 7 = .ok (.invokevirtual 167, 3) := by decide +kernel
theorem dX11_sharpening_10 : decode cX11_sharpening 10 = .ok (.ifCond .eq 36, 3) := by decide +kernel
theorem dX11_sharpening_13 : decode cX11_sharpening 13 = .ok (.aload_n 0, 1) := by decide +kernel
theorem dX11_sharpening_14 : decode cX11_sharpening 14 = .ok (.aload_n 0, 1) := by decide +kernel
theorem dX11_sharpening_15 : decode cX11_sharpening 15 = .ok (.iload_n 1, 1) := by decide +kernel
theorem dX11_sharpening_16 : decode cX11_sharpening 16 = .ok (.iconst 4, 1) := by decide +kernel
theorem dX11_sharpening_17 : decode cX11_sharpening 17 = .ok (.invokevirtual 100, 3) := by decide +kernel
theorem dX11_sharpening_20 : decode cX11_sharpening 20 = .ok (.iconst 5, 1) := by decide +kernel
theorem dX11_sharpening_21 : decode cX11_sharpening 21 = .ok (.if_icmp .ge 17, 3) := by decide +kernel
theorem dX11_sharpening_24 : decode cX11_sharpening 24 = .ok (.aload_n 0, 1) := by decide +kernel
theorem dX11_sharpening_25 : decode cX11_sharpening 25 = .ok (.iload_n 1, 1) := by decide +kernel
theorem dX11_sharpening_26 : decode cX11_sharpening 26 = .ok (.iconst 3, 1) := by decide +kernel
theorem dX11_sharpening_27 : decode cX11_sharpening 27 = .ok (.invokevirtual 100, 3) := by decide +kernel
theorem dX11_sharpening_30 : decode cX11_sharpening 30 = .ok (.iconst 2, 1) := by decide +kernel
theorem dX11_sharpening_31 : decode cX11_sharpening 31 = .ok (.if_icmp .lt 7, 3) := by decide +kernel
theorem dX11_sharpening_34 : decode cX11_sharpening 34 = .ok (.iconst 1, 1) := by decide +kernel
theorem dX11_sharpening_35 : decode cX11_sharpening 35 = .ok (.goto 4, 3) := by decide +kernel
theorem dX11_sharpening_38 : decode cX11_sharpening 38 = .ok (.iconst 0, 1) := by decide +kernel
theorem dX11_sharpening_39 : decode cX11_sharpening 39 = .ok (.iconst 2, 1) := by decide +kernel
theorem dX11_sharpening_40 : decode cX11_sharpening 40 = .ok (.invokevirtual 167, 3) := by decide +kernel
theorem dX11_sharpening_43 : decode cX11_sharpening 43 = .ok (.ifCond .ne 5, 3) := by decide +kernel
theorem dX11_sharpening_46 : decode cX11_sharpening 46 = .ok (.iconst 0, 1) := by decide +kernel
theorem dX11_sharpening_47 : decode cX11_sharpening 47 = .ok (.ireturn, 1) := by decide +kernel
theorem dX11_sharpening_48 : decode cX11_sharpening 48 = .ok (.aload_n 0, 1) := by decide +kernel
theorem dX11_sharpening_49 : decode cX11_sharpening 49 = .ok (.invokevirtual 387, 3) := by decide +kernel
theorem dX11_sharpening_52 : decode cX11_sharpening 52 = .ok (.aload_n 0, 1) := by decide +kernel
theorem dX11_sharpening_53 : decode cX11_sharpening 53 = .ok (.iload_n 1, 1) := by decide +kernel
theorem dX11_sharpening_54 : decode cX11_sharpening 54 = .ok (.iconst 4, 1) := by decide +kernel
theorem dX11_sharpening_55 : decode cX11_sharpening 55 = .ok (.iconst 5, 1) := by decide +kernel
theorem dX11_sharpening_56 : decode cX11_sharpening 56 = .ok (.invokevirtual 138, 3) := by decide +kernel
theorem dX11_sharpening_59 : decode cX11_sharpening 59 = .ok (.aload_n 0, 1) := by decide +kernel
theorem dX11_sharpening_60 : decode cX11_sharpening 60 = .ok (.iload_n 1, 1) := by decide +kernel
theorem dX11_sharpening_61 : decode cX11_sharpening 61 = .ok (.iconst 3, 1) := by decide +kernel
theorem dX11_sharpening_62 : decode cX11_sharpening 62 = .ok (.aload_n 0, 1) := by decide +kernel
theorem dX11_sharpening_63 : decode cX11_sharpening 63 = .ok (.iload_n 1, 1) := by decide +kernel
theorem dX11_sharpening_64 : decode cX11_sharpening 64 = .ok (.iconst 3, 1) := by decide +kernel
theorem dX11_sharpening_65 : decode cX11_sharpening 65 = .ok (.invokevirtual 100, 3) := by decide +kernel
theorem dX11_sharpening_68 : decode cX11_sharpening 68 = .ok (.iconst 2, 1) := by decide +kernel
theorem dX11_sharpening_69 : decode cX11_sharpening 69 = .ok (.isub, 1) := by decide +kernel
theorem dX11_sharpening_70 : decode cX11_sharpening 70 = .ok (.invokevirtual 138, 3) := by decide +kernel
theorem dX11_sharpening_73 : decode cX11_sharpening 73 = .ok (.aload_n 0, 1) := by decide +kernel
theorem dX11_sharpening_74 : decode cX11_sharpening 74 = .ok (.getfield 7, 3) := by decide +kernel
theorem dX11_sharpening_77 : decode cX11_sharpening 77 = .ok (.bipush 15, 2) := by decide +kernel
theorem dX11_sharpening_79 : decode cX11_sharpening 79 = .ok (.dup2, 1) := by decide +kernel
theorem dX11_sharpening_80 : decode cX11_sharpening 80 = .ok (.iaload, 1) := by decide +kernel
theorem dX11_sharpening_81 : decode cX11_sharpening 81 = .ok (.iconst 1, 1) := by decide +kernel
theorem dX11_sharpening_82 : decode cX11_sharpening 82 = .ok (.iadd, 1) := by decide +kernel
theorem dX11_sharpening_83 : decode cX11_sharpening 83 = .ok (.iastore, 1) := by decide +kernel
theorem dX11_sharpening_84 : decode cX11_sharpening 84 = .ok (.aload_n 0, 1) := by decide +kernel
theorem dX11_sharpening_85 : decode cX11_sharpening 85 = .ok (.iload_n 1, 1) := by decide +kernel
theorem dX11_sharpening_86 : decode cX11_sharpening 86 = .ok (.iconst 3, 1) := by decide +kernel
theorem dX11_sharpening_87 : decode cX11_sharpening 87 = .ok (.invokevirtual 100, 3) := by decide +kernel
theorem dX11_sharpening_90 : decode cX11_sharpening 90 = .ok (.ireturn, 1) := by decide +kernel
theorem dX11_sharpen_0 : decode cX11_sharpen 0 = .ok (.aload_n 0, 1) := by decide +kernel
theorem dX11_sharpen_1 : decode cX11_sharpen 1 = .ok (.iconst 0, 1) := by decide +kernel
theorem dX11_sharpen_2 : decode cX11_sharpen 2 = .ok (.putfield 83, 3) := by decide +kernel
theorem dX11_sharpen_5 : decode cX11_sharpen 5 = .ok (.aload_n 0, 1) := by decide +kernel
theorem dX11_sharpen_6 : decode cX11_sharpen 6 = .ok (.iload_n 1, 1) := by decide +kernel
theorem dX11_sharpen_7 : decode cX11_sharpen 7 = .ok (.invokevirtual 317, 3) := by decide +kernel
theorem dX11_sharpen_10 : decode cX11_sharpen 10 = .ok (.ireturn, 1) := by decide +kernel
theorem dX11_ranks_0 : decode cX11_ranks 0 = .ok (.aload_n 0, 1) := by decide +kernel
theorem dX11_ranks_1 : decode cX11_ranks 1 = .ok (.iload_n 1, 1) := by decide +kernel
theorem dX11_ranks_2 : decode cX11_ranks 2 = .ok (.invokestatic 375, 3) := by decide +kernel
theorem dX11_ranks_5 : decode cX11_ranks 5 = .ok (.iconst 1, 1) := by decide +kernel
theorem dX11_ranks_6 : decode cX11_ranks 6 = .ok (.invokevirtual 167, 3) := by decide +kernel
theorem dX11_ranks_9 : decode cX11_ranks 9 = .ok (.ifCond .ne 5, 3) := by decide +kernel
theorem dX11_ranks_12 : decode cX11_ranks 12 = .ok (.iconst 0, 1) := by decide +kernel
theorem dX11_ranks_13 : decode cX11_ranks 13 = .ok (.ireturn, 1) := by decide +kernel
theorem dX11_ranks_14 : decode cX11_ranks 14 = .ok (.aload_n 0, 1) := by decide +kernel
theorem dX11_ranks_15 : decode cX11_ranks 15 = .ok (.invokevirtual 387, 3) := by decide +kernel
theorem dX11_ranks_18 : decode cX11_ranks 18 = .ok (.aload_n 0, 1) := by decide +kernel
theorem dX11_ranks_19 : decode cX11_ranks 19 = .ok (.getfield 7, 3) := by decide +kernel
theorem dX11_ranks_22 : decode cX11_ranks 22 = .ok (.bipush 10, 2) := by decide +kernel
theorem dX11_ranks_24 : decode cX11_ranks 24 = .ok (.iaload, 1) := by decide +kernel
theorem dX11_ranks_25 : decode cX11_ranks 25 = .ok (.istore_n 2, 1) := by decide +kernel
theorem dX11_ranks_26 : decode cX11_ranks 26 = .ok (.aload_n 0, 1) := by decide +kernel
theorem dX11_ranks_27 : decode cX11_ranks 27 = .ok (.getfield 7, 3) := by decide +kernel
theorem dX11_ranks_30 : decode cX11_ranks 30 = .ok (.bipush 10, 2) := by decide +kernel
theorem dX11_ranks_32 : decode cX11_ranks 32 = .ok (.iload_n 1, 1) := by decide +kernel
theorem dX11_ranks_33 : decode cX11_ranks 33 = .ok (.iastore, 1) := by decide +kernel
theorem dX11_ranks_34 : decode cX11_ranks 34 = .ok (.iload_n 2, 1) := by decide +kernel
theorem dX11_ranks_35 : decode cX11_ranks 35 = .ok (.ireturn, 1) := by decide +kernel
theorem dX11_setRanking_0 : decode cX11_setRanking 0 = .ok (.aload_n 0, 1) := by decide +kernel
theorem dX11_setRanking_1 : decode cX11_setRanking 1 = .ok (.iconst 0, 1) := by decide +kernel
theorem dX11_setRanking_2 : decode cX11_setRanking 2 = .ok (.putfield 83, 3) := by decide +kernel
theorem dX11_setRanking_5 : decode cX11_setRanking 5 = .ok (.aload_n 0, 1) := by decide +kernel
theorem dX11_setRanking_6 : decode cX11_setRanking 6 = .ok (.iload_n 1, 1) := by decide +kernel
theorem dX11_setRanking_7 : decode cX11_setRanking 7 = .ok (.invokevirtual 320, 3) := by decide +kernel
theorem dX11_setRanking_10 : decode cX11_setRanking 10 = .ok (.ireturn, 1) := by decide +kernel
theorem dX11_writes_0 : decode cX11_writes 0 = .ok (.aload_n 0, 1) := by decide +kernel
theorem dX11_writes_1 : decode cX11_writes 1 = .ok (.getfield 48, 3) := by decide +kernel
theorem dX11_writes_4 : decode cX11_writes 4 = .ok (.aload_n 0, 1) := by decide +kernel
theorem dX11_writes_5 : decode cX11_writes 5 = .ok (.getfield 400, 3) := by decide +kernel
theorem dX11_writes_8 : decode cX11_writes 8 = .ok (.iload_n 1, 1) := by decide +kernel
theorem dX11_writes_9 : decode cX11_writes 9 = .ok (.iastore, 1) := by decide +kernel
theorem dX11_writes_10 : decode cX11_writes 10 = .ok (.aload_n 0, 1) := by decide +kernel
theorem dX11_writes_11 : decode cX11_writes 11 = .ok (.dup, 1) := by decide +kernel
theorem dX11_writes_12 : decode cX11_writes 12 = .ok (.getfield 400, 3) := by decide +kernel
theorem dX11_writes_15 : decode cX11_writes 15 = .ok (.iconst 1, 1) := by decide +kernel
theorem dX11_writes_16 : decode cX11_writes 16 = .ok (.iadd, 1) := by decide +kernel
theorem dX11_writes_17 : decode cX11_writes 17 = .ok (.putfield 400, 3) := by decide +kernel
theorem dX11_writes_20 : decode cX11_writes 20 = .ok (.return_, 1) := by decide +kernel
theorem dX11_writesNumber_0 : decode cX11_writesNumber 0 = .ok (.iload_n 1, 1) := by decide +kernel
theorem dX11_writesNumber_1 : decode cX11_writesNumber 1 = .ok (.bipush 9, 2) := by decide +kernel
theorem dX11_writesNumber_3 : decode cX11_writesNumber 3 = .ok (.if_icmp .le 14, 3) := by decide +kernel
theorem dX11_writesNumber_6 : decode cX11_writesNumber 6 = .ok (.aload_n 0, 1) := by decide +kernel
theorem dX11_writesNumber_7 : decode cX11_writesNumber 7 = .ok (.bipush 48, 2) := by decide +kernel
theorem dX11_writesNumber_9 : decode cX11_writesNumber 9 = .ok (.iload_n 1, 1) := by decide +kernel
theorem dX11_writesNumber_10 : decode cX11_writesNumber 10 = .ok (.bipush 10, 2) := by decide +kernel
theorem dX11_writesNumber_12 : decode cX11_writesNumber 12 = .ok (.idiv, 1) := by decide +kernel
theorem dX11_writesNumber_13 : decode cX11_writesNumber 13 = .ok (.iadd, 1) := by decide +kernel
theorem dX11_writesNumber_14 : decode cX11_writesNumber 14 = .ok (.invokevirtual 403, 3) := by decide +kernel
theorem dX11_writesNumber_17 : decode cX11_writesNumber 17 = .ok (.aload_n 0, 1) := by decide +kernel
theorem dX11_writesNumber_18 : decode cX11_writesNumber 18 = .ok (.bipush 48, 2) := by decide +kernel
theorem dX11_writesNumber_20 : decode cX11_writesNumber 20 = .ok (.iload_n 1, 1) := by decide +kernel
theorem dX11_writesNumber_21 : decode cX11_writesNumber 21 = .ok (.bipush 10, 2) := by decide +kernel
theorem dX11_writesNumber_23 : decode cX11_writesNumber 23 = .ok (.irem, 1) := by decide +kernel
theorem dX11_writesNumber_24 : decode cX11_writesNumber 24 = .ok (.iadd, 1) := by decide +kernel
theorem dX11_writesNumber_25 : decode cX11_writesNumber 25 = .ok (.invokevirtual 403, 3) := by decide +kernel
theorem dX11_writesNumber_28 : decode cX11_writesNumber 28 = .ok (.return_, 1) := by decide +kernel
theorem dX11_writesName_0 : decode cX11_writesName 0 = .ok (.aload_n 0, 1) := by decide +kernel
theorem dX11_writesName_1 : decode cX11_writesName 1 = .ok (.iload_n 1, 1) := by decide +kernel
theorem dX11_writesName_2 : decode cX11_writesName 2 = .ok (.iconst 0, 1) := by decide +kernel
theorem dX11_writesName_3 : decode cX11_writesName 3 = .ok (.invokevirtual 100, 3) := by decide +kernel
theorem dX11_writesName_6 : decode cX11_writesName 6 = .ok (.istore_n 2, 1) := by decide +kernel
theorem dX11_writesName_7 : decode cX11_writesName 7 = .ok (.iconst 1, 1) := by decide +kernel
theorem dX11_writesName_8 : decode cX11_writesName 8 = .ok (.istore_n 3, 1) := by decide +kernel
theorem dX11_writesName_9 : decode cX11_writesName 9 = .ok (.iload_n 3, 1) := by decide +kernel
theorem dX11_writesName_10 : decode cX11_writesName 10 = .ok (.iload_n 2, 1) := by decide +kernel
theorem dX11_writesName_11 : decode cX11_writesName 11 = .ok (.bipush 27, 2) := by decide +kernel
theorem dX11_writesName_13 : decode cX11_writesName 13 = .ok (.idiv, 1) := by decide +kernel
theorem dX11_writesName_14 : decode cX11_writesName 14 = .ok (.if_icmp .gt 11, 3) := by decide +kernel
theorem dX11_writesName_17 : decode cX11_writesName 17 = .ok (.iload_n 3, 1) := by decide +kernel
theorem dX11_writesName_18 : decode cX11_writesName 18 = .ok (.bipush 27, 2) := by decide +kernel
theorem dX11_writesName_20 : decode cX11_writesName 20 = .ok (.imul, 1) := by decide +kernel
theorem dX11_writesName_21 : decode cX11_writesName 21 = .ok (.istore_n 3, 1) := by decide +kernel
theorem dX11_writesName_22 : decode cX11_writesName 22 = .ok (.goto (-13), 3) := by decide +kernel
theorem dX11_writesName_25 : decode cX11_writesName 25 = .ok (.iload_n 3, 1) := by decide +kernel
theorem dX11_writesName_26 : decode cX11_writesName 26 = .ok (.istore 4, 2) := by decide +kernel
theorem dX11_writesName_28 : decode cX11_writesName 28 = .ok (.iload 4, 2) := by decide +kernel
theorem dX11_writesName_30 : decode cX11_writesName 30 = .ok (.ifCond .le 27, 3) := by decide +kernel
theorem dX11_writesName_33 : decode cX11_writesName 33 = .ok (.aload_n 0, 1) := by decide +kernel
theorem dX11_writesName_34 : decode cX11_writesName 34 = .ok (.bipush 96, 2) := by decide +kernel
theorem dX11_writesName_36 : decode cX11_writesName 36 = .ok (.iload_n 2, 1) := by decide +kernel
theorem dX11_writesName_37 : decode cX11_writesName 37 = .ok (.iload 4, 2) := by decide +kernel
theorem dX11_writesName_39 : decode cX11_writesName 39 = .ok (.idiv, 1) := by decide +kernel
theorem dX11_writesName_40 : decode cX11_writesName 40 = .ok (.bipush 27, 2) := by decide +kernel
theorem dX11_writesName_42 : decode cX11_writesName 42 = .ok (.irem, 1) := by decide +kernel
theorem dX11_writesName_43 : decode cX11_writesName 43 = .ok (.iadd, 1) := by decide +kernel
theorem dX11_writesName_44 : decode cX11_writesName 44 = .ok (.invokevirtual 403, 3) := by decide +kernel
theorem dX11_writesName_47 : decode cX11_writesName 47 = .ok (.iload 4, 2) := by decide +kernel
theorem dX11_writesName_49 : decode cX11_writesName 49 = .ok (.bipush 27, 2) := by decide +kernel
theorem dX11_writesName_51 : decode cX11_writesName 51 = .ok (.idiv, 1) := by decide +kernel
theorem dX11_writesName_52 : decode cX11_writesName 52 = .ok (.istore 4, 2) := by decide +kernel
theorem dX11_writesName_54 : decode cX11_writesName 54 = .ok (.goto (-26), 3) := by decide +kernel
theorem dX11_writesName_57 : decode cX11_writesName 57 = .ok (.return_, 1) := by decide +kernel
theorem dX11_writeChairs_0 : decode cX11_writeChairs 0 = .ok (.aload_n 0, 1) := by decide +kernel
theorem dX11_writeChairs_1 : decode cX11_writeChairs 1 = .ok (.iconst 0, 1) := by decide +kernel
theorem dX11_writeChairs_2 : decode cX11_writeChairs 2 = .ok (.putfield 83, 3) := by decide +kernel
theorem dX11_writeChairs_5 : decode cX11_writeChairs 5 = .ok (.aload_n 0, 1) := by decide +kernel
theorem dX11_writeChairs_6 : decode cX11_writeChairs 6 = .ok (.iconst 0, 1) := by decide +kernel
theorem dX11_writeChairs_7 : decode cX11_writeChairs 7 = .ok (.putfield 400, 3) := by decide +kernel
theorem dX11_writeChairs_10 : decode cX11_writeChairs 10 = .ok (.iconst 0, 1) := by decide +kernel
theorem dX11_writeChairs_11 : decode cX11_writeChairs 11 = .ok (.istore_n 1, 1) := by decide +kernel
theorem dX11_writeChairs_12 : decode cX11_writeChairs 12 = .ok (.iload_n 1, 1) := by decide +kernel
theorem dX11_writeChairs_13 : decode cX11_writeChairs 13 = .ok (.aload_n 0, 1) := by decide +kernel
theorem dX11_writeChairs_14 : decode cX11_writeChairs 14 = .ok (.getfield 7, 3) := by decide +kernel
theorem dX11_writeChairs_17 : decode cX11_writeChairs 17 = .ok (.iconst 0, 1) := by decide +kernel
theorem dX11_writeChairs_18 : decode cX11_writeChairs 18 = .ok (.iaload, 1) := by decide +kernel
theorem dX11_writeChairs_19 : decode cX11_writeChairs 19 = .ok (.if_icmp .ge 111, 3) := by decide +kernel
theorem dX11_writeChairs_22 : decode cX11_writeChairs 22 = .ok (.iload_n 1, 1) := by decide +kernel
theorem dX11_writeChairs_23 : decode cX11_writeChairs 23 = .ok (.ifCond .le 9, 3) := by decide +kernel
theorem dX11_writeChairs_26 : decode cX11_writeChairs 26 = .ok (.aload_n 0, 1) := by decide +kernel
theorem dX11_writeChairs_27 : decode cX11_writeChairs 27 = .ok (.bipush 32, 2) := by decide +kernel
theorem dX11_writeChairs_29 : decode cX11_writeChairs 29 = .ok (.invokevirtual 403, 3) := by decide +kernel
theorem dX11_writeChairs_32 : decode cX11_writeChairs 32 = .ok (.aload_n 0, 1) := by decide +kernel
theorem dX11_writeChairs_33 : decode cX11_writeChairs 33 = .ok (.iload_n 1, 1) := by decide +kernel
theorem dX11_writeChairs_34 : decode cX11_writeChairs 34 = .ok (.iconst 0, 1) := by decide +kernel
theorem dX11_writeChairs_35 : decode cX11_writeChairs 35 = .ok (.invokevirtual 94, 3) := by decide +kernel
theorem dX11_writeChairs_38 : decode cX11_writeChairs 38 = .ok (.iconst (-1), 1) := by decide +kernel
theorem dX11_writeChairs_39 : decode cX11_writeChairs 39 = .ok (.if_icmp .ne 12, 3) := by decide +kernel
theorem dX11_writeChairs_42 : decode cX11_writeChairs 42 = .ok (.aload_n 0, 1) := by decide +kernel
theorem dX11_writeChairs_43 : decode cX11_writeChairs 43 = .ok (.bipush 46, 2) := by decide +kernel
theorem dX11_writeChairs_45 : decode cX11_writeChairs 45 = .ok (.invokevirtual 403, 3) := by decide +kernel
theorem dX11_writeChairs_48 : decode cX11_writeChairs 48 = .ok (.goto 76, 3) := by decide +kernel
theorem dX11_writeChairs_51 : decode cX11_writeChairs 51 = .ok (.aload_n 0, 1) := by decide +kernel
theorem dX11_writeChairs_52 : decode cX11_writeChairs 52 = .ok (.aload_n 0, 1) := by decide +kernel
theorem dX11_writeChairs_53 : decode cX11_writeChairs 53 = .ok (.iload_n 1, 1) := by decide +kernel
theorem dX11_writeChairs_54 : decode cX11_writeChairs 54 = .ok (.iconst 0, 1) := by decide +kernel
theorem dX11_writeChairs_55 : decode cX11_writeChairs 55 = .ok (.invokevirtual 94, 3) := by decide +kernel
theorem dX11_writeChairs_58 : decode cX11_writeChairs 58 = .ok (.invokevirtual 406, 3) := by decide +kernel
theorem dX11_writeChairs_61 : decode cX11_writeChairs 61 = .ok (.aload_n 0, 1) := by decide +kernel
theorem dX11_writeChairs_62 : decode cX11_writeChairs 62 = .ok (.aload_n 0, 1) := by decide +kernel
theorem dX11_writeChairs_63 : decode cX11_writeChairs 63 = .ok (.iload_n 1, 1) := by decide +kernel
theorem dX11_writeChairs_64 : decode cX11_writeChairs 64 = .ok (.iconst 2, 1) := by decide +kernel
theorem dX11_writeChairs_65 : decode cX11_writeChairs 65 = .ok (.invokevirtual 94, 3) := by decide +kernel
theorem dX11_writeChairs_68 : decode cX11_writeChairs 68 = .ok (.iconst 1, 1) := by decide +kernel
theorem dX11_writeChairs_69 : decode cX11_writeChairs 69 = .ok (.if_icmp .ne 8, 3) := by decide +kernel
theorem dX11_writeChairs_72 : decode cX11_writeChairs 72 = .ok (.bipush 43, 2) := by decide +kernel
theorem dX11_writeChairs_74 : decode cX11_writeChairs 74 = .ok (.goto 5, 3) := by decide +kernel
theorem dX11_writeChairs_77 : decode cX11_writeChairs 77 = .ok (.bipush 45, 2) := by decide +kernel
theorem dX11_writeChairs_79 : decode cX11_writeChairs 79 = .ok (.invokevirtual 403, 3) := by decide +kernel
theorem dX11_writeChairs_82 : decode cX11_writeChairs 82 = .ok (.aload_n 0, 1) := by decide +kernel
theorem dX11_writeChairs_83 : decode cX11_writeChairs 83 = .ok (.aload_n 0, 1) := by decide +kernel
theorem dX11_writeChairs_84 : decode cX11_writeChairs 84 = .ok (.iload_n 1, 1) := by decide +kernel
theorem dX11_writeChairs_85 : decode cX11_writeChairs 85 = .ok (.iconst 1, 1) := by decide +kernel
theorem dX11_writeChairs_86 : decode cX11_writeChairs 86 = .ok (.invokevirtual 94, 3) := by decide +kernel
theorem dX11_writeChairs_89 : decode cX11_writeChairs 89 = .ok (.invokevirtual 409, 3) := by decide +kernel
theorem dX11_writeChairs_92 : decode cX11_writeChairs 92 = .ok (.aload_n 0, 1) := by decide +kernel
theorem dX11_writeChairs_93 : decode cX11_writeChairs 93 = .ok (.iload_n 1, 1) := by decide +kernel
theorem dX11_writeChairs_94 : decode cX11_writeChairs 94 = .ok (.iconst 4, 1) := by decide +kernel
theorem dX11_writeChairs_95 : decode cX11_writeChairs 95 = .ok (.invokevirtual 94, 3) := by decide +kernel
theorem dX11_writeChairs_98 : decode cX11_writeChairs 98 = .ok (.iconst 1, 1) := by decide +kernel
theorem dX11_writeChairs_99 : decode cX11_writeChairs 99 = .ok (.if_icmp .ne 9, 3) := by decide +kernel
theorem dX11_writeChairs_102 : decode cX11_writeChairs 102 = .ok (.aload_n 0, 1) := by decide +kernel
theorem dX11_writeChairs_103 : decode cX11_writeChairs 103 = .ok (.bipush 33, 2) := by decide +kernel
theorem dX11_writeChairs_105 : decode cX11_writeChairs 105 = .ok (.invokevirtual 403, 3) := by decide +kernel
theorem dX11_writeChairs_108 : decode cX11_writeChairs 108 = .ok (.aload_n 0, 1) := by decide +kernel
theorem dX11_writeChairs_109 : decode cX11_writeChairs 109 = .ok (.bipush 58, 2) := by decide +kernel
theorem dX11_writeChairs_111 : decode cX11_writeChairs 111 = .ok (.invokevirtual 403, 3) := by decide +kernel
theorem dX11_writeChairs_114 : decode cX11_writeChairs 114 = .ok (.aload_n 0, 1) := by decide +kernel
theorem dX11_writeChairs_115 : decode cX11_writeChairs 115 = .ok (.aload_n 0, 1) := by decide +kernel
theorem dX11_writeChairs_116 : decode cX11_writeChairs 116 = .ok (.iload_n 1, 1) := by decide +kernel
theorem dX11_writeChairs_117 : decode cX11_writeChairs 117 = .ok (.iconst 3, 1) := by decide +kernel
theorem dX11_writeChairs_118 : decode cX11_writeChairs 118 = .ok (.invokevirtual 94, 3) := by decide +kernel
theorem dX11_writeChairs_121 : decode cX11_writeChairs 121 = .ok (.invokevirtual 409, 3) := by decide +kernel
theorem dX11_writeChairs_124 : decode cX11_writeChairs 124 = .ok (.iinc 1 1, 3) := by decide +kernel
theorem dX11_writeChairs_127 : decode cX11_writeChairs 127 = .ok (.goto (-115), 3) := by decide +kernel
theorem dX11_writeChairs_130 : decode cX11_writeChairs 130 = .ok (.aload_n 0, 1) := by decide +kernel
theorem dX11_writeChairs_131 : decode cX11_writeChairs 131 = .ok (.getfield 400, 3) := by decide +kernel
theorem dX11_writeChairs_134 : decode cX11_writeChairs 134 = .ok (.ireturn, 1) := by decide +kernel
theorem dX11_writeRequests_0 : decode cX11_writeRequests 0 = .ok (.aload_n 0, 1) := by decide +kernel
theorem dX11_writeRequests_1 : decode cX11_writeRequests 1 = .ok (.iconst 0, 1) := by decide +kernel
theorem dX11_writeRequests_2 : decode cX11_writeRequests 2 = .ok (.putfield 83, 3) := by decide +kernel
theorem dX11_writeRequests_5 : decode cX11_writeRequests 5 = .ok (.aload_n 0, 1) := by decide +kernel
theorem dX11_writeRequests_6 : decode cX11_writeRequests 6 = .ok (.iconst 0, 1) := by decide +kernel
theorem dX11_writeRequests_7 : decode cX11_writeRequests 7 = .ok (.putfield 400, 3) := by decide +kernel
theorem dX11_writeRequests_10 : decode cX11_writeRequests 10 = .ok (.iconst 0, 1) := by decide +kernel
theorem dX11_writeRequests_11 : decode cX11_writeRequests 11 = .ok (.istore_n 1, 1) := by decide +kernel
theorem dX11_writeRequests_12 : decode cX11_writeRequests 12 = .ok (.iload_n 1, 1) := by decide +kernel
theorem dX11_writeRequests_13 : decode cX11_writeRequests 13 = .ok (.aload_n 0, 1) := by decide +kernel
theorem dX11_writeRequests_14 : decode cX11_writeRequests 14 = .ok (.getfield 7, 3) := by decide +kernel
theorem dX11_writeRequests_17 : decode cX11_writeRequests 17 = .ok (.bipush 11, 2) := by decide +kernel
theorem dX11_writeRequests_19 : decode cX11_writeRequests 19 = .ok (.iaload, 1) := by decide +kernel
theorem dX11_writeRequests_20 : decode cX11_writeRequests 20 = .ok (.if_icmp .ge 60, 3) := by decide +kernel
theorem dX11_writeRequests_23 : decode cX11_writeRequests 23 = .ok (.iload_n 1, 1) := by decide +kernel
theorem dX11_writeRequests_24 : decode cX11_writeRequests 24 = .ok (.ifCond .le 9, 3) := by decide +kernel
theorem dX11_writeRequests_27 : decode cX11_writeRequests 27 = .ok (.aload_n 0, 1) := by decide +kernel
theorem dX11_writeRequests_28 : decode cX11_writeRequests 28 = .ok (.bipush 44, 2) := by decide +kernel
theorem dX11_writeRequests_30 : decode cX11_writeRequests 30 = .ok (.invokevirtual 403, 3) := by decide +kernel
theorem dX11_writeRequests_33 : decode cX11_writeRequests 33 = .ok (.aload_n 0, 1) := by decide +kernel
theorem dX11_writeRequests_34 : decode cX11_writeRequests 34 = .ok (.aload_n 0, 1) := by decide +kernel
theorem dX11_writeRequests_35 : decode cX11_writeRequests 35 = .ok (.iload_n 1, 1) := by decide +kernel
theorem dX11_writeRequests_36 : decode cX11_writeRequests 36 = .ok (.iconst 0, 1) := by decide +kernel
theorem dX11_writeRequests_37 : decode cX11_writeRequests 37 = .ok (.invokevirtual 97, 3) := by decide +kernel
theorem dX11_writeRequests_40 : decode cX11_writeRequests 40 = .ok (.invokevirtual 406, 3) := by decide +kernel
theorem dX11_writeRequests_43 : decode cX11_writeRequests 43 = .ok (.aload_n 0, 1) := by decide +kernel
theorem dX11_writeRequests_44 : decode cX11_writeRequests 44 = .ok (.aload_n 0, 1) := by decide +kernel
theorem dX11_writeRequests_45 : decode cX11_writeRequests 45 = .ok (.iload_n 1, 1) := by decide +kernel
theorem dX11_writeRequests_46 : decode cX11_writeRequests 46 = .ok (.iconst 2, 1) := by decide +kernel
theorem dX11_writeRequests_47 : decode cX11_writeRequests 47 = .ok (.invokevirtual 97, 3) := by decide +kernel
theorem dX11_writeRequests_50 : decode cX11_writeRequests 50 = .ok (.iconst 1, 1) := by decide +kernel
theorem dX11_writeRequests_51 : decode cX11_writeRequests 51 = .ok (.if_icmp .ne 8, 3) := by decide +kernel
theorem dX11_writeRequests_54 : decode cX11_writeRequests 54 = .ok (.bipush 43, 2) := by decide +kernel
theorem dX11_writeRequests_56 : decode cX11_writeRequests 56 = .ok (.goto 5, 3) := by decide +kernel
theorem dX11_writeRequests_59 : decode cX11_writeRequests 59 = .ok (.bipush 45, 2) := by decide +kernel
theorem dX11_writeRequests_61 : decode cX11_writeRequests 61 = .ok (.invokevirtual 403, 3) := by decide +kernel
theorem dX11_writeRequests_64 : decode cX11_writeRequests 64 = .ok (.aload_n 0, 1) := by decide +kernel
theorem dX11_writeRequests_65 : decode cX11_writeRequests 65 = .ok (.aload_n 0, 1) := by decide +kernel
theorem dX11_writeRequests_66 : decode cX11_writeRequests 66 = .ok (.iload_n 1, 1) := by decide +kernel
theorem dX11_writeRequests_67 : decode cX11_writeRequests 67 = .ok (.iconst 1, 1) := by decide +kernel
theorem dX11_writeRequests_68 : decode cX11_writeRequests 68 = .ok (.invokevirtual 97, 3) := by decide +kernel
theorem dX11_writeRequests_71 : decode cX11_writeRequests 71 = .ok (.invokevirtual 409, 3) := by decide +kernel
theorem dX11_writeRequests_74 : decode cX11_writeRequests 74 = .ok (.iinc 1 1, 3) := by decide +kernel
theorem dX11_writeRequests_77 : decode cX11_writeRequests 77 = .ok (.goto (-65), 3) := by decide +kernel
theorem dX11_writeRequests_80 : decode cX11_writeRequests 80 = .ok (.aload_n 0, 1) := by decide +kernel
theorem dX11_writeRequests_81 : decode cX11_writeRequests 81 = .ok (.getfield 400, 3) := by decide +kernel
theorem dX11_writeRequests_84 : decode cX11_writeRequests 84 = .ok (.ireturn, 1) := by decide +kernel
theorem dX11_outputByte_0 : decode cX11_outputByte 0 = .ok (.aload_n 0, 1) := by decide +kernel
theorem dX11_outputByte_1 : decode cX11_outputByte 1 = .ok (.iconst 0, 1) := by decide +kernel
theorem dX11_outputByte_2 : decode cX11_outputByte 2 = .ok (.putfield 83, 3) := by decide +kernel
theorem dX11_outputByte_5 : decode cX11_outputByte 5 = .ok (.iload_n 1, 1) := by decide +kernel
theorem dX11_outputByte_6 : decode cX11_outputByte 6 = .ok (.iconst 0, 1) := by decide +kernel
theorem dX11_outputByte_7 : decode cX11_outputByte 7 = .ok (.aload_n 0, 1) := by decide +kernel
theorem dX11_outputByte_8 : decode cX11_outputByte 8 = .ok (.getfield 400, 3) := by decide +kernel
theorem dX11_outputByte_11 : decode cX11_outputByte 11 = .ok (.iconst 1, 1) := by decide +kernel
theorem dX11_outputByte_12 : decode cX11_outputByte 12 = .ok (.isub, 1) := by decide +kernel
theorem dX11_outputByte_13 : decode cX11_outputByte 13 = .ok (.invokestatic 86, 3) := by decide +kernel
theorem dX11_outputByte_16 : decode cX11_outputByte 16 = .ok (.ifCond .eq 12, 3) := by decide +kernel
theorem dX11_outputByte_19 : decode cX11_outputByte 19 = .ok (.aload_n 0, 1) := by decide +kernel
theorem dX11_outputByte_20 : decode cX11_outputByte 20 = .ok (.getfield 48, 3) := by decide +kernel
theorem dX11_outputByte_23 : decode cX11_outputByte 23 = .ok (.iload_n 1, 1) := by decide +kernel
theorem dX11_outputByte_24 : decode cX11_outputByte 24 = .ok (.iaload, 1) := by decide +kernel
theorem dX11_outputByte_25 : decode cX11_outputByte 25 = .ok (.goto 4, 3) := by decide +kernel
theorem dX11_outputByte_28 : decode cX11_outputByte 28 = .ok (.iconst (-1), 1) := by decide +kernel
theorem dX11_outputByte_29 : decode cX11_outputByte 29 = .ok (.ireturn, 1) := by decide +kernel
theorem dX11_undoCount_0 : decode cX11_undoCount 0 = .ok (.aload_n 0, 1) := by decide +kernel
theorem dX11_undoCount_1 : decode cX11_undoCount 1 = .ok (.iconst 0, 1) := by decide +kernel
theorem dX11_undoCount_2 : decode cX11_undoCount 2 = .ok (.putfield 83, 3) := by decide +kernel
theorem dX11_undoCount_5 : decode cX11_undoCount 5 = .ok (.aload_n 0, 1) := by decide +kernel
theorem dX11_undoCount_6 : decode cX11_undoCount 6 = .ok (.getfield 237, 3) := by decide +kernel
theorem dX11_undoCount_9 : decode cX11_undoCount 9 = .ok (.ireturn, 1) := by decide +kernel
theorem dX11_undo_0 : decode cX11_undo 0 = .ok (.aload_n 0, 1) := by decide +kernel
theorem dX11_undo_1 : decode cX11_undo 1 = .ok (.iconst 0, 1) := by decide +kernel
theorem dX11_undo_2 : decode cX11_undo 2 = .ok (.putfield 83, 3) := by decide +kernel
theorem dX11_undo_5 : decode cX11_undo 5 = .ok (.aload_n 0, 1) := by decide +kernel
theorem dX11_undo_6 : decode cX11_undo 6 = .ok (.aload_n 0, 1) := by decide +kernel
theorem dX11_undo_7 : decode cX11_undo 7 = .ok (.getfield 237, 3) := by decide +kernel
theorem dX11_undo_10 : decode cX11_undo 10 = .ok (.ifCond .le 7, 3) := by decide +kernel
theorem dX11_undo_13 : decode cX11_undo 13 = .ok (.iconst 1, 1) := by decide +kernel
theorem dX11_undo_14 : decode cX11_undo 14 = .ok (.goto 4, 3) := by decide +kernel
theorem dX11_undo_17 : decode cX11_undo 17 = .ok (.iconst 0, 1) := by decide +kernel
theorem dX11_undo_18 : decode cX11_undo 18 = .ok (.iconst 1, 1) := by decide +kernel
theorem dX11_undo_19 : decode cX11_undo 19 = .ok (.invokevirtual 167, 3) := by decide +kernel
theorem dX11_undo_22 : decode cX11_undo 22 = .ok (.ifCond .ne 5, 3) := by decide +kernel
theorem dX11_undo_25 : decode cX11_undo 25 = .ok (.iconst 0, 1) := by decide +kernel
theorem dX11_undo_26 : decode cX11_undo 26 = .ok (.ireturn, 1) := by decide +kernel
theorem dX11_undo_27 : decode cX11_undo 27 = .ok (.aload_n 0, 1) := by decide +kernel
theorem dX11_undo_28 : decode cX11_undo 28 = .ok (.dup, 1) := by decide +kernel
theorem dX11_undo_29 : decode cX11_undo 29 = .ok (.getfield 237, 3) := by decide +kernel
theorem dX11_undo_32 : decode cX11_undo 32 = .ok (.iconst 1, 1) := by decide +kernel
theorem dX11_undo_33 : decode cX11_undo 33 = .ok (.isub, 1) := by decide +kernel
theorem dX11_undo_34 : decode cX11_undo 34 = .ok (.putfield 237, 3) := by decide +kernel
theorem dX11_undo_37 : decode cX11_undo 37 = .ok (.iconst 0, 1) := by decide +kernel
theorem dX11_undo_38 : decode cX11_undo 38 = .ok (.istore_n 1, 1) := by decide +kernel
theorem dX11_undo_39 : decode cX11_undo 39 = .ok (.iload_n 1, 1) := by decide +kernel
theorem dX11_undo_40 : decode cX11_undo 40 = .ok (.sipush 418, 3) := by decide +kernel
theorem dX11_undo_43 : decode cX11_undo 43 = .ok (.if_icmp .ge 30, 3) := by decide +kernel
theorem dX11_undo_46 : decode cX11_undo 46 = .ok (.aload_n 0, 1) := by decide +kernel
theorem dX11_undo_47 : decode cX11_undo 47 = .ok (.getfield 7, 3) := by decide +kernel
theorem dX11_undo_50 : decode cX11_undo 50 = .ok (.iload_n 1, 1) := by decide +kernel
theorem dX11_undo_51 : decode cX11_undo 51 = .ok (.aload_n 0, 1) := by decide +kernel
theorem dX11_undo_52 : decode cX11_undo 52 = .ok (.getfield 19, 3) := by decide +kernel
theorem dX11_undo_55 : decode cX11_undo 55 = .ok (.sipush 418, 3) := by decide +kernel
theorem dX11_undo_58 : decode cX11_undo 58 = .ok (.aload_n 0, 1) := by decide +kernel
theorem dX11_undo_59 : decode cX11_undo 59 = .ok (.getfield 237, 3) := by decide +kernel
theorem dX11_undo_62 : decode cX11_undo 62 = .ok (.imul, 1) := by decide +kernel
theorem dX11_undo_63 : decode cX11_undo 63 = .ok (.iload_n 1, 1) := by decide +kernel
theorem dX11_undo_64 : decode cX11_undo 64 = .ok (.iadd, 1) := by decide +kernel
theorem dX11_undo_65 : decode cX11_undo 65 = .ok (.iaload, 1) := by decide +kernel
theorem dX11_undo_66 : decode cX11_undo 66 = .ok (.iastore, 1) := by decide +kernel
theorem dX11_undo_67 : decode cX11_undo 67 = .ok (.iinc 1 1, 3) := by decide +kernel
theorem dX11_undo_70 : decode cX11_undo 70 = .ok (.goto (-31), 3) := by decide +kernel
theorem dX11_undo_73 : decode cX11_undo 73 = .ok (.aload_n 0, 1) := by decide +kernel
theorem dX11_undo_74 : decode cX11_undo 74 = .ok (.getfield 237, 3) := by decide +kernel
theorem dX11_undo_77 : decode cX11_undo 77 = .ok (.ireturn, 1) := by decide +kernel
theorem dX11_save_0 : decode cX11_save 0 = .ok (.aload_n 0, 1) := by decide +kernel
theorem dX11_save_1 : decode cX11_save 1 = .ok (.iconst 0, 1) := by decide +kernel
theorem dX11_save_2 : decode cX11_save 2 = .ok (.putfield 83, 3) := by decide +kernel
theorem dX11_save_5 : decode cX11_save 5 = .ok (.aload_n 0, 1) := by decide +kernel
theorem dX11_save_6 : decode cX11_save 6 = .ok (.iload_n 1, 1) := by decide +kernel
theorem dX11_save_7 : decode cX11_save 7 = .ok (.iconst 0, 1) := by decide +kernel
theorem dX11_save_8 : decode cX11_save 8 = .ok (.iconst 1, 1) := by decide +kernel
theorem dX11_save_9 : decode cX11_save 9 = .ok (.invokestatic 86, 3) := by decide +kernel
theorem dX11_save_12 : decode cX11_save 12 = .ok (.iconst 1, 1) := by decide +kernel
theorem dX11_save_13 : decode cX11_save 13 = .ok (.invokevirtual 167, 3) := by decide +kernel
theorem dX11_save_16 : decode cX11_save 16 = .ok (.ifCond .ne 5, 3) := by decide +kernel
theorem dX11_save_19 : decode cX11_save 19 = .ok (.iconst 0, 1) := by decide +kernel
theorem dX11_save_20 : decode cX11_save 20 = .ok (.ireturn, 1) := by decide +kernel
theorem dX11_save_21 : decode cX11_save 21 = .ok (.iconst 0, 1) := by decide +kernel
theorem dX11_save_22 : decode cX11_save 22 = .ok (.istore_n 2, 1) := by decide +kernel
theorem dX11_save_23 : decode cX11_save 23 = .ok (.iload_n 2, 1) := by decide +kernel
theorem dX11_save_24 : decode cX11_save 24 = .ok (.sipush 418, 3) := by decide +kernel
theorem dX11_save_27 : decode cX11_save 27 = .ok (.if_icmp .ge 27, 3) := by decide +kernel
theorem dX11_save_30 : decode cX11_save 30 = .ok (.aload_n 0, 1) := by decide +kernel
theorem dX11_save_31 : decode cX11_save 31 = .ok (.getfield 22, 3) := by decide +kernel
theorem dX11_save_34 : decode cX11_save 34 = .ok (.sipush 418, 3) := by decide +kernel
theorem dX11_save_37 : decode cX11_save 37 = .ok (.iload_n 1, 1) := by decide +kernel
theorem dX11_save_38 : decode cX11_save 38 = .ok (.imul, 1) := by decide +kernel
theorem dX11_save_39 : decode cX11_save 39 = .ok (.iload_n 2, 1) := by decide +kernel
theorem dX11_save_40 : decode cX11_save 40 = .ok (.iadd, 1) := by decide +kernel
theorem dX11_save_41 : decode cX11_save 41 = .ok (.aload_n 0, 1) := by decide +kernel
theorem dX11_save_42 : decode cX11_save 42 = .ok (.getfield 7, 3) := by decide +kernel
theorem dX11_save_45 : decode cX11_save 45 = .ok (.iload_n 2, 1) := by decide +kernel
theorem dX11_save_46 : decode cX11_save 46 = .ok (.iaload, 1) := by decide +kernel
theorem dX11_save_47 : decode cX11_save 47 = .ok (.iastore, 1) := by decide +kernel
theorem dX11_save_48 : decode cX11_save 48 = .ok (.iinc 2 1, 3) := by decide +kernel
theorem dX11_save_51 : decode cX11_save 51 = .ok (.goto (-28), 3) := by decide +kernel
theorem dX11_save_54 : decode cX11_save 54 = .ok (.aload_n 0, 1) := by decide +kernel
theorem dX11_save_55 : decode cX11_save 55 = .ok (.getfield 25, 3) := by decide +kernel
theorem dX11_save_58 : decode cX11_save 58 = .ok (.iload_n 1, 1) := by decide +kernel
theorem dX11_save_59 : decode cX11_save 59 = .ok (.iconst 1, 1) := by decide +kernel
theorem dX11_save_60 : decode cX11_save 60 = .ok (.bastore, 1) := by decide +kernel
theorem dX11_save_61 : decode cX11_save 61 = .ok (.aload_n 0, 1) := by decide +kernel
theorem dX11_save_62 : decode cX11_save 62 = .ok (.getfield 7, 3) := by decide +kernel
theorem dX11_save_65 : decode cX11_save 65 = .ok (.bipush 7, 2) := by decide +kernel
theorem dX11_save_67 : decode cX11_save 67 = .ok (.iaload, 1) := by decide +kernel
theorem dX11_save_68 : decode cX11_save 68 = .ok (.ireturn, 1) := by decide +kernel
theorem dX11_restore_0 : decode cX11_restore 0 = .ok (.aload_n 0, 1) := by decide +kernel
theorem dX11_restore_1 : decode cX11_restore 1 = .ok (.iconst 0, 1) := by decide +kernel
theorem dX11_restore_2 : decode cX11_restore 2 = .ok (.putfield 83, 3) := by decide +kernel
theorem dX11_restore_5 : decode cX11_restore 5 = .ok (.aload_n 0, 1) := by decide +kernel
theorem dX11_restore_6 : decode cX11_restore 6 = .ok (.iload_n 1, 1) := by decide +kernel
theorem dX11_restore_7 : decode cX11_restore 7 = .ok (.iconst 0, 1) := by decide +kernel
theorem dX11_restore_8 : decode cX11_restore 8 = .ok (.iconst 1, 1) := by decide +kernel
theorem dX11_restore_9 : decode cX11_restore 9 = .ok (.invokestatic 86, 3) := by decide +kernel
theorem dX11_restore_12 : decode cX11_restore 12 = .ok (.iconst 1, 1) := by decide +kernel
theorem dX11_restore_13 : decode cX11_restore 13 = .ok (.invokevirtual 167, 3) := by decide +kernel
theorem dX11_restore_16 : decode cX11_restore 16 = .ok (.ifCond .eq 17, 3) := by decide +kernel
theorem dX11_restore_19 : decode cX11_restore 19 = .ok (.aload_n 0, 1) := by decide +kernel
theorem dX11_restore_20 : decode cX11_restore 20 = .ok (.aload_n 0, 1) := by decide +kernel
theorem dX11_restore_21 : decode cX11_restore 21 = .ok (.getfield 25, 3) := by decide +kernel
theorem dX11_restore_24 : decode cX11_restore 24 = .ok (.iload_n 1, 1) := by decide +kernel
theorem dX11_restore_25 : decode cX11_restore 25 = .ok (.baload, 1) := by decide +kernel
theorem dX11_restore_26 : decode cX11_restore 26 = .ok (.iconst 2, 1) := by decide +kernel
theorem dX11_restore_27 : decode cX11_restore 27 = .ok (.invokevirtual 167, 3) := by decide +kernel
theorem dX11_restore_30 : decode cX11_restore 30 = .ok (.ifCond .ne 5, 3) := by decide +kernel
theorem dX11_restore_33 : decode cX11_restore 33 = .ok (.iconst 0, 1) := by decide +kernel
theorem dX11_restore_34 : decode cX11_restore 34 = .ok (.ireturn, 1) := by decide +kernel
theorem dX11_restore_35 : decode cX11_restore 35 = .ok (.iconst 0, 1) := by decide +kernel
theorem dX11_restore_36 : decode cX11_restore 36 = .ok (.istore_n 2, 1) := by decide +kernel
theorem dX11_restore_37 : decode cX11_restore 37 = .ok (.iload_n 2, 1) := by decide +kernel
theorem dX11_restore_38 : decode cX11_restore 38 = .ok (.sipush 418, 3) := by decide +kernel
theorem dX11_restore_41 : decode cX11_restore 41 = .ok (.if_icmp .ge 27, 3) := by decide +kernel
theorem dX11_restore_44 : decode cX11_restore 44 = .ok (.aload_n 0, 1) := by decide +kernel
theorem dX11_restore_45 : decode cX11_restore 45 = .ok (.getfield 7, 3) := by decide +kernel
theorem dX11_restore_48 : decode cX11_restore 48 = .ok (.iload_n 2, 1) := by decide +kernel
theorem dX11_restore_49 : decode cX11_restore 49 = .ok (.aload_n 0, 1) := by decide +kernel
theorem dX11_restore_50 : decode cX11_restore 50 = .ok (.getfield 22, 3) := by decide +kernel
theorem dX11_restore_53 : decode cX11_restore 53 = .ok (.sipush 418, 3) := by decide +kernel
theorem dX11_restore_56 : decode cX11_restore 56 = .ok (.iload_n 1, 1) := by decide +kernel
theorem dX11_restore_57 : decode cX11_restore 57 = .ok (.imul, 1) := by decide +kernel
theorem dX11_restore_58 : decode cX11_restore 58 = .ok (.iload_n 2, 1) := by decide +kernel
theorem dX11_restore_59 : decode cX11_restore 59 = .ok (.iadd, 1) := by decide +kernel
theorem dX11_restore_60 : decode cX11_restore 60 = .ok (.iaload, 1) := by decide +kernel
theorem dX11_restore_61 : decode cX11_restore 61 = .ok (.iastore, 1) := by decide +kernel
theorem dX11_restore_62 : decode cX11_restore 62 = .ok (.iinc 2 1, 3) := by decide +kernel
theorem dX11_restore_65 : decode cX11_restore 65 = .ok (.goto (-28), 3) := by decide +kernel
theorem dX11_restore_68 : decode cX11_restore 68 = .ok (.aload_n 0, 1) := by decide +kernel
theorem dX11_restore_69 : decode cX11_restore 69 = .ok (.iconst 0, 1) := by decide +kernel
theorem dX11_restore_70 : decode cX11_restore 70 = .ok (.putfield 237, 3) := by decide +kernel
theorem dX11_restore_73 : decode cX11_restore 73 = .ok (.aload_n 0, 1) := by decide +kernel
theorem dX11_restore_74 : decode cX11_restore 74 = .ok (.getfield 7, 3) := by decide +kernel
theorem dX11_restore_77 : decode cX11_restore 77 = .ok (.bipush 7, 2) := by decide +kernel
theorem dX11_restore_79 : decode cX11_restore 79 = .ok (.iaload, 1) := by decide +kernel
theorem dX11_restore_80 : decode cX11_restore 80 = .ok (.ireturn, 1) := by decide +kernel
