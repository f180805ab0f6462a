/-! decode rows of the class, as the program printed them -/
theorem dX0_init_0 : decode cX0_init 0 = .ok (.aload_n 0, 1) := by decide +kernel
theorem dX0_init_1 : decode cX0_init 1 = .ok (.invokespecial 3, 3) := by decide +kernel
theorem dX0_init_4 : decode cX0_init 4 = .ok (.aload_n 0, 1) := by decide +kernel
theorem dX0_init_5 : decode cX0_init 5 = .ok (.bipush 8, 2) := by decide +kernel
theorem dX0_init_7 : decode cX0_init 7 = .ok (.newarray .int, 2) := by decide +kernel
theorem dX0_init_9 : decode cX0_init 9 = .ok (.putfield 9, 3) := by decide +kernel
theorem dX0_init_12 : decode cX0_init 12 = .ok (.aload_n 0, 1) := by decide +kernel
theorem dX0_init_13 : decode cX0_init 13 = .ok (.bipush 8, 2) := by decide +kernel
theorem dX0_init_15 : decode cX0_init 15 = .ok (.newarray .int, 2) := by decide +kernel
theorem dX0_init_17 : decode cX0_init 17 = .ok (.putfield 15, 3) := by decide +kernel
theorem dX0_init_20 : decode cX0_init 20 = .ok (.aload_n 0, 1) := by decide +kernel
theorem dX0_init_21 : decode cX0_init 21 = .ok (.getfield 9, 3) := by decide +kernel
theorem dX0_init_24 : decode cX0_init 24 = .ok (.iconst 1, 1) := by decide +kernel
theorem dX0_init_25 : decode cX0_init 25 = .ok (.invokestatic 18, 3) := by decide +kernel
theorem dX0_init_28 : decode cX0_init 28 = .ok (.return_, 1) := by decide +kernel
theorem dX0_copy_0 : decode cX0_copy 0 = .ok (.aload_n 0, 1) := by decide +kernel
theorem dX0_copy_1 : decode cX0_copy 1 = .ok (.aload_n 1, 1) := by decide +kernel
theorem dX0_copy_2 : decode cX0_copy 2 = .ok (.getfield 24, 3) := by decide +kernel
theorem dX0_copy_5 : decode cX0_copy 5 = .ok (.putfield 24, 3) := by decide +kernel
theorem dX0_copy_8 : decode cX0_copy 8 = .ok (.aload_n 1, 1) := by decide +kernel
theorem dX0_copy_9 : decode cX0_copy 9 = .ok (.getfield 9, 3) := by decide +kernel
theorem dX0_copy_12 : decode cX0_copy 12 = .ok (.aload_n 0, 1) := by decide +kernel
theorem dX0_copy_13 : decode cX0_copy 13 = .ok (.getfield 9, 3) := by decide +kernel
theorem dX0_copy_16 : decode cX0_copy 16 = .ok (.invokestatic 28, 3) := by decide +kernel
theorem dX0_copy_19 : decode cX0_copy 19 = .ok (.aload_n 1, 1) := by decide +kernel
theorem dX0_copy_20 : decode cX0_copy 20 = .ok (.getfield 15, 3) := by decide +kernel
theorem dX0_copy_23 : decode cX0_copy 23 = .ok (.aload_n 0, 1) := by decide +kernel
theorem dX0_copy_24 : decode cX0_copy 24 = .ok (.getfield 15, 3) := by decide +kernel
theorem dX0_copy_27 : decode cX0_copy 27 = .ok (.invokestatic 28, 3) := by decide +kernel
theorem dX0_copy_30 : decode cX0_copy 30 = .ok (.return_, 1) := by decide +kernel
theorem dX0_endOfAttempt_0 : decode cX0_endOfAttempt 0 = .ok (.iload_n 1, 1) := by decide +kernel
theorem dX0_endOfAttempt_1 : decode cX0_endOfAttempt 1 = .ok (.ifCond .lt 23, 3) := by decide +kernel
theorem dX0_endOfAttempt_4 : decode cX0_endOfAttempt 4 = .ok (.iload_n 1, 1) := by decide +kernel
theorem dX0_endOfAttempt_5 : decode cX0_endOfAttempt 5 = .ok (.bipush 8, 2) := by decide +kernel
theorem dX0_endOfAttempt_7 : decode cX0_endOfAttempt 7 = .ok (.if_icmp .ge 17, 3) := by decide +kernel
theorem dX0_endOfAttempt_10 : decode cX0_endOfAttempt 10 = .ok (.aload_n 0, 1) := by decide +kernel
theorem dX0_endOfAttempt_11 : decode cX0_endOfAttempt 11 = .ok (.getfield 24, 3) := by decide +kernel
theorem dX0_endOfAttempt_14 : decode cX0_endOfAttempt 14 = .ok (.aload_n 0, 1) := by decide +kernel
theorem dX0_endOfAttempt_15 : decode cX0_endOfAttempt 15 = .ok (.getfield 9, 3) := by decide +kernel
theorem dX0_endOfAttempt_18 : decode cX0_endOfAttempt 18 = .ok (.iload_n 1, 1) := by decide +kernel
theorem dX0_endOfAttempt_19 : decode cX0_endOfAttempt 19 = .ok (.iaload, 1) := by decide +kernel
theorem dX0_endOfAttempt_20 : decode cX0_endOfAttempt 20 = .ok (.iadd, 1) := by decide +kernel
theorem dX0_endOfAttempt_21 : decode cX0_endOfAttempt 21 = .ok (.goto 7, 3) := by decide +kernel
theorem dX0_endOfAttempt_24 : decode cX0_endOfAttempt 24 = .ok (.aload_n 0, 1) := by decide +kernel
theorem dX0_endOfAttempt_25 : decode cX0_endOfAttempt 25 = .ok (.getfield 24, 3) := by decide +kernel
theorem dX0_endOfAttempt_28 : decode cX0_endOfAttempt 28 = .ok (.ireturn, 1) := by decide +kernel
theorem dX0_succeeds_0 : decode cX0_succeeds 0 = .ok (.iload_n 1, 1) := by decide +kernel
theorem dX0_succeeds_1 : decode cX0_succeeds 1 = .ok (.ifCond .lt 18, 3) := by decide +kernel
theorem dX0_succeeds_4 : decode cX0_succeeds 4 = .ok (.iload_n 1, 1) := by decide +kernel
theorem dX0_succeeds_5 : decode cX0_succeeds 5 = .ok (.bipush 8, 2) := by decide +kernel
theorem dX0_succeeds_7 : decode cX0_succeeds 7 = .ok (.if_icmp .ge 12, 3) := by decide +kernel
theorem dX0_succeeds_10 : decode cX0_succeeds 10 = .ok (.aload_n 0, 1) := by decide +kernel
theorem dX0_succeeds_11 : decode cX0_succeeds 11 = .ok (.getfield 15, 3) := by decide +kernel
theorem dX0_succeeds_14 : decode cX0_succeeds 14 = .ok (.iload_n 1, 1) := by decide +kernel
theorem dX0_succeeds_15 : decode cX0_succeeds 15 = .ok (.iaload, 1) := by decide +kernel
theorem dX0_succeeds_16 : decode cX0_succeeds 16 = .ok (.ifCond .gt 5, 3) := by decide +kernel
theorem dX0_succeeds_19 : decode cX0_succeeds 19 = .ok (.iconst 1, 1) := by decide +kernel
theorem dX0_succeeds_20 : decode cX0_succeeds 20 = .ok (.ireturn, 1) := by decide +kernel
theorem dX0_succeeds_21 : decode cX0_succeeds 21 = .ok (.aload_n 0, 1) := by decide +kernel
theorem dX0_succeeds_22 : decode cX0_succeeds 22 = .ok (.getfield 15, 3) := by decide +kernel
theorem dX0_succeeds_25 : decode cX0_succeeds 25 = .ok (.iload_n 1, 1) := by decide +kernel
theorem dX0_succeeds_26 : decode cX0_succeeds 26 = .ok (.dup2, 1) := by decide +kernel
theorem dX0_succeeds_27 : decode cX0_succeeds 27 = .ok (.iaload, 1) := by decide +kernel
theorem dX0_succeeds_28 : decode cX0_succeeds 28 = .ok (.iconst 1, 1) := by decide +kernel
theorem dX0_succeeds_29 : decode cX0_succeeds 29 = .ok (.isub, 1) := by decide +kernel
theorem dX0_succeeds_30 : decode cX0_succeeds 30 = .ok (.iastore, 1) := by decide +kernel
theorem dX0_succeeds_31 : decode cX0_succeeds 31 = .ok (.iconst 0, 1) := by decide +kernel
theorem dX0_succeeds_32 : decode cX0_succeeds 32 = .ok (.ireturn, 1) := by decide +kernel
theorem dX1_init_0 : decode cX1_init 0 = .ok (.aload_n 0, 1) := by decide +kernel
theorem dX1_init_1 : decode cX1_init 1 = .ok (.invokespecial 3, 3) := by decide +kernel
theorem dX1_init_4 : decode cX1_init 4 = .ok (.aload_n 0, 1) := by decide +kernel
theorem dX1_init_5 : decode cX1_init 5 = .ok (.aload_n 1, 1) := by decide +kernel
theorem dX1_init_6 : decode cX1_init 6 = .ok (.putfield 9, 3) := by decide +kernel
theorem dX1_init_9 : decode cX1_init 9 = .ok (.aload_n 0, 1) := by decide +kernel
theorem dX1_init_10 : decode cX1_init 10 = .ok (.iload_n 2, 1) := by decide +kernel
theorem dX1_init_11 : decode cX1_init 11 = .ok (.iconst 0, 1) := by decide +kernel
theorem dX1_init_12 : decode cX1_init 12 = .ok (.invokestatic 15, 3) := by decide +kernel
theorem dX1_init_15 : decode cX1_init 15 = .ok (.newarray .int, 2) := by decide +kernel
theorem dX1_init_17 : decode cX1_init 17 = .ok (.putfield 21, 3) := by decide +kernel
theorem dX1_init_20 : decode cX1_init 20 = .ok (.return_, 1) := by decide +kernel
theorem dX1_copy_0 : decode cX1_copy 0 = .ok (.aload_n 0, 1) := by decide +kernel
theorem dX1_copy_1 : decode cX1_copy 1 = .ok (.aload_n 1, 1) := by decide +kernel
theorem dX1_copy_2 : decode cX1_copy 2 = .ok (.getfield 25, 3) := by decide +kernel
theorem dX1_copy_5 : decode cX1_copy 5 = .ok (.putfield 25, 3) := by decide +kernel
theorem dX1_copy_8 : decode cX1_copy 8 = .ok (.aload_n 1, 1) := by decide +kernel
theorem dX1_copy_9 : decode cX1_copy 9 = .ok (.getfield 21, 3) := by decide +kernel
theorem dX1_copy_12 : decode cX1_copy 12 = .ok (.iconst 0, 1) := by decide +kernel
theorem dX1_copy_13 : decode cX1_copy 13 = .ok (.aload_n 0, 1) := by decide +kernel
theorem dX1_copy_14 : decode cX1_copy 14 = .ok (.getfield 21, 3) := by decide +kernel
theorem dX1_copy_17 : decode cX1_copy 17 = .ok (.iconst 0, 1) := by decide +kernel
theorem dX1_copy_18 : decode cX1_copy 18 = .ok (.aload_n 1, 1) := by decide +kernel
theorem dX1_copy_19 : decode cX1_copy 19 = .ok (.invokevirtual 29, 3) := by decide +kernel
theorem dX1_copy_22 : decode cX1_copy 22 = .ok (.aload_n 0, 1) := by decide +kernel
theorem dX1_copy_23 : decode cX1_copy 23 = .ok (.getfield 21, 3) := by decide +kernel
theorem dX1_copy_26 : decode cX1_copy 26 = .ok (.arraylength, 1) := by decide +kernel
theorem dX1_copy_27 : decode cX1_copy 27 = .ok (.invokestatic 33, 3) := by decide +kernel
theorem dX1_copy_30 : decode cX1_copy 30 = .ok (.invokestatic 36, 3) := by decide +kernel
theorem dX1_copy_33 : decode cX1_copy 33 = .ok (.return_, 1) := by decide +kernel
theorem dX1_add_0 : decode cX1_add 0 = .ok (.aload_n 0, 1) := by decide +kernel
theorem dX1_add_1 : decode cX1_add 1 = .ok (.getfield 25, 3) := by decide +kernel
theorem dX1_add_4 : decode cX1_add 4 = .ok (.ifCond .lt 39, 3) := by decide +kernel
theorem dX1_add_7 : decode cX1_add 7 = .ok (.aload_n 0, 1) := by decide +kernel
theorem dX1_add_8 : decode cX1_add 8 = .ok (.getfield 25, 3) := by decide +kernel
theorem dX1_add_11 : decode cX1_add 11 = .ok (.aload_n 0, 1) := by decide +kernel
theorem dX1_add_12 : decode cX1_add 12 = .ok (.getfield 21, 3) := by decide +kernel
theorem dX1_add_15 : decode cX1_add 15 = .ok (.arraylength, 1) := by decide +kernel
theorem dX1_add_16 : decode cX1_add 16 = .ok (.if_icmp .ge 27, 3) := by decide +kernel
theorem dX1_add_19 : decode cX1_add 19 = .ok (.aload_n 0, 1) := by decide +kernel
theorem dX1_add_20 : decode cX1_add 20 = .ok (.getfield 21, 3) := by decide +kernel
theorem dX1_add_23 : decode cX1_add 23 = .ok (.aload_n 0, 1) := by decide +kernel
theorem dX1_add_24 : decode cX1_add 24 = .ok (.getfield 25, 3) := by decide +kernel
theorem dX1_add_27 : decode cX1_add 27 = .ok (.aload_n 0, 1) := by decide +kernel
theorem dX1_add_28 : decode cX1_add 28 = .ok (.getfield 9, 3) := by decide +kernel
theorem dX1_add_31 : decode cX1_add 31 = .ok (.getfield 42, 3) := by decide +kernel
theorem dX1_add_34 : decode cX1_add 34 = .ok (.iconst 4, 1) := by decide +kernel
theorem dX1_add_35 : decode cX1_add 35 = .ok (.ishl, 1) := by decide +kernel
theorem dX1_add_36 : decode cX1_add 36 = .ok (.iload_n 1, 1) := by decide +kernel
theorem dX1_add_37 : decode cX1_add 37 = .ok (.ior, 1) := by decide +kernel
theorem dX1_add_38 : decode cX1_add 38 = .ok (.iconst 3, 1) := by decide +kernel
theorem dX1_add_39 : decode cX1_add 39 = .ok (.ishl, 1) := by decide +kernel
theorem dX1_add_40 : decode cX1_add 40 = .ok (.iload_n 2, 1) := by decide +kernel
theorem dX1_add_41 : decode cX1_add 41 = .ok (.ior, 1) := by decide +kernel
theorem dX1_add_42 : decode cX1_add 42 = .ok (.iastore, 1) := by decide +kernel
theorem dX1_add_43 : decode cX1_add 43 = .ok (.aload_n 0, 1) := by decide +kernel
theorem dX1_add_44 : decode cX1_add 44 = .ok (.dup, 1) := by decide +kernel
theorem dX1_add_45 : decode cX1_add 45 = .ok (.getfield 25, 3) := by decide +kernel
theorem dX1_add_48 : decode cX1_add 48 = .ok (.iconst 1, 1) := by decide +kernel
theorem dX1_add_49 : decode cX1_add 49 = .ok (.iadd, 1) := by decide +kernel
theorem dX1_add_50 : decode cX1_add 50 = .ok (.putfield 25, 3) := by decide +kernel
theorem dX1_add_53 : decode cX1_add 53 = .ok (.return_, 1) := by decide +kernel
theorem dX1_kept_0 : decode cX1_kept 0 = .ok (.aload_n 0, 1) := by decide +kernel
theorem dX1_kept_1 : decode cX1_kept 1 = .ok (.getfield 25, 3) := by decide +kernel
theorem dX1_kept_4 : decode cX1_kept 4 = .ok (.aload_n 0, 1) := by decide +kernel
theorem dX1_kept_5 : decode cX1_kept 5 = .ok (.getfield 21, 3) := by decide +kernel
theorem dX1_kept_8 : decode cX1_kept 8 = .ok (.arraylength, 1) := by decide +kernel
theorem dX1_kept_9 : decode cX1_kept 9 = .ok (.invokestatic 33, 3) := by decide +kernel
theorem dX1_kept_12 : decode cX1_kept 12 = .ok (.ireturn, 1) := by decide +kernel
theorem dX1_minuteOf_0 : decode cX1_minuteOf 0 = .ok (.iload_n 1, 1) := by decide +kernel
theorem dX1_minuteOf_1 : decode cX1_minuteOf 1 = .ok (.aload_n 0, 1) := by decide +kernel
theorem dX1_minuteOf_2 : decode cX1_minuteOf 2 = .ok (.getfield 21, 3) := by decide +kernel
theorem dX1_minuteOf_5 : decode cX1_minuteOf 5 = .ok (.arraylength, 1) := by decide +kernel
theorem dX1_minuteOf_6 : decode cX1_minuteOf 6 = .ok (.invokestatic 47, 3) := by decide +kernel
theorem dX1_minuteOf_9 : decode cX1_minuteOf 9 = .ok (.ifCond .eq 15, 3) := by decide +kernel
theorem dX1_minuteOf_12 : decode cX1_minuteOf 12 = .ok (.aload_n 0, 1) := by decide +kernel
theorem dX1_minuteOf_13 : decode cX1_minuteOf 13 = .ok (.getfield 21, 3) := by decide +kernel
theorem dX1_minuteOf_16 : decode cX1_minuteOf 16 = .ok (.iload_n 1, 1) := by decide +kernel
theorem dX1_minuteOf_17 : decode cX1_minuteOf 17 = .ok (.iaload, 1) := by decide +kernel
theorem dX1_minuteOf_18 : decode cX1_minuteOf 18 = .ok (.bipush 7, 2) := by decide +kernel
theorem dX1_minuteOf_20 : decode cX1_minuteOf 20 = .ok (.ishr, 1) := by decide +kernel
theorem dX1_minuteOf_21 : decode cX1_minuteOf 21 = .ok (.goto 4, 3) := by decide +kernel
theorem dX1_minuteOf_24 : decode cX1_minuteOf 24 = .ok (.iconst 0, 1) := by decide +kernel
theorem dX1_minuteOf_25 : decode cX1_minuteOf 25 = .ok (.ireturn, 1) := by decide +kernel
theorem dX1_kindOf_0 : decode cX1_kindOf 0 = .ok (.iload_n 1, 1) := by decide +kernel
theorem dX1_kindOf_1 : decode cX1_kindOf 1 = .ok (.aload_n 0, 1) := by decide +kernel
theorem dX1_kindOf_2 : decode cX1_kindOf 2 = .ok (.getfield 21, 3) := by decide +kernel
theorem dX1_kindOf_5 : decode cX1_kindOf 5 = .ok (.arraylength, 1) := by decide +kernel
theorem dX1_kindOf_6 : decode cX1_kindOf 6 = .ok (.invokestatic 47, 3) := by decide +kernel
theorem dX1_kindOf_9 : decode cX1_kindOf 9 = .ok (.ifCond .eq 17, 3) := by decide +kernel
theorem dX1_kindOf_12 : decode cX1_kindOf 12 = .ok (.aload_n 0, 1) := by decide +kernel
theorem dX1_kindOf_13 : decode cX1_kindOf 13 = .ok (.getfield 21, 3) := by decide +kernel
theorem dX1_kindOf_16 : decode cX1_kindOf 16 = .ok (.iload_n 1, 1) := by decide +kernel
theorem dX1_kindOf_17 : decode cX1_kindOf 17 = .ok (.iaload, 1) := by decide +kernel
theorem dX1_kindOf_18 : decode cX1_kindOf 18 = .ok (.iconst 3, 1) := by decide +kernel
theorem dX1_kindOf_19 : decode cX1_kindOf 19 = .ok (.ishr, 1) := by decide +kernel
theorem dX1_kindOf_20 : decode cX1_kindOf 20 = .ok (.bipush 15, 2) := by decide +kernel
theorem dX1_kindOf_22 : decode cX1_kindOf 22 = .ok (.iand, 1) := by decide +kernel
theorem dX1_kindOf_23 : decode cX1_kindOf 23 = .ok (.goto 4, 3) := by decide +kernel
theorem dX1_kindOf_26 : decode cX1_kindOf 26 = .ok (.iconst 0, 1) := by decide +kernel
theorem dX1_kindOf_27 : decode cX1_kindOf 27 = .ok (.ireturn, 1) := by decide +kernel
theorem dX1_valueOf_0 : decode cX1_valueOf 0 = .ok (.iload_n 1, 1) := by decide +kernel
theorem dX1_valueOf_1 : decode cX1_valueOf 1 = .ok (.aload_n 0, 1) := by decide +kernel
theorem dX1_valueOf_2 : decode cX1_valueOf 2 = .ok (.getfield 21, 3) := by decide +kernel
theorem dX1_valueOf_5 : decode cX1_valueOf 5 = .ok (.arraylength, 1) := by decide +kernel
theorem dX1_valueOf_6 : decode cX1_valueOf 6 = .ok (.invokestatic 47, 3) := by decide +kernel
theorem dX1_valueOf_9 : decode cX1_valueOf 9 = .ok (.ifCond .eq 15, 3) := by decide +kernel
theorem dX1_valueOf_12 : decode cX1_valueOf 12 = .ok (.aload_n 0, 1) := by decide +kernel
theorem dX1_valueOf_13 : decode cX1_valueOf 13 = .ok (.getfield 21, 3) := by decide +kernel
theorem dX1_valueOf_16 : decode cX1_valueOf 16 = .ok (.iload_n 1, 1) := by decide +kernel
theorem dX1_valueOf_17 : decode cX1_valueOf 17 = .ok (.iaload, 1) := by decide +kernel
theorem dX1_valueOf_18 : decode cX1_valueOf 18 = .ok (.bipush 7, 2) := by decide +kernel
theorem dX1_valueOf_20 : decode cX1_valueOf 20 = .ok (.iand, 1) := by decide +kernel
theorem dX1_valueOf_21 : decode cX1_valueOf 21 = .ok (.goto 4, 3) := by decide +kernel
theorem dX1_valueOf_24 : decode cX1_valueOf 24 = .ok (.iconst 0, 1) := by decide +kernel
theorem dX1_valueOf_25 : decode cX1_valueOf 25 = .ok (.ireturn, 1) := by decide +kernel
theorem dX1_entriesOf_0 : decode cX1_entriesOf 0 = .ok (.iconst 0, 1) := by decide +kernel
theorem dX1_entriesOf_1 : decode cX1_entriesOf 1 = .ok (.istore_n 2, 1) := by decide +kernel
theorem dX1_entriesOf_2 : decode cX1_entriesOf 2 = .ok (.iconst 0, 1) := by decide +kernel
theorem dX1_entriesOf_3 : decode cX1_entriesOf 3 = .ok (.istore_n 3, 1) := by decide +kernel
theorem dX1_entriesOf_4 : decode cX1_entriesOf 4 = .ok (.iload_n 3, 1) := by decide +kernel
theorem dX1_entriesOf_5 : decode cX1_entriesOf 5 = .ok (.aload_n 0, 1) := by decide +kernel
theorem dX1_entriesOf_6 : decode cX1_entriesOf 6 = .ok (.invokevirtual 29, 3) := by decide +kernel
theorem dX1_entriesOf_9 : decode cX1_entriesOf 9 = .ok (.if_icmp .ge 21, 3) := by decide +kernel
theorem dX1_entriesOf_12 : decode cX1_entriesOf 12 = .ok (.aload_n 0, 1) := by decide +kernel
theorem dX1_entriesOf_13 : decode cX1_entriesOf 13 = .ok (.iload_n 3, 1) := by decide +kernel
theorem dX1_entriesOf_14 : decode cX1_entriesOf 14 = .ok (.invokevirtual 51, 3) := by decide +kernel
theorem dX1_entriesOf_17 : decode cX1_entriesOf 17 = .ok (.iload_n 1, 1) := by decide +kernel
theorem dX1_entriesOf_18 : decode cX1_entriesOf 18 = .ok (.if_icmp .ne 6, 3) := by decide +kernel
theorem dX1_entriesOf_21 : decode cX1_entriesOf 21 = .ok (.iinc 2 1, 3) := by decide +kernel
theorem dX1_entriesOf_24 : decode cX1_entriesOf 24 = .ok (.iinc 3 1, 3) := by decide +kernel
theorem dX1_entriesOf_27 : decode cX1_entriesOf 27 = .ok (.goto (-23), 3) := by decide +kernel
theorem dX1_entriesOf_30 : decode cX1_entriesOf 30 = .ok (.iload_n 2, 1) := by decide +kernel
theorem dX1_entriesOf_31 : decode cX1_entriesOf 31 = .ok (.ireturn, 1) := by decide +kernel
theorem dX1_attempts_0 : decode cX1_attempts 0 = .ok (.aload_n 0, 1) := by decide +kernel
theorem dX1_attempts_1 : decode cX1_attempts 1 = .ok (.iconst 0, 1) := by decide +kernel
theorem dX1_attempts_2 : decode cX1_attempts 2 = .ok (.invokevirtual 55, 3) := by decide +kernel
theorem dX1_attempts_5 : decode cX1_attempts 5 = .ok (.aload_n 0, 1) := by decide +kernel
theorem dX1_attempts_6 : decode cX1_attempts 6 = .ok (.iconst 5, 1) := by decide +kernel
theorem dX1_attempts_7 : decode cX1_attempts 7 = .ok (.invokevirtual 55, 3) := by decide +kernel
theorem dX1_attempts_10 : decode cX1_attempts 10 = .ok (.iadd, 1) := by decide +kernel
theorem dX1_attempts_11 : decode cX1_attempts 11 = .ok (.ireturn, 1) := by decide +kernel
theorem dX1_lastStatus_0 : decode cX1_lastStatus 0 = .ok (.iconst 0, 1) := by decide +kernel
theorem dX1_lastStatus_1 : decode cX1_lastStatus 1 = .ok (.istore_n 1, 1) := by decide +kernel
theorem dX1_lastStatus_2 : decode cX1_lastStatus 2 = .ok (.iconst 0, 1) := by decide +kernel
theorem dX1_lastStatus_3 : decode cX1_lastStatus 3 = .ok (.istore_n 2, 1) := by decide +kernel
theorem dX1_lastStatus_4 : decode cX1_lastStatus 4 = .ok (.iload_n 2, 1) := by decide +kernel
theorem dX1_lastStatus_5 : decode cX1_lastStatus 5 = .ok (.aload_n 0, 1) := by decide +kernel
theorem dX1_lastStatus_6 : decode cX1_lastStatus 6 = .ok (.invokevirtual 29, 3) := by decide +kernel
theorem dX1_lastStatus_9 : decode cX1_lastStatus 9 = .ok (.if_icmp .ge 25, 3) := by decide +kernel
theorem dX1_lastStatus_12 : decode cX1_lastStatus 12 = .ok (.aload_n 0, 1) := by decide +kernel
theorem dX1_lastStatus_13 : decode cX1_lastStatus 13 = .ok (.iload_n 2, 1) := by decide +kernel
theorem dX1_lastStatus_14 : decode cX1_lastStatus 14 = .ok (.invokevirtual 51, 3) := by decide +kernel
theorem dX1_lastStatus_17 : decode cX1_lastStatus 17 = .ok (.bipush 11, 2) := by decide +kernel
theorem dX1_lastStatus_19 : decode cX1_lastStatus 19 = .ok (.if_icmp .ne 9, 3) := by decide +kernel
theorem dX1_lastStatus_22 : decode cX1_lastStatus 22 = .ok (.aload_n 0, 1) := by decide +kernel
theorem dX1_lastStatus_23 : decode cX1_lastStatus 23 = .ok (.iload_n 2, 1) := by decide +kernel
theorem dX1_lastStatus_24 : decode cX1_lastStatus 24 = .ok (.invokevirtual 58, 3) := by decide +kernel
theorem dX1_lastStatus_27 : decode cX1_lastStatus 27 = .ok (.istore_n 1, 1) := by decide +kernel
theorem dX1_lastStatus_28 : decode cX1_lastStatus 28 = .ok (.iinc 2 1, 3) := by decide +kernel
theorem dX1_lastStatus_31 : decode cX1_lastStatus 31 = .ok (.goto (-27), 3) := by decide +kernel
theorem dX1_lastStatus_34 : decode cX1_lastStatus 34 = .ok (.iload_n 1, 1) := by decide +kernel
theorem dX1_lastStatus_35 : decode cX1_lastStatus 35 = .ok (.ireturn, 1) := by decide +kernel
theorem dX2_init_0 : decode cX2_init 0 = .ok (.aload_n 0, 1) := by decide +kernel
theorem dX2_init_1 : decode cX2_init 1 = .ok (.invokespecial 3, 3) := by decide +kernel
theorem dX2_init_4 : decode cX2_init 4 = .ok (.aload_n 0, 1) := by decide +kernel
theorem dX2_init_5 : decode cX2_init 5 = .ok (.iconst (-1), 1) := by decide +kernel
theorem dX2_init_6 : decode cX2_init 6 = .ok (.putfield 9, 3) := by decide +kernel
theorem dX2_init_9 : decode cX2_init 9 = .ok (.aload_n 0, 1) := by decide +kernel
theorem dX2_init_10 : decode cX2_init 10 = .ok (.iconst 4, 1) := by decide +kernel
theorem dX2_init_11 : decode cX2_init 11 = .ok (.newarray .int, 2) := by decide +kernel
theorem dX2_init_13 : decode cX2_init 13 = .ok (.putfield 15, 3) := by decide +kernel
theorem dX2_init_16 : decode cX2_init 16 = .ok (.aload_n 0, 1) := by decide +kernel
theorem dX2_init_17 : decode cX2_init 17 = .ok (.bipush 8, 2) := by decide +kernel
theorem dX2_init_19 : decode cX2_init 19 = .ok (.newarray .int, 2) := by decide +kernel
theorem dX2_init_21 : decode cX2_init 21 = .ok (.putfield 19, 3) := by decide +kernel
theorem dX2_init_24 : decode cX2_init 24 = .ok (.aload_n 0, 1) := by decide +kernel
theorem dX2_init_25 : decode cX2_init 25 = .ok (.bipush 24, 2) := by decide +kernel
theorem dX2_init_27 : decode cX2_init 27 = .ok (.newarray .int, 2) := by decide +kernel
theorem dX2_init_29 : decode cX2_init 29 = .ok (.putfield 22, 3) := by decide +kernel
theorem dX2_init_32 : decode cX2_init 32 = .ok (.aload_n 0, 1) := by decide +kernel
theorem dX2_init_33 : decode cX2_init 33 = .ok (.bipush 24, 2) := by decide +kernel
theorem dX2_init_35 : decode cX2_init 35 = .ok (.newarray .int, 2) := by decide +kernel
theorem dX2_init_37 : decode cX2_init 37 = .ok (.putfield 25, 3) := by decide +kernel
theorem dX2_init_40 : decode cX2_init 40 = .ok (.aload_n 0, 1) := by decide +kernel
theorem dX2_init_41 : decode cX2_init 41 = .ok (.bipush 24, 2) := by decide +kernel
theorem dX2_init_43 : decode cX2_init 43 = .ok (.newarray .int, 2) := by decide +kernel
theorem dX2_init_45 : decode cX2_init 45 = .ok (.putfield 28, 3) := by decide +kernel
theorem dX2_init_48 : decode cX2_init 48 = .ok (.aload_n 0, 1) := by decide +kernel
theorem dX2_init_49 : decode cX2_init 49 = .ok (.bipush 24, 2) := by decide +kernel
theorem dX2_init_51 : decode cX2_init 51 = .ok (.newarray .int, 2) := by decide +kernel
theorem dX2_init_53 : decode cX2_init 53 = .ok (.putfield 31, 3) := by decide +kernel
theorem dX2_init_56 : decode cX2_init 56 = .ok (.aload_n 0, 1) := by decide +kernel
theorem dX2_init_57 : decode cX2_init 57 = .ok (.bipush 25, 2) := by decide +kernel
theorem dX2_init_59 : decode cX2_init 59 = .ok (.newarray .int, 2) := by decide +kernel
theorem dX2_init_61 : decode cX2_init 61 = .ok (.putfield 34, 3) := by decide +kernel
theorem dX2_init_64 : decode cX2_init 64 = .ok (.aload_n 0, 1) := by decide +kernel
theorem dX2_init_65 : decode cX2_init 65 = .ok (.bipush 25, 2) := by decide +kernel
theorem dX2_init_67 : decode cX2_init 67 = .ok (.newarray .int, 2) := by decide +kernel
theorem dX2_init_69 : decode cX2_init 69 = .ok (.putfield 37, 3) := by decide +kernel
theorem dX2_init_72 : decode cX2_init 72 = .ok (.aload_n 0, 1) := by decide +kernel
theorem dX2_init_73 : decode cX2_init 73 = .ok (.bipush 25, 2) := by decide +kernel
theorem dX2_init_75 : decode cX2_init 75 = .ok (.newarray .int, 2) := by decide +kernel
theorem dX2_init_77 : decode cX2_init 77 = .ok (.putfield 40, 3) := by decide +kernel
theorem dX2_init_80 : decode cX2_init 80 = .ok (.aload_n 0, 1) := by decide +kernel
theorem dX2_init_81 : decode cX2_init 81 = .ok (.aload_n 1, 1) := by decide +kernel
theorem dX2_init_82 : decode cX2_init 82 = .ok (.putfield 43, 3) := by decide +kernel
theorem dX2_init_85 : decode cX2_init 85 = .ok (.aload_n 0, 1) := by decide +kernel
theorem dX2_init_86 : decode cX2_init 86 = .ok (.aload_n 2, 1) := by decide +kernel
theorem dX2_init_87 : decode cX2_init 87 = .ok (.putfield 47, 3) := by decide +kernel
theorem dX2_init_90 : decode cX2_init 90 = .ok (.aload_n 0, 1) := by decide +kernel
theorem dX2_init_91 : decode cX2_init 91 = .ok (.new 51, 3) := by decide +kernel
theorem dX2_init_94 : decode cX2_init 94 = .ok (.dup, 1) := by decide +kernel
theorem dX2_init_95 : decode cX2_init 95 = .ok (.aload_n 1, 1) := by decide +kernel
theorem dX2_init_96 : decode cX2_init 96 = .ok (.iload_n 3, 1) := by decide +kernel
theorem dX2_init_97 : decode cX2_init 97 = .ok (.invokespecial 53, 3) := by decide +kernel
theorem dX2_init_100 : decode cX2_init 100 = .ok (.putfield 56, 3) := by decide +kernel
theorem dX2_init_103 : decode cX2_init 103 = .ok (.return_, 1) := by decide +kernel
theorem dX2_copy_0 : decode cX2_copy 0 = .ok (.aload_n 0, 1) := by decide +kernel
theorem dX2_copy_1 : decode cX2_copy 1 = .ok (.aload_n 1, 1) := by decide +kernel
theorem dX2_copy_2 : decode cX2_copy 2 = .ok (.getfield 9, 3) := by decide +kernel
theorem dX2_copy_5 : decode cX2_copy 5 = .ok (.putfield 9, 3) := by decide +kernel
theorem dX2_copy_8 : decode cX2_copy 8 = .ok (.aload_n 0, 1) := by decide +kernel
theorem dX2_copy_9 : decode cX2_copy 9 = .ok (.aload_n 1, 1) := by decide +kernel
theorem dX2_copy_10 : decode cX2_copy 10 = .ok (.getfield 47, 3) := by decide +kernel
theorem dX2_copy_13 : decode cX2_copy 13 = .ok (.putfield 47, 3) := by decide +kernel
theorem dX2_copy_16 : decode cX2_copy 16 = .ok (.aload_n 0, 1) := by decide +kernel
theorem dX2_copy_17 : decode cX2_copy 17 = .ok (.aload_n 1, 1) := by decide +kernel
theorem dX2_copy_18 : decode cX2_copy 18 = .ok (.getfield 60, 3) := by decide +kernel
theorem dX2_copy_21 : decode cX2_copy 21 = .ok (.putfield 60, 3) := by decide +kernel
theorem dX2_copy_24 : decode cX2_copy 24 = .ok (.aload_n 0, 1) := by decide +kernel
theorem dX2_copy_25 : decode cX2_copy 25 = .ok (.aload_n 1, 1) := by decide +kernel
theorem dX2_copy_26 : decode cX2_copy 26 = .ok (.getfield 63, 3) := by decide +kernel
theorem dX2_copy_29 : decode cX2_copy 29 = .ok (.putfield 63, 3) := by decide +kernel
theorem dX2_copy_32 : decode cX2_copy 32 = .ok (.aload_n 0, 1) := by decide +kernel
theorem dX2_copy_33 : decode cX2_copy 33 = .ok (.aload_n 1, 1) := by decide +kernel
theorem dX2_copy_34 : decode cX2_copy 34 = .ok (.getfield 66, 3) := by decide +kernel
theorem dX2_copy_37 : decode cX2_copy 37 = .ok (.putfield 66, 3) := by decide +kernel
theorem dX2_copy_40 : decode cX2_copy 40 = .ok (.aload_n 0, 1) := by decide +kernel
theorem dX2_copy_41 : decode cX2_copy 41 = .ok (.aload_n 1, 1) := by decide +kernel
theorem dX2_copy_42 : decode cX2_copy 42 = .ok (.getfield 69, 3) := by decide +kernel
theorem dX2_copy_45 : decode cX2_copy 45 = .ok (.putfield 69, 3) := by decide +kernel
theorem dX2_copy_48 : decode cX2_copy 48 = .ok (.aload_n 0, 1) := by decide +kernel
theorem dX2_copy_49 : decode cX2_copy 49 = .ok (.aload_n 1, 1) := by decide +kernel
theorem dX2_copy_50 : decode cX2_copy 50 = .ok (.getfield 72, 3) := by decide +kernel
theorem dX2_copy_53 : decode cX2_copy 53 = .ok (.putfield 72, 3) := by decide +kernel
theorem dX2_copy_56 : decode cX2_copy 56 = .ok (.aload_n 0, 1) := by decide +kernel
theorem dX2_copy_57 : decode cX2_copy 57 = .ok (.getfield 56, 3) := by decide +kernel
theorem dX2_copy_60 : decode cX2_copy 60 = .ok (.aload_n 1, 1) := by decide +kernel
theorem dX2_copy_61 : decode cX2_copy 61 = .ok (.getfield 56, 3) := by decide +kernel
theorem dX2_copy_64 : decode cX2_copy 64 = .ok (.invokevirtual 75, 3) := by decide +kernel
theorem dX2_copy_67 : decode cX2_copy 67 = .ok (.aload_n 1, 1) := by decide +kernel
theorem dX2_copy_68 : decode cX2_copy 68 = .ok (.getfield 15, 3) := by decide +kernel
theorem dX2_copy_71 : decode cX2_copy 71 = .ok (.aload_n 0, 1) := by decide +kernel
theorem dX2_copy_72 : decode cX2_copy 72 = .ok (.getfield 15, 3) := by decide +kernel
theorem dX2_copy_75 : decode cX2_copy 75 = .ok (.invokestatic 79, 3) := by decide +kernel
theorem dX2_copy_78 : decode cX2_copy 78 = .ok (.aload_n 1, 1) := by decide +kernel
theorem dX2_copy_79 : decode cX2_copy 79 = .ok (.getfield 19, 3) := by decide +kernel
theorem dX2_copy_82 : decode cX2_copy 82 = .ok (.aload_n 0, 1) := by decide +kernel
theorem dX2_copy_83 : decode cX2_copy 83 = .ok (.getfield 19, 3) := by decide +kernel
theorem dX2_copy_86 : decode cX2_copy 86 = .ok (.invokestatic 79, 3) := by decide +kernel
theorem dX2_copy_89 : decode cX2_copy 89 = .ok (.aload_n 1, 1) := by decide +kernel
theorem dX2_copy_90 : decode cX2_copy 90 = .ok (.getfield 22, 3) := by decide +kernel
theorem dX2_copy_93 : decode cX2_copy 93 = .ok (.aload_n 0, 1) := by decide +kernel
theorem dX2_copy_94 : decode cX2_copy 94 = .ok (.getfield 22, 3) := by decide +kernel
theorem dX2_copy_97 : decode cX2_copy 97 = .ok (.invokestatic 79, 3) := by decide +kernel
theorem dX2_copy_100 : decode cX2_copy 100 = .ok (.aload_n 1, 1) := by decide +kernel
theorem dX2_copy_101 : decode cX2_copy 101 = .ok (.getfield 25, 3) := by decide +kernel
theorem dX2_copy_104 : decode cX2_copy 104 = .ok (.aload_n 0, 1) := by decide +kernel
theorem dX2_copy_105 : decode cX2_copy 105 = .ok (.getfield 25, 3) := by decide +kernel
theorem dX2_copy_108 : decode cX2_copy 108 = .ok (.invokestatic 79, 3) := by decide +kernel
theorem dX2_copy_111 : decode cX2_copy 111 = .ok (.aload_n 1, 1) := by decide +kernel
theorem dX2_copy_112 : decode cX2_copy 112 = .ok (.getfield 28, 3) := by decide +kernel
theorem dX2_copy_115 : decode cX2_copy 115 = .ok (.aload_n 0, 1) := by decide +kernel
theorem dX2_copy_116 : decode cX2_copy 116 = .ok (.getfield 28, 3) := by decide +kernel
theorem dX2_copy_119 : decode cX2_copy 119 = .ok (.invokestatic 79, 3) := by decide +kernel
theorem dX2_copy_122 : decode cX2_copy 122 = .ok (.aload_n 1, 1) := by decide +kernel
theorem dX2_copy_123 : decode cX2_copy 123 = .ok (.getfield 31, 3) := by decide +kernel
theorem dX2_copy_126 : decode cX2_copy 126 = .ok (.aload_n 0, 1) := by decide +kernel
theorem dX2_copy_127 : decode cX2_copy 127 = .ok (.getfield 31, 3) := by decide +kernel
theorem dX2_copy_130 : decode cX2_copy 130 = .ok (.invokestatic 79, 3) := by decide +kernel
theorem dX2_copy_133 : decode cX2_copy 133 = .ok (.aload_n 1, 1) := by decide +kernel
theorem dX2_copy_134 : decode cX2_copy 134 = .ok (.getfield 34, 3) := by decide +kernel
theorem dX2_copy_137 : decode cX2_copy 137 = .ok (.aload_n 0, 1) := by decide +kernel
theorem dX2_copy_138 : decode cX2_copy 138 = .ok (.getfield 34, 3) := by decide +kernel
theorem dX2_copy_141 : decode cX2_copy 141 = .ok (.invokestatic 79, 3) := by decide +kernel
theorem dX2_copy_144 : decode cX2_copy 144 = .ok (.aload_n 1, 1) := by decide +kernel
theorem dX2_copy_145 : decode cX2_copy 145 = .ok (.getfield 37, 3) := by decide +kernel
theorem dX2_copy_148 : decode cX2_copy 148 = .ok (.aload_n 0, 1) := by decide +kernel
theorem dX2_copy_149 : decode cX2_copy 149 = .ok (.getfield 37, 3) := by decide +kernel
theorem dX2_copy_152 : decode cX2_copy 152 = .ok (.invokestatic 79, 3) := by decide +kernel
theorem dX2_copy_155 : decode cX2_copy 155 = .ok (.aload_n 1, 1) := by decide +kernel
theorem dX2_copy_156 : decode cX2_copy 156 = .ok (.getfield 40, 3) := by decide +kernel
theorem dX2_copy_159 : decode cX2_copy 159 = .ok (.aload_n 0, 1) := by decide +kernel
theorem dX2_copy_160 : decode cX2_copy 160 = .ok (.getfield 40, 3) := by decide +kernel
theorem dX2_copy_163 : decode cX2_copy 163 = .ok (.invokestatic 79, 3) := by decide +kernel
theorem dX2_copy_166 : decode cX2_copy 166 = .ok (.return_, 1) := by decide +kernel
theorem dX2_begin_0 : decode cX2_begin 0 = .ok (.aload_n 0, 1) := by decide +kernel
theorem dX2_begin_1 : decode cX2_begin 1 = .ok (.aload_n 1, 1) := by decide +kernel
theorem dX2_begin_2 : decode cX2_begin 2 = .ok (.putfield 47, 3) := by decide +kernel
theorem dX2_begin_5 : decode cX2_begin 5 = .ok (.aload_n 0, 1) := by decide +kernel
theorem dX2_begin_6 : decode cX2_begin 6 = .ok (.iconst 0, 1) := by decide +kernel
theorem dX2_begin_7 : decode cX2_begin 7 = .ok (.putfield 9, 3) := by decide +kernel
theorem dX2_begin_10 : decode cX2_begin 10 = .ok (.aload_n 0, 1) := by decide +kernel
theorem dX2_begin_11 : decode cX2_begin 11 = .ok (.aload_n 0, 1) := by decide +kernel
theorem dX2_begin_12 : decode cX2_begin 12 = .ok (.getfield 43, 3) := by decide +kernel
theorem dX2_begin_15 : decode cX2_begin 15 = .ok (.getfield 83, 3) := by decide +kernel
theorem dX2_begin_18 : decode cX2_begin 18 = .ok (.putfield 60, 3) := by decide +kernel
theorem dX2_begin_21 : decode cX2_begin 21 = .ok (.aload_n 0, 1) := by decide +kernel
theorem dX2_begin_22 : decode cX2_begin 22 = .ok (.bipush (-5), 2) := by decide +kernel
theorem dX2_begin_24 : decode cX2_begin 24 = .ok (.putfield 63, 3) := by decide +kernel
theorem dX2_begin_27 : decode cX2_begin 27 = .ok (.aload_n 0, 1) := by decide +kernel
theorem dX2_begin_28 : decode cX2_begin 28 = .ok (.iconst 0, 1) := by decide +kernel
theorem dX2_begin_29 : decode cX2_begin 29 = .ok (.putfield 66, 3) := by decide +kernel
theorem dX2_begin_32 : decode cX2_begin 32 = .ok (.aload_n 0, 1) := by decide +kernel
theorem dX2_begin_33 : decode cX2_begin 33 = .ok (.iconst 0, 1) := by decide +kernel
theorem dX2_begin_34 : decode cX2_begin 34 = .ok (.putfield 69, 3) := by decide +kernel
theorem dX2_begin_37 : decode cX2_begin 37 = .ok (.aload_n 0, 1) := by decide +kernel
theorem dX2_begin_38 : decode cX2_begin 38 = .ok (.iconst 0, 1) := by decide +kernel
theorem dX2_begin_39 : decode cX2_begin 39 = .ok (.putfield 72, 3) := by decide +kernel
theorem dX2_begin_42 : decode cX2_begin 42 = .ok (.aload_n 0, 1) := by decide +kernel
theorem dX2_begin_43 : decode cX2_begin 43 = .ok (.getfield 56, 3) := by decide +kernel
theorem dX2_begin_46 : decode cX2_begin 46 = .ok (.iconst 0, 1) := by decide +kernel
theorem dX2_begin_47 : decode cX2_begin 47 = .ok (.putfield 88, 3) := by decide +kernel
theorem dX2_begin_50 : decode cX2_begin 50 = .ok (.aload_n 0, 1) := by decide +kernel
theorem dX2_begin_51 : decode cX2_begin 51 = .ok (.getfield 15, 3) := by decide +kernel
theorem dX2_begin_54 : decode cX2_begin 54 = .ok (.iconst 0, 1) := by decide +kernel
theorem dX2_begin_55 : decode cX2_begin 55 = .ok (.invokestatic 91, 3) := by decide +kernel
theorem dX2_begin_58 : decode cX2_begin 58 = .ok (.aload_n 0, 1) := by decide +kernel
theorem dX2_begin_59 : decode cX2_begin 59 = .ok (.getfield 19, 3) := by decide +kernel
theorem dX2_begin_62 : decode cX2_begin 62 = .ok (.iconst 0, 1) := by decide +kernel
theorem dX2_begin_63 : decode cX2_begin 63 = .ok (.invokestatic 91, 3) := by decide +kernel
theorem dX2_begin_66 : decode cX2_begin 66 = .ok (.aload_n 0, 1) := by decide +kernel
theorem dX2_begin_67 : decode cX2_begin 67 = .ok (.getfield 22, 3) := by decide +kernel
theorem dX2_begin_70 : decode cX2_begin 70 = .ok (.iconst 0, 1) := by decide +kernel
theorem dX2_begin_71 : decode cX2_begin 71 = .ok (.invokestatic 91, 3) := by decide +kernel
theorem dX2_begin_74 : decode cX2_begin 74 = .ok (.aload_n 0, 1) := by decide +kernel
theorem dX2_begin_75 : decode cX2_begin 75 = .ok (.getfield 25, 3) := by decide +kernel
theorem dX2_begin_78 : decode cX2_begin 78 = .ok (.iconst 0, 1) := by decide +kernel
theorem dX2_begin_79 : decode cX2_begin 79 = .ok (.invokestatic 91, 3) := by decide +kernel
theorem dX2_begin_82 : decode cX2_begin 82 = .ok (.aload_n 0, 1) := by decide +kernel
theorem dX2_begin_83 : decode cX2_begin 83 = .ok (.iconst 0, 1) := by decide +kernel
theorem dX2_begin_84 : decode cX2_begin 84 = .ok (.iconst 0, 1) := by decide +kernel
theorem dX2_begin_85 : decode cX2_begin 85 = .ok (.invokevirtual 97, 3) := by decide +kernel
theorem dX2_begin_88 : decode cX2_begin 88 = .ok (.aload_n 0, 1) := by decide +kernel
theorem dX2_begin_89 : decode cX2_begin 89 = .ok (.invokevirtual 101, 3) := by decide +kernel
theorem dX2_begin_92 : decode cX2_begin 92 = .ok (.return_, 1) := by decide +kernel
theorem dX2_look_0 : decode cX2_look 0 = .ok (.aload_n 0, 1) := by decide +kernel
theorem dX2_look_1 : decode cX2_look 1 = .ok (.getfield 9, 3) := by decide +kernel
theorem dX2_look_4 : decode cX2_look 4 = .ok (.ifCond .ne 9, 3) := by decide +kernel
theorem dX2_look_7 : decode cX2_look 7 = .ok (.aload_n 0, 1) := by decide +kernel
theorem dX2_look_8 : decode cX2_look 8 = .ok (.iconst 0, 1) := by decide +kernel
theorem dX2_look_9 : decode cX2_look 9 = .ok (.iconst 0, 1) := by decide +kernel
theorem dX2_look_10 : decode cX2_look 10 = .ok (.invokevirtual 104, 3) := by decide +kernel
theorem dX2_look_13 : decode cX2_look 13 = .ok (.aload_n 0, 1) := by decide +kernel
theorem dX2_look_14 : decode cX2_look 14 = .ok (.getfield 9, 3) := by decide +kernel
theorem dX2_look_17 : decode cX2_look 17 = .ok (.ifCond .ne 18, 3) := by decide +kernel
theorem dX2_look_20 : decode cX2_look 20 = .ok (.aload_n 0, 1) := by decide +kernel
theorem dX2_look_21 : decode cX2_look 21 = .ok (.getfield 25, 3) := by decide +kernel
theorem dX2_look_24 : decode cX2_look 24 = .ok (.iconst 0, 1) := by decide +kernel
theorem dX2_look_25 : decode cX2_look 25 = .ok (.iaload, 1) := by decide +kernel
theorem dX2_look_26 : decode cX2_look 26 = .ok (.iconst 4, 1) := by decide +kernel
theorem dX2_look_27 : decode cX2_look 27 = .ok (.if_icmp .ne 8, 3) := by decide +kernel
theorem dX2_look_30 : decode cX2_look 30 = .ok (.aload_n 0, 1) := by decide +kernel
theorem dX2_look_31 : decode cX2_look 31 = .ok (.iconst 1, 1) := by decide +kernel
theorem dX2_look_32 : decode cX2_look 32 = .ok (.invokevirtual 107, 3) := by decide +kernel
theorem dX2_look_35 : decode cX2_look 35 = .ok (.aload_n 0, 1) := by decide +kernel
theorem dX2_look_36 : decode cX2_look 36 = .ok (.getfield 9, 3) := by decide +kernel
theorem dX2_look_39 : decode cX2_look 39 = .ok (.ifCond .ne 26, 3) := by decide +kernel
theorem dX2_look_42 : decode cX2_look 42 = .ok (.aload_n 0, 1) := by decide +kernel
theorem dX2_look_43 : decode cX2_look 43 = .ok (.getfield 25, 3) := by decide +kernel
theorem dX2_look_46 : decode cX2_look 46 = .ok (.iconst 0, 1) := by decide +kernel
theorem dX2_look_47 : decode cX2_look 47 = .ok (.iaload, 1) := by decide +kernel
theorem dX2_look_48 : decode cX2_look 48 = .ok (.iconst 5, 1) := by decide +kernel
theorem dX2_look_49 : decode cX2_look 49 = .ok (.if_icmp .ne 16, 3) := by decide +kernel
theorem dX2_look_52 : decode cX2_look 52 = .ok (.aload_n 0, 1) := by decide +kernel
theorem dX2_look_53 : decode cX2_look 53 = .ok (.iconst 2, 1) := by decide +kernel
theorem dX2_look_54 : decode cX2_look 54 = .ok (.invokevirtual 107, 3) := by decide +kernel
theorem dX2_look_57 : decode cX2_look 57 = .ok (.aload_n 0, 1) := by decide +kernel
theorem dX2_look_58 : decode cX2_look 58 = .ok (.getfield 40, 3) := by decide +kernel
theorem dX2_look_61 : decode cX2_look 61 = .ok (.bipush 24, 2) := by decide +kernel
theorem dX2_look_63 : decode cX2_look 63 = .ok (.iconst (-1), 1) := by decide +kernel
theorem dX2_look_64 : decode cX2_look 64 = .ok (.iastore, 1) := by decide +kernel
theorem dX2_look_65 : decode cX2_look 65 = .ok (.aload_n 0, 1) := by decide +kernel
theorem dX2_look_66 : decode cX2_look 66 = .ok (.getfield 9, 3) := by decide +kernel
theorem dX2_look_69 : decode cX2_look 69 = .ok (.iconst 2, 1) := by decide +kernel
theorem dX2_look_70 : decode cX2_look 70 = .ok (.if_icmp .ne 28, 3) := by decide +kernel
theorem dX2_look_73 : decode cX2_look 73 = .ok (.aload_n 0, 1) := by decide +kernel
theorem dX2_look_74 : decode cX2_look 74 = .ok (.bipush 24, 2) := by decide +kernel
theorem dX2_look_76 : decode cX2_look 76 = .ok (.invokevirtual 111, 3) := by decide +kernel
theorem dX2_look_79 : decode cX2_look 79 = .ok (.ifCond .eq 19, 3) := by decide +kernel
theorem dX2_look_82 : decode cX2_look 82 = .ok (.aload_n 0, 1) := by decide +kernel
theorem dX2_look_83 : decode cX2_look 83 = .ok (.aload_n 0, 1) := by decide +kernel
theorem dX2_look_84 : decode cX2_look 84 = .ok (.getfield 72, 3) := by decide +kernel
theorem dX2_look_87 : decode cX2_look 87 = .ok (.ifCond .le 7, 3) := by decide +kernel
theorem dX2_look_90 : decode cX2_look 90 = .ok (.iconst 4, 1) := by decide +kernel
theorem dX2_look_91 : decode cX2_look 91 = .ok (.goto 4, 3) := by decide +kernel
theorem dX2_look_94 : decode cX2_look 94 = .ok (.iconst 3, 1) := by decide +kernel
theorem dX2_look_95 : decode cX2_look 95 = .ok (.invokevirtual 107, 3) := by decide +kernel
theorem dX2_look_98 : decode cX2_look 98 = .ok (.return_, 1) := by decide +kernel
theorem dX2_giveUp_0 : decode cX2_giveUp 0 = .ok (.aload_n 0, 1) := by decide +kernel
theorem dX2_giveUp_1 : decode cX2_giveUp 1 = .ok (.iconst 0, 1) := by decide +kernel
theorem dX2_giveUp_2 : decode cX2_giveUp 2 = .ok (.bipush 24, 2) := by decide +kernel
theorem dX2_giveUp_4 : decode cX2_giveUp 4 = .ok (.invokevirtual 115, 3) := by decide +kernel
theorem dX2_giveUp_7 : decode cX2_giveUp 7 = .ok (.aload_n 0, 1) := by decide +kernel
theorem dX2_giveUp_8 : decode cX2_giveUp 8 = .ok (.getfield 25, 3) := by decide +kernel
theorem dX2_giveUp_11 : decode cX2_giveUp 11 = .ok (.iconst 0, 1) := by decide +kernel
theorem dX2_giveUp_12 : decode cX2_giveUp 12 = .ok (.iconst 5, 1) := by decide +kernel
theorem dX2_giveUp_13 : decode cX2_giveUp 13 = .ok (.iastore, 1) := by decide +kernel
theorem dX2_giveUp_14 : decode cX2_giveUp 14 = .ok (.aload_n 0, 1) := by decide +kernel
theorem dX2_giveUp_15 : decode cX2_giveUp 15 = .ok (.invokevirtual 101, 3) := by decide +kernel
theorem dX2_giveUp_18 : decode cX2_giveUp 18 = .ok (.return_, 1) := by decide +kernel
theorem dX2_become_0 : decode cX2_become 0 = .ok (.aload_n 0, 1) := by decide +kernel
theorem dX2_become_1 : decode cX2_become 1 = .ok (.iload_n 1, 1) := by decide +kernel
theorem dX2_become_2 : decode cX2_become 2 = .ok (.putfield 9, 3) := by decide +kernel
theorem dX2_become_5 : decode cX2_become 5 = .ok (.aload_n 0, 1) := by decide +kernel
theorem dX2_become_6 : decode cX2_become 6 = .ok (.invokevirtual 118, 3) := by decide +kernel
theorem dX2_become_9 : decode cX2_become 9 = .ok (.ifCond .eq 14, 3) := by decide +kernel
theorem dX2_become_12 : decode cX2_become 12 = .ok (.aload_n 0, 1) := by decide +kernel
theorem dX2_become_13 : decode cX2_become 13 = .ok (.aload_n 0, 1) := by decide +kernel
theorem dX2_become_14 : decode cX2_become 14 = .ok (.getfield 43, 3) := by decide +kernel
theorem dX2_become_17 : decode cX2_become 17 = .ok (.getfield 83, 3) := by decide +kernel
theorem dX2_become_20 : decode cX2_become 20 = .ok (.putfield 63, 3) := by decide +kernel
theorem dX2_become_23 : decode cX2_become 23 = .ok (.aload_n 0, 1) := by decide +kernel
theorem dX2_become_24 : decode cX2_become 24 = .ok (.getfield 56, 3) := by decide +kernel
theorem dX2_become_27 : decode cX2_become 27 = .ok (.bipush 11, 2) := by decide +kernel
theorem dX2_become_29 : decode cX2_become 29 = .ok (.iload_n 1, 1) := by decide +kernel
theorem dX2_become_30 : decode cX2_become 30 = .ok (.invokevirtual 122, 3) := by decide +kernel
theorem dX2_become_33 : decode cX2_become 33 = .ok (.return_, 1) := by decide +kernel
theorem dX2_hasEnded_0 : decode cX2_hasEnded 0 = .ok (.aload_n 0, 1) := by decide +kernel
theorem dX2_hasEnded_1 : decode cX2_hasEnded 1 = .ok (.getfield 9, 3) := by decide +kernel
theorem dX2_hasEnded_4 : decode cX2_hasEnded 4 = .ok (.iconst 1, 1) := by decide +kernel
theorem dX2_hasEnded_5 : decode cX2_hasEnded 5 = .ok (.if_icmp .eq 19, 3) := by decide +kernel
theorem dX2_hasEnded_8 : decode cX2_hasEnded 8 = .ok (.aload_n 0, 1) := by decide +kernel
theorem dX2_hasEnded_9 : decode cX2_hasEnded 9 = .ok (.getfield 9, 3) := by decide +kernel
theorem dX2_hasEnded_12 : decode cX2_hasEnded 12 = .ok (.iconst 3, 1) := by decide +kernel
theorem dX2_hasEnded_13 : decode cX2_hasEnded 13 = .ok (.if_icmp .eq 11, 3) := by decide +kernel
theorem dX2_hasEnded_16 : decode cX2_hasEnded 16 = .ok (.aload_n 0, 1) := by decide +kernel
theorem dX2_hasEnded_17 : decode cX2_hasEnded 17 = .ok (.getfield 9, 3) := by decide +kernel
theorem dX2_hasEnded_20 : decode cX2_hasEnded 20 = .ok (.iconst 4, 1) := by decide +kernel
theorem dX2_hasEnded_21 : decode cX2_hasEnded 21 = .ok (.if_icmp .ne 7, 3) := by decide +kernel
theorem dX2_hasEnded_24 : decode cX2_hasEnded 24 = .ok (.iconst 1, 1) := by decide +kernel
theorem dX2_hasEnded_25 : decode cX2_hasEnded 25 = .ok (.goto 4, 3) := by decide +kernel
theorem dX2_hasEnded_28 : decode cX2_hasEnded 28 = .ok (.iconst 0, 1) := by decide +kernel
theorem dX2_hasEnded_29 : decode cX2_hasEnded 29 = .ok (.ireturn, 1) := by decide +kernel
theorem dX2_beginBody_0 : decode cX2_beginBody 0 = .ok (.iload_n 1, 1) := by decide +kernel
theorem dX2_beginBody_1 : decode cX2_beginBody 1 = .ok (.bipush 24, 2) := by decide +kernel
theorem dX2_beginBody_3 : decode cX2_beginBody 3 = .ok (.invokestatic 125, 3) := by decide +kernel
theorem dX2_beginBody_6 : decode cX2_beginBody 6 = .ok (.ifCond .eq 8, 3) := by decide +kernel
theorem dX2_beginBody_9 : decode cX2_beginBody 9 = .ok (.iload_n 2, 1) := by decide +kernel
theorem dX2_beginBody_10 : decode cX2_beginBody 10 = .ok (.iconst 4, 1) := by decide +kernel
theorem dX2_beginBody_11 : decode cX2_beginBody 11 = .ok (.if_icmp .le 4, 3) := by decide +kernel
theorem dX2_beginBody_14 : decode cX2_beginBody 14 = .ok (.return_, 1) := by decide +kernel
theorem dX2_beginBody_15 : decode cX2_beginBody 15 = .ok (.aload_n 0, 1) := by decide +kernel
theorem dX2_beginBody_16 : decode cX2_beginBody 16 = .ok (.getfield 25, 3) := by decide +kernel
theorem dX2_beginBody_19 : decode cX2_beginBody 19 = .ok (.iload_n 1, 1) := by decide +kernel
theorem dX2_beginBody_20 : decode cX2_beginBody 20 = .ok (.iconst 1, 1) := by decide +kernel
theorem dX2_beginBody_21 : decode cX2_beginBody 21 = .ok (.iastore, 1) := by decide +kernel
theorem dX2_beginBody_22 : decode cX2_beginBody 22 = .ok (.aload_n 0, 1) := by decide +kernel
theorem dX2_beginBody_23 : decode cX2_beginBody 23 = .ok (.getfield 28, 3) := by decide +kernel
theorem dX2_beginBody_26 : decode cX2_beginBody 26 = .ok (.iload_n 1, 1) := by decide +kernel
theorem dX2_beginBody_27 : decode cX2_beginBody 27 = .ok (.iload_n 1, 1) := by decide +kernel
theorem dX2_beginBody_28 : decode cX2_beginBody 28 = .ok (.iastore, 1) := by decide +kernel
theorem dX2_beginBody_29 : decode cX2_beginBody 29 = .ok (.aload_n 0, 1) := by decide +kernel
theorem dX2_beginBody_30 : decode cX2_beginBody 30 = .ok (.iload_n 1, 1) := by decide +kernel
theorem dX2_beginBody_31 : decode cX2_beginBody 31 = .ok (.iload_n 2, 1) := by decide +kernel
theorem dX2_beginBody_32 : decode cX2_beginBody 32 = .ok (.invokevirtual 129, 3) := by decide +kernel
theorem dX2_beginBody_35 : decode cX2_beginBody 35 = .ok (.aload_n 0, 1) := by decide +kernel
theorem dX2_beginBody_36 : decode cX2_beginBody 36 = .ok (.iload_n 1, 1) := by decide +kernel
theorem dX2_beginBody_37 : decode cX2_beginBody 37 = .ok (.iload_n 2, 1) := by decide +kernel
theorem dX2_beginBody_38 : decode cX2_beginBody 38 = .ok (.invokevirtual 104, 3) := by decide +kernel
theorem dX2_beginBody_41 : decode cX2_beginBody 41 = .ok (.return_, 1) := by decide +kernel
theorem dX2_goOn_0 : decode cX2_goOn 0 = .ok (.iload_n 1, 1) := by decide +kernel
theorem dX2_goOn_1 : decode cX2_goOn 1 = .ok (.bipush 24, 2) := by decide +kernel
theorem dX2_goOn_3 : decode cX2_goOn 3 = .ok (.invokestatic 125, 3) := by decide +kernel
theorem dX2_goOn_6 : decode cX2_goOn 6 = .ok (.ifCond .eq 18, 3) := by decide +kernel
theorem dX2_goOn_9 : decode cX2_goOn 9 = .ok (.aload_n 0, 1) := by decide +kernel
theorem dX2_goOn_10 : decode cX2_goOn 10 = .ok (.getfield 25, 3) := by decide +kernel
theorem dX2_goOn_13 : decode cX2_goOn 13 = .ok (.iload_n 1, 1) := by decide +kernel
theorem dX2_goOn_14 : decode cX2_goOn 14 = .ok (.iaload, 1) := by decide +kernel
theorem dX2_goOn_15 : decode cX2_goOn 15 = .ok (.iconst 1, 1) := by decide +kernel
theorem dX2_goOn_16 : decode cX2_goOn 16 = .ok (.if_icmp .ne 8, 3) := by decide +kernel
theorem dX2_goOn_19 : decode cX2_goOn 19 = .ok (.iload_n 2, 1) := by decide +kernel
theorem dX2_goOn_20 : decode cX2_goOn 20 = .ok (.iconst 4, 1) := by decide +kernel
theorem dX2_goOn_21 : decode cX2_goOn 21 = .ok (.if_icmp .le 4, 3) := by decide +kernel
theorem dX2_goOn_24 : decode cX2_goOn 24 = .ok (.return_, 1) := by decide +kernel
theorem dX2_goOn_25 : decode cX2_goOn 25 = .ok (.aload_n 0, 1) := by decide +kernel
theorem dX2_goOn_26 : decode cX2_goOn 26 = .ok (.getfield 28, 3) := by decide +kernel
theorem dX2_goOn_29 : decode cX2_goOn 29 = .ok (.iload_n 1, 1) := by decide +kernel
theorem dX2_goOn_30 : decode cX2_goOn 30 = .ok (.iaload, 1) := by decide +kernel
theorem dX2_goOn_31 : decode cX2_goOn 31 = .ok (.istore_n 3, 1) := by decide +kernel
theorem dX2_goOn_32 : decode cX2_goOn 32 = .ok (.iconst 0, 1) := by decide +kernel
theorem dX2_goOn_33 : decode cX2_goOn 33 = .ok (.istore 4, 2) := by decide +kernel
theorem dX2_goOn_35 : decode cX2_goOn 35 = .ok (.iload 4, 2) := by decide +kernel
theorem dX2_goOn_37 : decode cX2_goOn 37 = .ok (.bipush 24, 2) := by decide +kernel
theorem dX2_goOn_39 : decode cX2_goOn 39 = .ok (.if_icmp .ge 99, 3) := by decide +kernel
theorem dX2_goOn_42 : decode cX2_goOn 42 = .ok (.iload_n 3, 1) := by decide +kernel
theorem dX2_goOn_43 : decode cX2_goOn 43 = .ok (.bipush 24, 2) := by decide +kernel
theorem dX2_goOn_45 : decode cX2_goOn 45 = .ok (.invokestatic 125, 3) := by decide +kernel
theorem dX2_goOn_48 : decode cX2_goOn 48 = .ok (.ifCond .eq 90, 3) := by decide +kernel
theorem dX2_goOn_51 : decode cX2_goOn 51 = .ok (.aload_n 0, 1) := by decide +kernel
theorem dX2_goOn_52 : decode cX2_goOn 52 = .ok (.iload_n 3, 1) := by decide +kernel
theorem dX2_goOn_53 : decode cX2_goOn 53 = .ok (.iload_n 2, 1) := by decide +kernel
theorem dX2_goOn_54 : decode cX2_goOn 54 = .ok (.invokevirtual 132, 3) := by decide +kernel
theorem dX2_goOn_57 : decode cX2_goOn 57 = .ok (.aload_n 0, 1) := by decide +kernel
theorem dX2_goOn_58 : decode cX2_goOn 58 = .ok (.iload_n 3, 1) := by decide +kernel
theorem dX2_goOn_59 : decode cX2_goOn 59 = .ok (.invokevirtual 135, 3) := by decide +kernel
theorem dX2_goOn_62 : decode cX2_goOn 62 = .ok (.ifCond .eq 4, 3) := by decide +kernel
theorem dX2_goOn_65 : decode cX2_goOn 65 = .ok (.return_, 1) := by decide +kernel
theorem dX2_goOn_66 : decode cX2_goOn 66 = .ok (.aload_n 0, 1) := by decide +kernel
theorem dX2_goOn_67 : decode cX2_goOn 67 = .ok (.getfield 47, 3) := by decide +kernel
theorem dX2_goOn_70 : decode cX2_goOn 70 = .ok (.getfield 138, 3) := by decide +kernel
theorem dX2_goOn_73 : decode cX2_goOn 73 = .ok (.iload_n 3, 1) := by decide +kernel
theorem dX2_goOn_74 : decode cX2_goOn 74 = .ok (.iaload, 1) := by decide +kernel
theorem dX2_goOn_75 : decode cX2_goOn 75 = .ok (.istore 5, 2) := by decide +kernel
theorem dX2_goOn_77 : decode cX2_goOn 77 = .ok (.aload_n 0, 1) := by decide +kernel
theorem dX2_goOn_78 : decode cX2_goOn 78 = .ok (.getfield 22, 3) := by decide +kernel
theorem dX2_goOn_81 : decode cX2_goOn 81 = .ok (.iload_n 3, 1) := by decide +kernel
theorem dX2_goOn_82 : decode cX2_goOn 82 = .ok (.iaload, 1) := by decide +kernel
theorem dX2_goOn_83 : decode cX2_goOn 83 = .ok (.iconst 5, 1) := by decide +kernel
theorem dX2_goOn_84 : decode cX2_goOn 84 = .ok (.if_icmp .eq 8, 3) := by decide +kernel
theorem dX2_goOn_87 : decode cX2_goOn 87 = .ok (.iload 5, 2) := by decide +kernel
theorem dX2_goOn_89 : decode cX2_goOn 89 = .ok (.ifCond .ge 25, 3) := by decide +kernel
theorem dX2_goOn_92 : decode cX2_goOn 92 = .ok (.aload_n 0, 1) := by decide +kernel
theorem dX2_goOn_93 : decode cX2_goOn 93 = .ok (.getfield 25, 3) := by decide +kernel
theorem dX2_goOn_96 : decode cX2_goOn 96 = .ok (.iload_n 1, 1) := by decide +kernel
theorem dX2_goOn_97 : decode cX2_goOn 97 = .ok (.aload_n 0, 1) := by decide +kernel
theorem dX2_goOn_98 : decode cX2_goOn 98 = .ok (.getfield 22, 3) := by decide +kernel
theorem dX2_goOn_101 : decode cX2_goOn 101 = .ok (.iload_n 3, 1) := by decide +kernel
theorem dX2_goOn_102 : decode cX2_goOn 102 = .ok (.iaload, 1) := by decide +kernel
theorem dX2_goOn_103 : decode cX2_goOn 103 = .ok (.iconst 5, 1) := by decide +kernel
theorem dX2_goOn_104 : decode cX2_goOn 104 = .ok (.if_icmp .ne 7, 3) := by decide +kernel
theorem dX2_goOn_107 : decode cX2_goOn 107 = .ok (.iconst 5, 1) := by decide +kernel
theorem dX2_goOn_108 : decode cX2_goOn 108 = .ok (.goto 4, 3) := by decide +kernel
theorem dX2_goOn_111 : decode cX2_goOn 111 = .ok (.iconst 4, 1) := by decide +kernel
theorem dX2_goOn_112 : decode cX2_goOn 112 = .ok (.iastore, 1) := by decide +kernel
theorem dX2_goOn_113 : decode cX2_goOn 113 = .ok (.return_, 1) := by decide +kernel
theorem dX2_goOn_114 : decode cX2_goOn 114 = .ok (.aload_n 0, 1) := by decide +kernel
theorem dX2_goOn_115 : decode cX2_goOn 115 = .ok (.getfield 28, 3) := by decide +kernel
theorem dX2_goOn_118 : decode cX2_goOn 118 = .ok (.iload_n 1, 1) := by decide +kernel
theorem dX2_goOn_119 : decode cX2_goOn 119 = .ok (.iload 5, 2) := by decide +kernel
theorem dX2_goOn_121 : decode cX2_goOn 121 = .ok (.iastore, 1) := by decide +kernel
theorem dX2_goOn_122 : decode cX2_goOn 122 = .ok (.aload_n 0, 1) := by decide +kernel
theorem dX2_goOn_123 : decode cX2_goOn 123 = .ok (.iload 5, 2) := by decide +kernel
theorem dX2_goOn_125 : decode cX2_goOn 125 = .ok (.iload_n 2, 1) := by decide +kernel
theorem dX2_goOn_126 : decode cX2_goOn 126 = .ok (.invokevirtual 129, 3) := by decide +kernel
theorem dX2_goOn_129 : decode cX2_goOn 129 = .ok (.iload 5, 2) := by decide +kernel
theorem dX2_goOn_131 : decode cX2_goOn 131 = .ok (.istore_n 3, 1) := by decide +kernel
theorem dX2_goOn_132 : decode cX2_goOn 132 = .ok (.iinc 4 1, 3) := by decide +kernel
theorem dX2_goOn_135 : decode cX2_goOn 135 = .ok (.goto (-100), 3) := by decide +kernel
theorem dX2_goOn_138 : decode cX2_goOn 138 = .ok (.return_, 1) := by decide +kernel
theorem dX2_beginItem_0 : decode cX2_beginItem 0 = .ok (.iload_n 1, 1) := by decide +kernel
theorem dX2_beginItem_1 : decode cX2_beginItem 1 = .ok (.bipush 24, 2) := by decide +kernel
theorem dX2_beginItem_3 : decode cX2_beginItem 3 = .ok (.invokestatic 125, 3) := by decide +kernel
theorem dX2_beginItem_6 : decode cX2_beginItem 6 = .ok (.ifCond .ne 4, 3) := by decide +kernel
theorem dX2_beginItem_9 : decode cX2_beginItem 9 = .ok (.return_, 1) := by decide +kernel
theorem dX2_beginItem_10 : decode cX2_beginItem 10 = .ok (.aload_n 0, 1) := by decide +kernel
theorem dX2_beginItem_11 : decode cX2_beginItem 11 = .ok (.getfield 22, 3) := by decide +kernel
theorem dX2_beginItem_14 : decode cX2_beginItem 14 = .ok (.iload_n 1, 1) := by decide +kernel
theorem dX2_beginItem_15 : decode cX2_beginItem 15 = .ok (.iconst 1, 1) := by decide +kernel
theorem dX2_beginItem_16 : decode cX2_beginItem 16 = .ok (.iastore, 1) := by decide +kernel
theorem dX2_beginItem_17 : decode cX2_beginItem 17 = .ok (.aload_n 0, 1) := by decide +kernel
theorem dX2_beginItem_18 : decode cX2_beginItem 18 = .ok (.getfield 34, 3) := by decide +kernel
theorem dX2_beginItem_21 : decode cX2_beginItem 21 = .ok (.iload_n 1, 1) := by decide +kernel
theorem dX2_beginItem_22 : decode cX2_beginItem 22 = .ok (.ldc 143, 2) := by decide +kernel
theorem dX2_beginItem_24 : decode cX2_beginItem 24 = .ok (.iastore, 1) := by decide +kernel
theorem dX2_beginItem_25 : decode cX2_beginItem 25 = .ok (.aload_n 0, 1) := by decide +kernel
theorem dX2_beginItem_26 : decode cX2_beginItem 26 = .ok (.getfield 37, 3) := by decide +kernel
theorem dX2_beginItem_29 : decode cX2_beginItem 29 = .ok (.iload_n 1, 1) := by decide +kernel
theorem dX2_beginItem_30 : decode cX2_beginItem 30 = .ok (.iconst 0, 1) := by decide +kernel
theorem dX2_beginItem_31 : decode cX2_beginItem 31 = .ok (.iastore, 1) := by decide +kernel
theorem dX2_beginItem_32 : decode cX2_beginItem 32 = .ok (.aload_n 0, 1) := by decide +kernel
theorem dX2_beginItem_33 : decode cX2_beginItem 33 = .ok (.getfield 47, 3) := by decide +kernel
theorem dX2_beginItem_36 : decode cX2_beginItem 36 = .ok (.getfield 144, 3) := by decide +kernel
theorem dX2_beginItem_39 : decode cX2_beginItem 39 = .ok (.iload_n 1, 1) := by decide +kernel
theorem dX2_beginItem_40 : decode cX2_beginItem 40 = .ok (.iaload, 1) := by decide +kernel
theorem dX2_beginItem_41 : decode cX2_beginItem 41 = .ok (.tableswitch 107 0 5 #[39, 47, 73, 107, 81, 96], 39) := by decide +kernel
theorem dX2_beginItem_80 : decode cX2_beginItem 80 = .ok (.aload_n 0, 1) := by decide +kernel
theorem dX2_beginItem_81 : decode cX2_beginItem 81 = .ok (.iload_n 1, 1) := by decide +kernel
theorem dX2_beginItem_82 : decode cX2_beginItem 82 = .ok (.invokevirtual 147, 3) := by decide +kernel
theorem dX2_beginItem_85 : decode cX2_beginItem 85 = .ok (.goto 63, 3) := by decide +kernel
theorem dX2_beginItem_88 : decode cX2_beginItem 88 = .ok (.aload_n 0, 1) := by decide +kernel
theorem dX2_beginItem_89 : decode cX2_beginItem 89 = .ok (.getfield 34, 3) := by decide +kernel
theorem dX2_beginItem_92 : decode cX2_beginItem 92 = .ok (.iload_n 1, 1) := by decide +kernel
theorem dX2_beginItem_93 : decode cX2_beginItem 93 = .ok (.aload_n 0, 1) := by decide +kernel
theorem dX2_beginItem_94 : decode cX2_beginItem 94 = .ok (.getfield 43, 3) := by decide +kernel
theorem dX2_beginItem_97 : decode cX2_beginItem 97 = .ok (.getfield 83, 3) := by decide +kernel
theorem dX2_beginItem_100 : decode cX2_beginItem 100 = .ok (.aload_n 0, 1) := by decide +kernel
theorem dX2_beginItem_101 : decode cX2_beginItem 101 = .ok (.getfield 47, 3) := by decide +kernel
theorem dX2_beginItem_104 : decode cX2_beginItem 104 = .ok (.getfield 150, 3) := by decide +kernel
theorem dX2_beginItem_107 : decode cX2_beginItem 107 = .ok (.iload_n 1, 1) := by decide +kernel
theorem dX2_beginItem_108 : decode cX2_beginItem 108 = .ok (.iaload, 1) := by decide +kernel
theorem dX2_beginItem_109 : decode cX2_beginItem 109 = .ok (.iadd, 1) := by decide +kernel
theorem dX2_beginItem_110 : decode cX2_beginItem 110 = .ok (.iastore, 1) := by decide +kernel
theorem dX2_beginItem_111 : decode cX2_beginItem 111 = .ok (.goto 37, 3) := by decide +kernel
theorem dX2_beginItem_114 : decode cX2_beginItem 114 = .ok (.aload_n 0, 1) := by decide +kernel
theorem dX2_beginItem_115 : decode cX2_beginItem 115 = .ok (.iload_n 1, 1) := by decide +kernel
theorem dX2_beginItem_116 : decode cX2_beginItem 116 = .ok (.invokevirtual 153, 3) := by decide +kernel
theorem dX2_beginItem_119 : decode cX2_beginItem 119 = .ok (.goto 29, 3) := by decide +kernel
theorem dX2_beginItem_122 : decode cX2_beginItem 122 = .ok (.aload_n 0, 1) := by decide +kernel
theorem dX2_beginItem_123 : decode cX2_beginItem 123 = .ok (.aload_n 0, 1) := by decide +kernel
theorem dX2_beginItem_124 : decode cX2_beginItem 124 = .ok (.iload_n 1, 1) := by decide +kernel
theorem dX2_beginItem_125 : decode cX2_beginItem 125 = .ok (.invokevirtual 156, 3) := by decide +kernel
theorem dX2_beginItem_128 : decode cX2_beginItem 128 = .ok (.iload_n 2, 1) := by decide +kernel
theorem dX2_beginItem_129 : decode cX2_beginItem 129 = .ok (.iconst 1, 1) := by decide +kernel
theorem dX2_beginItem_130 : decode cX2_beginItem 130 = .ok (.iadd, 1) := by decide +kernel
theorem dX2_beginItem_131 : decode cX2_beginItem 131 = .ok (.invokevirtual 97, 3) := by decide +kernel
theorem dX2_beginItem_134 : decode cX2_beginItem 134 = .ok (.goto 14, 3) := by decide +kernel
theorem dX2_beginItem_137 : decode cX2_beginItem 137 = .ok (.aload_n 0, 1) := by decide +kernel
theorem dX2_beginItem_138 : decode cX2_beginItem 138 = .ok (.iload_n 1, 1) := by decide +kernel
theorem dX2_beginItem_139 : decode cX2_beginItem 139 = .ok (.iload_n 2, 1) := by decide +kernel
theorem dX2_beginItem_140 : decode cX2_beginItem 140 = .ok (.iconst 1, 1) := by decide +kernel
theorem dX2_beginItem_141 : decode cX2_beginItem 141 = .ok (.iadd, 1) := by decide +kernel
theorem dX2_beginItem_142 : decode cX2_beginItem 142 = .ok (.invokevirtual 160, 3) := by decide +kernel
theorem dX2_beginItem_145 : decode cX2_beginItem 145 = .ok (.goto 3, 3) := by decide +kernel
theorem dX2_beginItem_148 : decode cX2_beginItem 148 = .ok (.return_, 1) := by decide +kernel
theorem dX2_beginSignal_0 : decode cX2_beginSignal 0 = .ok (.aload_n 0, 1) := by decide +kernel
theorem dX2_beginSignal_1 : decode cX2_beginSignal 1 = .ok (.getfield 47, 3) := by decide +kernel
theorem dX2_beginSignal_4 : decode cX2_beginSignal 4 = .ok (.getfield 150, 3) := by decide +kernel
theorem dX2_beginSignal_7 : decode cX2_beginSignal 7 = .ok (.iload_n 1, 1) := by decide +kernel
theorem dX2_beginSignal_8 : decode cX2_beginSignal 8 = .ok (.iaload, 1) := by decide +kernel
theorem dX2_beginSignal_9 : decode cX2_beginSignal 9 = .ok (.ifCond .lt 26, 3) := by decide +kernel
theorem dX2_beginSignal_12 : decode cX2_beginSignal 12 = .ok (.aload_n 0, 1) := by decide +kernel
theorem dX2_beginSignal_13 : decode cX2_beginSignal 13 = .ok (.getfield 34, 3) := by decide +kernel
theorem dX2_beginSignal_16 : decode cX2_beginSignal 16 = .ok (.iload_n 1, 1) := by decide +kernel
theorem dX2_beginSignal_17 : decode cX2_beginSignal 17 = .ok (.aload_n 0, 1) := by decide +kernel
theorem dX2_beginSignal_18 : decode cX2_beginSignal 18 = .ok (.getfield 43, 3) := by decide +kernel
theorem dX2_beginSignal_21 : decode cX2_beginSignal 21 = .ok (.getfield 83, 3) := by decide +kernel
theorem dX2_beginSignal_24 : decode cX2_beginSignal 24 = .ok (.aload_n 0, 1) := by decide +kernel
theorem dX2_beginSignal_25 : decode cX2_beginSignal 25 = .ok (.getfield 47, 3) := by decide +kernel
theorem dX2_beginSignal_28 : decode cX2_beginSignal 28 = .ok (.getfield 150, 3) := by decide +kernel
theorem dX2_beginSignal_31 : decode cX2_beginSignal 31 = .ok (.iload_n 1, 1) := by decide +kernel
theorem dX2_beginSignal_32 : decode cX2_beginSignal 32 = .ok (.iaload, 1) := by decide +kernel
theorem dX2_beginSignal_33 : decode cX2_beginSignal 33 = .ok (.iadd, 1) := by decide +kernel
theorem dX2_beginSignal_34 : decode cX2_beginSignal 34 = .ok (.iastore, 1) := by decide +kernel
theorem dX2_beginSignal_35 : decode cX2_beginSignal 35 = .ok (.return_, 1) := by decide +kernel
theorem dX2_beginBodies_0 : decode cX2_beginBodies 0 = .ok (.iconst 0, 1) := by decide +kernel
theorem dX2_beginBodies_1 : decode cX2_beginBodies 1 = .ok (.istore_n 3, 1) := by decide +kernel
theorem dX2_beginBodies_2 : decode cX2_beginBodies 2 = .ok (.iload_n 3, 1) := by decide +kernel
theorem dX2_beginBodies_3 : decode cX2_beginBodies 3 = .ok (.iconst 4, 1) := by decide +kernel
theorem dX2_beginBodies_4 : decode cX2_beginBodies 4 = .ok (.if_icmp .ge 23, 3) := by decide +kernel
theorem dX2_beginBodies_7 : decode cX2_beginBodies 7 = .ok (.aload_n 0, 1) := by decide +kernel
theorem dX2_beginBodies_8 : decode cX2_beginBodies 8 = .ok (.aload_n 0, 1) := by decide +kernel
theorem dX2_beginBodies_9 : decode cX2_beginBodies 9 = .ok (.getfield 47, 3) := by decide +kernel
theorem dX2_beginBodies_12 : decode cX2_beginBodies 12 = .ok (.iload_n 1, 1) := by decide +kernel
theorem dX2_beginBodies_13 : decode cX2_beginBodies 13 = .ok (.iload_n 3, 1) := by decide +kernel
theorem dX2_beginBodies_14 : decode cX2_beginBodies 14 = .ok (.invokevirtual 163, 3) := by decide +kernel
theorem dX2_beginBodies_17 : decode cX2_beginBodies 17 = .ok (.iload_n 2, 1) := by decide +kernel
theorem dX2_beginBodies_18 : decode cX2_beginBodies 18 = .ok (.invokevirtual 97, 3) := by decide +kernel
theorem dX2_beginBodies_21 : decode cX2_beginBodies 21 = .ok (.iinc 3 1, 3) := by decide +kernel
theorem dX2_beginBodies_24 : decode cX2_beginBodies 24 = .ok (.goto (-22), 3) := by decide +kernel
theorem dX2_beginBodies_27 : decode cX2_beginBodies 27 = .ok (.return_, 1) := by decide +kernel
theorem dX2_beginAttempt_0 : decode cX2_beginAttempt 0 = .ok (.aload_n 0, 1) := by decide +kernel
theorem dX2_beginAttempt_1 : decode cX2_beginAttempt 1 = .ok (.getfield 47, 3) := by decide +kernel
theorem dX2_beginAttempt_4 : decode cX2_beginAttempt 4 = .ok (.getfield 167, 3) := by decide +kernel
theorem dX2_beginAttempt_7 : decode cX2_beginAttempt 7 = .ok (.iload_n 1, 1) := by decide +kernel
theorem dX2_beginAttempt_8 : decode cX2_beginAttempt 8 = .ok (.iaload, 1) := by decide +kernel
theorem dX2_beginAttempt_9 : decode cX2_beginAttempt 9 = .ok (.istore_n 2, 1) := by decide +kernel
theorem dX2_beginAttempt_10 : decode cX2_beginAttempt 10 = .ok (.aload_n 0, 1) := by decide +kernel
theorem dX2_beginAttempt_11 : decode cX2_beginAttempt 11 = .ok (.getfield 22, 3) := by decide +kernel
theorem dX2_beginAttempt_14 : decode cX2_beginAttempt 14 = .ok (.iload_n 1, 1) := by decide +kernel
theorem dX2_beginAttempt_15 : decode cX2_beginAttempt 15 = .ok (.iconst 1, 1) := by decide +kernel
theorem dX2_beginAttempt_16 : decode cX2_beginAttempt 16 = .ok (.iastore, 1) := by decide +kernel
theorem dX2_beginAttempt_17 : decode cX2_beginAttempt 17 = .ok (.aload_n 0, 1) := by decide +kernel
theorem dX2_beginAttempt_18 : decode cX2_beginAttempt 18 = .ok (.getfield 37, 3) := by decide +kernel
theorem dX2_beginAttempt_21 : decode cX2_beginAttempt 21 = .ok (.iload_n 1, 1) := by decide +kernel
theorem dX2_beginAttempt_22 : decode cX2_beginAttempt 22 = .ok (.dup2, 1) := by decide +kernel
theorem dX2_beginAttempt_23 : decode cX2_beginAttempt 23 = .ok (.iaload, 1) := by decide +kernel
theorem dX2_beginAttempt_24 : decode cX2_beginAttempt 24 = .ok (.iconst 1, 1) := by decide +kernel
theorem dX2_beginAttempt_25 : decode cX2_beginAttempt 25 = .ok (.iadd, 1) := by decide +kernel
theorem dX2_beginAttempt_26 : decode cX2_beginAttempt 26 = .ok (.iastore, 1) := by decide +kernel
theorem dX2_beginAttempt_27 : decode cX2_beginAttempt 27 = .ok (.aload_n 0, 1) := by decide +kernel
theorem dX2_beginAttempt_28 : decode cX2_beginAttempt 28 = .ok (.getfield 34, 3) := by decide +kernel
theorem dX2_beginAttempt_31 : decode cX2_beginAttempt 31 = .ok (.iload_n 1, 1) := by decide +kernel
theorem dX2_beginAttempt_32 : decode cX2_beginAttempt 32 = .ok (.aload_n 0, 1) := by decide +kernel
theorem dX2_beginAttempt_33 : decode cX2_beginAttempt 33 = .ok (.getfield 43, 3) := by decide +kernel
theorem dX2_beginAttempt_36 : decode cX2_beginAttempt 36 = .ok (.iload_n 2, 1) := by decide +kernel
theorem dX2_beginAttempt_37 : decode cX2_beginAttempt 37 = .ok (.invokevirtual 170, 3) := by decide +kernel
theorem dX2_beginAttempt_40 : decode cX2_beginAttempt 40 = .ok (.iastore, 1) := by decide +kernel
theorem dX2_beginAttempt_41 : decode cX2_beginAttempt 41 = .ok (.aload_n 0, 1) := by decide +kernel
theorem dX2_beginAttempt_42 : decode cX2_beginAttempt 42 = .ok (.getfield 56, 3) := by decide +kernel
theorem dX2_beginAttempt_45 : decode cX2_beginAttempt 45 = .ok (.iconst 0, 1) := by decide +kernel
theorem dX2_beginAttempt_46 : decode cX2_beginAttempt 46 = .ok (.iload_n 2, 1) := by decide +kernel
theorem dX2_beginAttempt_47 : decode cX2_beginAttempt 47 = .ok (.invokevirtual 122, 3) := by decide +kernel
theorem dX2_beginAttempt_50 : decode cX2_beginAttempt 50 = .ok (.return_, 1) := by decide +kernel
theorem dX2_lookAt_0 : decode cX2_lookAt 0 = .ok (.aload_n 0, 1) := by decide +kernel
theorem dX2_lookAt_1 : decode cX2_lookAt 1 = .ok (.getfield 47, 3) := by decide +kernel
theorem dX2_lookAt_4 : decode cX2_lookAt 4 = .ok (.getfield 144, 3) := by decide +kernel
theorem dX2_lookAt_7 : decode cX2_lookAt 7 = .ok (.iload_n 1, 1) := by decide +kernel
theorem dX2_lookAt_8 : decode cX2_lookAt 8 = .ok (.iaload, 1) := by decide +kernel
theorem dX2_lookAt_9 : decode cX2_lookAt 9 = .ok (.tableswitch 78 0 4 #[35, 43, 51, 59, 67], 35) := by decide +kernel
theorem dX2_lookAt_44 : decode cX2_lookAt 44 = .ok (.aload_n 0, 1) := by decide +kernel
theorem dX2_lookAt_45 : decode cX2_lookAt 45 = .ok (.iload_n 1, 1) := by decide +kernel
theorem dX2_lookAt_46 : decode cX2_lookAt 46 = .ok (.invokevirtual 173, 3) := by decide +kernel
theorem dX2_lookAt_49 : decode cX2_lookAt 49 = .ok (.goto 46, 3) := by decide +kernel
theorem dX2_lookAt_52 : decode cX2_lookAt 52 = .ok (.aload_n 0, 1) := by decide +kernel
theorem dX2_lookAt_53 : decode cX2_lookAt 53 = .ok (.iload_n 1, 1) := by decide +kernel
theorem dX2_lookAt_54 : decode cX2_lookAt 54 = .ok (.invokevirtual 176, 3) := by decide +kernel
theorem dX2_lookAt_57 : decode cX2_lookAt 57 = .ok (.goto 38, 3) := by decide +kernel
theorem dX2_lookAt_60 : decode cX2_lookAt 60 = .ok (.aload_n 0, 1) := by decide +kernel
theorem dX2_lookAt_61 : decode cX2_lookAt 61 = .ok (.iload_n 1, 1) := by decide +kernel
theorem dX2_lookAt_62 : decode cX2_lookAt 62 = .ok (.invokevirtual 179, 3) := by decide +kernel
theorem dX2_lookAt_65 : decode cX2_lookAt 65 = .ok (.goto 30, 3) := by decide +kernel
theorem dX2_lookAt_68 : decode cX2_lookAt 68 = .ok (.aload_n 0, 1) := by decide +kernel
theorem dX2_lookAt_69 : decode cX2_lookAt 69 = .ok (.iload_n 1, 1) := by decide +kernel
theorem dX2_lookAt_70 : decode cX2_lookAt 70 = .ok (.invokevirtual 182, 3) := by decide +kernel
theorem dX2_lookAt_73 : decode cX2_lookAt 73 = .ok (.goto 22, 3) := by decide +kernel
theorem dX2_lookAt_76 : decode cX2_lookAt 76 = .ok (.aload_n 0, 1) := by decide +kernel
theorem dX2_lookAt_77 : decode cX2_lookAt 77 = .ok (.iload_n 1, 1) := by decide +kernel
theorem dX2_lookAt_78 : decode cX2_lookAt 78 = .ok (.iload_n 2, 1) := by decide +kernel
theorem dX2_lookAt_79 : decode cX2_lookAt 79 = .ok (.iconst 1, 1) := by decide +kernel
theorem dX2_lookAt_80 : decode cX2_lookAt 80 = .ok (.iadd, 1) := by decide +kernel
theorem dX2_lookAt_81 : decode cX2_lookAt 81 = .ok (.invokevirtual 185, 3) := by decide +kernel
theorem dX2_lookAt_84 : decode cX2_lookAt 84 = .ok (.goto 11, 3) := by decide +kernel
theorem dX2_lookAt_87 : decode cX2_lookAt 87 = .ok (.aload_n 0, 1) := by decide +kernel
theorem dX2_lookAt_88 : decode cX2_lookAt 88 = .ok (.iload_n 1, 1) := by decide +kernel
theorem dX2_lookAt_89 : decode cX2_lookAt 89 = .ok (.iload_n 2, 1) := by decide +kernel
theorem dX2_lookAt_90 : decode cX2_lookAt 90 = .ok (.iconst 1, 1) := by decide +kernel
theorem dX2_lookAt_91 : decode cX2_lookAt 91 = .ok (.iadd, 1) := by decide +kernel
theorem dX2_lookAt_92 : decode cX2_lookAt 92 = .ok (.invokevirtual 188, 3) := by decide +kernel
theorem dX2_lookAt_95 : decode cX2_lookAt 95 = .ok (.return_, 1) := by decide +kernel
theorem dX2_lookAtTask_0 : decode cX2_lookAtTask 0 = .ok (.iconst 0, 1) := by decide +kernel
theorem dX2_lookAtTask_1 : decode cX2_lookAtTask 1 = .ok (.istore_n 2, 1) := by decide +kernel
theorem dX2_lookAtTask_2 : decode cX2_lookAtTask 2 = .ok (.iload_n 2, 1) := by decide +kernel
theorem dX2_lookAtTask_3 : decode cX2_lookAtTask 3 = .ok (.bipush 20, 2) := by decide +kernel
theorem dX2_lookAtTask_5 : decode cX2_lookAtTask 5 = .ok (.if_icmp .ge 57, 3) := by decide +kernel
theorem dX2_lookAtTask_8 : decode cX2_lookAtTask 8 = .ok (.aload_n 0, 1) := by decide +kernel
theorem dX2_lookAtTask_9 : decode cX2_lookAtTask 9 = .ok (.iload_n 1, 1) := by decide +kernel
theorem dX2_lookAtTask_10 : decode cX2_lookAtTask 10 = .ok (.invokevirtual 135, 3) := by decide +kernel
theorem dX2_lookAtTask_13 : decode cX2_lookAtTask 13 = .ok (.ifCond .eq 49, 3) := by decide +kernel
theorem dX2_lookAtTask_16 : decode cX2_lookAtTask 16 = .ok (.aload_n 0, 1) := by decide +kernel
theorem dX2_lookAtTask_17 : decode cX2_lookAtTask 17 = .ok (.getfield 34, 3) := by decide +kernel
theorem dX2_lookAtTask_20 : decode cX2_lookAtTask 20 = .ok (.iload_n 1, 1) := by decide +kernel
theorem dX2_lookAtTask_21 : decode cX2_lookAtTask 21 = .ok (.iaload, 1) := by decide +kernel
theorem dX2_lookAtTask_22 : decode cX2_lookAtTask 22 = .ok (.aload_n 0, 1) := by decide +kernel
theorem dX2_lookAtTask_23 : decode cX2_lookAtTask 23 = .ok (.getfield 43, 3) := by decide +kernel
theorem dX2_lookAtTask_26 : decode cX2_lookAtTask 26 = .ok (.getfield 83, 3) := by decide +kernel
theorem dX2_lookAtTask_29 : decode cX2_lookAtTask 29 = .ok (.if_icmp .le 4, 3) := by decide +kernel
theorem dX2_lookAtTask_32 : decode cX2_lookAtTask 32 = .ok (.return_, 1) := by decide +kernel
theorem dX2_lookAtTask_33 : decode cX2_lookAtTask 33 = .ok (.aload_n 0, 1) := by decide +kernel
theorem dX2_lookAtTask_34 : decode cX2_lookAtTask 34 = .ok (.getfield 22, 3) := by decide +kernel
theorem dX2_lookAtTask_37 : decode cX2_lookAtTask 37 = .ok (.iload_n 1, 1) := by decide +kernel
theorem dX2_lookAtTask_38 : decode cX2_lookAtTask 38 = .ok (.iaload, 1) := by decide +kernel
theorem dX2_lookAtTask_39 : decode cX2_lookAtTask 39 = .ok (.iconst 2, 1) := by decide +kernel
theorem dX2_lookAtTask_40 : decode cX2_lookAtTask 40 = .ok (.if_icmp .ne 11, 3) := by decide +kernel
theorem dX2_lookAtTask_43 : decode cX2_lookAtTask 43 = .ok (.aload_n 0, 1) := by decide +kernel
theorem dX2_lookAtTask_44 : decode cX2_lookAtTask 44 = .ok (.iload_n 1, 1) := by decide +kernel
theorem dX2_lookAtTask_45 : decode cX2_lookAtTask 45 = .ok (.invokevirtual 147, 3) := by decide +kernel
theorem dX2_lookAtTask_48 : decode cX2_lookAtTask 48 = .ok (.goto 8, 3) := by decide +kernel
theorem dX2_lookAtTask_51 : decode cX2_lookAtTask 51 = .ok (.aload_n 0, 1) := by decide +kernel
theorem dX2_lookAtTask_52 : decode cX2_lookAtTask 52 = .ok (.iload_n 1, 1) := by decide +kernel
theorem dX2_lookAtTask_53 : decode cX2_lookAtTask 53 = .ok (.invokevirtual 191, 3) := by decide +kernel
theorem dX2_lookAtTask_56 : decode cX2_lookAtTask 56 = .ok (.iinc 2 1, 3) := by decide +kernel
theorem dX2_lookAtTask_59 : decode cX2_lookAtTask 59 = .ok (.goto (-57), 3) := by decide +kernel
theorem dX2_lookAtTask_62 : decode cX2_lookAtTask 62 = .ok (.return_, 1) := by decide +kernel
theorem dX2_endAttempt_0 : decode cX2_endAttempt 0 = .ok (.aload_n 0, 1) := by decide +kernel
theorem dX2_endAttempt_1 : decode cX2_endAttempt 1 = .ok (.getfield 47, 3) := by decide +kernel
theorem dX2_endAttempt_4 : decode cX2_endAttempt 4 = .ok (.getfield 167, 3) := by decide +kernel
theorem dX2_endAttempt_7 : decode cX2_endAttempt 7 = .ok (.iload_n 1, 1) := by decide +kernel
theorem dX2_endAttempt_8 : decode cX2_endAttempt 8 = .ok (.iaload, 1) := by decide +kernel
theorem dX2_endAttempt_9 : decode cX2_endAttempt 9 = .ok (.istore_n 2, 1) := by decide +kernel
theorem dX2_endAttempt_10 : decode cX2_endAttempt 10 = .ok (.aload_n 0, 1) := by decide +kernel
theorem dX2_endAttempt_11 : decode cX2_endAttempt 11 = .ok (.getfield 43, 3) := by decide +kernel
theorem dX2_endAttempt_14 : decode cX2_endAttempt 14 = .ok (.iload_n 2, 1) := by decide +kernel
theorem dX2_endAttempt_15 : decode cX2_endAttempt 15 = .ok (.invokevirtual 194, 3) := by decide +kernel
theorem dX2_endAttempt_18 : decode cX2_endAttempt 18 = .ok (.ifCond .eq 52, 3) := by decide +kernel
theorem dX2_endAttempt_21 : decode cX2_endAttempt 21 = .ok (.aload_n 0, 1) := by decide +kernel
theorem dX2_endAttempt_22 : decode cX2_endAttempt 22 = .ok (.getfield 22, 3) := by decide +kernel
theorem dX2_endAttempt_25 : decode cX2_endAttempt 25 = .ok (.iload_n 1, 1) := by decide +kernel
theorem dX2_endAttempt_26 : decode cX2_endAttempt 26 = .ok (.iconst 4, 1) := by decide +kernel
theorem dX2_endAttempt_27 : decode cX2_endAttempt 27 = .ok (.iastore, 1) := by decide +kernel
theorem dX2_endAttempt_28 : decode cX2_endAttempt 28 = .ok (.aload_n 0, 1) := by decide +kernel
theorem dX2_endAttempt_29 : decode cX2_endAttempt 29 = .ok (.getfield 66, 3) := by decide +kernel
theorem dX2_endAttempt_32 : decode cX2_endAttempt 32 = .ok (.bipush 24, 2) := by decide +kernel
theorem dX2_endAttempt_34 : decode cX2_endAttempt 34 = .ok (.invokestatic 125, 3) := by decide +kernel
theorem dX2_endAttempt_37 : decode cX2_endAttempt 37 = .ok (.ifCond .eq 23, 3) := by decide +kernel
theorem dX2_endAttempt_40 : decode cX2_endAttempt 40 = .ok (.aload_n 0, 1) := by decide +kernel
theorem dX2_endAttempt_41 : decode cX2_endAttempt 41 = .ok (.getfield 31, 3) := by decide +kernel
theorem dX2_endAttempt_44 : decode cX2_endAttempt 44 = .ok (.aload_n 0, 1) := by decide +kernel
theorem dX2_endAttempt_45 : decode cX2_endAttempt 45 = .ok (.getfield 66, 3) := by decide +kernel
theorem dX2_endAttempt_48 : decode cX2_endAttempt 48 = .ok (.iload_n 1, 1) := by decide +kernel
theorem dX2_endAttempt_49 : decode cX2_endAttempt 49 = .ok (.iastore, 1) := by decide +kernel
theorem dX2_endAttempt_50 : decode cX2_endAttempt 50 = .ok (.aload_n 0, 1) := by decide +kernel
theorem dX2_endAttempt_51 : decode cX2_endAttempt 51 = .ok (.dup, 1) := by decide +kernel
theorem dX2_endAttempt_52 : decode cX2_endAttempt 52 = .ok (.getfield 66, 3) := by decide +kernel
theorem dX2_endAttempt_55 : decode cX2_endAttempt 55 = .ok (.iconst 1, 1) := by decide +kernel
theorem dX2_endAttempt_56 : decode cX2_endAttempt 56 = .ok (.iadd, 1) := by decide +kernel
theorem dX2_endAttempt_57 : decode cX2_endAttempt 57 = .ok (.putfield 66, 3) := by decide +kernel
theorem dX2_endAttempt_60 : decode cX2_endAttempt 60 = .ok (.aload_n 0, 1) := by decide +kernel
theorem dX2_endAttempt_61 : decode cX2_endAttempt 61 = .ok (.getfield 56, 3) := by decide +kernel
theorem dX2_endAttempt_64 : decode cX2_endAttempt 64 = .ok (.iconst 2, 1) := by decide +kernel
theorem dX2_endAttempt_65 : decode cX2_endAttempt 65 = .ok (.iload_n 2, 1) := by decide +kernel
theorem dX2_endAttempt_66 : decode cX2_endAttempt 66 = .ok (.invokevirtual 122, 3) := by decide +kernel
theorem dX2_endAttempt_69 : decode cX2_endAttempt 69 = .ok (.return_, 1) := by decide +kernel
theorem dX2_endAttempt_70 : decode cX2_endAttempt 70 = .ok (.aload_n 0, 1) := by decide +kernel
theorem dX2_endAttempt_71 : decode cX2_endAttempt 71 = .ok (.getfield 56, 3) := by decide +kernel
theorem dX2_endAttempt_74 : decode cX2_endAttempt 74 = .ok (.iconst 1, 1) := by decide +kernel
theorem dX2_endAttempt_75 : decode cX2_endAttempt 75 = .ok (.iload_n 2, 1) := by decide +kernel
theorem dX2_endAttempt_76 : decode cX2_endAttempt 76 = .ok (.invokevirtual 122, 3) := by decide +kernel
theorem dX2_endAttempt_79 : decode cX2_endAttempt 79 = .ok (.aload_n 0, 1) := by decide +kernel
theorem dX2_endAttempt_80 : decode cX2_endAttempt 80 = .ok (.getfield 37, 3) := by decide +kernel
theorem dX2_endAttempt_83 : decode cX2_endAttempt 83 = .ok (.iload_n 1, 1) := by decide +kernel
theorem dX2_endAttempt_84 : decode cX2_endAttempt 84 = .ok (.iaload, 1) := by decide +kernel
theorem dX2_endAttempt_85 : decode cX2_endAttempt 85 = .ok (.aload_n 0, 1) := by decide +kernel
theorem dX2_endAttempt_86 : decode cX2_endAttempt 86 = .ok (.getfield 47, 3) := by decide +kernel
theorem dX2_endAttempt_89 : decode cX2_endAttempt 89 = .ok (.getfield 197, 3) := by decide +kernel
theorem dX2_endAttempt_92 : decode cX2_endAttempt 92 = .ok (.iload_n 1, 1) := by decide +kernel
theorem dX2_endAttempt_93 : decode cX2_endAttempt 93 = .ok (.iaload, 1) := by decide +kernel
theorem dX2_endAttempt_94 : decode cX2_endAttempt 94 = .ok (.if_icmp .le 11, 3) := by decide +kernel
theorem dX2_endAttempt_97 : decode cX2_endAttempt 97 = .ok (.aload_n 0, 1) := by decide +kernel
theorem dX2_endAttempt_98 : decode cX2_endAttempt 98 = .ok (.getfield 22, 3) := by decide +kernel
theorem dX2_endAttempt_101 : decode cX2_endAttempt 101 = .ok (.iload_n 1, 1) := by decide +kernel
theorem dX2_endAttempt_102 : decode cX2_endAttempt 102 = .ok (.iconst 5, 1) := by decide +kernel
theorem dX2_endAttempt_103 : decode cX2_endAttempt 103 = .ok (.iastore, 1) := by decide +kernel
theorem dX2_endAttempt_104 : decode cX2_endAttempt 104 = .ok (.return_, 1) := by decide +kernel
theorem dX2_endAttempt_105 : decode cX2_endAttempt 105 = .ok (.aload_n 0, 1) := by decide +kernel
theorem dX2_endAttempt_106 : decode cX2_endAttempt 106 = .ok (.getfield 22, 3) := by decide +kernel
theorem dX2_endAttempt_109 : decode cX2_endAttempt 109 = .ok (.iload_n 1, 1) := by decide +kernel
theorem dX2_endAttempt_110 : decode cX2_endAttempt 110 = .ok (.iconst 2, 1) := by decide +kernel
theorem dX2_endAttempt_111 : decode cX2_endAttempt 111 = .ok (.iastore, 1) := by decide +kernel
theorem dX2_endAttempt_112 : decode cX2_endAttempt 112 = .ok (.aload_n 0, 1) := by decide +kernel
theorem dX2_endAttempt_113 : decode cX2_endAttempt 113 = .ok (.getfield 34, 3) := by decide +kernel
theorem dX2_endAttempt_116 : decode cX2_endAttempt 116 = .ok (.iload_n 1, 1) := by decide +kernel
theorem dX2_endAttempt_117 : decode cX2_endAttempt 117 = .ok (.dup2, 1) := by decide +kernel
theorem dX2_endAttempt_118 : decode cX2_endAttempt 118 = .ok (.iaload, 1) := by decide +kernel
theorem dX2_endAttempt_119 : decode cX2_endAttempt 119 = .ok (.aload_n 0, 1) := by decide +kernel
theorem dX2_endAttempt_120 : decode cX2_endAttempt 120 = .ok (.getfield 47, 3) := by decide +kernel
theorem dX2_endAttempt_123 : decode cX2_endAttempt 123 = .ok (.getfield 150, 3) := by decide +kernel
theorem dX2_endAttempt_126 : decode cX2_endAttempt 126 = .ok (.iload_n 1, 1) := by decide +kernel
theorem dX2_endAttempt_127 : decode cX2_endAttempt 127 = .ok (.iaload, 1) := by decide +kernel
theorem dX2_endAttempt_128 : decode cX2_endAttempt 128 = .ok (.aload_n 0, 1) := by decide +kernel
theorem dX2_endAttempt_129 : decode cX2_endAttempt 129 = .ok (.getfield 37, 3) := by decide +kernel
theorem dX2_endAttempt_132 : decode cX2_endAttempt 132 = .ok (.iload_n 1, 1) := by decide +kernel
theorem dX2_endAttempt_133 : decode cX2_endAttempt 133 = .ok (.iaload, 1) := by decide +kernel
theorem dX2_endAttempt_134 : decode cX2_endAttempt 134 = .ok (.iconst 1, 1) := by decide +kernel
theorem dX2_endAttempt_135 : decode cX2_endAttempt 135 = .ok (.isub, 1) := by decide +kernel
theorem dX2_endAttempt_136 : decode cX2_endAttempt 136 = .ok (.ishl, 1) := by decide +kernel
theorem dX2_endAttempt_137 : decode cX2_endAttempt 137 = .ok (.iadd, 1) := by decide +kernel
theorem dX2_endAttempt_138 : decode cX2_endAttempt 138 = .ok (.iastore, 1) := by decide +kernel
theorem dX2_endAttempt_139 : decode cX2_endAttempt 139 = .ok (.return_, 1) := by decide +kernel
theorem dX2_lookAtWait_0 : decode cX2_lookAtWait 0 = .ok (.aload_n 0, 1) := by decide +kernel
theorem dX2_lookAtWait_1 : decode cX2_lookAtWait 1 = .ok (.getfield 34, 3) := by decide +kernel
theorem dX2_lookAtWait_4 : decode cX2_lookAtWait 4 = .ok (.iload_n 1, 1) := by decide +kernel
theorem dX2_lookAtWait_5 : decode cX2_lookAtWait 5 = .ok (.iaload, 1) := by decide +kernel
theorem dX2_lookAtWait_6 : decode cX2_lookAtWait 6 = .ok (.aload_n 0, 1) := by decide +kernel
theorem dX2_lookAtWait_7 : decode cX2_lookAtWait 7 = .ok (.getfield 43, 3) := by decide +kernel
theorem dX2_lookAtWait_10 : decode cX2_lookAtWait 10 = .ok (.getfield 83, 3) := by decide +kernel
theorem dX2_lookAtWait_13 : decode cX2_lookAtWait 13 = .ok (.if_icmp .gt 10, 3) := by decide +kernel
theorem dX2_lookAtWait_16 : decode cX2_lookAtWait 16 = .ok (.aload_n 0, 1) := by decide +kernel
theorem dX2_lookAtWait_17 : decode cX2_lookAtWait 17 = .ok (.getfield 22, 3) := by decide +kernel
theorem dX2_lookAtWait_20 : decode cX2_lookAtWait 20 = .ok (.iload_n 1, 1) := by decide +kernel
theorem dX2_lookAtWait_21 : decode cX2_lookAtWait 21 = .ok (.iconst 4, 1) := by decide +kernel
theorem dX2_lookAtWait_22 : decode cX2_lookAtWait 22 = .ok (.iastore, 1) := by decide +kernel
theorem dX2_lookAtWait_23 : decode cX2_lookAtWait 23 = .ok (.return_, 1) := by decide +kernel
theorem dX2_lookAtSignal_0 : decode cX2_lookAtSignal 0 = .ok (.aload_n 0, 1) := by decide +kernel
theorem dX2_lookAtSignal_1 : decode cX2_lookAtSignal 1 = .ok (.getfield 47, 3) := by decide +kernel
theorem dX2_lookAtSignal_4 : decode cX2_lookAtSignal 4 = .ok (.getfield 167, 3) := by decide +kernel
theorem dX2_lookAtSignal_7 : decode cX2_lookAtSignal 7 = .ok (.iload_n 1, 1) := by decide +kernel
theorem dX2_lookAtSignal_8 : decode cX2_lookAtSignal 8 = .ok (.iaload, 1) := by decide +kernel
theorem dX2_lookAtSignal_9 : decode cX2_lookAtSignal 9 = .ok (.istore_n 2, 1) := by decide +kernel
theorem dX2_lookAtSignal_10 : decode cX2_lookAtSignal 10 = .ok (.iload_n 2, 1) := by decide +kernel
theorem dX2_lookAtSignal_11 : decode cX2_lookAtSignal 11 = .ok (.bipush 8, 2) := by decide +kernel
theorem dX2_lookAtSignal_13 : decode cX2_lookAtSignal 13 = .ok (.invokestatic 125, 3) := by decide +kernel
theorem dX2_lookAtSignal_16 : decode cX2_lookAtSignal 16 = .ok (.ifCond .eq 41, 3) := by decide +kernel
theorem dX2_lookAtSignal_19 : decode cX2_lookAtSignal 19 = .ok (.aload_n 0, 1) := by decide +kernel
theorem dX2_lookAtSignal_20 : decode cX2_lookAtSignal 20 = .ok (.getfield 19, 3) := by decide +kernel
theorem dX2_lookAtSignal_23 : decode cX2_lookAtSignal 23 = .ok (.iload_n 2, 1) := by decide +kernel
theorem dX2_lookAtSignal_24 : decode cX2_lookAtSignal 24 = .ok (.iaload, 1) := by decide +kernel
theorem dX2_lookAtSignal_25 : decode cX2_lookAtSignal 25 = .ok (.ifCond .le 32, 3) := by decide +kernel
theorem dX2_lookAtSignal_28 : decode cX2_lookAtSignal 28 = .ok (.aload_n 0, 1) := by decide +kernel
theorem dX2_lookAtSignal_29 : decode cX2_lookAtSignal 29 = .ok (.getfield 19, 3) := by decide +kernel
theorem dX2_lookAtSignal_32 : decode cX2_lookAtSignal 32 = .ok (.iload_n 2, 1) := by decide +kernel
theorem dX2_lookAtSignal_33 : decode cX2_lookAtSignal 33 = .ok (.dup2, 1) := by decide +kernel
theorem dX2_lookAtSignal_34 : decode cX2_lookAtSignal 34 = .ok (.iaload, 1) := by decide +kernel
theorem dX2_lookAtSignal_35 : decode cX2_lookAtSignal 35 = .ok (.iconst 1, 1) := by decide +kernel
theorem dX2_lookAtSignal_36 : decode cX2_lookAtSignal 36 = .ok (.isub, 1) := by decide +kernel
theorem dX2_lookAtSignal_37 : decode cX2_lookAtSignal 37 = .ok (.iastore, 1) := by decide +kernel
theorem dX2_lookAtSignal_38 : decode cX2_lookAtSignal 38 = .ok (.aload_n 0, 1) := by decide +kernel
theorem dX2_lookAtSignal_39 : decode cX2_lookAtSignal 39 = .ok (.getfield 22, 3) := by decide +kernel
theorem dX2_lookAtSignal_42 : decode cX2_lookAtSignal 42 = .ok (.iload_n 1, 1) := by decide +kernel
theorem dX2_lookAtSignal_43 : decode cX2_lookAtSignal 43 = .ok (.iconst 4, 1) := by decide +kernel
theorem dX2_lookAtSignal_44 : decode cX2_lookAtSignal 44 = .ok (.iastore, 1) := by decide +kernel
theorem dX2_lookAtSignal_45 : decode cX2_lookAtSignal 45 = .ok (.aload_n 0, 1) := by decide +kernel
theorem dX2_lookAtSignal_46 : decode cX2_lookAtSignal 46 = .ok (.getfield 56, 3) := by decide +kernel
theorem dX2_lookAtSignal_49 : decode cX2_lookAtSignal 49 = .ok (.iconst 3, 1) := by decide +kernel
theorem dX2_lookAtSignal_50 : decode cX2_lookAtSignal 50 = .ok (.iload_n 2, 1) := by decide +kernel
theorem dX2_lookAtSignal_51 : decode cX2_lookAtSignal 51 = .ok (.invokevirtual 122, 3) := by decide +kernel
theorem dX2_lookAtSignal_54 : decode cX2_lookAtSignal 54 = .ok (.goto 35, 3) := by decide +kernel
theorem dX2_lookAtSignal_57 : decode cX2_lookAtSignal 57 = .ok (.aload_n 0, 1) := by decide +kernel
theorem dX2_lookAtSignal_58 : decode cX2_lookAtSignal 58 = .ok (.getfield 34, 3) := by decide +kernel
theorem dX2_lookAtSignal_61 : decode cX2_lookAtSignal 61 = .ok (.iload_n 1, 1) := by decide +kernel
theorem dX2_lookAtSignal_62 : decode cX2_lookAtSignal 62 = .ok (.iaload, 1) := by decide +kernel
theorem dX2_lookAtSignal_63 : decode cX2_lookAtSignal 63 = .ok (.aload_n 0, 1) := by decide +kernel
theorem dX2_lookAtSignal_64 : decode cX2_lookAtSignal 64 = .ok (.getfield 43, 3) := by decide +kernel
theorem dX2_lookAtSignal_67 : decode cX2_lookAtSignal 67 = .ok (.getfield 83, 3) := by decide +kernel
theorem dX2_lookAtSignal_70 : decode cX2_lookAtSignal 70 = .ok (.if_icmp .gt 19, 3) := by decide +kernel
theorem dX2_lookAtSignal_73 : decode cX2_lookAtSignal 73 = .ok (.aload_n 0, 1) := by decide +kernel
theorem dX2_lookAtSignal_74 : decode cX2_lookAtSignal 74 = .ok (.getfield 22, 3) := by decide +kernel
theorem dX2_lookAtSignal_77 : decode cX2_lookAtSignal 77 = .ok (.iload_n 1, 1) := by decide +kernel
theorem dX2_lookAtSignal_78 : decode cX2_lookAtSignal 78 = .ok (.iconst 5, 1) := by decide +kernel
theorem dX2_lookAtSignal_79 : decode cX2_lookAtSignal 79 = .ok (.iastore, 1) := by decide +kernel
theorem dX2_lookAtSignal_80 : decode cX2_lookAtSignal 80 = .ok (.aload_n 0, 1) := by decide +kernel
theorem dX2_lookAtSignal_81 : decode cX2_lookAtSignal 81 = .ok (.getfield 56, 3) := by decide +kernel
theorem dX2_lookAtSignal_84 : decode cX2_lookAtSignal 84 = .ok (.iconst 4, 1) := by decide +kernel
theorem dX2_lookAtSignal_85 : decode cX2_lookAtSignal 85 = .ok (.iload_n 2, 1) := by decide +kernel
theorem dX2_lookAtSignal_86 : decode cX2_lookAtSignal 86 = .ok (.invokevirtual 122, 3) := by decide +kernel
theorem dX2_lookAtSignal_89 : decode cX2_lookAtSignal 89 = .ok (.return_, 1) := by decide +kernel
theorem dX2_changeVariable_0 : decode cX2_changeVariable 0 = .ok (.aload_n 0, 1) := by decide +kernel
theorem dX2_changeVariable_1 : decode cX2_changeVariable 1 = .ok (.getfield 47, 3) := by decide +kernel
theorem dX2_changeVariable_4 : decode cX2_changeVariable 4 = .ok (.getfield 167, 3) := by decide +kernel
theorem dX2_changeVariable_7 : decode cX2_changeVariable 7 = .ok (.iload_n 1, 1) := by decide +kernel
theorem dX2_changeVariable_8 : decode cX2_changeVariable 8 = .ok (.iaload, 1) := by decide +kernel
theorem dX2_changeVariable_9 : decode cX2_changeVariable 9 = .ok (.istore_n 2, 1) := by decide +kernel
theorem dX2_changeVariable_10 : decode cX2_changeVariable 10 = .ok (.iload_n 2, 1) := by decide +kernel
theorem dX2_changeVariable_11 : decode cX2_changeVariable 11 = .ok (.iconst 4, 1) := by decide +kernel
theorem dX2_changeVariable_12 : decode cX2_changeVariable 12 = .ok (.invokestatic 125, 3) := by decide +kernel
theorem dX2_changeVariable_15 : decode cX2_changeVariable 15 = .ok (.ifCond .eq 54, 3) := by decide +kernel
theorem dX2_changeVariable_18 : decode cX2_changeVariable 18 = .ok (.aload_n 0, 1) := by decide +kernel
theorem dX2_changeVariable_19 : decode cX2_changeVariable 19 = .ok (.getfield 47, 3) := by decide +kernel
theorem dX2_changeVariable_22 : decode cX2_changeVariable 22 = .ok (.getfield 197, 3) := by decide +kernel
theorem dX2_changeVariable_25 : decode cX2_changeVariable 25 = .ok (.iload_n 1, 1) := by decide +kernel
theorem dX2_changeVariable_26 : decode cX2_changeVariable 26 = .ok (.iaload, 1) := by decide +kernel
theorem dX2_changeVariable_27 : decode cX2_changeVariable 27 = .ok (.iconst 1, 1) := by decide +kernel
theorem dX2_changeVariable_28 : decode cX2_changeVariable 28 = .ok (.if_icmp .ne 12, 3) := by decide +kernel
theorem dX2_changeVariable_31 : decode cX2_changeVariable 31 = .ok (.aload_n 0, 1) := by decide +kernel
theorem dX2_changeVariable_32 : decode cX2_changeVariable 32 = .ok (.getfield 15, 3) := by decide +kernel
theorem dX2_changeVariable_35 : decode cX2_changeVariable 35 = .ok (.iload_n 2, 1) := by decide +kernel
theorem dX2_changeVariable_36 : decode cX2_changeVariable 36 = .ok (.iaload, 1) := by decide +kernel
theorem dX2_changeVariable_37 : decode cX2_changeVariable 37 = .ok (.goto 4, 3) := by decide +kernel
theorem dX2_changeVariable_40 : decode cX2_changeVariable 40 = .ok (.iconst 0, 1) := by decide +kernel
theorem dX2_changeVariable_41 : decode cX2_changeVariable 41 = .ok (.istore_n 3, 1) := by decide +kernel
theorem dX2_changeVariable_42 : decode cX2_changeVariable 42 = .ok (.aload_n 0, 1) := by decide +kernel
theorem dX2_changeVariable_43 : decode cX2_changeVariable 43 = .ok (.getfield 15, 3) := by decide +kernel
theorem dX2_changeVariable_46 : decode cX2_changeVariable 46 = .ok (.iload_n 2, 1) := by decide +kernel
theorem dX2_changeVariable_47 : decode cX2_changeVariable 47 = .ok (.iload_n 3, 1) := by decide +kernel
theorem dX2_changeVariable_48 : decode cX2_changeVariable 48 = .ok (.aload_n 0, 1) := by decide +kernel
theorem dX2_changeVariable_49 : decode cX2_changeVariable 49 = .ok (.getfield 47, 3) := by decide +kernel
theorem dX2_changeVariable_52 : decode cX2_changeVariable 52 = .ok (.getfield 150, 3) := by decide +kernel
theorem dX2_changeVariable_55 : decode cX2_changeVariable 55 = .ok (.iload_n 1, 1) := by decide +kernel
theorem dX2_changeVariable_56 : decode cX2_changeVariable 56 = .ok (.iaload, 1) := by decide +kernel
theorem dX2_changeVariable_57 : decode cX2_changeVariable 57 = .ok (.iadd, 1) := by decide +kernel
theorem dX2_changeVariable_58 : decode cX2_changeVariable 58 = .ok (.iastore, 1) := by decide +kernel
theorem dX2_changeVariable_59 : decode cX2_changeVariable 59 = .ok (.aload_n 0, 1) := by decide +kernel
theorem dX2_changeVariable_60 : decode cX2_changeVariable 60 = .ok (.getfield 56, 3) := by decide +kernel
theorem dX2_changeVariable_63 : decode cX2_changeVariable 63 = .ok (.bipush 8, 2) := by decide +kernel
theorem dX2_changeVariable_65 : decode cX2_changeVariable 65 = .ok (.iload_n 2, 1) := by decide +kernel
theorem dX2_changeVariable_66 : decode cX2_changeVariable 66 = .ok (.invokevirtual 122, 3) := by decide +kernel
theorem dX2_changeVariable_69 : decode cX2_changeVariable 69 = .ok (.aload_n 0, 1) := by decide +kernel
theorem dX2_changeVariable_70 : decode cX2_changeVariable 70 = .ok (.getfield 22, 3) := by decide +kernel
theorem dX2_changeVariable_73 : decode cX2_changeVariable 73 = .ok (.iload_n 1, 1) := by decide +kernel
theorem dX2_changeVariable_74 : decode cX2_changeVariable 74 = .ok (.iconst 4, 1) := by decide +kernel
theorem dX2_changeVariable_75 : decode cX2_changeVariable 75 = .ok (.iastore, 1) := by decide +kernel
theorem dX2_changeVariable_76 : decode cX2_changeVariable 76 = .ok (.return_, 1) := by decide +kernel
theorem dX2_chosenBody_0 : decode cX2_chosenBody 0 = .ok (.aload_n 0, 1) := by decide +kernel
theorem dX2_chosenBody_1 : decode cX2_chosenBody 1 = .ok (.getfield 47, 3) := by decide +kernel
theorem dX2_chosenBody_4 : decode cX2_chosenBody 4 = .ok (.getfield 167, 3) := by decide +kernel
theorem dX2_chosenBody_7 : decode cX2_chosenBody 7 = .ok (.iload_n 1, 1) := by decide +kernel
theorem dX2_chosenBody_8 : decode cX2_chosenBody 8 = .ok (.iaload, 1) := by decide +kernel
theorem dX2_chosenBody_9 : decode cX2_chosenBody 9 = .ok (.istore_n 2, 1) := by decide +kernel
theorem dX2_chosenBody_10 : decode cX2_chosenBody 10 = .ok (.iload_n 2, 1) := by decide +kernel
theorem dX2_chosenBody_11 : decode cX2_chosenBody 11 = .ok (.iconst 4, 1) := by decide +kernel
theorem dX2_chosenBody_12 : decode cX2_chosenBody 12 = .ok (.invokestatic 125, 3) := by decide +kernel
theorem dX2_chosenBody_15 : decode cX2_chosenBody 15 = .ok (.ifCond .eq 25, 3) := by decide +kernel
theorem dX2_chosenBody_18 : decode cX2_chosenBody 18 = .ok (.aload_n 0, 1) := by decide +kernel
theorem dX2_chosenBody_19 : decode cX2_chosenBody 19 = .ok (.getfield 15, 3) := by decide +kernel
theorem dX2_chosenBody_22 : decode cX2_chosenBody 22 = .ok (.iload_n 2, 1) := by decide +kernel
theorem dX2_chosenBody_23 : decode cX2_chosenBody 23 = .ok (.iaload, 1) := by decide +kernel
theorem dX2_chosenBody_24 : decode cX2_chosenBody 24 = .ok (.aload_n 0, 1) := by decide +kernel
theorem dX2_chosenBody_25 : decode cX2_chosenBody 25 = .ok (.getfield 47, 3) := by decide +kernel
theorem dX2_chosenBody_28 : decode cX2_chosenBody 28 = .ok (.getfield 150, 3) := by decide +kernel
theorem dX2_chosenBody_31 : decode cX2_chosenBody 31 = .ok (.iload_n 1, 1) := by decide +kernel
theorem dX2_chosenBody_32 : decode cX2_chosenBody 32 = .ok (.iaload, 1) := by decide +kernel
theorem dX2_chosenBody_33 : decode cX2_chosenBody 33 = .ok (.if_icmp .ge 7, 3) := by decide +kernel
theorem dX2_chosenBody_36 : decode cX2_chosenBody 36 = .ok (.iconst 1, 1) := by decide +kernel
theorem dX2_chosenBody_37 : decode cX2_chosenBody 37 = .ok (.goto 4, 3) := by decide +kernel
theorem dX2_chosenBody_40 : decode cX2_chosenBody 40 = .ok (.iconst 0, 1) := by decide +kernel
theorem dX2_chosenBody_41 : decode cX2_chosenBody 41 = .ok (.istore_n 3, 1) := by decide +kernel
theorem dX2_chosenBody_42 : decode cX2_chosenBody 42 = .ok (.aload_n 0, 1) := by decide +kernel
theorem dX2_chosenBody_43 : decode cX2_chosenBody 43 = .ok (.getfield 47, 3) := by decide +kernel
theorem dX2_chosenBody_46 : decode cX2_chosenBody 46 = .ok (.iload_n 1, 1) := by decide +kernel
theorem dX2_chosenBody_47 : decode cX2_chosenBody 47 = .ok (.iload_n 3, 1) := by decide +kernel
theorem dX2_chosenBody_48 : decode cX2_chosenBody 48 = .ok (.ifCond .eq 7, 3) := by decide +kernel
theorem dX2_chosenBody_51 : decode cX2_chosenBody 51 = .ok (.iconst 0, 1) := by decide +kernel
theorem dX2_chosenBody_52 : decode cX2_chosenBody 52 = .ok (.goto 4, 3) := by decide +kernel
theorem dX2_chosenBody_55 : decode cX2_chosenBody 55 = .ok (.iconst 1, 1) := by decide +kernel
theorem dX2_chosenBody_56 : decode cX2_chosenBody 56 = .ok (.invokevirtual 163, 3) := by decide +kernel
theorem dX2_chosenBody_59 : decode cX2_chosenBody 59 = .ok (.ireturn, 1) := by decide +kernel
theorem dX2_lookAtChoice_0 : decode cX2_lookAtChoice 0 = .ok (.iconst 0, 1) := by decide +kernel
theorem dX2_lookAtChoice_1 : decode cX2_lookAtChoice 1 = .ok (.istore_n 3, 1) := by decide +kernel
theorem dX2_lookAtChoice_2 : decode cX2_lookAtChoice 2 = .ok (.iload_n 3, 1) := by decide +kernel
theorem dX2_lookAtChoice_3 : decode cX2_lookAtChoice 3 = .ok (.iconst 4, 1) := by decide +kernel
theorem dX2_lookAtChoice_4 : decode cX2_lookAtChoice 4 = .ok (.if_icmp .ge 60, 3) := by decide +kernel
theorem dX2_lookAtChoice_7 : decode cX2_lookAtChoice 7 = .ok (.aload_n 0, 1) := by decide +kernel
theorem dX2_lookAtChoice_8 : decode cX2_lookAtChoice 8 = .ok (.getfield 47, 3) := by decide +kernel
theorem dX2_lookAtChoice_11 : decode cX2_lookAtChoice 11 = .ok (.iload_n 1, 1) := by decide +kernel
theorem dX2_lookAtChoice_12 : decode cX2_lookAtChoice 12 = .ok (.iload_n 3, 1) := by decide +kernel
theorem dX2_lookAtChoice_13 : decode cX2_lookAtChoice 13 = .ok (.invokevirtual 163, 3) := by decide +kernel
theorem dX2_lookAtChoice_16 : decode cX2_lookAtChoice 16 = .ok (.istore 4, 2) := by decide +kernel
theorem dX2_lookAtChoice_18 : decode cX2_lookAtChoice 18 = .ok (.iload 4, 2) := by decide +kernel
theorem dX2_lookAtChoice_20 : decode cX2_lookAtChoice 20 = .ok (.bipush 24, 2) := by decide +kernel
theorem dX2_lookAtChoice_22 : decode cX2_lookAtChoice 22 = .ok (.invokestatic 125, 3) := by decide +kernel
theorem dX2_lookAtChoice_25 : decode cX2_lookAtChoice 25 = .ok (.ifCond .eq 33, 3) := by decide +kernel
theorem dX2_lookAtChoice_28 : decode cX2_lookAtChoice 28 = .ok (.aload_n 0, 1) := by decide +kernel
theorem dX2_lookAtChoice_29 : decode cX2_lookAtChoice 29 = .ok (.getfield 25, 3) := by decide +kernel
theorem dX2_lookAtChoice_32 : decode cX2_lookAtChoice 32 = .ok (.iload 4, 2) := by decide +kernel
theorem dX2_lookAtChoice_34 : decode cX2_lookAtChoice 34 = .ok (.iaload, 1) := by decide +kernel
theorem dX2_lookAtChoice_35 : decode cX2_lookAtChoice 35 = .ok (.ifCond .eq 23, 3) := by decide +kernel
theorem dX2_lookAtChoice_38 : decode cX2_lookAtChoice 38 = .ok (.aload_n 0, 1) := by decide +kernel
theorem dX2_lookAtChoice_39 : decode cX2_lookAtChoice 39 = .ok (.iload 4, 2) := by decide +kernel
theorem dX2_lookAtChoice_41 : decode cX2_lookAtChoice 41 = .ok (.iload_n 2, 1) := by decide +kernel
theorem dX2_lookAtChoice_42 : decode cX2_lookAtChoice 42 = .ok (.invokevirtual 104, 3) := by decide +kernel
theorem dX2_lookAtChoice_45 : decode cX2_lookAtChoice 45 = .ok (.aload_n 0, 1) := by decide +kernel
theorem dX2_lookAtChoice_46 : decode cX2_lookAtChoice 46 = .ok (.getfield 22, 3) := by decide +kernel
theorem dX2_lookAtChoice_49 : decode cX2_lookAtChoice 49 = .ok (.iload_n 1, 1) := by decide +kernel
theorem dX2_lookAtChoice_50 : decode cX2_lookAtChoice 50 = .ok (.aload_n 0, 1) := by decide +kernel
theorem dX2_lookAtChoice_51 : decode cX2_lookAtChoice 51 = .ok (.getfield 25, 3) := by decide +kernel
theorem dX2_lookAtChoice_54 : decode cX2_lookAtChoice 54 = .ok (.iload 4, 2) := by decide +kernel
theorem dX2_lookAtChoice_56 : decode cX2_lookAtChoice 56 = .ok (.iaload, 1) := by decide +kernel
theorem dX2_lookAtChoice_57 : decode cX2_lookAtChoice 57 = .ok (.iastore, 1) := by decide +kernel
theorem dX2_lookAtChoice_58 : decode cX2_lookAtChoice 58 = .ok (.iinc 3 1, 3) := by decide +kernel
theorem dX2_lookAtChoice_61 : decode cX2_lookAtChoice 61 = .ok (.goto (-59), 3) := by decide +kernel
theorem dX2_lookAtChoice_64 : decode cX2_lookAtChoice 64 = .ok (.return_, 1) := by decide +kernel
theorem dX2_lookAtParallel_0 : decode cX2_lookAtParallel 0 = .ok (.aload_n 0, 1) := by decide +kernel
theorem dX2_lookAtParallel_1 : decode cX2_lookAtParallel 1 = .ok (.getfield 22, 3) := by decide +kernel
theorem dX2_lookAtParallel_4 : decode cX2_lookAtParallel 4 = .ok (.iload_n 1, 1) := by decide +kernel
theorem dX2_lookAtParallel_5 : decode cX2_lookAtParallel 5 = .ok (.iaload, 1) := by decide +kernel
theorem dX2_lookAtParallel_6 : decode cX2_lookAtParallel 6 = .ok (.iconst 1, 1) := by decide +kernel
theorem dX2_lookAtParallel_7 : decode cX2_lookAtParallel 7 = .ok (.if_icmp .ne 35, 3) := by decide +kernel
theorem dX2_lookAtParallel_10 : decode cX2_lookAtParallel 10 = .ok (.iconst 0, 1) := by decide +kernel
theorem dX2_lookAtParallel_11 : decode cX2_lookAtParallel 11 = .ok (.istore_n 3, 1) := by decide +kernel
theorem dX2_lookAtParallel_12 : decode cX2_lookAtParallel 12 = .ok (.iload_n 3, 1) := by decide +kernel
theorem dX2_lookAtParallel_13 : decode cX2_lookAtParallel 13 = .ok (.iconst 4, 1) := by decide +kernel
theorem dX2_lookAtParallel_14 : decode cX2_lookAtParallel 14 = .ok (.if_icmp .ge 23, 3) := by decide +kernel
theorem dX2_lookAtParallel_17 : decode cX2_lookAtParallel 17 = .ok (.aload_n 0, 1) := by decide +kernel
theorem dX2_lookAtParallel_18 : decode cX2_lookAtParallel 18 = .ok (.aload_n 0, 1) := by decide +kernel
theorem dX2_lookAtParallel_19 : decode cX2_lookAtParallel 19 = .ok (.getfield 47, 3) := by decide +kernel
theorem dX2_lookAtParallel_22 : decode cX2_lookAtParallel 22 = .ok (.iload_n 1, 1) := by decide +kernel
theorem dX2_lookAtParallel_23 : decode cX2_lookAtParallel 23 = .ok (.iload_n 3, 1) := by decide +kernel
theorem dX2_lookAtParallel_24 : decode cX2_lookAtParallel 24 = .ok (.invokevirtual 163, 3) := by decide +kernel
theorem dX2_lookAtParallel_27 : decode cX2_lookAtParallel 27 = .ok (.iload_n 2, 1) := by decide +kernel
theorem dX2_lookAtParallel_28 : decode cX2_lookAtParallel 28 = .ok (.invokevirtual 104, 3) := by decide +kernel
theorem dX2_lookAtParallel_31 : decode cX2_lookAtParallel 31 = .ok (.iinc 3 1, 3) := by decide +kernel
theorem dX2_lookAtParallel_34 : decode cX2_lookAtParallel 34 = .ok (.goto (-22), 3) := by decide +kernel
theorem dX2_lookAtParallel_37 : decode cX2_lookAtParallel 37 = .ok (.aload_n 0, 1) := by decide +kernel
theorem dX2_lookAtParallel_38 : decode cX2_lookAtParallel 38 = .ok (.iload_n 1, 1) := by decide +kernel
theorem dX2_lookAtParallel_39 : decode cX2_lookAtParallel 39 = .ok (.invokevirtual 200, 3) := by decide +kernel
theorem dX2_lookAtParallel_42 : decode cX2_lookAtParallel 42 = .ok (.aload_n 0, 1) := by decide +kernel
theorem dX2_lookAtParallel_43 : decode cX2_lookAtParallel 43 = .ok (.getfield 22, 3) := by decide +kernel
theorem dX2_lookAtParallel_46 : decode cX2_lookAtParallel 46 = .ok (.iload_n 1, 1) := by decide +kernel
theorem dX2_lookAtParallel_47 : decode cX2_lookAtParallel 47 = .ok (.iaload, 1) := by decide +kernel
theorem dX2_lookAtParallel_48 : decode cX2_lookAtParallel 48 = .ok (.iconst 3, 1) := by decide +kernel
theorem dX2_lookAtParallel_49 : decode cX2_lookAtParallel 49 = .ok (.if_icmp .ne 33, 3) := by decide +kernel
theorem dX2_lookAtParallel_52 : decode cX2_lookAtParallel 52 = .ok (.aload_n 0, 1) := by decide +kernel
theorem dX2_lookAtParallel_53 : decode cX2_lookAtParallel 53 = .ok (.iload_n 1, 1) := by decide +kernel
theorem dX2_lookAtParallel_54 : decode cX2_lookAtParallel 54 = .ok (.invokevirtual 111, 3) := by decide +kernel
theorem dX2_lookAtParallel_57 : decode cX2_lookAtParallel 57 = .ok (.ifCond .eq 25, 3) := by decide +kernel
theorem dX2_lookAtParallel_60 : decode cX2_lookAtParallel 60 = .ok (.aload_n 0, 1) := by decide +kernel
theorem dX2_lookAtParallel_61 : decode cX2_lookAtParallel 61 = .ok (.getfield 22, 3) := by decide +kernel
theorem dX2_lookAtParallel_64 : decode cX2_lookAtParallel 64 = .ok (.iload_n 1, 1) := by decide +kernel
theorem dX2_lookAtParallel_65 : decode cX2_lookAtParallel 65 = .ok (.iconst 4, 1) := by decide +kernel
theorem dX2_lookAtParallel_66 : decode cX2_lookAtParallel 66 = .ok (.iastore, 1) := by decide +kernel
theorem dX2_lookAtParallel_67 : decode cX2_lookAtParallel 67 = .ok (.aload_n 0, 1) := by decide +kernel
theorem dX2_lookAtParallel_68 : decode cX2_lookAtParallel 68 = .ok (.getfield 56, 3) := by decide +kernel
theorem dX2_lookAtParallel_71 : decode cX2_lookAtParallel 71 = .ok (.bipush 9, 2) := by decide +kernel
theorem dX2_lookAtParallel_73 : decode cX2_lookAtParallel 73 = .ok (.aload_n 0, 1) := by decide +kernel
theorem dX2_lookAtParallel_74 : decode cX2_lookAtParallel 74 = .ok (.iload_n 1, 1) := by decide +kernel
theorem dX2_lookAtParallel_75 : decode cX2_lookAtParallel 75 = .ok (.iconst 4, 1) := by decide +kernel
theorem dX2_lookAtParallel_76 : decode cX2_lookAtParallel 76 = .ok (.invokevirtual 203, 3) := by decide +kernel
theorem dX2_lookAtParallel_79 : decode cX2_lookAtParallel 79 = .ok (.invokevirtual 122, 3) := by decide +kernel
theorem dX2_lookAtParallel_82 : decode cX2_lookAtParallel 82 = .ok (.return_, 1) := by decide +kernel
theorem dX2_join_0 : decode cX2_join 0 = .ok (.aload_n 0, 1) := by decide +kernel
theorem dX2_join_1 : decode cX2_join 1 = .ok (.getfield 47, 3) := by decide +kernel
theorem dX2_join_4 : decode cX2_join 4 = .ok (.getfield 197, 3) := by decide +kernel
theorem dX2_join_7 : decode cX2_join 7 = .ok (.iload_n 1, 1) := by decide +kernel
theorem dX2_join_8 : decode cX2_join 8 = .ok (.iaload, 1) := by decide +kernel
theorem dX2_join_9 : decode cX2_join 9 = .ok (.istore_n 2, 1) := by decide +kernel
theorem dX2_join_10 : decode cX2_join 10 = .ok (.aload_n 0, 1) := by decide +kernel
theorem dX2_join_11 : decode cX2_join 11 = .ok (.iload_n 1, 1) := by decide +kernel
theorem dX2_join_12 : decode cX2_join 12 = .ok (.iconst 4, 1) := by decide +kernel
theorem dX2_join_13 : decode cX2_join 13 = .ok (.invokevirtual 203, 3) := by decide +kernel
theorem dX2_join_16 : decode cX2_join 16 = .ok (.istore_n 3, 1) := by decide +kernel
theorem dX2_join_17 : decode cX2_join 17 = .ok (.iload_n 3, 1) := by decide +kernel
theorem dX2_join_18 : decode cX2_join 18 = .ok (.iload_n 2, 1) := by decide +kernel
theorem dX2_join_19 : decode cX2_join 19 = .ok (.if_icmp .ge 16, 3) := by decide +kernel
theorem dX2_join_22 : decode cX2_join 22 = .ok (.iload_n 3, 1) := by decide +kernel
theorem dX2_join_23 : decode cX2_join 23 = .ok (.aload_n 0, 1) := by decide +kernel
theorem dX2_join_24 : decode cX2_join 24 = .ok (.iload_n 1, 1) := by decide +kernel
theorem dX2_join_25 : decode cX2_join 25 = .ok (.iconst 1, 1) := by decide +kernel
theorem dX2_join_26 : decode cX2_join 26 = .ok (.invokevirtual 203, 3) := by decide +kernel
theorem dX2_join_29 : decode cX2_join 29 = .ok (.iadd, 1) := by decide +kernel
theorem dX2_join_30 : decode cX2_join 30 = .ok (.iload_n 2, 1) := by decide +kernel
theorem dX2_join_31 : decode cX2_join 31 = .ok (.if_icmp .lt 4, 3) := by decide +kernel
theorem dX2_join_34 : decode cX2_join 34 = .ok (.return_, 1) := by decide +kernel
theorem dX2_join_35 : decode cX2_join 35 = .ok (.aload_n 0, 1) := by decide +kernel
theorem dX2_join_36 : decode cX2_join 36 = .ok (.iload_n 1, 1) := by decide +kernel
theorem dX2_join_37 : decode cX2_join 37 = .ok (.invokevirtual 206, 3) := by decide +kernel
theorem dX2_join_40 : decode cX2_join 40 = .ok (.aload_n 0, 1) := by decide +kernel
theorem dX2_join_41 : decode cX2_join 41 = .ok (.getfield 22, 3) := by decide +kernel
theorem dX2_join_44 : decode cX2_join 44 = .ok (.iload_n 1, 1) := by decide +kernel
theorem dX2_join_45 : decode cX2_join 45 = .ok (.iload_n 3, 1) := by decide +kernel
theorem dX2_join_46 : decode cX2_join 46 = .ok (.iload_n 2, 1) := by decide +kernel
theorem dX2_join_47 : decode cX2_join 47 = .ok (.if_icmp .lt 7, 3) := by decide +kernel
theorem dX2_join_50 : decode cX2_join 50 = .ok (.iconst 3, 1) := by decide +kernel
theorem dX2_join_51 : decode cX2_join 51 = .ok (.goto 4, 3) := by decide +kernel
theorem dX2_join_54 : decode cX2_join 54 = .ok (.iconst 5, 1) := by decide +kernel
theorem dX2_join_55 : decode cX2_join 55 = .ok (.iastore, 1) := by decide +kernel
theorem dX2_join_56 : decode cX2_join 56 = .ok (.aload_n 0, 1) := by decide +kernel
theorem dX2_join_57 : decode cX2_join 57 = .ok (.getfield 40, 3) := by decide +kernel
theorem dX2_join_60 : decode cX2_join 60 = .ok (.iload_n 1, 1) := by decide +kernel
theorem dX2_join_61 : decode cX2_join 61 = .ok (.iconst (-1), 1) := by decide +kernel
theorem dX2_join_62 : decode cX2_join 62 = .ok (.iastore, 1) := by decide +kernel
theorem dX2_join_63 : decode cX2_join 63 = .ok (.return_, 1) := by decide +kernel
theorem dX2_bodiesWith_0 : decode cX2_bodiesWith 0 = .ok (.iconst 0, 1) := by decide +kernel
theorem dX2_bodiesWith_1 : decode cX2_bodiesWith 1 = .ok (.istore_n 3, 1) := by decide +kernel
theorem dX2_bodiesWith_2 : decode cX2_bodiesWith 2 = .ok (.iconst 0, 1) := by decide +kernel
theorem dX2_bodiesWith_3 : decode cX2_bodiesWith 3 = .ok (.istore 4, 2) := by decide +kernel
theorem dX2_bodiesWith_5 : decode cX2_bodiesWith 5 = .ok (.iload 4, 2) := by decide +kernel
theorem dX2_bodiesWith_7 : decode cX2_bodiesWith 7 = .ok (.iconst 4, 1) := by decide +kernel
theorem dX2_bodiesWith_8 : decode cX2_bodiesWith 8 = .ok (.if_icmp .ge 45, 3) := by decide +kernel
theorem dX2_bodiesWith_11 : decode cX2_bodiesWith 11 = .ok (.aload_n 0, 1) := by decide +kernel
theorem dX2_bodiesWith_12 : decode cX2_bodiesWith 12 = .ok (.getfield 47, 3) := by decide +kernel
theorem dX2_bodiesWith_15 : decode cX2_bodiesWith 15 = .ok (.iload_n 1, 1) := by decide +kernel
theorem dX2_bodiesWith_16 : decode cX2_bodiesWith 16 = .ok (.iload 4, 2) := by decide +kernel
theorem dX2_bodiesWith_18 : decode cX2_bodiesWith 18 = .ok (.invokevirtual 163, 3) := by decide +kernel
theorem dX2_bodiesWith_21 : decode cX2_bodiesWith 21 = .ok (.istore 5, 2) := by decide +kernel
theorem dX2_bodiesWith_23 : decode cX2_bodiesWith 23 = .ok (.iload 5, 2) := by decide +kernel
theorem dX2_bodiesWith_25 : decode cX2_bodiesWith 25 = .ok (.bipush 24, 2) := by decide +kernel
theorem dX2_bodiesWith_27 : decode cX2_bodiesWith 27 = .ok (.invokestatic 125, 3) := by decide +kernel
theorem dX2_bodiesWith_30 : decode cX2_bodiesWith 30 = .ok (.ifCond .eq 17, 3) := by decide +kernel
theorem dX2_bodiesWith_33 : decode cX2_bodiesWith 33 = .ok (.aload_n 0, 1) := by decide +kernel
theorem dX2_bodiesWith_34 : decode cX2_bodiesWith 34 = .ok (.getfield 25, 3) := by decide +kernel
theorem dX2_bodiesWith_37 : decode cX2_bodiesWith 37 = .ok (.iload 5, 2) := by decide +kernel
theorem dX2_bodiesWith_39 : decode cX2_bodiesWith 39 = .ok (.iaload, 1) := by decide +kernel
theorem dX2_bodiesWith_40 : decode cX2_bodiesWith 40 = .ok (.iload_n 2, 1) := by decide +kernel
theorem dX2_bodiesWith_41 : decode cX2_bodiesWith 41 = .ok (.if_icmp .ne 6, 3) := by decide +kernel
theorem dX2_bodiesWith_44 : decode cX2_bodiesWith 44 = .ok (.iinc 3 1, 3) := by decide +kernel
theorem dX2_bodiesWith_47 : decode cX2_bodiesWith 47 = .ok (.iinc 4 1, 3) := by decide +kernel
theorem dX2_bodiesWith_50 : decode cX2_bodiesWith 50 = .ok (.goto (-45), 3) := by decide +kernel
theorem dX2_bodiesWith_53 : decode cX2_bodiesWith 53 = .ok (.iload_n 3, 1) := by decide +kernel
theorem dX2_bodiesWith_54 : decode cX2_bodiesWith 54 = .ok (.ireturn, 1) := by decide +kernel
theorem dX2_cancelBodies_0 : decode cX2_cancelBodies 0 = .ok (.iconst 0, 1) := by decide +kernel
theorem dX2_cancelBodies_1 : decode cX2_cancelBodies 1 = .ok (.istore_n 2, 1) := by decide +kernel
theorem dX2_cancelBodies_2 : decode cX2_cancelBodies 2 = .ok (.iload_n 2, 1) := by decide +kernel
theorem dX2_cancelBodies_3 : decode cX2_cancelBodies 3 = .ok (.iconst 4, 1) := by decide +kernel
theorem dX2_cancelBodies_4 : decode cX2_cancelBodies 4 = .ok (.if_icmp .ge 56, 3) := by decide +kernel
theorem dX2_cancelBodies_7 : decode cX2_cancelBodies 7 = .ok (.aload_n 0, 1) := by decide +kernel
theorem dX2_cancelBodies_8 : decode cX2_cancelBodies 8 = .ok (.getfield 47, 3) := by decide +kernel
theorem dX2_cancelBodies_11 : decode cX2_cancelBodies 11 = .ok (.iload_n 1, 1) := by decide +kernel
theorem dX2_cancelBodies_12 : decode cX2_cancelBodies 12 = .ok (.iload_n 2, 1) := by decide +kernel
theorem dX2_cancelBodies_13 : decode cX2_cancelBodies 13 = .ok (.invokevirtual 163, 3) := by decide +kernel
theorem dX2_cancelBodies_16 : decode cX2_cancelBodies 16 = .ok (.istore_n 3, 1) := by decide +kernel
theorem dX2_cancelBodies_17 : decode cX2_cancelBodies 17 = .ok (.iload_n 3, 1) := by decide +kernel
theorem dX2_cancelBodies_18 : decode cX2_cancelBodies 18 = .ok (.bipush 24, 2) := by decide +kernel
theorem dX2_cancelBodies_20 : decode cX2_cancelBodies 20 = .ok (.invokestatic 125, 3) := by decide +kernel
theorem dX2_cancelBodies_23 : decode cX2_cancelBodies 23 = .ok (.ifCond .eq 31, 3) := by decide +kernel
theorem dX2_cancelBodies_26 : decode cX2_cancelBodies 26 = .ok (.aload_n 0, 1) := by decide +kernel
theorem dX2_cancelBodies_27 : decode cX2_cancelBodies 27 = .ok (.getfield 25, 3) := by decide +kernel
theorem dX2_cancelBodies_30 : decode cX2_cancelBodies 30 = .ok (.iload_n 3, 1) := by decide +kernel
theorem dX2_cancelBodies_31 : decode cX2_cancelBodies 31 = .ok (.iaload, 1) := by decide +kernel
theorem dX2_cancelBodies_32 : decode cX2_cancelBodies 32 = .ok (.iconst 1, 1) := by decide +kernel
theorem dX2_cancelBodies_33 : decode cX2_cancelBodies 33 = .ok (.if_icmp .ne 21, 3) := by decide +kernel
theorem dX2_cancelBodies_36 : decode cX2_cancelBodies 36 = .ok (.aload_n 0, 1) := by decide +kernel
theorem dX2_cancelBodies_37 : decode cX2_cancelBodies 37 = .ok (.getfield 25, 3) := by decide +kernel
theorem dX2_cancelBodies_40 : decode cX2_cancelBodies 40 = .ok (.iload_n 3, 1) := by decide +kernel
theorem dX2_cancelBodies_41 : decode cX2_cancelBodies 41 = .ok (.bipush 6, 2) := by decide +kernel
theorem dX2_cancelBodies_43 : decode cX2_cancelBodies 43 = .ok (.iastore, 1) := by decide +kernel
theorem dX2_cancelBodies_44 : decode cX2_cancelBodies 44 = .ok (.aload_n 0, 1) := by decide +kernel
theorem dX2_cancelBodies_45 : decode cX2_cancelBodies 45 = .ok (.getfield 56, 3) := by decide +kernel
theorem dX2_cancelBodies_48 : decode cX2_cancelBodies 48 = .ok (.bipush 10, 2) := by decide +kernel
theorem dX2_cancelBodies_50 : decode cX2_cancelBodies 50 = .ok (.iload_n 2, 1) := by decide +kernel
theorem dX2_cancelBodies_51 : decode cX2_cancelBodies 51 = .ok (.invokevirtual 122, 3) := by decide +kernel
theorem dX2_cancelBodies_54 : decode cX2_cancelBodies 54 = .ok (.iinc 2 1, 3) := by decide +kernel
theorem dX2_cancelBodies_57 : decode cX2_cancelBodies 57 = .ok (.goto (-55), 3) := by decide +kernel
theorem dX2_cancelBodies_60 : decode cX2_cancelBodies 60 = .ok (.aload_n 0, 1) := by decide +kernel
theorem dX2_cancelBodies_61 : decode cX2_cancelBodies 61 = .ok (.iload_n 1, 1) := by decide +kernel
theorem dX2_cancelBodies_62 : decode cX2_cancelBodies 62 = .ok (.iconst 1, 1) := by decide +kernel
theorem dX2_cancelBodies_63 : decode cX2_cancelBodies 63 = .ok (.iadd, 1) := by decide +kernel
theorem dX2_cancelBodies_64 : decode cX2_cancelBodies 64 = .ok (.aload_n 0, 1) := by decide +kernel
theorem dX2_cancelBodies_65 : decode cX2_cancelBodies 65 = .ok (.getfield 47, 3) := by decide +kernel
theorem dX2_cancelBodies_68 : decode cX2_cancelBodies 68 = .ok (.getfield 209, 3) := by decide +kernel
theorem dX2_cancelBodies_71 : decode cX2_cancelBodies 71 = .ok (.iload_n 1, 1) := by decide +kernel
theorem dX2_cancelBodies_72 : decode cX2_cancelBodies 72 = .ok (.iaload, 1) := by decide +kernel
theorem dX2_cancelBodies_73 : decode cX2_cancelBodies 73 = .ok (.invokevirtual 115, 3) := by decide +kernel
theorem dX2_cancelBodies_76 : decode cX2_cancelBodies 76 = .ok (.return_, 1) := by decide +kernel
theorem dX2_cancel_0 : decode cX2_cancel 0 = .ok (.iload_n 1, 1) := by decide +kernel
theorem dX2_cancel_1 : decode cX2_cancel 1 = .ok (.istore_n 3, 1) := by decide +kernel
theorem dX2_cancel_2 : decode cX2_cancel 2 = .ok (.iload_n 3, 1) := by decide +kernel
theorem dX2_cancel_3 : decode cX2_cancel 3 = .ok (.iload_n 2, 1) := by decide +kernel
theorem dX2_cancel_4 : decode cX2_cancel 4 = .ok (.if_icmp .ge 34, 3) := by decide +kernel
theorem dX2_cancel_7 : decode cX2_cancel 7 = .ok (.iload_n 3, 1) := by decide +kernel
theorem dX2_cancel_8 : decode cX2_cancel 8 = .ok (.bipush 24, 2) := by decide +kernel
theorem dX2_cancel_10 : decode cX2_cancel 10 = .ok (.invokestatic 125, 3) := by decide +kernel
theorem dX2_cancel_13 : decode cX2_cancel 13 = .ok (.ifCond .eq 25, 3) := by decide +kernel
theorem dX2_cancel_16 : decode cX2_cancel 16 = .ok (.aload_n 0, 1) := by decide +kernel
theorem dX2_cancel_17 : decode cX2_cancel 17 = .ok (.iload_n 3, 1) := by decide +kernel
theorem dX2_cancel_18 : decode cX2_cancel 18 = .ok (.invokevirtual 135, 3) := by decide +kernel
theorem dX2_cancel_21 : decode cX2_cancel 21 = .ok (.ifCond .eq 11, 3) := by decide +kernel
theorem dX2_cancel_24 : decode cX2_cancel 24 = .ok (.aload_n 0, 1) := by decide +kernel
theorem dX2_cancel_25 : decode cX2_cancel 25 = .ok (.getfield 22, 3) := by decide +kernel
theorem dX2_cancel_28 : decode cX2_cancel 28 = .ok (.iload_n 3, 1) := by decide +kernel
theorem dX2_cancel_29 : decode cX2_cancel 29 = .ok (.bipush 6, 2) := by decide +kernel
theorem dX2_cancel_31 : decode cX2_cancel 31 = .ok (.iastore, 1) := by decide +kernel
theorem dX2_cancel_32 : decode cX2_cancel 32 = .ok (.iinc 3 1, 3) := by decide +kernel
theorem dX2_cancel_35 : decode cX2_cancel 35 = .ok (.goto (-33), 3) := by decide +kernel
theorem dX2_cancel_38 : decode cX2_cancel 38 = .ok (.return_, 1) := by decide +kernel
theorem dX2_goesOn_0 : decode cX2_goesOn 0 = .ok (.aload_n 0, 1) := by decide +kernel
theorem dX2_goesOn_1 : decode cX2_goesOn 1 = .ok (.getfield 22, 3) := by decide +kernel
theorem dX2_goesOn_4 : decode cX2_goesOn 4 = .ok (.iload_n 1, 1) := by decide +kernel
theorem dX2_goesOn_5 : decode cX2_goesOn 5 = .ok (.iaload, 1) := by decide +kernel
theorem dX2_goesOn_6 : decode cX2_goesOn 6 = .ok (.iconst 1, 1) := by decide +kernel
theorem dX2_goesOn_7 : decode cX2_goesOn 7 = .ok (.if_icmp .lt 17, 3) := by decide +kernel
theorem dX2_goesOn_10 : decode cX2_goesOn 10 = .ok (.aload_n 0, 1) := by decide +kernel
theorem dX2_goesOn_11 : decode cX2_goesOn 11 = .ok (.getfield 22, 3) := by decide +kernel
theorem dX2_goesOn_14 : decode cX2_goesOn 14 = .ok (.iload_n 1, 1) := by decide +kernel
theorem dX2_goesOn_15 : decode cX2_goesOn 15 = .ok (.iaload, 1) := by decide +kernel
theorem dX2_goesOn_16 : decode cX2_goesOn 16 = .ok (.iconst 3, 1) := by decide +kernel
theorem dX2_goesOn_17 : decode cX2_goesOn 17 = .ok (.if_icmp .gt 7, 3) := by decide +kernel
theorem dX2_goesOn_20 : decode cX2_goesOn 20 = .ok (.iconst 1, 1) := by decide +kernel
theorem dX2_goesOn_21 : decode cX2_goesOn 21 = .ok (.goto 4, 3) := by decide +kernel
theorem dX2_goesOn_24 : decode cX2_goesOn 24 = .ok (.iconst 0, 1) := by decide +kernel
theorem dX2_goesOn_25 : decode cX2_goesOn 25 = .ok (.ireturn, 1) := by decide +kernel
theorem dX2_reversesAll_0 : decode cX2_reversesAll 0 = .ok (.iconst 0, 1) := by decide +kernel
theorem dX2_reversesAll_1 : decode cX2_reversesAll 1 = .ok (.istore_n 2, 1) := by decide +kernel
theorem dX2_reversesAll_2 : decode cX2_reversesAll 2 = .ok (.iload_n 2, 1) := by decide +kernel
theorem dX2_reversesAll_3 : decode cX2_reversesAll 3 = .ok (.bipush 72, 2) := by decide +kernel
theorem dX2_reversesAll_5 : decode cX2_reversesAll 5 = .ok (.if_icmp .gt 131, 3) := by decide +kernel
theorem dX2_reversesAll_8 : decode cX2_reversesAll 8 = .ok (.aload_n 0, 1) := by decide +kernel
theorem dX2_reversesAll_9 : decode cX2_reversesAll 9 = .ok (.getfield 40, 3) := by decide +kernel
theorem dX2_reversesAll_12 : decode cX2_reversesAll 12 = .ok (.iload_n 1, 1) := by decide +kernel
theorem dX2_reversesAll_13 : decode cX2_reversesAll 13 = .ok (.iaload, 1) := by decide +kernel
theorem dX2_reversesAll_14 : decode cX2_reversesAll 14 = .ok (.ifCond .lt 32, 3) := by decide +kernel
theorem dX2_reversesAll_17 : decode cX2_reversesAll 17 = .ok (.aload_n 0, 1) := by decide +kernel
theorem dX2_reversesAll_18 : decode cX2_reversesAll 18 = .ok (.getfield 34, 3) := by decide +kernel
theorem dX2_reversesAll_21 : decode cX2_reversesAll 21 = .ok (.iload_n 1, 1) := by decide +kernel
theorem dX2_reversesAll_22 : decode cX2_reversesAll 22 = .ok (.iaload, 1) := by decide +kernel
theorem dX2_reversesAll_23 : decode cX2_reversesAll 23 = .ok (.aload_n 0, 1) := by decide +kernel
theorem dX2_reversesAll_24 : decode cX2_reversesAll 24 = .ok (.getfield 43, 3) := by decide +kernel
theorem dX2_reversesAll_27 : decode cX2_reversesAll 27 = .ok (.getfield 83, 3) := by decide +kernel
theorem dX2_reversesAll_30 : decode cX2_reversesAll 30 = .ok (.if_icmp .le 5, 3) := by decide +kernel
theorem dX2_reversesAll_33 : decode cX2_reversesAll 33 = .ok (.iconst 0, 1) := by decide +kernel
theorem dX2_reversesAll_34 : decode cX2_reversesAll 34 = .ok (.ireturn, 1) := by decide +kernel
theorem dX2_reversesAll_35 : decode cX2_reversesAll 35 = .ok (.aload_n 0, 1) := by decide +kernel
theorem dX2_reversesAll_36 : decode cX2_reversesAll 36 = .ok (.iload_n 1, 1) := by decide +kernel
theorem dX2_reversesAll_37 : decode cX2_reversesAll 37 = .ok (.aload_n 0, 1) := by decide +kernel
theorem dX2_reversesAll_38 : decode cX2_reversesAll 38 = .ok (.getfield 40, 3) := by decide +kernel
theorem dX2_reversesAll_41 : decode cX2_reversesAll 41 = .ok (.iload_n 1, 1) := by decide +kernel
theorem dX2_reversesAll_42 : decode cX2_reversesAll 42 = .ok (.iaload, 1) := by decide +kernel
theorem dX2_reversesAll_43 : decode cX2_reversesAll 43 = .ok (.invokevirtual 212, 3) := by decide +kernel
theorem dX2_reversesAll_46 : decode cX2_reversesAll 46 = .ok (.aload_n 0, 1) := by decide +kernel
theorem dX2_reversesAll_47 : decode cX2_reversesAll 47 = .ok (.getfield 40, 3) := by decide +kernel
theorem dX2_reversesAll_50 : decode cX2_reversesAll 50 = .ok (.iload_n 1, 1) := by decide +kernel
theorem dX2_reversesAll_51 : decode cX2_reversesAll 51 = .ok (.iaload, 1) := by decide +kernel
theorem dX2_reversesAll_52 : decode cX2_reversesAll 52 = .ok (.ifCond .ge 21, 3) := by decide +kernel
theorem dX2_reversesAll_55 : decode cX2_reversesAll 55 = .ok (.aload_n 0, 1) := by decide +kernel
theorem dX2_reversesAll_56 : decode cX2_reversesAll 56 = .ok (.getfield 40, 3) := by decide +kernel
theorem dX2_reversesAll_59 : decode cX2_reversesAll 59 = .ok (.iload_n 1, 1) := by decide +kernel
theorem dX2_reversesAll_60 : decode cX2_reversesAll 60 = .ok (.aload_n 0, 1) := by decide +kernel
theorem dX2_reversesAll_61 : decode cX2_reversesAll 61 = .ok (.iload_n 1, 1) := by decide +kernel
theorem dX2_reversesAll_62 : decode cX2_reversesAll 62 = .ok (.invokevirtual 215, 3) := by decide +kernel
theorem dX2_reversesAll_65 : decode cX2_reversesAll 65 = .ok (.iastore, 1) := by decide +kernel
theorem dX2_reversesAll_66 : decode cX2_reversesAll 66 = .ok (.aload_n 0, 1) := by decide +kernel
theorem dX2_reversesAll_67 : decode cX2_reversesAll 67 = .ok (.getfield 37, 3) := by decide +kernel
theorem dX2_reversesAll_70 : decode cX2_reversesAll 70 = .ok (.iload_n 1, 1) := by decide +kernel
theorem dX2_reversesAll_71 : decode cX2_reversesAll 71 = .ok (.iconst 0, 1) := by decide +kernel
theorem dX2_reversesAll_72 : decode cX2_reversesAll 72 = .ok (.iastore, 1) := by decide +kernel
theorem dX2_reversesAll_73 : decode cX2_reversesAll 73 = .ok (.aload_n 0, 1) := by decide +kernel
theorem dX2_reversesAll_74 : decode cX2_reversesAll 74 = .ok (.getfield 40, 3) := by decide +kernel
theorem dX2_reversesAll_77 : decode cX2_reversesAll 77 = .ok (.iload_n 1, 1) := by decide +kernel
theorem dX2_reversesAll_78 : decode cX2_reversesAll 78 = .ok (.iaload, 1) := by decide +kernel
theorem dX2_reversesAll_79 : decode cX2_reversesAll 79 = .ok (.istore_n 3, 1) := by decide +kernel
theorem dX2_reversesAll_80 : decode cX2_reversesAll 80 = .ok (.iload_n 3, 1) := by decide +kernel
theorem dX2_reversesAll_81 : decode cX2_reversesAll 81 = .ok (.bipush 24, 2) := by decide +kernel
theorem dX2_reversesAll_83 : decode cX2_reversesAll 83 = .ok (.invokestatic 125, 3) := by decide +kernel
theorem dX2_reversesAll_86 : decode cX2_reversesAll 86 = .ok (.ifCond .ne 5, 3) := by decide +kernel
theorem dX2_reversesAll_89 : decode cX2_reversesAll 89 = .ok (.iconst 1, 1) := by decide +kernel
theorem dX2_reversesAll_90 : decode cX2_reversesAll 90 = .ok (.ireturn, 1) := by decide +kernel
theorem dX2_reversesAll_91 : decode cX2_reversesAll 91 = .ok (.aload_n 0, 1) := by decide +kernel
theorem dX2_reversesAll_92 : decode cX2_reversesAll 92 = .ok (.getfield 34, 3) := by decide +kernel
theorem dX2_reversesAll_95 : decode cX2_reversesAll 95 = .ok (.iload_n 1, 1) := by decide +kernel
theorem dX2_reversesAll_96 : decode cX2_reversesAll 96 = .ok (.aload_n 0, 1) := by decide +kernel
theorem dX2_reversesAll_97 : decode cX2_reversesAll 97 = .ok (.getfield 43, 3) := by decide +kernel
theorem dX2_reversesAll_100 : decode cX2_reversesAll 100 = .ok (.aload_n 0, 1) := by decide +kernel
theorem dX2_reversesAll_101 : decode cX2_reversesAll 101 = .ok (.getfield 47, 3) := by decide +kernel
theorem dX2_reversesAll_104 : decode cX2_reversesAll 104 = .ok (.getfield 218, 3) := by decide +kernel
theorem dX2_reversesAll_107 : decode cX2_reversesAll 107 = .ok (.iload_n 3, 1) := by decide +kernel
theorem dX2_reversesAll_108 : decode cX2_reversesAll 108 = .ok (.iaload, 1) := by decide +kernel
theorem dX2_reversesAll_109 : decode cX2_reversesAll 109 = .ok (.invokevirtual 170, 3) := by decide +kernel
theorem dX2_reversesAll_112 : decode cX2_reversesAll 112 = .ok (.iastore, 1) := by decide +kernel
theorem dX2_reversesAll_113 : decode cX2_reversesAll 113 = .ok (.aload_n 0, 1) := by decide +kernel
theorem dX2_reversesAll_114 : decode cX2_reversesAll 114 = .ok (.getfield 56, 3) := by decide +kernel
theorem dX2_reversesAll_117 : decode cX2_reversesAll 117 = .ok (.iconst 5, 1) := by decide +kernel
theorem dX2_reversesAll_118 : decode cX2_reversesAll 118 = .ok (.aload_n 0, 1) := by decide +kernel
theorem dX2_reversesAll_119 : decode cX2_reversesAll 119 = .ok (.getfield 47, 3) := by decide +kernel
theorem dX2_reversesAll_122 : decode cX2_reversesAll 122 = .ok (.getfield 218, 3) := by decide +kernel
theorem dX2_reversesAll_125 : decode cX2_reversesAll 125 = .ok (.iload_n 3, 1) := by decide +kernel
theorem dX2_reversesAll_126 : decode cX2_reversesAll 126 = .ok (.iaload, 1) := by decide +kernel
theorem dX2_reversesAll_127 : decode cX2_reversesAll 127 = .ok (.invokevirtual 122, 3) := by decide +kernel
theorem dX2_reversesAll_130 : decode cX2_reversesAll 130 = .ok (.iinc 2 1, 3) := by decide +kernel
theorem dX2_reversesAll_133 : decode cX2_reversesAll 133 = .ok (.goto (-131), 3) := by decide +kernel
theorem dX2_reversesAll_136 : decode cX2_reversesAll 136 = .ok (.iconst 0, 1) := by decide +kernel
theorem dX2_reversesAll_137 : decode cX2_reversesAll 137 = .ok (.ireturn, 1) := by decide +kernel
theorem dX2_endReversal_0 : decode cX2_endReversal 0 = .ok (.iload_n 2, 1) := by decide +kernel
theorem dX2_endReversal_1 : decode cX2_endReversal 1 = .ok (.bipush 24, 2) := by decide +kernel
theorem dX2_endReversal_3 : decode cX2_endReversal 3 = .ok (.invokestatic 125, 3) := by decide +kernel
theorem dX2_endReversal_6 : decode cX2_endReversal 6 = .ok (.ifCond .ne 4, 3) := by decide +kernel
theorem dX2_endReversal_9 : decode cX2_endReversal 9 = .ok (.return_, 1) := by decide +kernel
theorem dX2_endReversal_10 : decode cX2_endReversal 10 = .ok (.aload_n 0, 1) := by decide +kernel
theorem dX2_endReversal_11 : decode cX2_endReversal 11 = .ok (.getfield 43, 3) := by decide +kernel
theorem dX2_endReversal_14 : decode cX2_endReversal 14 = .ok (.aload_n 0, 1) := by decide +kernel
theorem dX2_endReversal_15 : decode cX2_endReversal 15 = .ok (.getfield 47, 3) := by decide +kernel
theorem dX2_endReversal_18 : decode cX2_endReversal 18 = .ok (.getfield 218, 3) := by decide +kernel
theorem dX2_endReversal_21 : decode cX2_endReversal 21 = .ok (.iload_n 2, 1) := by decide +kernel
theorem dX2_endReversal_22 : decode cX2_endReversal 22 = .ok (.iaload, 1) := by decide +kernel
theorem dX2_endReversal_23 : decode cX2_endReversal 23 = .ok (.invokevirtual 194, 3) := by decide +kernel
theorem dX2_endReversal_26 : decode cX2_endReversal 26 = .ok (.ifCond .eq 47, 3) := by decide +kernel
theorem dX2_endReversal_29 : decode cX2_endReversal 29 = .ok (.aload_n 0, 1) := by decide +kernel
theorem dX2_endReversal_30 : decode cX2_endReversal 30 = .ok (.getfield 22, 3) := by decide +kernel
theorem dX2_endReversal_33 : decode cX2_endReversal 33 = .ok (.iload_n 2, 1) := by decide +kernel
theorem dX2_endReversal_34 : decode cX2_endReversal 34 = .ok (.bipush 7, 2) := by decide +kernel
theorem dX2_endReversal_36 : decode cX2_endReversal 36 = .ok (.iastore, 1) := by decide +kernel
theorem dX2_endReversal_37 : decode cX2_endReversal 37 = .ok (.aload_n 0, 1) := by decide +kernel
theorem dX2_endReversal_38 : decode cX2_endReversal 38 = .ok (.dup, 1) := by decide +kernel
theorem dX2_endReversal_39 : decode cX2_endReversal 39 = .ok (.getfield 69, 3) := by decide +kernel
theorem dX2_endReversal_42 : decode cX2_endReversal 42 = .ok (.iconst 1, 1) := by decide +kernel
theorem dX2_endReversal_43 : decode cX2_endReversal 43 = .ok (.iadd, 1) := by decide +kernel
theorem dX2_endReversal_44 : decode cX2_endReversal 44 = .ok (.putfield 69, 3) := by decide +kernel
theorem dX2_endReversal_47 : decode cX2_endReversal 47 = .ok (.aload_n 0, 1) := by decide +kernel
theorem dX2_endReversal_48 : decode cX2_endReversal 48 = .ok (.getfield 40, 3) := by decide +kernel
theorem dX2_endReversal_51 : decode cX2_endReversal 51 = .ok (.iload_n 1, 1) := by decide +kernel
theorem dX2_endReversal_52 : decode cX2_endReversal 52 = .ok (.iconst (-1), 1) := by decide +kernel
theorem dX2_endReversal_53 : decode cX2_endReversal 53 = .ok (.iastore, 1) := by decide +kernel
theorem dX2_endReversal_54 : decode cX2_endReversal 54 = .ok (.aload_n 0, 1) := by decide +kernel
theorem dX2_endReversal_55 : decode cX2_endReversal 55 = .ok (.getfield 56, 3) := by decide +kernel
theorem dX2_endReversal_58 : decode cX2_endReversal 58 = .ok (.bipush 6, 2) := by decide +kernel
theorem dX2_endReversal_60 : decode cX2_endReversal 60 = .ok (.aload_n 0, 1) := by decide +kernel
theorem dX2_endReversal_61 : decode cX2_endReversal 61 = .ok (.getfield 47, 3) := by decide +kernel
theorem dX2_endReversal_64 : decode cX2_endReversal 64 = .ok (.getfield 167, 3) := by decide +kernel
theorem dX2_endReversal_67 : decode cX2_endReversal 67 = .ok (.iload_n 2, 1) := by decide +kernel
theorem dX2_endReversal_68 : decode cX2_endReversal 68 = .ok (.iaload, 1) := by decide +kernel
theorem dX2_endReversal_69 : decode cX2_endReversal 69 = .ok (.invokevirtual 122, 3) := by decide +kernel
theorem dX2_endReversal_72 : decode cX2_endReversal 72 = .ok (.return_, 1) := by decide +kernel
theorem dX2_endReversal_73 : decode cX2_endReversal 73 = .ok (.aload_n 0, 1) := by decide +kernel
theorem dX2_endReversal_74 : decode cX2_endReversal 74 = .ok (.getfield 37, 3) := by decide +kernel
theorem dX2_endReversal_77 : decode cX2_endReversal 77 = .ok (.iload_n 1, 1) := by decide +kernel
theorem dX2_endReversal_78 : decode cX2_endReversal 78 = .ok (.dup2, 1) := by decide +kernel
theorem dX2_endReversal_79 : decode cX2_endReversal 79 = .ok (.iaload, 1) := by decide +kernel
theorem dX2_endReversal_80 : decode cX2_endReversal 80 = .ok (.iconst 1, 1) := by decide +kernel
theorem dX2_endReversal_81 : decode cX2_endReversal 81 = .ok (.iadd, 1) := by decide +kernel
theorem dX2_endReversal_82 : decode cX2_endReversal 82 = .ok (.iastore, 1) := by decide +kernel
theorem dX2_endReversal_83 : decode cX2_endReversal 83 = .ok (.aload_n 0, 1) := by decide +kernel
theorem dX2_endReversal_84 : decode cX2_endReversal 84 = .ok (.getfield 37, 3) := by decide +kernel
theorem dX2_endReversal_87 : decode cX2_endReversal 87 = .ok (.iload_n 1, 1) := by decide +kernel
theorem dX2_endReversal_88 : decode cX2_endReversal 88 = .ok (.iaload, 1) := by decide +kernel
theorem dX2_endReversal_89 : decode cX2_endReversal 89 = .ok (.iconst 3, 1) := by decide +kernel
theorem dX2_endReversal_90 : decode cX2_endReversal 90 = .ok (.if_icmp .lt 46, 3) := by decide +kernel
theorem dX2_endReversal_93 : decode cX2_endReversal 93 = .ok (.aload_n 0, 1) := by decide +kernel
theorem dX2_endReversal_94 : decode cX2_endReversal 94 = .ok (.getfield 22, 3) := by decide +kernel
theorem dX2_endReversal_97 : decode cX2_endReversal 97 = .ok (.iload_n 2, 1) := by decide +kernel
theorem dX2_endReversal_98 : decode cX2_endReversal 98 = .ok (.bipush 8, 2) := by decide +kernel
theorem dX2_endReversal_100 : decode cX2_endReversal 100 = .ok (.iastore, 1) := by decide +kernel
theorem dX2_endReversal_101 : decode cX2_endReversal 101 = .ok (.aload_n 0, 1) := by decide +kernel
theorem dX2_endReversal_102 : decode cX2_endReversal 102 = .ok (.dup, 1) := by decide +kernel
theorem dX2_endReversal_103 : decode cX2_endReversal 103 = .ok (.getfield 72, 3) := by decide +kernel
theorem dX2_endReversal_106 : decode cX2_endReversal 106 = .ok (.iconst 1, 1) := by decide +kernel
theorem dX2_endReversal_107 : decode cX2_endReversal 107 = .ok (.iadd, 1) := by decide +kernel
theorem dX2_endReversal_108 : decode cX2_endReversal 108 = .ok (.putfield 72, 3) := by decide +kernel
theorem dX2_endReversal_111 : decode cX2_endReversal 111 = .ok (.aload_n 0, 1) := by decide +kernel
theorem dX2_endReversal_112 : decode cX2_endReversal 112 = .ok (.getfield 40, 3) := by decide +kernel
theorem dX2_endReversal_115 : decode cX2_endReversal 115 = .ok (.iload_n 1, 1) := by decide +kernel
theorem dX2_endReversal_116 : decode cX2_endReversal 116 = .ok (.iconst (-1), 1) := by decide +kernel
theorem dX2_endReversal_117 : decode cX2_endReversal 117 = .ok (.iastore, 1) := by decide +kernel
theorem dX2_endReversal_118 : decode cX2_endReversal 118 = .ok (.aload_n 0, 1) := by decide +kernel
theorem dX2_endReversal_119 : decode cX2_endReversal 119 = .ok (.getfield 56, 3) := by decide +kernel
theorem dX2_endReversal_122 : decode cX2_endReversal 122 = .ok (.bipush 7, 2) := by decide +kernel
theorem dX2_endReversal_124 : decode cX2_endReversal 124 = .ok (.aload_n 0, 1) := by decide +kernel
theorem dX2_endReversal_125 : decode cX2_endReversal 125 = .ok (.getfield 47, 3) := by decide +kernel
theorem dX2_endReversal_128 : decode cX2_endReversal 128 = .ok (.getfield 167, 3) := by decide +kernel
theorem dX2_endReversal_131 : decode cX2_endReversal 131 = .ok (.iload_n 2, 1) := by decide +kernel
theorem dX2_endReversal_132 : decode cX2_endReversal 132 = .ok (.iaload, 1) := by decide +kernel
theorem dX2_endReversal_133 : decode cX2_endReversal 133 = .ok (.invokevirtual 122, 3) := by decide +kernel
theorem dX2_endReversal_136 : decode cX2_endReversal 136 = .ok (.return_, 1) := by decide +kernel
theorem dX2_lastToReverse_0 : decode cX2_lastToReverse 0 = .ok (.aload_n 0, 1) := by decide +kernel
theorem dX2_lastToReverse_1 : decode cX2_lastToReverse 1 = .ok (.getfield 66, 3) := by decide +kernel
theorem dX2_lastToReverse_4 : decode cX2_lastToReverse 4 = .ok (.bipush 24, 2) := by decide +kernel
theorem dX2_lastToReverse_6 : decode cX2_lastToReverse 6 = .ok (.invokestatic 221, 3) := by decide +kernel
theorem dX2_lastToReverse_9 : decode cX2_lastToReverse 9 = .ok (.iconst 1, 1) := by decide +kernel
theorem dX2_lastToReverse_10 : decode cX2_lastToReverse 10 = .ok (.isub, 1) := by decide +kernel
theorem dX2_lastToReverse_11 : decode cX2_lastToReverse 11 = .ok (.istore_n 2, 1) := by decide +kernel
theorem dX2_lastToReverse_12 : decode cX2_lastToReverse 12 = .ok (.iload_n 2, 1) := by decide +kernel
theorem dX2_lastToReverse_13 : decode cX2_lastToReverse 13 = .ok (.ifCond .lt 44, 3) := by decide +kernel
theorem dX2_lastToReverse_16 : decode cX2_lastToReverse 16 = .ok (.aload_n 0, 1) := by decide +kernel
theorem dX2_lastToReverse_17 : decode cX2_lastToReverse 17 = .ok (.getfield 31, 3) := by decide +kernel
theorem dX2_lastToReverse_20 : decode cX2_lastToReverse 20 = .ok (.iload_n 2, 1) := by decide +kernel
theorem dX2_lastToReverse_21 : decode cX2_lastToReverse 21 = .ok (.iaload, 1) := by decide +kernel
theorem dX2_lastToReverse_22 : decode cX2_lastToReverse 22 = .ok (.istore_n 3, 1) := by decide +kernel
theorem dX2_lastToReverse_23 : decode cX2_lastToReverse 23 = .ok (.iload_n 3, 1) := by decide +kernel
theorem dX2_lastToReverse_24 : decode cX2_lastToReverse 24 = .ok (.bipush 24, 2) := by decide +kernel
theorem dX2_lastToReverse_26 : decode cX2_lastToReverse 26 = .ok (.invokestatic 125, 3) := by decide +kernel
theorem dX2_lastToReverse_29 : decode cX2_lastToReverse 29 = .ok (.ifCond .eq 22, 3) := by decide +kernel
theorem dX2_lastToReverse_32 : decode cX2_lastToReverse 32 = .ok (.aload_n 0, 1) := by decide +kernel
theorem dX2_lastToReverse_33 : decode cX2_lastToReverse 33 = .ok (.iload_n 3, 1) := by decide +kernel
theorem dX2_lastToReverse_34 : decode cX2_lastToReverse 34 = .ok (.invokevirtual 226, 3) := by decide +kernel
theorem dX2_lastToReverse_37 : decode cX2_lastToReverse 37 = .ok (.ifCond .eq 14, 3) := by decide +kernel
theorem dX2_lastToReverse_40 : decode cX2_lastToReverse 40 = .ok (.aload_n 0, 1) := by decide +kernel
theorem dX2_lastToReverse_41 : decode cX2_lastToReverse 41 = .ok (.iload_n 1, 1) := by decide +kernel
theorem dX2_lastToReverse_42 : decode cX2_lastToReverse 42 = .ok (.iload_n 3, 1) := by decide +kernel
theorem dX2_lastToReverse_43 : decode cX2_lastToReverse 43 = .ok (.invokevirtual 229, 3) := by decide +kernel
theorem dX2_lastToReverse_46 : decode cX2_lastToReverse 46 = .ok (.ifCond .eq 5, 3) := by decide +kernel
theorem dX2_lastToReverse_49 : decode cX2_lastToReverse 49 = .ok (.iload_n 3, 1) := by decide +kernel
theorem dX2_lastToReverse_50 : decode cX2_lastToReverse 50 = .ok (.ireturn, 1) := by decide +kernel
theorem dX2_lastToReverse_51 : decode cX2_lastToReverse 51 = .ok (.iinc 2 (-1), 3) := by decide +kernel
theorem dX2_lastToReverse_54 : decode cX2_lastToReverse 54 = .ok (.goto (-42), 3) := by decide +kernel
theorem dX2_lastToReverse_57 : decode cX2_lastToReverse 57 = .ok (.iconst (-1), 1) := by decide +kernel
theorem dX2_lastToReverse_58 : decode cX2_lastToReverse 58 = .ok (.ireturn, 1) := by decide +kernel
theorem dX2_isReversible_0 : decode cX2_isReversible 0 = .ok (.aload_n 0, 1) := by decide +kernel
theorem dX2_isReversible_1 : decode cX2_isReversible 1 = .ok (.getfield 22, 3) := by decide +kernel
theorem dX2_isReversible_4 : decode cX2_isReversible 4 = .ok (.iload_n 1, 1) := by decide +kernel
theorem dX2_isReversible_5 : decode cX2_isReversible 5 = .ok (.iaload, 1) := by decide +kernel
theorem dX2_isReversible_6 : decode cX2_isReversible 6 = .ok (.iconst 4, 1) := by decide +kernel
theorem dX2_isReversible_7 : decode cX2_isReversible 7 = .ok (.if_icmp .ne 19, 3) := by decide +kernel
theorem dX2_isReversible_10 : decode cX2_isReversible 10 = .ok (.aload_n 0, 1) := by decide +kernel
theorem dX2_isReversible_11 : decode cX2_isReversible 11 = .ok (.getfield 47, 3) := by decide +kernel
theorem dX2_isReversible_14 : decode cX2_isReversible 14 = .ok (.getfield 218, 3) := by decide +kernel
theorem dX2_isReversible_17 : decode cX2_isReversible 17 = .ok (.iload_n 1, 1) := by decide +kernel
theorem dX2_isReversible_18 : decode cX2_isReversible 18 = .ok (.iaload, 1) := by decide +kernel
theorem dX2_isReversible_19 : decode cX2_isReversible 19 = .ok (.ifCond .lt 7, 3) := by decide +kernel
theorem dX2_isReversible_22 : decode cX2_isReversible 22 = .ok (.iconst 1, 1) := by decide +kernel
theorem dX2_isReversible_23 : decode cX2_isReversible 23 = .ok (.goto 4, 3) := by decide +kernel
theorem dX2_isReversible_26 : decode cX2_isReversible 26 = .ok (.iconst 0, 1) := by decide +kernel
theorem dX2_isReversible_27 : decode cX2_isReversible 27 = .ok (.ireturn, 1) := by decide +kernel
theorem dX2_concerns_0 : decode cX2_concerns 0 = .ok (.iload_n 1, 1) := by decide +kernel
theorem dX2_concerns_1 : decode cX2_concerns 1 = .ok (.bipush 24, 2) := by decide +kernel
theorem dX2_concerns_3 : decode cX2_concerns 3 = .ok (.invokestatic 125, 3) := by decide +kernel
theorem dX2_concerns_6 : decode cX2_concerns 6 = .ok (.ifCond .ne 5, 3) := by decide +kernel
theorem dX2_concerns_9 : decode cX2_concerns 9 = .ok (.iconst 1, 1) := by decide +kernel
theorem dX2_concerns_10 : decode cX2_concerns 10 = .ok (.ireturn, 1) := by decide +kernel
theorem dX2_concerns_11 : decode cX2_concerns 11 = .ok (.iload_n 2, 1) := by decide +kernel
theorem dX2_concerns_12 : decode cX2_concerns 12 = .ok (.iload_n 1, 1) := by decide +kernel
theorem dX2_concerns_13 : decode cX2_concerns 13 = .ok (.if_icmp .le 16, 3) := by decide +kernel
theorem dX2_concerns_16 : decode cX2_concerns 16 = .ok (.iload_n 2, 1) := by decide +kernel
theorem dX2_concerns_17 : decode cX2_concerns 17 = .ok (.aload_n 0, 1) := by decide +kernel
theorem dX2_concerns_18 : decode cX2_concerns 18 = .ok (.getfield 47, 3) := by decide +kernel
theorem dX2_concerns_21 : decode cX2_concerns 21 = .ok (.getfield 209, 3) := by decide +kernel
theorem dX2_concerns_24 : decode cX2_concerns 24 = .ok (.iload_n 1, 1) := by decide +kernel
theorem dX2_concerns_25 : decode cX2_concerns 25 = .ok (.iaload, 1) := by decide +kernel
theorem dX2_concerns_26 : decode cX2_concerns 26 = .ok (.if_icmp .lt 5, 3) := by decide +kernel
theorem dX2_concerns_29 : decode cX2_concerns 29 = .ok (.iconst 0, 1) := by decide +kernel
theorem dX2_concerns_30 : decode cX2_concerns 30 = .ok (.ireturn, 1) := by decide +kernel
theorem dX2_concerns_31 : decode cX2_concerns 31 = .ok (.iconst (-1), 1) := by decide +kernel
theorem dX2_concerns_32 : decode cX2_concerns 32 = .ok (.istore_n 3, 1) := by decide +kernel
theorem dX2_concerns_33 : decode cX2_concerns 33 = .ok (.iconst 0, 1) := by decide +kernel
theorem dX2_concerns_34 : decode cX2_concerns 34 = .ok (.istore 4, 2) := by decide +kernel
theorem dX2_concerns_36 : decode cX2_concerns 36 = .ok (.iload 4, 2) := by decide +kernel
theorem dX2_concerns_38 : decode cX2_concerns 38 = .ok (.iconst 4, 1) := by decide +kernel
theorem dX2_concerns_39 : decode cX2_concerns 39 = .ok (.if_icmp .ge 38, 3) := by decide +kernel
theorem dX2_concerns_42 : decode cX2_concerns 42 = .ok (.aload_n 0, 1) := by decide +kernel
theorem dX2_concerns_43 : decode cX2_concerns 43 = .ok (.getfield 47, 3) := by decide +kernel
theorem dX2_concerns_46 : decode cX2_concerns 46 = .ok (.iload_n 1, 1) := by decide +kernel
theorem dX2_concerns_47 : decode cX2_concerns 47 = .ok (.iload 4, 2) := by decide +kernel
theorem dX2_concerns_49 : decode cX2_concerns 49 = .ok (.invokevirtual 163, 3) := by decide +kernel
theorem dX2_concerns_52 : decode cX2_concerns 52 = .ok (.istore 5, 2) := by decide +kernel
theorem dX2_concerns_54 : decode cX2_concerns 54 = .ok (.iload 5, 2) := by decide +kernel
theorem dX2_concerns_56 : decode cX2_concerns 56 = .ok (.iload_n 2, 1) := by decide +kernel
theorem dX2_concerns_57 : decode cX2_concerns 57 = .ok (.if_icmp .gt 12, 3) := by decide +kernel
theorem dX2_concerns_60 : decode cX2_concerns 60 = .ok (.iload_n 3, 1) := by decide +kernel
theorem dX2_concerns_61 : decode cX2_concerns 61 = .ok (.iload 5, 2) := by decide +kernel
theorem dX2_concerns_63 : decode cX2_concerns 63 = .ok (.invokestatic 232, 3) := by decide +kernel
theorem dX2_concerns_66 : decode cX2_concerns 66 = .ok (.goto 4, 3) := by decide +kernel
theorem dX2_concerns_69 : decode cX2_concerns 69 = .ok (.iload_n 3, 1) := by decide +kernel
theorem dX2_concerns_70 : decode cX2_concerns 70 = .ok (.istore_n 3, 1) := by decide +kernel
theorem dX2_concerns_71 : decode cX2_concerns 71 = .ok (.iinc 4 1, 3) := by decide +kernel
theorem dX2_concerns_74 : decode cX2_concerns 74 = .ok (.goto (-38), 3) := by decide +kernel
theorem dX2_concerns_77 : decode cX2_concerns 77 = .ok (.iload_n 3, 1) := by decide +kernel
theorem dX2_concerns_78 : decode cX2_concerns 78 = .ok (.bipush 24, 2) := by decide +kernel
theorem dX2_concerns_80 : decode cX2_concerns 80 = .ok (.invokestatic 125, 3) := by decide +kernel
theorem dX2_concerns_83 : decode cX2_concerns 83 = .ok (.ifCond .eq 17, 3) := by decide +kernel
theorem dX2_concerns_86 : decode cX2_concerns 86 = .ok (.aload_n 0, 1) := by decide +kernel
theorem dX2_concerns_87 : decode cX2_concerns 87 = .ok (.getfield 25, 3) := by decide +kernel
theorem dX2_concerns_90 : decode cX2_concerns 90 = .ok (.iload_n 3, 1) := by decide +kernel
theorem dX2_concerns_91 : decode cX2_concerns 91 = .ok (.iaload, 1) := by decide +kernel
theorem dX2_concerns_92 : decode cX2_concerns 92 = .ok (.iconst 4, 1) := by decide +kernel
theorem dX2_concerns_93 : decode cX2_concerns 93 = .ok (.if_icmp .eq 7, 3) := by decide +kernel
theorem dX2_concerns_96 : decode cX2_concerns 96 = .ok (.iconst 1, 1) := by decide +kernel
theorem dX2_concerns_97 : decode cX2_concerns 97 = .ok (.goto 4, 3) := by decide +kernel
theorem dX2_concerns_100 : decode cX2_concerns 100 = .ok (.iconst 0, 1) := by decide +kernel
theorem dX2_concerns_101 : decode cX2_concerns 101 = .ok (.ireturn, 1) := by decide +kernel
theorem dX2_runningItems_0 : decode cX2_runningItems 0 = .ok (.iconst 0, 1) := by decide +kernel
theorem dX2_runningItems_1 : decode cX2_runningItems 1 = .ok (.istore_n 1, 1) := by decide +kernel
theorem dX2_runningItems_2 : decode cX2_runningItems 2 = .ok (.iconst 0, 1) := by decide +kernel
theorem dX2_runningItems_3 : decode cX2_runningItems 3 = .ok (.istore_n 2, 1) := by decide +kernel
theorem dX2_runningItems_4 : decode cX2_runningItems 4 = .ok (.iload_n 2, 1) := by decide +kernel
theorem dX2_runningItems_5 : decode cX2_runningItems 5 = .ok (.bipush 24, 2) := by decide +kernel
theorem dX2_runningItems_7 : decode cX2_runningItems 7 = .ok (.if_icmp .ge 20, 3) := by decide +kernel
theorem dX2_runningItems_10 : decode cX2_runningItems 10 = .ok (.aload_n 0, 1) := by decide +kernel
theorem dX2_runningItems_11 : decode cX2_runningItems 11 = .ok (.iload_n 2, 1) := by decide +kernel
theorem dX2_runningItems_12 : decode cX2_runningItems 12 = .ok (.invokevirtual 235, 3) := by decide +kernel
theorem dX2_runningItems_15 : decode cX2_runningItems 15 = .ok (.ifCond .eq 6, 3) := by decide +kernel
theorem dX2_runningItems_18 : decode cX2_runningItems 18 = .ok (.iinc 1 1, 3) := by decide +kernel
theorem dX2_runningItems_21 : decode cX2_runningItems 21 = .ok (.iinc 2 1, 3) := by decide +kernel
theorem dX2_runningItems_24 : decode cX2_runningItems 24 = .ok (.goto (-20), 3) := by decide +kernel
theorem dX2_runningItems_27 : decode cX2_runningItems 27 = .ok (.iload_n 1, 1) := by decide +kernel
theorem dX2_runningItems_28 : decode cX2_runningItems 28 = .ok (.ireturn, 1) := by decide +kernel
theorem dX2_placeOfRunning_0 : decode cX2_placeOfRunning 0 = .ok (.iconst 0, 1) := by decide +kernel
theorem dX2_placeOfRunning_1 : decode cX2_placeOfRunning 1 = .ok (.istore_n 2, 1) := by decide +kernel
theorem dX2_placeOfRunning_2 : decode cX2_placeOfRunning 2 = .ok (.iconst 0, 1) := by decide +kernel
theorem dX2_placeOfRunning_3 : decode cX2_placeOfRunning 3 = .ok (.istore_n 3, 1) := by decide +kernel
theorem dX2_placeOfRunning_4 : decode cX2_placeOfRunning 4 = .ok (.iload_n 3, 1) := by decide +kernel
theorem dX2_placeOfRunning_5 : decode cX2_placeOfRunning 5 = .ok (.bipush 24, 2) := by decide +kernel
theorem dX2_placeOfRunning_7 : decode cX2_placeOfRunning 7 = .ok (.if_icmp .ge 35, 3) := by decide +kernel
theorem dX2_placeOfRunning_10 : decode cX2_placeOfRunning 10 = .ok (.aload_n 0, 1) := by decide +kernel
theorem dX2_placeOfRunning_11 : decode cX2_placeOfRunning 11 = .ok (.iload_n 3, 1) := by decide +kernel
theorem dX2_placeOfRunning_12 : decode cX2_placeOfRunning 12 = .ok (.invokevirtual 235, 3) := by decide +kernel
theorem dX2_placeOfRunning_15 : decode cX2_placeOfRunning 15 = .ok (.ifCond .eq 21, 3) := by decide +kernel
theorem dX2_placeOfRunning_18 : decode cX2_placeOfRunning 18 = .ok (.iload_n 2, 1) := by decide +kernel
theorem dX2_placeOfRunning_19 : decode cX2_placeOfRunning 19 = .ok (.iload_n 1, 1) := by decide +kernel
theorem dX2_placeOfRunning_20 : decode cX2_placeOfRunning 20 = .ok (.if_icmp .ne 13, 3) := by decide +kernel
theorem dX2_placeOfRunning_23 : decode cX2_placeOfRunning 23 = .ok (.aload_n 0, 1) := by decide +kernel
theorem dX2_placeOfRunning_24 : decode cX2_placeOfRunning 24 = .ok (.getfield 47, 3) := by decide +kernel
theorem dX2_placeOfRunning_27 : decode cX2_placeOfRunning 27 = .ok (.getfield 238, 3) := by decide +kernel
theorem dX2_placeOfRunning_30 : decode cX2_placeOfRunning 30 = .ok (.iload_n 3, 1) := by decide +kernel
theorem dX2_placeOfRunning_31 : decode cX2_placeOfRunning 31 = .ok (.iaload, 1) := by decide +kernel
theorem dX2_placeOfRunning_32 : decode cX2_placeOfRunning 32 = .ok (.ireturn, 1) := by decide +kernel
theorem dX2_placeOfRunning_33 : decode cX2_placeOfRunning 33 = .ok (.iinc 2 1, 3) := by decide +kernel
theorem dX2_placeOfRunning_36 : decode cX2_placeOfRunning 36 = .ok (.iinc 3 1, 3) := by decide +kernel
theorem dX2_placeOfRunning_39 : decode cX2_placeOfRunning 39 = .ok (.goto (-35), 3) := by decide +kernel
theorem dX2_placeOfRunning_42 : decode cX2_placeOfRunning 42 = .ok (.iconst (-1), 1) := by decide +kernel
theorem dX2_placeOfRunning_43 : decode cX2_placeOfRunning 43 = .ok (.ireturn, 1) := by decide +kernel
theorem dX2_isRunning_0 : decode cX2_isRunning 0 = .ok (.aload_n 0, 1) := by decide +kernel
theorem dX2_isRunning_1 : decode cX2_isRunning 1 = .ok (.getfield 47, 3) := by decide +kernel
theorem dX2_isRunning_4 : decode cX2_isRunning 4 = .ok (.getfield 144, 3) := by decide +kernel
theorem dX2_isRunning_7 : decode cX2_isRunning 7 = .ok (.iload_n 1, 1) := by decide +kernel
theorem dX2_isRunning_8 : decode cX2_isRunning 8 = .ok (.iaload, 1) := by decide +kernel
theorem dX2_isRunning_9 : decode cX2_isRunning 9 = .ok (.istore_n 2, 1) := by decide +kernel
theorem dX2_isRunning_10 : decode cX2_isRunning 10 = .ok (.aload_n 0, 1) := by decide +kernel
theorem dX2_isRunning_11 : decode cX2_isRunning 11 = .ok (.iload_n 1, 1) := by decide +kernel
theorem dX2_isRunning_12 : decode cX2_isRunning 12 = .ok (.invokevirtual 135, 3) := by decide +kernel
theorem dX2_isRunning_15 : decode cX2_isRunning 15 = .ok (.ifCond .eq 17, 3) := by decide +kernel
theorem dX2_isRunning_18 : decode cX2_isRunning 18 = .ok (.iload_n 2, 1) := by decide +kernel
theorem dX2_isRunning_19 : decode cX2_isRunning 19 = .ok (.iconst 4, 1) := by decide +kernel
theorem dX2_isRunning_20 : decode cX2_isRunning 20 = .ok (.if_icmp .eq 12, 3) := by decide +kernel
theorem dX2_isRunning_23 : decode cX2_isRunning 23 = .ok (.iload_n 2, 1) := by decide +kernel
theorem dX2_isRunning_24 : decode cX2_isRunning 24 = .ok (.iconst 5, 1) := by decide +kernel
theorem dX2_isRunning_25 : decode cX2_isRunning 25 = .ok (.if_icmp .eq 7, 3) := by decide +kernel
theorem dX2_isRunning_28 : decode cX2_isRunning 28 = .ok (.iconst 1, 1) := by decide +kernel
theorem dX2_isRunning_29 : decode cX2_isRunning 29 = .ok (.goto 4, 3) := by decide +kernel
theorem dX2_isRunning_32 : decode cX2_isRunning 32 = .ok (.iconst 0, 1) := by decide +kernel
theorem dX2_isRunning_33 : decode cX2_isRunning 33 = .ok (.ireturn, 1) := by decide +kernel
theorem dX2_nextMinute_0 : decode cX2_nextMinute 0 = .ok (.aload_n 0, 1) := by decide +kernel
theorem dX2_nextMinute_1 : decode cX2_nextMinute 1 = .ok (.getfield 9, 3) := by decide +kernel
theorem dX2_nextMinute_4 : decode cX2_nextMinute 4 = .ok (.iconst 2, 1) := by decide +kernel
theorem dX2_nextMinute_5 : decode cX2_nextMinute 5 = .ok (.if_icmp .ne 13, 3) := by decide +kernel
theorem dX2_nextMinute_8 : decode cX2_nextMinute 8 = .ok (.aload_n 0, 1) := by decide +kernel
theorem dX2_nextMinute_9 : decode cX2_nextMinute 9 = .ok (.getfield 34, 3) := by decide +kernel
theorem dX2_nextMinute_12 : decode cX2_nextMinute 12 = .ok (.bipush 24, 2) := by decide +kernel
theorem dX2_nextMinute_14 : decode cX2_nextMinute 14 = .ok (.iaload, 1) := by decide +kernel
theorem dX2_nextMinute_15 : decode cX2_nextMinute 15 = .ok (.goto 5, 3) := by decide +kernel
theorem dX2_nextMinute_18 : decode cX2_nextMinute 18 = .ok (.ldc 143, 2) := by decide +kernel
theorem dX2_nextMinute_20 : decode cX2_nextMinute 20 = .ok (.istore_n 1, 1) := by decide +kernel
theorem dX2_nextMinute_21 : decode cX2_nextMinute 21 = .ok (.iconst 0, 1) := by decide +kernel
theorem dX2_nextMinute_22 : decode cX2_nextMinute 22 = .ok (.istore_n 2, 1) := by decide +kernel
theorem dX2_nextMinute_23 : decode cX2_nextMinute 23 = .ok (.iload_n 2, 1) := by decide +kernel
theorem dX2_nextMinute_24 : decode cX2_nextMinute 24 = .ok (.bipush 24, 2) := by decide +kernel
theorem dX2_nextMinute_26 : decode cX2_nextMinute 26 = .ok (.if_icmp .ge 28, 3) := by decide +kernel
theorem dX2_nextMinute_29 : decode cX2_nextMinute 29 = .ok (.aload_n 0, 1) := by decide +kernel
theorem dX2_nextMinute_30 : decode cX2_nextMinute 30 = .ok (.iload_n 2, 1) := by decide +kernel
theorem dX2_nextMinute_31 : decode cX2_nextMinute 31 = .ok (.invokevirtual 135, 3) := by decide +kernel
theorem dX2_nextMinute_34 : decode cX2_nextMinute 34 = .ok (.ifCond .eq 14, 3) := by decide +kernel
theorem dX2_nextMinute_37 : decode cX2_nextMinute 37 = .ok (.iload_n 1, 1) := by decide +kernel
theorem dX2_nextMinute_38 : decode cX2_nextMinute 38 = .ok (.aload_n 0, 1) := by decide +kernel
theorem dX2_nextMinute_39 : decode cX2_nextMinute 39 = .ok (.getfield 34, 3) := by decide +kernel
theorem dX2_nextMinute_42 : decode cX2_nextMinute 42 = .ok (.iload_n 2, 1) := by decide +kernel
theorem dX2_nextMinute_43 : decode cX2_nextMinute 43 = .ok (.iaload, 1) := by decide +kernel
theorem dX2_nextMinute_44 : decode cX2_nextMinute 44 = .ok (.invokestatic 221, 3) := by decide +kernel
theorem dX2_nextMinute_47 : decode cX2_nextMinute 47 = .ok (.istore_n 1, 1) := by decide +kernel
theorem dX2_nextMinute_48 : decode cX2_nextMinute 48 = .ok (.iinc 2 1, 3) := by decide +kernel
theorem dX2_nextMinute_51 : decode cX2_nextMinute 51 = .ok (.goto (-28), 3) := by decide +kernel
theorem dX2_nextMinute_54 : decode cX2_nextMinute 54 = .ok (.iload_n 1, 1) := by decide +kernel
theorem dX2_nextMinute_55 : decode cX2_nextMinute 55 = .ok (.ldc 143, 2) := by decide +kernel
theorem dX2_nextMinute_57 : decode cX2_nextMinute 57 = .ok (.if_icmp .ne 8, 3) := by decide +kernel
theorem dX2_nextMinute_60 : decode cX2_nextMinute 60 = .ok (.bipush (-5), 2) := by decide +kernel
theorem dX2_nextMinute_62 : decode cX2_nextMinute 62 = .ok (.goto 4, 3) := by decide +kernel
theorem dX2_nextMinute_65 : decode cX2_nextMinute 65 = .ok (.iload_n 1, 1) := by decide +kernel
theorem dX2_nextMinute_66 : decode cX2_nextMinute 66 = .ok (.ireturn, 1) := by decide +kernel
theorem dX3_init_0 : decode cX3_init 0 = .ok (.aload_n 0, 1) := by decide +kernel
theorem dX3_init_1 : decode cX3_init 1 = .ok (.invokespecial 3, 3) := by decide +kernel
theorem dX3_init_4 : decode cX3_init 4 = .ok (.aload_n 0, 1) := by decide +kernel
theorem dX3_init_5 : decode cX3_init 5 = .ok (.bipush 24, 2) := by decide +kernel
theorem dX3_init_7 : decode cX3_init 7 = .ok (.newarray .int, 2) := by decide +kernel
theorem dX3_init_9 : decode cX3_init 9 = .ok (.putfield 9, 3) := by decide +kernel
theorem dX3_init_12 : decode cX3_init 12 = .ok (.aload_n 0, 1) := by decide +kernel
theorem dX3_init_13 : decode cX3_init 13 = .ok (.iconst 0, 1) := by decide +kernel
theorem dX3_init_14 : decode cX3_init 14 = .ok (.newarray .int, 2) := by decide +kernel
theorem dX3_init_16 : decode cX3_init 16 = .ok (.putfield 15, 3) := by decide +kernel
theorem dX3_init_19 : decode cX3_init 19 = .ok (.return_, 1) := by decide +kernel
theorem dX3_read_0 : decode cX3_read 0 = .ok (.aload_n 0, 1) := by decide +kernel
theorem dX3_read_1 : decode cX3_read 1 = .ok (.aload_n 1, 1) := by decide +kernel
theorem dX3_read_2 : decode cX3_read 2 = .ok (.putfield 15, 3) := by decide +kernel
theorem dX3_read_5 : decode cX3_read 5 = .ok (.aload_n 0, 1) := by decide +kernel
theorem dX3_read_6 : decode cX3_read 6 = .ok (.iload_n 2, 1) := by decide +kernel
theorem dX3_read_7 : decode cX3_read 7 = .ok (.aload_n 1, 1) := by decide +kernel
theorem dX3_read_8 : decode cX3_read 8 = .ok (.arraylength, 1) := by decide +kernel
theorem dX3_read_9 : decode cX3_read 9 = .ok (.invokestatic 18, 3) := by decide +kernel
theorem dX3_read_12 : decode cX3_read 12 = .ok (.putfield 24, 3) := by decide +kernel
theorem dX3_read_15 : decode cX3_read 15 = .ok (.aload_n 0, 1) := by decide +kernel
theorem dX3_read_16 : decode cX3_read 16 = .ok (.aload_n 3, 1) := by decide +kernel
theorem dX3_read_17 : decode cX3_read 17 = .ok (.putfield 28, 3) := by decide +kernel
theorem dX3_read_20 : decode cX3_read 20 = .ok (.aload_n 0, 1) := by decide +kernel
theorem dX3_read_21 : decode cX3_read 21 = .ok (.iconst 0, 1) := by decide +kernel
theorem dX3_read_22 : decode cX3_read 22 = .ok (.putfield 32, 3) := by decide +kernel
theorem dX3_read_25 : decode cX3_read 25 = .ok (.aload_n 0, 1) := by decide +kernel
theorem dX3_read_26 : decode cX3_read 26 = .ok (.iconst 0, 1) := by decide +kernel
theorem dX3_read_27 : decode cX3_read 27 = .ok (.putfield 35, 3) := by decide +kernel
theorem dX3_read_30 : decode cX3_read 30 = .ok (.aload_n 0, 1) := by decide +kernel
theorem dX3_read_31 : decode cX3_read 31 = .ok (.getfield 28, 3) := by decide +kernel
theorem dX3_read_34 : decode cX3_read 34 = .ok (.aload_n 0, 1) := by decide +kernel
theorem dX3_read_35 : decode cX3_read 35 = .ok (.getfield 24, 3) := by decide +kernel
theorem dX3_read_38 : decode cX3_read 38 = .ok (.invokevirtual 38, 3) := by decide +kernel
theorem dX3_read_41 : decode cX3_read 41 = .ok (.aload_n 0, 1) := by decide +kernel
theorem dX3_read_42 : decode cX3_read 42 = .ok (.getfield 28, 3) := by decide +kernel
theorem dX3_read_45 : decode cX3_read 45 = .ok (.aload_n 0, 1) := by decide +kernel
theorem dX3_read_46 : decode cX3_read 46 = .ok (.iconst 0, 1) := by decide +kernel
theorem dX3_read_47 : decode cX3_read 47 = .ok (.invokevirtual 44, 3) := by decide +kernel
theorem dX3_read_50 : decode cX3_read 50 = .ok (.putfield 48, 3) := by decide +kernel
theorem dX3_read_53 : decode cX3_read 53 = .ok (.aload_n 0, 1) := by decide +kernel
theorem dX3_read_54 : decode cX3_read 54 = .ok (.getfield 35, 3) := by decide +kernel
theorem dX3_read_57 : decode cX3_read 57 = .ok (.aload_n 0, 1) := by decide +kernel
theorem dX3_read_58 : decode cX3_read 58 = .ok (.getfield 24, 3) := by decide +kernel
theorem dX3_read_61 : decode cX3_read 61 = .ok (.if_icmp .ge 8, 3) := by decide +kernel
theorem dX3_read_64 : decode cX3_read 64 = .ok (.aload_n 0, 1) := by decide +kernel
theorem dX3_read_65 : decode cX3_read 65 = .ok (.iconst 1, 1) := by decide +kernel
theorem dX3_read_66 : decode cX3_read 66 = .ok (.invokevirtual 51, 3) := by decide +kernel
theorem dX3_read_69 : decode cX3_read 69 = .ok (.aload_n 0, 1) := by decide +kernel
theorem dX3_read_70 : decode cX3_read 70 = .ok (.getfield 32, 3) := by decide +kernel
theorem dX3_read_73 : decode cX3_read 73 = .ok (.ireturn, 1) := by decide +kernel
theorem dX3_readBody_0 : decode cX3_readBody 0 = .ok (.iconst 0, 1) := by decide +kernel
theorem dX3_readBody_1 : decode cX3_readBody 1 = .ok (.istore_n 2, 1) := by decide +kernel
theorem dX3_readBody_2 : decode cX3_readBody 2 = .ok (.iconst (-1), 1) := by decide +kernel
theorem dX3_readBody_3 : decode cX3_readBody 3 = .ok (.istore_n 3, 1) := by decide +kernel
theorem dX3_readBody_4 : decode cX3_readBody 4 = .ok (.iconst 1, 1) := by decide +kernel
theorem dX3_readBody_5 : decode cX3_readBody 5 = .ok (.istore 4, 2) := by decide +kernel
theorem dX3_readBody_7 : decode cX3_readBody 7 = .ok (.iconst 0, 1) := by decide +kernel
theorem dX3_readBody_8 : decode cX3_readBody 8 = .ok (.istore 5, 2) := by decide +kernel
theorem dX3_readBody_10 : decode cX3_readBody 10 = .ok (.iload 5, 2) := by decide +kernel
theorem dX3_readBody_12 : decode cX3_readBody 12 = .ok (.bipush 24, 2) := by decide +kernel
theorem dX3_readBody_14 : decode cX3_readBody 14 = .ok (.if_icmp .gt 71, 3) := by decide +kernel
theorem dX3_readBody_17 : decode cX3_readBody 17 = .ok (.iload 4, 2) := by decide +kernel
theorem dX3_readBody_19 : decode cX3_readBody 19 = .ok (.ifCond .eq 66, 3) := by decide +kernel
theorem dX3_readBody_22 : decode cX3_readBody 22 = .ok (.aload_n 0, 1) := by decide +kernel
theorem dX3_readBody_23 : decode cX3_readBody 23 = .ok (.iload_n 1, 1) := by decide +kernel
theorem dX3_readBody_24 : decode cX3_readBody 24 = .ok (.invokevirtual 54, 3) := by decide +kernel
theorem dX3_readBody_27 : decode cX3_readBody 27 = .ok (.istore 6, 2) := by decide +kernel
theorem dX3_readBody_29 : decode cX3_readBody 29 = .ok (.iload 6, 2) := by decide +kernel
theorem dX3_readBody_31 : decode cX3_readBody 31 = .ok (.bipush 24, 2) := by decide +kernel
theorem dX3_readBody_33 : decode cX3_readBody 33 = .ok (.invokestatic 57, 3) := by decide +kernel
theorem dX3_readBody_36 : decode cX3_readBody 36 = .ok (.ifCond .ne 5, 3) := by decide +kernel
theorem dX3_readBody_39 : decode cX3_readBody 39 = .ok (.iconst 0, 1) := by decide +kernel
theorem dX3_readBody_40 : decode cX3_readBody 40 = .ok (.ireturn, 1) := by decide +kernel
theorem dX3_readBody_41 : decode cX3_readBody 41 = .ok (.iload_n 3, 1) := by decide +kernel
theorem dX3_readBody_42 : decode cX3_readBody 42 = .ok (.ifCond .lt 14, 3) := by decide +kernel
theorem dX3_readBody_45 : decode cX3_readBody 45 = .ok (.aload_n 0, 1) := by decide +kernel
theorem dX3_readBody_46 : decode cX3_readBody 46 = .ok (.getfield 28, 3) := by decide +kernel
theorem dX3_readBody_49 : decode cX3_readBody 49 = .ok (.getfield 61, 3) := by decide +kernel
theorem dX3_readBody_52 : decode cX3_readBody 52 = .ok (.iload_n 3, 1) := by decide +kernel
theorem dX3_readBody_53 : decode cX3_readBody 53 = .ok (.iload 6, 2) := by decide +kernel
theorem dX3_readBody_55 : decode cX3_readBody 55 = .ok (.iastore, 1) := by decide +kernel
theorem dX3_readBody_56 : decode cX3_readBody 56 = .ok (.iload 6, 2) := by decide +kernel
theorem dX3_readBody_58 : decode cX3_readBody 58 = .ok (.istore_n 3, 1) := by decide +kernel
theorem dX3_readBody_59 : decode cX3_readBody 59 = .ok (.iload_n 2, 1) := by decide +kernel
theorem dX3_readBody_60 : decode cX3_readBody 60 = .ok (.aload_n 0, 1) := by decide +kernel
theorem dX3_readBody_61 : decode cX3_readBody 61 = .ok (.getfield 9, 3) := by decide +kernel
theorem dX3_readBody_64 : decode cX3_readBody 64 = .ok (.iload 6, 2) := by decide +kernel
theorem dX3_readBody_66 : decode cX3_readBody 66 = .ok (.iaload, 1) := by decide +kernel
theorem dX3_readBody_67 : decode cX3_readBody 67 = .ok (.invokestatic 64, 3) := by decide +kernel
theorem dX3_readBody_70 : decode cX3_readBody 70 = .ok (.istore_n 2, 1) := by decide +kernel
theorem dX3_readBody_71 : decode cX3_readBody 71 = .ok (.aload_n 0, 1) := by decide +kernel
theorem dX3_readBody_72 : decode cX3_readBody 72 = .ok (.bipush 59, 2) := by decide +kernel
theorem dX3_readBody_74 : decode cX3_readBody 74 = .ok (.invokevirtual 67, 3) := by decide +kernel
theorem dX3_readBody_77 : decode cX3_readBody 77 = .ok (.istore 4, 2) := by decide +kernel
theorem dX3_readBody_79 : decode cX3_readBody 79 = .ok (.iinc 5 1, 3) := by decide +kernel
theorem dX3_readBody_82 : decode cX3_readBody 82 = .ok (.goto (-72), 3) := by decide +kernel
theorem dX3_readBody_85 : decode cX3_readBody 85 = .ok (.iload_n 2, 1) := by decide +kernel
theorem dX3_readBody_86 : decode cX3_readBody 86 = .ok (.ireturn, 1) := by decide +kernel
theorem dX3_readItem_0 : decode cX3_readItem 0 = .ok (.aload_n 0, 1) := by decide +kernel
theorem dX3_readItem_1 : decode cX3_readItem 1 = .ok (.invokevirtual 71, 3) := by decide +kernel
theorem dX3_readItem_4 : decode cX3_readItem 4 = .ok (.invokestatic 75, 3) := by decide +kernel
theorem dX3_readItem_7 : decode cX3_readItem 7 = .ok (.istore_n 2, 1) := by decide +kernel
theorem dX3_readItem_8 : decode cX3_readItem 8 = .ok (.aload_n 0, 1) := by decide +kernel
theorem dX3_readItem_9 : decode cX3_readItem 9 = .ok (.getfield 32, 3) := by decide +kernel
theorem dX3_readItem_12 : decode cX3_readItem 12 = .ok (.ifCond .ne 7, 3) := by decide +kernel
theorem dX3_readItem_15 : decode cX3_readItem 15 = .ok (.iload_n 2, 1) := by decide +kernel
theorem dX3_readItem_16 : decode cX3_readItem 16 = .ok (.ifCond .ge 10, 3) := by decide +kernel
theorem dX3_readItem_19 : decode cX3_readItem 19 = .ok (.aload_n 0, 1) := by decide +kernel
theorem dX3_readItem_20 : decode cX3_readItem 20 = .ok (.iconst 1, 1) := by decide +kernel
theorem dX3_readItem_21 : decode cX3_readItem 21 = .ok (.invokevirtual 51, 3) := by decide +kernel
theorem dX3_readItem_24 : decode cX3_readItem 24 = .ok (.iconst (-1), 1) := by decide +kernel
theorem dX3_readItem_25 : decode cX3_readItem 25 = .ok (.ireturn, 1) := by decide +kernel
theorem dX3_readItem_26 : decode cX3_readItem 26 = .ok (.iload_n 2, 1) := by decide +kernel
theorem dX3_readItem_27 : decode cX3_readItem 27 = .ok (.iconst 4, 1) := by decide +kernel
theorem dX3_readItem_28 : decode cX3_readItem 28 = .ok (.if_icmp .eq 8, 3) := by decide +kernel
theorem dX3_readItem_31 : decode cX3_readItem 31 = .ok (.iload_n 2, 1) := by decide +kernel
theorem dX3_readItem_32 : decode cX3_readItem 32 = .ok (.iconst 5, 1) := by decide +kernel
theorem dX3_readItem_33 : decode cX3_readItem 33 = .ok (.if_icmp .ne 7, 3) := by decide +kernel
theorem dX3_readItem_36 : decode cX3_readItem 36 = .ok (.iconst 1, 1) := by decide +kernel
theorem dX3_readItem_37 : decode cX3_readItem 37 = .ok (.goto 4, 3) := by decide +kernel
theorem dX3_readItem_40 : decode cX3_readItem 40 = .ok (.iconst 0, 1) := by decide +kernel
theorem dX3_readItem_41 : decode cX3_readItem 41 = .ok (.istore_n 3, 1) := by decide +kernel
theorem dX3_readItem_42 : decode cX3_readItem 42 = .ok (.aload_n 0, 1) := by decide +kernel
theorem dX3_readItem_43 : decode cX3_readItem 43 = .ok (.getfield 28, 3) := by decide +kernel
theorem dX3_readItem_46 : decode cX3_readItem 46 = .ok (.getfield 78, 3) := by decide +kernel
theorem dX3_readItem_49 : decode cX3_readItem 49 = .ok (.bipush 24, 2) := by decide +kernel
theorem dX3_readItem_51 : decode cX3_readItem 51 = .ok (.if_icmp .ge 12, 3) := by decide +kernel
theorem dX3_readItem_54 : decode cX3_readItem 54 = .ok (.iload_n 3, 1) := by decide +kernel
theorem dX3_readItem_55 : decode cX3_readItem 55 = .ok (.ifCond .eq 15, 3) := by decide +kernel
theorem dX3_readItem_58 : decode cX3_readItem 58 = .ok (.iload_n 1, 1) := by decide +kernel
theorem dX3_readItem_59 : decode cX3_readItem 59 = .ok (.iconst 4, 1) := by decide +kernel
theorem dX3_readItem_60 : decode cX3_readItem 60 = .ok (.if_icmp .lt 10, 3) := by decide +kernel
theorem dX3_readItem_63 : decode cX3_readItem 63 = .ok (.aload_n 0, 1) := by decide +kernel
theorem dX3_readItem_64 : decode cX3_readItem 64 = .ok (.iconst 2, 1) := by decide +kernel
theorem dX3_readItem_65 : decode cX3_readItem 65 = .ok (.invokevirtual 51, 3) := by decide +kernel
theorem dX3_readItem_68 : decode cX3_readItem 68 = .ok (.iconst (-1), 1) := by decide +kernel
theorem dX3_readItem_69 : decode cX3_readItem 69 = .ok (.ireturn, 1) := by decide +kernel
theorem dX3_readItem_70 : decode cX3_readItem 70 = .ok (.aload_n 0, 1) := by decide +kernel
theorem dX3_readItem_71 : decode cX3_readItem 71 = .ok (.getfield 28, 3) := by decide +kernel
theorem dX3_readItem_74 : decode cX3_readItem 74 = .ok (.iload_n 2, 1) := by decide +kernel
theorem dX3_readItem_75 : decode cX3_readItem 75 = .ok (.aload_n 0, 1) := by decide +kernel
theorem dX3_readItem_76 : decode cX3_readItem 76 = .ok (.getfield 35, 3) := by decide +kernel
theorem dX3_readItem_79 : decode cX3_readItem 79 = .ok (.invokevirtual 81, 3) := by decide +kernel
theorem dX3_readItem_82 : decode cX3_readItem 82 = .ok (.istore 4, 2) := by decide +kernel
theorem dX3_readItem_84 : decode cX3_readItem 84 = .ok (.aload_n 0, 1) := by decide +kernel
theorem dX3_readItem_85 : decode cX3_readItem 85 = .ok (.getfield 9, 3) := by decide +kernel
theorem dX3_readItem_88 : decode cX3_readItem 88 = .ok (.iload 4, 2) := by decide +kernel
theorem dX3_readItem_90 : decode cX3_readItem 90 = .ok (.iconst 1, 1) := by decide +kernel
theorem dX3_readItem_91 : decode cX3_readItem 91 = .ok (.iastore, 1) := by decide +kernel
theorem dX3_readItem_92 : decode cX3_readItem 92 = .ok (.aload_n 0, 1) := by decide +kernel
theorem dX3_readItem_93 : decode cX3_readItem 93 = .ok (.dup, 1) := by decide +kernel
theorem dX3_readItem_94 : decode cX3_readItem 94 = .ok (.getfield 35, 3) := by decide +kernel
theorem dX3_readItem_97 : decode cX3_readItem 97 = .ok (.iconst 1, 1) := by decide +kernel
theorem dX3_readItem_98 : decode cX3_readItem 98 = .ok (.iadd, 1) := by decide +kernel
theorem dX3_readItem_99 : decode cX3_readItem 99 = .ok (.putfield 35, 3) := by decide +kernel
theorem dX3_readItem_102 : decode cX3_readItem 102 = .ok (.iload_n 3, 1) := by decide +kernel
theorem dX3_readItem_103 : decode cX3_readItem 103 = .ok (.ifCond .eq 23, 3) := by decide +kernel
theorem dX3_readItem_106 : decode cX3_readItem 106 = .ok (.aload_n 0, 1) := by decide +kernel
theorem dX3_readItem_107 : decode cX3_readItem 107 = .ok (.getfield 28, 3) := by decide +kernel
theorem dX3_readItem_110 : decode cX3_readItem 110 = .ok (.aload_n 0, 1) := by decide +kernel
theorem dX3_readItem_111 : decode cX3_readItem 111 = .ok (.getfield 28, 3) := by decide +kernel
theorem dX3_readItem_114 : decode cX3_readItem 114 = .ok (.getfield 84, 3) := by decide +kernel
theorem dX3_readItem_117 : decode cX3_readItem 117 = .ok (.iload_n 1, 1) := by decide +kernel
theorem dX3_readItem_118 : decode cX3_readItem 118 = .ok (.iconst 1, 1) := by decide +kernel
theorem dX3_readItem_119 : decode cX3_readItem 119 = .ok (.iadd, 1) := by decide +kernel
theorem dX3_readItem_120 : decode cX3_readItem 120 = .ok (.invokestatic 64, 3) := by decide +kernel
theorem dX3_readItem_123 : decode cX3_readItem 123 = .ok (.putfield 84, 3) := by decide +kernel
theorem dX3_readItem_126 : decode cX3_readItem 126 = .ok (.iload_n 2, 1) := by decide +kernel
theorem dX3_readItem_127 : decode cX3_readItem 127 = .ok (.tableswitch 89 0 4 #[33, 42, 59, 68, 77], 33) := by decide +kernel
theorem dX3_readItem_160 : decode cX3_readItem 160 = .ok (.aload_n 0, 1) := by decide +kernel
theorem dX3_readItem_161 : decode cX3_readItem 161 = .ok (.iload 4, 2) := by decide +kernel
theorem dX3_readItem_163 : decode cX3_readItem 163 = .ok (.invokevirtual 87, 3) := by decide +kernel
theorem dX3_readItem_166 : decode cX3_readItem 166 = .ok (.goto 59, 3) := by decide +kernel
theorem dX3_readItem_169 : decode cX3_readItem 169 = .ok (.aload_n 0, 1) := by decide +kernel
theorem dX3_readItem_170 : decode cX3_readItem 170 = .ok (.getfield 28, 3) := by decide +kernel
theorem dX3_readItem_173 : decode cX3_readItem 173 = .ok (.getfield 90, 3) := by decide +kernel
theorem dX3_readItem_176 : decode cX3_readItem 176 = .ok (.iload 4, 2) := by decide +kernel
theorem dX3_readItem_178 : decode cX3_readItem 178 = .ok (.aload_n 0, 1) := by decide +kernel
theorem dX3_readItem_179 : decode cX3_readItem 179 = .ok (.invokevirtual 93, 3) := by decide +kernel
theorem dX3_readItem_182 : decode cX3_readItem 182 = .ok (.iastore, 1) := by decide +kernel
theorem dX3_readItem_183 : decode cX3_readItem 183 = .ok (.goto 42, 3) := by decide +kernel
theorem dX3_readItem_186 : decode cX3_readItem 186 = .ok (.aload_n 0, 1) := by decide +kernel
theorem dX3_readItem_187 : decode cX3_readItem 187 = .ok (.iload 4, 2) := by decide +kernel
theorem dX3_readItem_189 : decode cX3_readItem 189 = .ok (.invokevirtual 96, 3) := by decide +kernel
theorem dX3_readItem_192 : decode cX3_readItem 192 = .ok (.goto 33, 3) := by decide +kernel
theorem dX3_readItem_195 : decode cX3_readItem 195 = .ok (.aload_n 0, 1) := by decide +kernel
theorem dX3_readItem_196 : decode cX3_readItem 196 = .ok (.iload 4, 2) := by decide +kernel
theorem dX3_readItem_198 : decode cX3_readItem 198 = .ok (.invokevirtual 99, 3) := by decide +kernel
theorem dX3_readItem_201 : decode cX3_readItem 201 = .ok (.goto 24, 3) := by decide +kernel
theorem dX3_readItem_204 : decode cX3_readItem 204 = .ok (.aload_n 0, 1) := by decide +kernel
theorem dX3_readItem_205 : decode cX3_readItem 205 = .ok (.iload 4, 2) := by decide +kernel
theorem dX3_readItem_207 : decode cX3_readItem 207 = .ok (.iload_n 1, 1) := by decide +kernel
theorem dX3_readItem_208 : decode cX3_readItem 208 = .ok (.iconst 1, 1) := by decide +kernel
theorem dX3_readItem_209 : decode cX3_readItem 209 = .ok (.iadd, 1) := by decide +kernel
theorem dX3_readItem_210 : decode cX3_readItem 210 = .ok (.invokevirtual 102, 3) := by decide +kernel
theorem dX3_readItem_213 : decode cX3_readItem 213 = .ok (.goto 12, 3) := by decide +kernel
theorem dX3_readItem_216 : decode cX3_readItem 216 = .ok (.aload_n 0, 1) := by decide +kernel
theorem dX3_readItem_217 : decode cX3_readItem 217 = .ok (.iload 4, 2) := by decide +kernel
theorem dX3_readItem_219 : decode cX3_readItem 219 = .ok (.iload_n 1, 1) := by decide +kernel
theorem dX3_readItem_220 : decode cX3_readItem 220 = .ok (.iconst 1, 1) := by decide +kernel
theorem dX3_readItem_221 : decode cX3_readItem 221 = .ok (.iadd, 1) := by decide +kernel
theorem dX3_readItem_222 : decode cX3_readItem 222 = .ok (.invokevirtual 106, 3) := by decide +kernel
theorem dX3_readItem_225 : decode cX3_readItem 225 = .ok (.aload_n 0, 1) := by decide +kernel
theorem dX3_readItem_226 : decode cX3_readItem 226 = .ok (.getfield 28, 3) := by decide +kernel
theorem dX3_readItem_229 : decode cX3_readItem 229 = .ok (.getfield 109, 3) := by decide +kernel
theorem dX3_readItem_232 : decode cX3_readItem 232 = .ok (.iload 4, 2) := by decide +kernel
theorem dX3_readItem_234 : decode cX3_readItem 234 = .ok (.aload_n 0, 1) := by decide +kernel
theorem dX3_readItem_235 : decode cX3_readItem 235 = .ok (.getfield 28, 3) := by decide +kernel
theorem dX3_readItem_238 : decode cX3_readItem 238 = .ok (.getfield 78, 3) := by decide +kernel
theorem dX3_readItem_241 : decode cX3_readItem 241 = .ok (.iastore, 1) := by decide +kernel
theorem dX3_readItem_242 : decode cX3_readItem 242 = .ok (.aload_n 0, 1) := by decide +kernel
theorem dX3_readItem_243 : decode cX3_readItem 243 = .ok (.getfield 32, 3) := by decide +kernel
theorem dX3_readItem_246 : decode cX3_readItem 246 = .ok (.ifCond .ne 8, 3) := by decide +kernel
theorem dX3_readItem_249 : decode cX3_readItem 249 = .ok (.iload 4, 2) := by decide +kernel
theorem dX3_readItem_251 : decode cX3_readItem 251 = .ok (.goto 4, 3) := by decide +kernel
theorem dX3_readItem_254 : decode cX3_readItem 254 = .ok (.iconst (-1), 1) := by decide +kernel
theorem dX3_readItem_255 : decode cX3_readItem 255 = .ok (.ireturn, 1) := by decide +kernel
theorem dX3_readTask_0 : decode cX3_readTask 0 = .ok (.aload_n 0, 1) := by decide +kernel
theorem dX3_readTask_1 : decode cX3_readTask 1 = .ok (.getfield 28, 3) := by decide +kernel
theorem dX3_readTask_4 : decode cX3_readTask 4 = .ok (.getfield 112, 3) := by decide +kernel
theorem dX3_readTask_7 : decode cX3_readTask 7 = .ok (.iload_n 1, 1) := by decide +kernel
theorem dX3_readTask_8 : decode cX3_readTask 8 = .ok (.aload_n 0, 1) := by decide +kernel
theorem dX3_readTask_9 : decode cX3_readTask 9 = .ok (.invokevirtual 115, 3) := by decide +kernel
theorem dX3_readTask_12 : decode cX3_readTask 12 = .ok (.iastore, 1) := by decide +kernel
theorem dX3_readTask_13 : decode cX3_readTask 13 = .ok (.aload_n 0, 1) := by decide +kernel
theorem dX3_readTask_14 : decode cX3_readTask 14 = .ok (.bipush 114, 2) := by decide +kernel
theorem dX3_readTask_16 : decode cX3_readTask 16 = .ok (.invokevirtual 67, 3) := by decide +kernel
theorem dX3_readTask_19 : decode cX3_readTask 19 = .ok (.ifCond .eq 42, 3) := by decide +kernel
theorem dX3_readTask_22 : decode cX3_readTask 22 = .ok (.aload_n 0, 1) := by decide +kernel
theorem dX3_readTask_23 : decode cX3_readTask 23 = .ok (.getfield 28, 3) := by decide +kernel
theorem dX3_readTask_26 : decode cX3_readTask 26 = .ok (.getfield 118, 3) := by decide +kernel
theorem dX3_readTask_29 : decode cX3_readTask 29 = .ok (.iload_n 1, 1) := by decide +kernel
theorem dX3_readTask_30 : decode cX3_readTask 30 = .ok (.aload_n 0, 1) := by decide +kernel
theorem dX3_readTask_31 : decode cX3_readTask 31 = .ok (.bipush 48, 2) := by decide +kernel
theorem dX3_readTask_33 : decode cX3_readTask 33 = .ok (.bipush 57, 2) := by decide +kernel
theorem dX3_readTask_35 : decode cX3_readTask 35 = .ok (.invokevirtual 121, 3) := by decide +kernel
theorem dX3_readTask_38 : decode cX3_readTask 38 = .ok (.iastore, 1) := by decide +kernel
theorem dX3_readTask_39 : decode cX3_readTask 39 = .ok (.aload_n 0, 1) := by decide +kernel
theorem dX3_readTask_40 : decode cX3_readTask 40 = .ok (.bipush 43, 2) := by decide +kernel
theorem dX3_readTask_42 : decode cX3_readTask 42 = .ok (.invokevirtual 67, 3) := by decide +kernel
theorem dX3_readTask_45 : decode cX3_readTask 45 = .ok (.ifCond .eq 16, 3) := by decide +kernel
theorem dX3_readTask_48 : decode cX3_readTask 48 = .ok (.aload_n 0, 1) := by decide +kernel
theorem dX3_readTask_49 : decode cX3_readTask 49 = .ok (.getfield 28, 3) := by decide +kernel
theorem dX3_readTask_52 : decode cX3_readTask 52 = .ok (.getfield 90, 3) := by decide +kernel
theorem dX3_readTask_55 : decode cX3_readTask 55 = .ok (.iload_n 1, 1) := by decide +kernel
theorem dX3_readTask_56 : decode cX3_readTask 56 = .ok (.aload_n 0, 1) := by decide +kernel
theorem dX3_readTask_57 : decode cX3_readTask 57 = .ok (.invokevirtual 93, 3) := by decide +kernel
theorem dX3_readTask_60 : decode cX3_readTask 60 = .ok (.iastore, 1) := by decide +kernel
theorem dX3_readTask_61 : decode cX3_readTask 61 = .ok (.aload_n 0, 1) := by decide +kernel
theorem dX3_readTask_62 : decode cX3_readTask 62 = .ok (.bipush 99, 2) := by decide +kernel
theorem dX3_readTask_64 : decode cX3_readTask 64 = .ok (.invokevirtual 67, 3) := by decide +kernel
theorem dX3_readTask_67 : decode cX3_readTask 67 = .ok (.ifCond .eq 16, 3) := by decide +kernel
theorem dX3_readTask_70 : decode cX3_readTask 70 = .ok (.aload_n 0, 1) := by decide +kernel
theorem dX3_readTask_71 : decode cX3_readTask 71 = .ok (.getfield 28, 3) := by decide +kernel
theorem dX3_readTask_74 : decode cX3_readTask 74 = .ok (.getfield 124, 3) := by decide +kernel
theorem dX3_readTask_77 : decode cX3_readTask 77 = .ok (.iload_n 1, 1) := by decide +kernel
theorem dX3_readTask_78 : decode cX3_readTask 78 = .ok (.aload_n 0, 1) := by decide +kernel
theorem dX3_readTask_79 : decode cX3_readTask 79 = .ok (.invokevirtual 115, 3) := by decide +kernel
theorem dX3_readTask_82 : decode cX3_readTask 82 = .ok (.iastore, 1) := by decide +kernel
theorem dX3_readTask_83 : decode cX3_readTask 83 = .ok (.return_, 1) := by decide +kernel
theorem dX3_readSignal_0 : decode cX3_readSignal 0 = .ok (.aload_n 0, 1) := by decide +kernel
theorem dX3_readSignal_1 : decode cX3_readSignal 1 = .ok (.getfield 28, 3) := by decide +kernel
theorem dX3_readSignal_4 : decode cX3_readSignal 4 = .ok (.getfield 112, 3) := by decide +kernel
theorem dX3_readSignal_7 : decode cX3_readSignal 7 = .ok (.iload_n 1, 1) := by decide +kernel
theorem dX3_readSignal_8 : decode cX3_readSignal 8 = .ok (.aload_n 0, 1) := by decide +kernel
theorem dX3_readSignal_9 : decode cX3_readSignal 9 = .ok (.invokevirtual 115, 3) := by decide +kernel
theorem dX3_readSignal_12 : decode cX3_readSignal 12 = .ok (.iastore, 1) := by decide +kernel
theorem dX3_readSignal_13 : decode cX3_readSignal 13 = .ok (.aload_n 0, 1) := by decide +kernel
theorem dX3_readSignal_14 : decode cX3_readSignal 14 = .ok (.bipush 44, 2) := by decide +kernel
theorem dX3_readSignal_16 : decode cX3_readSignal 16 = .ok (.invokevirtual 67, 3) := by decide +kernel
theorem dX3_readSignal_19 : decode cX3_readSignal 19 = .ok (.ifCond .eq 16, 3) := by decide +kernel
theorem dX3_readSignal_22 : decode cX3_readSignal 22 = .ok (.aload_n 0, 1) := by decide +kernel
theorem dX3_readSignal_23 : decode cX3_readSignal 23 = .ok (.getfield 28, 3) := by decide +kernel
theorem dX3_readSignal_26 : decode cX3_readSignal 26 = .ok (.getfield 90, 3) := by decide +kernel
theorem dX3_readSignal_29 : decode cX3_readSignal 29 = .ok (.iload_n 1, 1) := by decide +kernel
theorem dX3_readSignal_30 : decode cX3_readSignal 30 = .ok (.aload_n 0, 1) := by decide +kernel
theorem dX3_readSignal_31 : decode cX3_readSignal 31 = .ok (.invokevirtual 93, 3) := by decide +kernel
theorem dX3_readSignal_34 : decode cX3_readSignal 34 = .ok (.iastore, 1) := by decide +kernel
theorem dX3_readSignal_35 : decode cX3_readSignal 35 = .ok (.return_, 1) := by decide +kernel
theorem dX3_readSet_0 : decode cX3_readSet 0 = .ok (.aload_n 0, 1) := by decide +kernel
theorem dX3_readSet_1 : decode cX3_readSet 1 = .ok (.getfield 28, 3) := by decide +kernel
theorem dX3_readSet_4 : decode cX3_readSet 4 = .ok (.getfield 112, 3) := by decide +kernel
theorem dX3_readSet_7 : decode cX3_readSet 7 = .ok (.iload_n 1, 1) := by decide +kernel
theorem dX3_readSet_8 : decode cX3_readSet 8 = .ok (.aload_n 0, 1) := by decide +kernel
theorem dX3_readSet_9 : decode cX3_readSet 9 = .ok (.invokevirtual 127, 3) := by decide +kernel
theorem dX3_readSet_12 : decode cX3_readSet 12 = .ok (.iastore, 1) := by decide +kernel
theorem dX3_readSet_13 : decode cX3_readSet 13 = .ok (.aload_n 0, 1) := by decide +kernel
theorem dX3_readSet_14 : decode cX3_readSet 14 = .ok (.bipush 43, 2) := by decide +kernel
theorem dX3_readSet_16 : decode cX3_readSet 16 = .ok (.invokevirtual 67, 3) := by decide +kernel
theorem dX3_readSet_19 : decode cX3_readSet 19 = .ok (.ifCond .eq 16, 3) := by decide +kernel
theorem dX3_readSet_22 : decode cX3_readSet 22 = .ok (.aload_n 0, 1) := by decide +kernel
theorem dX3_readSet_23 : decode cX3_readSet 23 = .ok (.getfield 28, 3) := by decide +kernel
theorem dX3_readSet_26 : decode cX3_readSet 26 = .ok (.getfield 118, 3) := by decide +kernel
theorem dX3_readSet_29 : decode cX3_readSet 29 = .ok (.iload_n 1, 1) := by decide +kernel
theorem dX3_readSet_30 : decode cX3_readSet 30 = .ok (.iconst 1, 1) := by decide +kernel
theorem dX3_readSet_31 : decode cX3_readSet 31 = .ok (.iastore, 1) := by decide +kernel
theorem dX3_readSet_32 : decode cX3_readSet 32 = .ok (.goto 9, 3) := by decide +kernel
theorem dX3_readSet_35 : decode cX3_readSet 35 = .ok (.aload_n 0, 1) := by decide +kernel
theorem dX3_readSet_36 : decode cX3_readSet 36 = .ok (.bipush 61, 2) := by decide +kernel
theorem dX3_readSet_38 : decode cX3_readSet 38 = .ok (.invokevirtual 130, 3) := by decide +kernel
theorem dX3_readSet_41 : decode cX3_readSet 41 = .ok (.aload_n 0, 1) := by decide +kernel
theorem dX3_readSet_42 : decode cX3_readSet 42 = .ok (.getfield 28, 3) := by decide +kernel
theorem dX3_readSet_45 : decode cX3_readSet 45 = .ok (.getfield 90, 3) := by decide +kernel
theorem dX3_readSet_48 : decode cX3_readSet 48 = .ok (.iload_n 1, 1) := by decide +kernel
theorem dX3_readSet_49 : decode cX3_readSet 49 = .ok (.aload_n 0, 1) := by decide +kernel
theorem dX3_readSet_50 : decode cX3_readSet 50 = .ok (.bipush 45, 2) := by decide +kernel
theorem dX3_readSet_52 : decode cX3_readSet 52 = .ok (.invokevirtual 67, 3) := by decide +kernel
theorem dX3_readSet_55 : decode cX3_readSet 55 = .ok (.ifCond .eq 11, 3) := by decide +kernel
theorem dX3_readSet_58 : decode cX3_readSet 58 = .ok (.aload_n 0, 1) := by decide +kernel
theorem dX3_readSet_59 : decode cX3_readSet 59 = .ok (.invokevirtual 93, 3) := by decide +kernel
theorem dX3_readSet_62 : decode cX3_readSet 62 = .ok (.ineg, 1) := by decide +kernel
theorem dX3_readSet_63 : decode cX3_readSet 63 = .ok (.goto 7, 3) := by decide +kernel
theorem dX3_readSet_66 : decode cX3_readSet 66 = .ok (.aload_n 0, 1) := by decide +kernel
theorem dX3_readSet_67 : decode cX3_readSet 67 = .ok (.invokevirtual 93, 3) := by decide +kernel
theorem dX3_readSet_70 : decode cX3_readSet 70 = .ok (.iastore, 1) := by decide +kernel
theorem dX3_readSet_71 : decode cX3_readSet 71 = .ok (.return_, 1) := by decide +kernel
theorem dX3_readChoice_0 : decode cX3_readChoice 0 = .ok (.aload_n 0, 1) := by decide +kernel
theorem dX3_readChoice_1 : decode cX3_readChoice 1 = .ok (.bipush 120, 2) := by decide +kernel
theorem dX3_readChoice_3 : decode cX3_readChoice 3 = .ok (.invokevirtual 130, 3) := by decide +kernel
theorem dX3_readChoice_6 : decode cX3_readChoice 6 = .ok (.aload_n 0, 1) := by decide +kernel
theorem dX3_readChoice_7 : decode cX3_readChoice 7 = .ok (.getfield 28, 3) := by decide +kernel
theorem dX3_readChoice_10 : decode cX3_readChoice 10 = .ok (.getfield 112, 3) := by decide +kernel
theorem dX3_readChoice_13 : decode cX3_readChoice 13 = .ok (.iload_n 1, 1) := by decide +kernel
theorem dX3_readChoice_14 : decode cX3_readChoice 14 = .ok (.aload_n 0, 1) := by decide +kernel
theorem dX3_readChoice_15 : decode cX3_readChoice 15 = .ok (.invokevirtual 127, 3) := by decide +kernel
theorem dX3_readChoice_18 : decode cX3_readChoice 18 = .ok (.iastore, 1) := by decide +kernel
theorem dX3_readChoice_19 : decode cX3_readChoice 19 = .ok (.aload_n 0, 1) := by decide +kernel
theorem dX3_readChoice_20 : decode cX3_readChoice 20 = .ok (.bipush 60, 2) := by decide +kernel
theorem dX3_readChoice_22 : decode cX3_readChoice 22 = .ok (.invokevirtual 130, 3) := by decide +kernel
theorem dX3_readChoice_25 : decode cX3_readChoice 25 = .ok (.aload_n 0, 1) := by decide +kernel
theorem dX3_readChoice_26 : decode cX3_readChoice 26 = .ok (.getfield 28, 3) := by decide +kernel
theorem dX3_readChoice_29 : decode cX3_readChoice 29 = .ok (.getfield 90, 3) := by decide +kernel
theorem dX3_readChoice_32 : decode cX3_readChoice 32 = .ok (.iload_n 1, 1) := by decide +kernel
theorem dX3_readChoice_33 : decode cX3_readChoice 33 = .ok (.aload_n 0, 1) := by decide +kernel
theorem dX3_readChoice_34 : decode cX3_readChoice 34 = .ok (.bipush 45, 2) := by decide +kernel
theorem dX3_readChoice_36 : decode cX3_readChoice 36 = .ok (.invokevirtual 67, 3) := by decide +kernel
theorem dX3_readChoice_39 : decode cX3_readChoice 39 = .ok (.ifCond .eq 11, 3) := by decide +kernel
theorem dX3_readChoice_42 : decode cX3_readChoice 42 = .ok (.aload_n 0, 1) := by decide +kernel
theorem dX3_readChoice_43 : decode cX3_readChoice 43 = .ok (.invokevirtual 93, 3) := by decide +kernel
theorem dX3_readChoice_46 : decode cX3_readChoice 46 = .ok (.ineg, 1) := by decide +kernel
theorem dX3_readChoice_47 : decode cX3_readChoice 47 = .ok (.goto 7, 3) := by decide +kernel
theorem dX3_readChoice_50 : decode cX3_readChoice 50 = .ok (.aload_n 0, 1) := by decide +kernel
theorem dX3_readChoice_51 : decode cX3_readChoice 51 = .ok (.invokevirtual 93, 3) := by decide +kernel
theorem dX3_readChoice_54 : decode cX3_readChoice 54 = .ok (.iastore, 1) := by decide +kernel
theorem dX3_readChoice_55 : decode cX3_readChoice 55 = .ok (.aload_n 0, 1) := by decide +kernel
theorem dX3_readChoice_56 : decode cX3_readChoice 56 = .ok (.bipush 58, 2) := by decide +kernel
theorem dX3_readChoice_58 : decode cX3_readChoice 58 = .ok (.invokevirtual 130, 3) := by decide +kernel
theorem dX3_readChoice_61 : decode cX3_readChoice 61 = .ok (.aload_n 0, 1) := by decide +kernel
theorem dX3_readChoice_62 : decode cX3_readChoice 62 = .ok (.iload_n 1, 1) := by decide +kernel
theorem dX3_readChoice_63 : decode cX3_readChoice 63 = .ok (.iconst 0, 1) := by decide +kernel
theorem dX3_readChoice_64 : decode cX3_readChoice 64 = .ok (.iload_n 2, 1) := by decide +kernel
theorem dX3_readChoice_65 : decode cX3_readChoice 65 = .ok (.invokevirtual 133, 3) := by decide +kernel
theorem dX3_readChoice_68 : decode cX3_readChoice 68 = .ok (.istore_n 3, 1) := by decide +kernel
theorem dX3_readChoice_69 : decode cX3_readChoice 69 = .ok (.aload_n 0, 1) := by decide +kernel
theorem dX3_readChoice_70 : decode cX3_readChoice 70 = .ok (.bipush 124, 2) := by decide +kernel
theorem dX3_readChoice_72 : decode cX3_readChoice 72 = .ok (.invokevirtual 130, 3) := by decide +kernel
theorem dX3_readChoice_75 : decode cX3_readChoice 75 = .ok (.aload_n 0, 1) := by decide +kernel
theorem dX3_readChoice_76 : decode cX3_readChoice 76 = .ok (.iload_n 1, 1) := by decide +kernel
theorem dX3_readChoice_77 : decode cX3_readChoice 77 = .ok (.iconst 1, 1) := by decide +kernel
theorem dX3_readChoice_78 : decode cX3_readChoice 78 = .ok (.iload_n 2, 1) := by decide +kernel
theorem dX3_readChoice_79 : decode cX3_readChoice 79 = .ok (.invokevirtual 133, 3) := by decide +kernel
theorem dX3_readChoice_82 : decode cX3_readChoice 82 = .ok (.istore 4, 2) := by decide +kernel
theorem dX3_readChoice_84 : decode cX3_readChoice 84 = .ok (.aload_n 0, 1) := by decide +kernel
theorem dX3_readChoice_85 : decode cX3_readChoice 85 = .ok (.bipush 93, 2) := by decide +kernel
theorem dX3_readChoice_87 : decode cX3_readChoice 87 = .ok (.invokevirtual 130, 3) := by decide +kernel
theorem dX3_readChoice_90 : decode cX3_readChoice 90 = .ok (.aload_n 0, 1) := by decide +kernel
theorem dX3_readChoice_91 : decode cX3_readChoice 91 = .ok (.getfield 9, 3) := by decide +kernel
theorem dX3_readChoice_94 : decode cX3_readChoice 94 = .ok (.iload_n 1, 1) := by decide +kernel
theorem dX3_readChoice_95 : decode cX3_readChoice 95 = .ok (.iload_n 3, 1) := by decide +kernel
theorem dX3_readChoice_96 : decode cX3_readChoice 96 = .ok (.iload 4, 2) := by decide +kernel
theorem dX3_readChoice_98 : decode cX3_readChoice 98 = .ok (.invokestatic 64, 3) := by decide +kernel
theorem dX3_readChoice_101 : decode cX3_readChoice 101 = .ok (.iastore, 1) := by decide +kernel
theorem dX3_readChoice_102 : decode cX3_readChoice 102 = .ok (.return_, 1) := by decide +kernel
theorem dX3_readParallel_0 : decode cX3_readParallel 0 = .ok (.aload_n 0, 1) := by decide +kernel
theorem dX3_readParallel_1 : decode cX3_readParallel 1 = .ok (.iload_n 1, 1) := by decide +kernel
theorem dX3_readParallel_2 : decode cX3_readParallel 2 = .ok (.iconst 0, 1) := by decide +kernel
theorem dX3_readParallel_3 : decode cX3_readParallel 3 = .ok (.iload_n 2, 1) := by decide +kernel
theorem dX3_readParallel_4 : decode cX3_readParallel 4 = .ok (.invokevirtual 133, 3) := by decide +kernel
theorem dX3_readParallel_7 : decode cX3_readParallel 7 = .ok (.istore_n 3, 1) := by decide +kernel
theorem dX3_readParallel_8 : decode cX3_readParallel 8 = .ok (.iconst 1, 1) := by decide +kernel
theorem dX3_readParallel_9 : decode cX3_readParallel 9 = .ok (.istore 4, 2) := by decide +kernel
theorem dX3_readParallel_11 : decode cX3_readParallel 11 = .ok (.iload 4, 2) := by decide +kernel
theorem dX3_readParallel_13 : decode cX3_readParallel 13 = .ok (.iconst 4, 1) := by decide +kernel
theorem dX3_readParallel_14 : decode cX3_readParallel 14 = .ok (.if_icmp .ge 29, 3) := by decide +kernel
theorem dX3_readParallel_17 : decode cX3_readParallel 17 = .ok (.aload_n 0, 1) := by decide +kernel
theorem dX3_readParallel_18 : decode cX3_readParallel 18 = .ok (.bipush 124, 2) := by decide +kernel
theorem dX3_readParallel_20 : decode cX3_readParallel 20 = .ok (.invokevirtual 67, 3) := by decide +kernel
theorem dX3_readParallel_23 : decode cX3_readParallel 23 = .ok (.ifCond .eq 20, 3) := by decide +kernel
theorem dX3_readParallel_26 : decode cX3_readParallel 26 = .ok (.iload_n 3, 1) := by decide +kernel
theorem dX3_readParallel_27 : decode cX3_readParallel 27 = .ok (.aload_n 0, 1) := by decide +kernel
theorem dX3_readParallel_28 : decode cX3_readParallel 28 = .ok (.iload_n 1, 1) := by decide +kernel
theorem dX3_readParallel_29 : decode cX3_readParallel 29 = .ok (.iload 4, 2) := by decide +kernel
theorem dX3_readParallel_31 : decode cX3_readParallel 31 = .ok (.iload_n 2, 1) := by decide +kernel
theorem dX3_readParallel_32 : decode cX3_readParallel 32 = .ok (.invokevirtual 133, 3) := by decide +kernel
theorem dX3_readParallel_35 : decode cX3_readParallel 35 = .ok (.iadd, 1) := by decide +kernel
theorem dX3_readParallel_36 : decode cX3_readParallel 36 = .ok (.istore_n 3, 1) := by decide +kernel
theorem dX3_readParallel_37 : decode cX3_readParallel 37 = .ok (.iinc 4 1, 3) := by decide +kernel
theorem dX3_readParallel_40 : decode cX3_readParallel 40 = .ok (.goto (-29), 3) := by decide +kernel
theorem dX3_readParallel_43 : decode cX3_readParallel 43 = .ok (.aload_n 0, 1) := by decide +kernel
theorem dX3_readParallel_44 : decode cX3_readParallel 44 = .ok (.bipush 124, 2) := by decide +kernel
theorem dX3_readParallel_46 : decode cX3_readParallel 46 = .ok (.invokevirtual 67, 3) := by decide +kernel
theorem dX3_readParallel_49 : decode cX3_readParallel 49 = .ok (.ifCond .eq 22, 3) := by decide +kernel
theorem dX3_readParallel_52 : decode cX3_readParallel 52 = .ok (.aload_n 0, 1) := by decide +kernel
theorem dX3_readParallel_53 : decode cX3_readParallel 53 = .ok (.aload_n 0, 1) := by decide +kernel
theorem dX3_readParallel_54 : decode cX3_readParallel 54 = .ok (.invokevirtual 71, 3) := by decide +kernel
theorem dX3_readParallel_57 : decode cX3_readParallel 57 = .ok (.invokestatic 75, 3) := by decide +kernel
theorem dX3_readParallel_60 : decode cX3_readParallel 60 = .ok (.ifCond .ge 7, 3) := by decide +kernel
theorem dX3_readParallel_63 : decode cX3_readParallel 63 = .ok (.iconst 1, 1) := by decide +kernel
theorem dX3_readParallel_64 : decode cX3_readParallel 64 = .ok (.goto 4, 3) := by decide +kernel
theorem dX3_readParallel_67 : decode cX3_readParallel 67 = .ok (.iconst 2, 1) := by decide +kernel
theorem dX3_readParallel_68 : decode cX3_readParallel 68 = .ok (.invokevirtual 51, 3) := by decide +kernel
theorem dX3_readParallel_71 : decode cX3_readParallel 71 = .ok (.aload_n 0, 1) := by decide +kernel
theorem dX3_readParallel_72 : decode cX3_readParallel 72 = .ok (.bipush 41, 2) := by decide +kernel
theorem dX3_readParallel_74 : decode cX3_readParallel 74 = .ok (.invokevirtual 130, 3) := by decide +kernel
theorem dX3_readParallel_77 : decode cX3_readParallel 77 = .ok (.aload_n 0, 1) := by decide +kernel
theorem dX3_readParallel_78 : decode cX3_readParallel 78 = .ok (.getfield 28, 3) := by decide +kernel
theorem dX3_readParallel_81 : decode cX3_readParallel 81 = .ok (.getfield 118, 3) := by decide +kernel
theorem dX3_readParallel_84 : decode cX3_readParallel 84 = .ok (.iload_n 1, 1) := by decide +kernel
theorem dX3_readParallel_85 : decode cX3_readParallel 85 = .ok (.aload_n 0, 1) := by decide +kernel
theorem dX3_readParallel_86 : decode cX3_readParallel 86 = .ok (.bipush 113, 2) := by decide +kernel
theorem dX3_readParallel_88 : decode cX3_readParallel 88 = .ok (.invokevirtual 67, 3) := by decide +kernel
theorem dX3_readParallel_91 : decode cX3_readParallel 91 = .ok (.ifCond .eq 19, 3) := by decide +kernel
theorem dX3_readParallel_94 : decode cX3_readParallel 94 = .ok (.iconst 1, 1) := by decide +kernel
theorem dX3_readParallel_95 : decode cX3_readParallel 95 = .ok (.aload_n 0, 1) := by decide +kernel
theorem dX3_readParallel_96 : decode cX3_readParallel 96 = .ok (.bipush 49, 2) := by decide +kernel
theorem dX3_readParallel_98 : decode cX3_readParallel 98 = .ok (.bipush 48, 2) := by decide +kernel
theorem dX3_readParallel_100 : decode cX3_readParallel 100 = .ok (.iload 4, 2) := by decide +kernel
theorem dX3_readParallel_102 : decode cX3_readParallel 102 = .ok (.iadd, 1) := by decide +kernel
theorem dX3_readParallel_103 : decode cX3_readParallel 103 = .ok (.invokevirtual 121, 3) := by decide +kernel
theorem dX3_readParallel_106 : decode cX3_readParallel 106 = .ok (.iadd, 1) := by decide +kernel
theorem dX3_readParallel_107 : decode cX3_readParallel 107 = .ok (.goto 5, 3) := by decide +kernel
theorem dX3_readParallel_110 : decode cX3_readParallel 110 = .ok (.iload 4, 2) := by decide +kernel
theorem dX3_readParallel_112 : decode cX3_readParallel 112 = .ok (.iastore, 1) := by decide +kernel
theorem dX3_readParallel_113 : decode cX3_readParallel 113 = .ok (.aload_n 0, 1) := by decide +kernel
theorem dX3_readParallel_114 : decode cX3_readParallel 114 = .ok (.getfield 9, 3) := by decide +kernel
theorem dX3_readParallel_117 : decode cX3_readParallel 117 = .ok (.iload_n 1, 1) := by decide +kernel
theorem dX3_readParallel_118 : decode cX3_readParallel 118 = .ok (.iload_n 3, 1) := by decide +kernel
theorem dX3_readParallel_119 : decode cX3_readParallel 119 = .ok (.iastore, 1) := by decide +kernel
theorem dX3_readParallel_120 : decode cX3_readParallel 120 = .ok (.return_, 1) := by decide +kernel
theorem dX3_readBodyOf_0 : decode cX3_readBodyOf 0 = .ok (.aload_n 0, 1) := by decide +kernel
theorem dX3_readBodyOf_1 : decode cX3_readBodyOf 1 = .ok (.getfield 28, 3) := by decide +kernel
theorem dX3_readBodyOf_4 : decode cX3_readBodyOf 4 = .ok (.getfield 137, 3) := by decide +kernel
theorem dX3_readBodyOf_7 : decode cX3_readBodyOf 7 = .ok (.iload_n 1, 1) := by decide +kernel
theorem dX3_readBodyOf_8 : decode cX3_readBodyOf 8 = .ok (.iconst 4, 1) := by decide +kernel
theorem dX3_readBodyOf_9 : decode cX3_readBodyOf 9 = .ok (.imul, 1) := by decide +kernel
theorem dX3_readBodyOf_10 : decode cX3_readBodyOf 10 = .ok (.iload_n 2, 1) := by decide +kernel
theorem dX3_readBodyOf_11 : decode cX3_readBodyOf 11 = .ok (.iadd, 1) := by decide +kernel
theorem dX3_readBodyOf_12 : decode cX3_readBodyOf 12 = .ok (.aload_n 0, 1) := by decide +kernel
theorem dX3_readBodyOf_13 : decode cX3_readBodyOf 13 = .ok (.getfield 28, 3) := by decide +kernel
theorem dX3_readBodyOf_16 : decode cX3_readBodyOf 16 = .ok (.getfield 78, 3) := by decide +kernel
theorem dX3_readBodyOf_19 : decode cX3_readBodyOf 19 = .ok (.iastore, 1) := by decide +kernel
theorem dX3_readBodyOf_20 : decode cX3_readBodyOf 20 = .ok (.aload_n 0, 1) := by decide +kernel
theorem dX3_readBodyOf_21 : decode cX3_readBodyOf 21 = .ok (.iload_n 3, 1) := by decide +kernel
theorem dX3_readBodyOf_22 : decode cX3_readBodyOf 22 = .ok (.invokevirtual 44, 3) := by decide +kernel
theorem dX3_readBodyOf_25 : decode cX3_readBodyOf 25 = .ok (.ireturn, 1) := by decide +kernel
theorem dX3_readCode_0 : decode cX3_readCode 0 = .ok (.aload_n 0, 1) := by decide +kernel
theorem dX3_readCode_1 : decode cX3_readCode 1 = .ok (.bipush 97, 2) := by decide +kernel
theorem dX3_readCode_3 : decode cX3_readCode 3 = .ok (.bipush 104, 2) := by decide +kernel
theorem dX3_readCode_5 : decode cX3_readCode 5 = .ok (.invokevirtual 121, 3) := by decide +kernel
theorem dX3_readCode_8 : decode cX3_readCode 8 = .ok (.ireturn, 1) := by decide +kernel
theorem dX3_readVariable_0 : decode cX3_readVariable 0 = .ok (.aload_n 0, 1) := by decide +kernel
theorem dX3_readVariable_1 : decode cX3_readVariable 1 = .ok (.bipush 48, 2) := by decide +kernel
theorem dX3_readVariable_3 : decode cX3_readVariable 3 = .ok (.bipush 51, 2) := by decide +kernel
theorem dX3_readVariable_5 : decode cX3_readVariable 5 = .ok (.invokevirtual 121, 3) := by decide +kernel
theorem dX3_readVariable_8 : decode cX3_readVariable 8 = .ok (.ireturn, 1) := by decide +kernel
theorem dX3_readNumber_0 : decode cX3_readNumber 0 = .ok (.aload_n 0, 1) := by decide +kernel
theorem dX3_readNumber_1 : decode cX3_readNumber 1 = .ok (.bipush 48, 2) := by decide +kernel
theorem dX3_readNumber_3 : decode cX3_readNumber 3 = .ok (.bipush 57, 2) := by decide +kernel
theorem dX3_readNumber_5 : decode cX3_readNumber 5 = .ok (.invokevirtual 121, 3) := by decide +kernel
theorem dX3_readNumber_8 : decode cX3_readNumber 8 = .ok (.istore_n 1, 1) := by decide +kernel
theorem dX3_readNumber_9 : decode cX3_readNumber 9 = .ok (.iconst 1, 1) := by decide +kernel
theorem dX3_readNumber_10 : decode cX3_readNumber 10 = .ok (.istore_n 2, 1) := by decide +kernel
theorem dX3_readNumber_11 : decode cX3_readNumber 11 = .ok (.iload_n 2, 1) := by decide +kernel
theorem dX3_readNumber_12 : decode cX3_readNumber 12 = .ok (.iconst 3, 1) := by decide +kernel
theorem dX3_readNumber_13 : decode cX3_readNumber 13 = .ok (.if_icmp .ge 37, 3) := by decide +kernel
theorem dX3_readNumber_16 : decode cX3_readNumber 16 = .ok (.iload_n 1, 1) := by decide +kernel
theorem dX3_readNumber_17 : decode cX3_readNumber 17 = .ok (.ifCond .le 33, 3) := by decide +kernel
theorem dX3_readNumber_20 : decode cX3_readNumber 20 = .ok (.aload_n 0, 1) := by decide +kernel
theorem dX3_readNumber_21 : decode cX3_readNumber 21 = .ok (.invokevirtual 71, 3) := by decide +kernel
theorem dX3_readNumber_24 : decode cX3_readNumber 24 = .ok (.invokestatic 140, 3) := by decide +kernel
theorem dX3_readNumber_27 : decode cX3_readNumber 27 = .ok (.ifCond .eq 23, 3) := by decide +kernel
theorem dX3_readNumber_30 : decode cX3_readNumber 30 = .ok (.bipush 10, 2) := by decide +kernel
theorem dX3_readNumber_32 : decode cX3_readNumber 32 = .ok (.iload_n 1, 1) := by decide +kernel
theorem dX3_readNumber_33 : decode cX3_readNumber 33 = .ok (.imul, 1) := by decide +kernel
theorem dX3_readNumber_34 : decode cX3_readNumber 34 = .ok (.aload_n 0, 1) := by decide +kernel
theorem dX3_readNumber_35 : decode cX3_readNumber 35 = .ok (.bipush 48, 2) := by decide +kernel
theorem dX3_readNumber_37 : decode cX3_readNumber 37 = .ok (.bipush 57, 2) := by decide +kernel
theorem dX3_readNumber_39 : decode cX3_readNumber 39 = .ok (.invokevirtual 121, 3) := by decide +kernel
theorem dX3_readNumber_42 : decode cX3_readNumber 42 = .ok (.iadd, 1) := by decide +kernel
theorem dX3_readNumber_43 : decode cX3_readNumber 43 = .ok (.istore_n 1, 1) := by decide +kernel
theorem dX3_readNumber_44 : decode cX3_readNumber 44 = .ok (.iinc 2 1, 3) := by decide +kernel
theorem dX3_readNumber_47 : decode cX3_readNumber 47 = .ok (.goto (-36), 3) := by decide +kernel
theorem dX3_readNumber_50 : decode cX3_readNumber 50 = .ok (.iload_n 1, 1) := by decide +kernel
theorem dX3_readNumber_51 : decode cX3_readNumber 51 = .ok (.ireturn, 1) := by decide +kernel
theorem dX3_readBetween_0 : decode cX3_readBetween 0 = .ok (.aload_n 0, 1) := by decide +kernel
theorem dX3_readBetween_1 : decode cX3_readBetween 1 = .ok (.invokevirtual 71, 3) := by decide +kernel
theorem dX3_readBetween_4 : decode cX3_readBetween 4 = .ok (.istore_n 3, 1) := by decide +kernel
theorem dX3_readBetween_5 : decode cX3_readBetween 5 = .ok (.aload_n 0, 1) := by decide +kernel
theorem dX3_readBetween_6 : decode cX3_readBetween 6 = .ok (.getfield 32, 3) := by decide +kernel
theorem dX3_readBetween_9 : decode cX3_readBetween 9 = .ok (.ifCond .ne 13, 3) := by decide +kernel
theorem dX3_readBetween_12 : decode cX3_readBetween 12 = .ok (.iload_n 3, 1) := by decide +kernel
theorem dX3_readBetween_13 : decode cX3_readBetween 13 = .ok (.iload_n 1, 1) := by decide +kernel
theorem dX3_readBetween_14 : decode cX3_readBetween 14 = .ok (.if_icmp .lt 8, 3) := by decide +kernel
theorem dX3_readBetween_17 : decode cX3_readBetween 17 = .ok (.iload_n 3, 1) := by decide +kernel
theorem dX3_readBetween_18 : decode cX3_readBetween 18 = .ok (.iload_n 2, 1) := by decide +kernel
theorem dX3_readBetween_19 : decode cX3_readBetween 19 = .ok (.if_icmp .le 10, 3) := by decide +kernel
theorem dX3_readBetween_22 : decode cX3_readBetween 22 = .ok (.aload_n 0, 1) := by decide +kernel
theorem dX3_readBetween_23 : decode cX3_readBetween 23 = .ok (.iconst 1, 1) := by decide +kernel
theorem dX3_readBetween_24 : decode cX3_readBetween 24 = .ok (.invokevirtual 51, 3) := by decide +kernel
theorem dX3_readBetween_27 : decode cX3_readBetween 27 = .ok (.iconst 0, 1) := by decide +kernel
theorem dX3_readBetween_28 : decode cX3_readBetween 28 = .ok (.ireturn, 1) := by decide +kernel
theorem dX3_readBetween_29 : decode cX3_readBetween 29 = .ok (.aload_n 0, 1) := by decide +kernel
theorem dX3_readBetween_30 : decode cX3_readBetween 30 = .ok (.dup, 1) := by decide +kernel
theorem dX3_readBetween_31 : decode cX3_readBetween 31 = .ok (.getfield 35, 3) := by decide +kernel
theorem dX3_readBetween_34 : decode cX3_readBetween 34 = .ok (.iconst 1, 1) := by decide +kernel
theorem dX3_readBetween_35 : decode cX3_readBetween 35 = .ok (.iadd, 1) := by decide +kernel
theorem dX3_readBetween_36 : decode cX3_readBetween 36 = .ok (.putfield 35, 3) := by decide +kernel
theorem dX3_readBetween_39 : decode cX3_readBetween 39 = .ok (.iload_n 3, 1) := by decide +kernel
theorem dX3_readBetween_40 : decode cX3_readBetween 40 = .ok (.iload_n 1, 1) := by decide +kernel
theorem dX3_readBetween_41 : decode cX3_readBetween 41 = .ok (.isub, 1) := by decide +kernel
theorem dX3_readBetween_42 : decode cX3_readBetween 42 = .ok (.ireturn, 1) := by decide +kernel
theorem dX3_expect_0 : decode cX3_expect 0 = .ok (.aload_n 0, 1) := by decide +kernel
theorem dX3_expect_1 : decode cX3_expect 1 = .ok (.iload_n 1, 1) := by decide +kernel
theorem dX3_expect_2 : decode cX3_expect 2 = .ok (.invokevirtual 67, 3) := by decide +kernel
theorem dX3_expect_5 : decode cX3_expect 5 = .ok (.ifCond .ne 8, 3) := by decide +kernel
theorem dX3_expect_8 : decode cX3_expect 8 = .ok (.aload_n 0, 1) := by decide +kernel
theorem dX3_expect_9 : decode cX3_expect 9 = .ok (.iconst 1, 1) := by decide +kernel
theorem dX3_expect_10 : decode cX3_expect 10 = .ok (.invokevirtual 51, 3) := by decide +kernel
theorem dX3_expect_13 : decode cX3_expect 13 = .ok (.return_, 1) := by decide +kernel
theorem dX3_takes_0 : decode cX3_takes 0 = .ok (.aload_n 0, 1) := by decide +kernel
theorem dX3_takes_1 : decode cX3_takes 1 = .ok (.getfield 32, 3) := by decide +kernel
theorem dX3_takes_4 : decode cX3_takes 4 = .ok (.ifCond .ne 11, 3) := by decide +kernel
theorem dX3_takes_7 : decode cX3_takes 7 = .ok (.aload_n 0, 1) := by decide +kernel
theorem dX3_takes_8 : decode cX3_takes 8 = .ok (.invokevirtual 71, 3) := by decide +kernel
theorem dX3_takes_11 : decode cX3_takes 11 = .ok (.iload_n 1, 1) := by decide +kernel
theorem dX3_takes_12 : decode cX3_takes 12 = .ok (.if_icmp .eq 5, 3) := by decide +kernel
theorem dX3_takes_15 : decode cX3_takes 15 = .ok (.iconst 0, 1) := by decide +kernel
theorem dX3_takes_16 : decode cX3_takes 16 = .ok (.ireturn, 1) := by decide +kernel
theorem dX3_takes_17 : decode cX3_takes 17 = .ok (.aload_n 0, 1) := by decide +kernel
theorem dX3_takes_18 : decode cX3_takes 18 = .ok (.dup, 1) := by decide +kernel
theorem dX3_takes_19 : decode cX3_takes 19 = .ok (.getfield 35, 3) := by decide +kernel
theorem dX3_takes_22 : decode cX3_takes 22 = .ok (.iconst 1, 1) := by decide +kernel
theorem dX3_takes_23 : decode cX3_takes 23 = .ok (.iadd, 1) := by decide +kernel
theorem dX3_takes_24 : decode cX3_takes 24 = .ok (.putfield 35, 3) := by decide +kernel
theorem dX3_takes_27 : decode cX3_takes 27 = .ok (.iconst 1, 1) := by decide +kernel
theorem dX3_takes_28 : decode cX3_takes 28 = .ok (.ireturn, 1) := by decide +kernel
theorem dX3_fail_0 : decode cX3_fail 0 = .ok (.aload_n 0, 1) := by decide +kernel
theorem dX3_fail_1 : decode cX3_fail 1 = .ok (.getfield 32, 3) := by decide +kernel
theorem dX3_fail_4 : decode cX3_fail 4 = .ok (.ifCond .ne 8, 3) := by decide +kernel
theorem dX3_fail_7 : decode cX3_fail 7 = .ok (.aload_n 0, 1) := by decide +kernel
theorem dX3_fail_8 : decode cX3_fail 8 = .ok (.iload_n 1, 1) := by decide +kernel
theorem dX3_fail_9 : decode cX3_fail 9 = .ok (.putfield 32, 3) := by decide +kernel
theorem dX3_fail_12 : decode cX3_fail 12 = .ok (.return_, 1) := by decide +kernel
theorem dX3_sign_0 : decode cX3_sign 0 = .ok (.aload_n 0, 1) := by decide +kernel
theorem dX3_sign_1 : decode cX3_sign 1 = .ok (.getfield 35, 3) := by decide +kernel
theorem dX3_sign_4 : decode cX3_sign 4 = .ok (.ifCond .lt 38, 3) := by decide +kernel
theorem dX3_sign_7 : decode cX3_sign 7 = .ok (.aload_n 0, 1) := by decide +kernel
theorem dX3_sign_8 : decode cX3_sign 8 = .ok (.getfield 35, 3) := by decide +kernel
theorem dX3_sign_11 : decode cX3_sign 11 = .ok (.aload_n 0, 1) := by decide +kernel
theorem dX3_sign_12 : decode cX3_sign 12 = .ok (.getfield 24, 3) := by decide +kernel
theorem dX3_sign_15 : decode cX3_sign 15 = .ok (.if_icmp .ge 27, 3) := by decide +kernel
theorem dX3_sign_18 : decode cX3_sign 18 = .ok (.aload_n 0, 1) := by decide +kernel
theorem dX3_sign_19 : decode cX3_sign 19 = .ok (.getfield 35, 3) := by decide +kernel
theorem dX3_sign_22 : decode cX3_sign 22 = .ok (.aload_n 0, 1) := by decide +kernel
theorem dX3_sign_23 : decode cX3_sign 23 = .ok (.getfield 15, 3) := by decide +kernel
theorem dX3_sign_26 : decode cX3_sign 26 = .ok (.arraylength, 1) := by decide +kernel
theorem dX3_sign_27 : decode cX3_sign 27 = .ok (.if_icmp .ge 15, 3) := by decide +kernel
theorem dX3_sign_30 : decode cX3_sign 30 = .ok (.aload_n 0, 1) := by decide +kernel
theorem dX3_sign_31 : decode cX3_sign 31 = .ok (.getfield 15, 3) := by decide +kernel
theorem dX3_sign_34 : decode cX3_sign 34 = .ok (.aload_n 0, 1) := by decide +kernel
theorem dX3_sign_35 : decode cX3_sign 35 = .ok (.getfield 35, 3) := by decide +kernel
theorem dX3_sign_38 : decode cX3_sign 38 = .ok (.iaload, 1) := by decide +kernel
theorem dX3_sign_39 : decode cX3_sign 39 = .ok (.goto 4, 3) := by decide +kernel
theorem dX3_sign_42 : decode cX3_sign 42 = .ok (.iconst (-1), 1) := by decide +kernel
theorem dX3_sign_43 : decode cX3_sign 43 = .ok (.ireturn, 1) := by decide +kernel
theorem dX3_isDigit_0 : decode cX3_isDigit 0 = .ok (.iload_n 0, 1) := by decide +kernel
theorem dX3_isDigit_1 : decode cX3_isDigit 1 = .ok (.bipush 48, 2) := by decide +kernel
theorem dX3_isDigit_3 : decode cX3_isDigit 3 = .ok (.if_icmp .lt 13, 3) := by decide +kernel
theorem dX3_isDigit_6 : decode cX3_isDigit 6 = .ok (.iload_n 0, 1) := by decide +kernel
theorem dX3_isDigit_7 : decode cX3_isDigit 7 = .ok (.bipush 57, 2) := by decide +kernel
theorem dX3_isDigit_9 : decode cX3_isDigit 9 = .ok (.if_icmp .gt 7, 3) := by decide +kernel
theorem dX3_isDigit_12 : decode cX3_isDigit 12 = .ok (.iconst 1, 1) := by decide +kernel
theorem dX3_isDigit_13 : decode cX3_isDigit 13 = .ok (.goto 4, 3) := by decide +kernel
theorem dX3_isDigit_16 : decode cX3_isDigit 16 = .ok (.iconst 0, 1) := by decide +kernel
theorem dX3_isDigit_17 : decode cX3_isDigit 17 = .ok (.ireturn, 1) := by decide +kernel
theorem dX3_kindOf_0 : decode cX3_kindOf 0 = .ok (.iload_n 0, 1) := by decide +kernel
theorem dX3_kindOf_1 : decode cX3_kindOf 1 = .ok (.lookupswitch 71 #[(40, 69), (91, 67), (115, 63), (116, 59), (119, 61), (120, 65)], 59) := by decide +kernel
theorem dX3_kindOf_60 : decode cX3_kindOf 60 = .ok (.iconst 0, 1) := by decide +kernel
theorem dX3_kindOf_61 : decode cX3_kindOf 61 = .ok (.ireturn, 1) := by decide +kernel
theorem dX3_kindOf_62 : decode cX3_kindOf 62 = .ok (.iconst 1, 1) := by decide +kernel
theorem dX3_kindOf_63 : decode cX3_kindOf 63 = .ok (.ireturn, 1) := by decide +kernel
theorem dX3_kindOf_64 : decode cX3_kindOf 64 = .ok (.iconst 2, 1) := by decide +kernel
theorem dX3_kindOf_65 : decode cX3_kindOf 65 = .ok (.ireturn, 1) := by decide +kernel
theorem dX3_kindOf_66 : decode cX3_kindOf 66 = .ok (.iconst 3, 1) := by decide +kernel
theorem dX3_kindOf_67 : decode cX3_kindOf 67 = .ok (.ireturn, 1) := by decide +kernel
theorem dX3_kindOf_68 : decode cX3_kindOf 68 = .ok (.iconst 4, 1) := by decide +kernel
theorem dX3_kindOf_69 : decode cX3_kindOf 69 = .ok (.ireturn, 1) := by decide +kernel
theorem dX3_kindOf_70 : decode cX3_kindOf 70 = .ok (.iconst 5, 1) := by decide +kernel
theorem dX3_kindOf_71 : decode cX3_kindOf 71 = .ok (.ireturn, 1) := by decide +kernel
theorem dX3_kindOf_72 : decode cX3_kindOf 72 = .ok (.iconst (-1), 1) := by decide +kernel
theorem dX3_kindOf_73 : decode cX3_kindOf 73 = .ok (.ireturn, 1) := by decide +kernel
theorem dX4_init_0 : decode cX4_init 0 = .ok (.aload_n 0, 1) := by decide +kernel
theorem dX4_init_1 : decode cX4_init 1 = .ok (.invokespecial 3, 3) := by decide +kernel
theorem dX4_init_4 : decode cX4_init 4 = .ok (.aload_n 0, 1) := by decide +kernel
theorem dX4_init_5 : decode cX4_init 5 = .ok (.bipush 24, 2) := by decide +kernel
theorem dX4_init_7 : decode cX4_init 7 = .ok (.newarray .int, 2) := by decide +kernel
theorem dX4_init_9 : decode cX4_init 9 = .ok (.putfield 9, 3) := by decide +kernel
theorem dX4_init_12 : decode cX4_init 12 = .ok (.aload_n 0, 1) := by decide +kernel
theorem dX4_init_13 : decode cX4_init 13 = .ok (.bipush 24, 2) := by decide +kernel
theorem dX4_init_15 : decode cX4_init 15 = .ok (.newarray .int, 2) := by decide +kernel
theorem dX4_init_17 : decode cX4_init 17 = .ok (.putfield 15, 3) := by decide +kernel
theorem dX4_init_20 : decode cX4_init 20 = .ok (.aload_n 0, 1) := by decide +kernel
theorem dX4_init_21 : decode cX4_init 21 = .ok (.bipush 24, 2) := by decide +kernel
theorem dX4_init_23 : decode cX4_init 23 = .ok (.newarray .int, 2) := by decide +kernel
theorem dX4_init_25 : decode cX4_init 25 = .ok (.putfield 18, 3) := by decide +kernel
theorem dX4_init_28 : decode cX4_init 28 = .ok (.aload_n 0, 1) := by decide +kernel
theorem dX4_init_29 : decode cX4_init 29 = .ok (.bipush 24, 2) := by decide +kernel
theorem dX4_init_31 : decode cX4_init 31 = .ok (.newarray .int, 2) := by decide +kernel
theorem dX4_init_33 : decode cX4_init 33 = .ok (.putfield 21, 3) := by decide +kernel
theorem dX4_init_36 : decode cX4_init 36 = .ok (.aload_n 0, 1) := by decide +kernel
theorem dX4_init_37 : decode cX4_init 37 = .ok (.bipush 24, 2) := by decide +kernel
theorem dX4_init_39 : decode cX4_init 39 = .ok (.newarray .int, 2) := by decide +kernel
theorem dX4_init_41 : decode cX4_init 41 = .ok (.putfield 24, 3) := by decide +kernel
theorem dX4_init_44 : decode cX4_init 44 = .ok (.aload_n 0, 1) := by decide +kernel
theorem dX4_init_45 : decode cX4_init 45 = .ok (.bipush 24, 2) := by decide +kernel
theorem dX4_init_47 : decode cX4_init 47 = .ok (.newarray .int, 2) := by decide +kernel
theorem dX4_init_49 : decode cX4_init 49 = .ok (.putfield 27, 3) := by decide +kernel
theorem dX4_init_52 : decode cX4_init 52 = .ok (.aload_n 0, 1) := by decide +kernel
theorem dX4_init_53 : decode cX4_init 53 = .ok (.bipush 24, 2) := by decide +kernel
theorem dX4_init_55 : decode cX4_init 55 = .ok (.newarray .int, 2) := by decide +kernel
theorem dX4_init_57 : decode cX4_init 57 = .ok (.putfield 30, 3) := by decide +kernel
theorem dX4_init_60 : decode cX4_init 60 = .ok (.aload_n 0, 1) := by decide +kernel
theorem dX4_init_61 : decode cX4_init 61 = .ok (.bipush 24, 2) := by decide +kernel
theorem dX4_init_63 : decode cX4_init 63 = .ok (.newarray .int, 2) := by decide +kernel
theorem dX4_init_65 : decode cX4_init 65 = .ok (.putfield 33, 3) := by decide +kernel
theorem dX4_init_68 : decode cX4_init 68 = .ok (.aload_n 0, 1) := by decide +kernel
theorem dX4_init_69 : decode cX4_init 69 = .ok (.bipush 96, 2) := by decide +kernel
theorem dX4_init_71 : decode cX4_init 71 = .ok (.newarray .int, 2) := by decide +kernel
theorem dX4_init_73 : decode cX4_init 73 = .ok (.putfield 36, 3) := by decide +kernel
theorem dX4_init_76 : decode cX4_init 76 = .ok (.aload_n 0, 1) := by decide +kernel
theorem dX4_init_77 : decode cX4_init 77 = .ok (.iload_n 1, 1) := by decide +kernel
theorem dX4_init_78 : decode cX4_init 78 = .ok (.putfield 39, 3) := by decide +kernel
theorem dX4_init_81 : decode cX4_init 81 = .ok (.aload_n 0, 1) := by decide +kernel
theorem dX4_init_82 : decode cX4_init 82 = .ok (.iload_n 2, 1) := by decide +kernel
theorem dX4_init_83 : decode cX4_init 83 = .ok (.putfield 43, 3) := by decide +kernel
theorem dX4_init_86 : decode cX4_init 86 = .ok (.return_, 1) := by decide +kernel
theorem dX4_clear_0 : decode cX4_clear 0 = .ok (.aload_n 0, 1) := by decide +kernel
theorem dX4_clear_1 : decode cX4_clear 1 = .ok (.iconst 0, 1) := by decide +kernel
theorem dX4_clear_2 : decode cX4_clear 2 = .ok (.putfield 46, 3) := by decide +kernel
theorem dX4_clear_5 : decode cX4_clear 5 = .ok (.aload_n 0, 1) := by decide +kernel
theorem dX4_clear_6 : decode cX4_clear 6 = .ok (.iconst 0, 1) := by decide +kernel
theorem dX4_clear_7 : decode cX4_clear 7 = .ok (.putfield 49, 3) := by decide +kernel
theorem dX4_clear_10 : decode cX4_clear 10 = .ok (.aload_n 0, 1) := by decide +kernel
theorem dX4_clear_11 : decode cX4_clear 11 = .ok (.iconst 0, 1) := by decide +kernel
theorem dX4_clear_12 : decode cX4_clear 12 = .ok (.putfield 52, 3) := by decide +kernel
theorem dX4_clear_15 : decode cX4_clear 15 = .ok (.aload_n 0, 1) := by decide +kernel
theorem dX4_clear_16 : decode cX4_clear 16 = .ok (.iload_n 1, 1) := by decide +kernel
theorem dX4_clear_17 : decode cX4_clear 17 = .ok (.putfield 55, 3) := by decide +kernel
theorem dX4_clear_20 : decode cX4_clear 20 = .ok (.return_, 1) := by decide +kernel
theorem dX4_add_0 : decode cX4_add 0 = .ok (.aload_n 0, 1) := by decide +kernel
theorem dX4_add_1 : decode cX4_add 1 = .ok (.getfield 46, 3) := by decide +kernel
theorem dX4_add_4 : decode cX4_add 4 = .ok (.istore_n 3, 1) := by decide +kernel
theorem dX4_add_5 : decode cX4_add 5 = .ok (.aload_n 0, 1) := by decide +kernel
theorem dX4_add_6 : decode cX4_add 6 = .ok (.getfield 9, 3) := by decide +kernel
theorem dX4_add_9 : decode cX4_add 9 = .ok (.iload_n 3, 1) := by decide +kernel
theorem dX4_add_10 : decode cX4_add 10 = .ok (.iload_n 1, 1) := by decide +kernel
theorem dX4_add_11 : decode cX4_add 11 = .ok (.iastore, 1) := by decide +kernel
theorem dX4_add_12 : decode cX4_add 12 = .ok (.aload_n 0, 1) := by decide +kernel
theorem dX4_add_13 : decode cX4_add 13 = .ok (.getfield 15, 3) := by decide +kernel
theorem dX4_add_16 : decode cX4_add 16 = .ok (.iload_n 3, 1) := by decide +kernel
theorem dX4_add_17 : decode cX4_add 17 = .ok (.iload_n 2, 1) := by decide +kernel
theorem dX4_add_18 : decode cX4_add 18 = .ok (.iastore, 1) := by decide +kernel
theorem dX4_add_19 : decode cX4_add 19 = .ok (.aload_n 0, 1) := by decide +kernel
theorem dX4_add_20 : decode cX4_add 20 = .ok (.getfield 18, 3) := by decide +kernel
theorem dX4_add_23 : decode cX4_add 23 = .ok (.iload_n 3, 1) := by decide +kernel
theorem dX4_add_24 : decode cX4_add 24 = .ok (.iconst 0, 1) := by decide +kernel
theorem dX4_add_25 : decode cX4_add 25 = .ok (.iastore, 1) := by decide +kernel
theorem dX4_add_26 : decode cX4_add 26 = .ok (.aload_n 0, 1) := by decide +kernel
theorem dX4_add_27 : decode cX4_add 27 = .ok (.getfield 21, 3) := by decide +kernel
theorem dX4_add_30 : decode cX4_add 30 = .ok (.iload_n 3, 1) := by decide +kernel
theorem dX4_add_31 : decode cX4_add 31 = .ok (.iload_n 1, 1) := by decide +kernel
theorem dX4_add_32 : decode cX4_add 32 = .ok (.iconst 2, 1) := by decide +kernel
theorem dX4_add_33 : decode cX4_add 33 = .ok (.if_icmp .ne 7, 3) := by decide +kernel
theorem dX4_add_36 : decode cX4_add 36 = .ok (.iconst (-1), 1) := by decide +kernel
theorem dX4_add_37 : decode cX4_add 37 = .ok (.goto 4, 3) := by decide +kernel
theorem dX4_add_40 : decode cX4_add 40 = .ok (.iconst 0, 1) := by decide +kernel
theorem dX4_add_41 : decode cX4_add 41 = .ok (.iastore, 1) := by decide +kernel
theorem dX4_add_42 : decode cX4_add 42 = .ok (.aload_n 0, 1) := by decide +kernel
theorem dX4_add_43 : decode cX4_add 43 = .ok (.getfield 24, 3) := by decide +kernel
theorem dX4_add_46 : decode cX4_add 46 = .ok (.iload_n 3, 1) := by decide +kernel
theorem dX4_add_47 : decode cX4_add 47 = .ok (.iconst 0, 1) := by decide +kernel
theorem dX4_add_48 : decode cX4_add 48 = .ok (.iastore, 1) := by decide +kernel
theorem dX4_add_49 : decode cX4_add 49 = .ok (.aload_n 0, 1) := by decide +kernel
theorem dX4_add_50 : decode cX4_add 50 = .ok (.getfield 27, 3) := by decide +kernel
theorem dX4_add_53 : decode cX4_add 53 = .ok (.iload_n 3, 1) := by decide +kernel
theorem dX4_add_54 : decode cX4_add 54 = .ok (.iconst (-1), 1) := by decide +kernel
theorem dX4_add_55 : decode cX4_add 55 = .ok (.iastore, 1) := by decide +kernel
theorem dX4_add_56 : decode cX4_add 56 = .ok (.aload_n 0, 1) := by decide +kernel
theorem dX4_add_57 : decode cX4_add 57 = .ok (.getfield 30, 3) := by decide +kernel
theorem dX4_add_60 : decode cX4_add 60 = .ok (.iload_n 3, 1) := by decide +kernel
theorem dX4_add_61 : decode cX4_add 61 = .ok (.iconst (-1), 1) := by decide +kernel
theorem dX4_add_62 : decode cX4_add 62 = .ok (.iastore, 1) := by decide +kernel
theorem dX4_add_63 : decode cX4_add 63 = .ok (.iconst 0, 1) := by decide +kernel
theorem dX4_add_64 : decode cX4_add 64 = .ok (.istore 4, 2) := by decide +kernel
theorem dX4_add_66 : decode cX4_add 66 = .ok (.iload 4, 2) := by decide +kernel
theorem dX4_add_68 : decode cX4_add 68 = .ok (.iconst 4, 1) := by decide +kernel
theorem dX4_add_69 : decode cX4_add 69 = .ok (.if_icmp .ge 21, 3) := by decide +kernel
theorem dX4_add_72 : decode cX4_add 72 = .ok (.aload_n 0, 1) := by decide +kernel
theorem dX4_add_73 : decode cX4_add 73 = .ok (.getfield 36, 3) := by decide +kernel
theorem dX4_add_76 : decode cX4_add 76 = .ok (.iload_n 3, 1) := by decide +kernel
theorem dX4_add_77 : decode cX4_add 77 = .ok (.iconst 4, 1) := by decide +kernel
theorem dX4_add_78 : decode cX4_add 78 = .ok (.imul, 1) := by decide +kernel
theorem dX4_add_79 : decode cX4_add 79 = .ok (.iload 4, 2) := by decide +kernel
theorem dX4_add_81 : decode cX4_add 81 = .ok (.iadd, 1) := by decide +kernel
theorem dX4_add_82 : decode cX4_add 82 = .ok (.iconst (-1), 1) := by decide +kernel
theorem dX4_add_83 : decode cX4_add 83 = .ok (.iastore, 1) := by decide +kernel
theorem dX4_add_84 : decode cX4_add 84 = .ok (.iinc 4 1, 3) := by decide +kernel
theorem dX4_add_87 : decode cX4_add 87 = .ok (.goto (-21), 3) := by decide +kernel
theorem dX4_add_90 : decode cX4_add 90 = .ok (.aload_n 0, 1) := by decide +kernel
theorem dX4_add_91 : decode cX4_add 91 = .ok (.dup, 1) := by decide +kernel
theorem dX4_add_92 : decode cX4_add 92 = .ok (.getfield 46, 3) := by decide +kernel
theorem dX4_add_95 : decode cX4_add 95 = .ok (.iconst 1, 1) := by decide +kernel
theorem dX4_add_96 : decode cX4_add 96 = .ok (.iadd, 1) := by decide +kernel
theorem dX4_add_97 : decode cX4_add 97 = .ok (.putfield 46, 3) := by decide +kernel
theorem dX4_add_100 : decode cX4_add 100 = .ok (.iload_n 1, 1) := by decide +kernel
theorem dX4_add_101 : decode cX4_add 101 = .ok (.ifCond .ne 13, 3) := by decide +kernel
theorem dX4_add_104 : decode cX4_add 104 = .ok (.aload_n 0, 1) := by decide +kernel
theorem dX4_add_105 : decode cX4_add 105 = .ok (.dup, 1) := by decide +kernel
theorem dX4_add_106 : decode cX4_add 106 = .ok (.getfield 49, 3) := by decide +kernel
theorem dX4_add_109 : decode cX4_add 109 = .ok (.iconst 1, 1) := by decide +kernel
theorem dX4_add_110 : decode cX4_add 110 = .ok (.iadd, 1) := by decide +kernel
theorem dX4_add_111 : decode cX4_add 111 = .ok (.putfield 49, 3) := by decide +kernel
theorem dX4_add_114 : decode cX4_add 114 = .ok (.iload_n 3, 1) := by decide +kernel
theorem dX4_add_115 : decode cX4_add 115 = .ok (.ireturn, 1) := by decide +kernel
theorem dX4_body_0 : decode cX4_body 0 = .ok (.iload_n 1, 1) := by decide +kernel
theorem dX4_body_1 : decode cX4_body 1 = .ok (.iconst 4, 1) := by decide +kernel
theorem dX4_body_2 : decode cX4_body 2 = .ok (.imul, 1) := by decide +kernel
theorem dX4_body_3 : decode cX4_body 3 = .ok (.iload_n 2, 1) := by decide +kernel
theorem dX4_body_4 : decode cX4_body 4 = .ok (.iadd, 1) := by decide +kernel
theorem dX4_body_5 : decode cX4_body 5 = .ok (.istore_n 3, 1) := by decide +kernel
theorem dX4_body_6 : decode cX4_body 6 = .ok (.iload_n 2, 1) := by decide +kernel
theorem dX4_body_7 : decode cX4_body 7 = .ok (.ifCond .lt 27, 3) := by decide +kernel
theorem dX4_body_10 : decode cX4_body 10 = .ok (.iload_n 2, 1) := by decide +kernel
theorem dX4_body_11 : decode cX4_body 11 = .ok (.iconst 4, 1) := by decide +kernel
theorem dX4_body_12 : decode cX4_body 12 = .ok (.if_icmp .ge 22, 3) := by decide +kernel
theorem dX4_body_15 : decode cX4_body 15 = .ok (.iload_n 3, 1) := by decide +kernel
theorem dX4_body_16 : decode cX4_body 16 = .ok (.ifCond .lt 18, 3) := by decide +kernel
theorem dX4_body_19 : decode cX4_body 19 = .ok (.iload_n 3, 1) := by decide +kernel
theorem dX4_body_20 : decode cX4_body 20 = .ok (.bipush 96, 2) := by decide +kernel
theorem dX4_body_22 : decode cX4_body 22 = .ok (.if_icmp .ge 12, 3) := by decide +kernel
theorem dX4_body_25 : decode cX4_body 25 = .ok (.aload_n 0, 1) := by decide +kernel
theorem dX4_body_26 : decode cX4_body 26 = .ok (.getfield 36, 3) := by decide +kernel
theorem dX4_body_29 : decode cX4_body 29 = .ok (.iload_n 3, 1) := by decide +kernel
theorem dX4_body_30 : decode cX4_body 30 = .ok (.iaload, 1) := by decide +kernel
theorem dX4_body_31 : decode cX4_body 31 = .ok (.goto 4, 3) := by decide +kernel
theorem dX4_body_34 : decode cX4_body 34 = .ok (.iconst (-1), 1) := by decide +kernel
theorem dX4_body_35 : decode cX4_body 35 = .ok (.ireturn, 1) := by decide +kernel
theorem dX6_init_0 : decode cX6_init 0 = .ok (.aload_n 0, 1) := by decide +kernel
theorem dX6_init_1 : decode cX6_init 1 = .ok (.invokespecial 1, 3) := by decide +kernel
theorem dX6_init_4 : decode cX6_init 4 = .ok (.aload_n 0, 1) := by decide +kernel
theorem dX6_init_5 : decode cX6_init 5 = .ok (.bipush 80, 2) := by decide +kernel
theorem dX6_init_7 : decode cX6_init 7 = .ok (.newarray .int, 2) := by decide +kernel
theorem dX6_init_9 : decode cX6_init 9 = .ok (.putfield 9, 3) := by decide +kernel
theorem dX6_init_12 : decode cX6_init 12 = .ok (.aload_n 0, 1) := by decide +kernel
theorem dX6_init_13 : decode cX6_init 13 = .ok (.new 13, 3) := by decide +kernel
theorem dX6_init_16 : decode cX6_init 16 = .ok (.dup, 1) := by decide +kernel
theorem dX6_init_17 : decode cX6_init 17 = .ok (.invokespecial 15, 3) := by decide +kernel
theorem dX6_init_20 : decode cX6_init 20 = .ok (.putfield 16, 3) := by decide +kernel
theorem dX6_init_23 : decode cX6_init 23 = .ok (.aload_n 0, 1) := by decide +kernel
theorem dX6_init_24 : decode cX6_init 24 = .ok (.bipush 16, 2) := by decide +kernel
theorem dX6_init_26 : decode cX6_init 26 = .ok (.anewarray 20, 3) := by decide +kernel
theorem dX6_init_29 : decode cX6_init 29 = .ok (.putfield 22, 3) := by decide +kernel
theorem dX6_init_32 : decode cX6_init 32 = .ok (.iconst 0, 1) := by decide +kernel
theorem dX6_init_33 : decode cX6_init 33 = .ok (.istore_n 1, 1) := by decide +kernel
theorem dX6_init_34 : decode cX6_init 34 = .ok (.iload_n 1, 1) := by decide +kernel
theorem dX6_init_35 : decode cX6_init 35 = .ok (.bipush 16, 2) := by decide +kernel
theorem dX6_init_37 : decode cX6_init 37 = .ok (.if_icmp .ge 28, 3) := by decide +kernel
theorem dX6_init_40 : decode cX6_init 40 = .ok (.aload_n 0, 1) := by decide +kernel
theorem dX6_init_41 : decode cX6_init 41 = .ok (.getfield 22, 3) := by decide +kernel
theorem dX6_init_44 : decode cX6_init 44 = .ok (.iload_n 1, 1) := by decide +kernel
theorem dX6_init_45 : decode cX6_init 45 = .ok (.new 20, 3) := by decide +kernel
theorem dX6_init_48 : decode cX6_init 48 = .ok (.dup, 1) := by decide +kernel
theorem dX6_init_49 : decode cX6_init 49 = .ok (.iload_n 1, 1) := by decide +kernel
theorem dX6_init_50 : decode cX6_init 50 = .ok (.iconst 4, 1) := by decide +kernel
theorem dX6_init_51 : decode cX6_init 51 = .ok (.idiv, 1) := by decide +kernel
theorem dX6_init_52 : decode cX6_init 52 = .ok (.iload_n 1, 1) := by decide +kernel
theorem dX6_init_53 : decode cX6_init 53 = .ok (.iconst 4, 1) := by decide +kernel
theorem dX6_init_54 : decode cX6_init 54 = .ok (.irem, 1) := by decide +kernel
theorem dX6_init_55 : decode cX6_init 55 = .ok (.invokespecial 26, 3) := by decide +kernel
theorem dX6_init_58 : decode cX6_init 58 = .ok (.aastore, 1) := by decide +kernel
theorem dX6_init_59 : decode cX6_init 59 = .ok (.iinc 1 1, 3) := by decide +kernel
theorem dX6_init_62 : decode cX6_init 62 = .ok (.goto (-28), 3) := by decide +kernel
theorem dX6_init_65 : decode cX6_init 65 = .ok (.new 20, 3) := by decide +kernel
theorem dX6_init_68 : decode cX6_init 68 = .ok (.dup, 1) := by decide +kernel
theorem dX6_init_69 : decode cX6_init 69 = .ok (.iconst 0, 1) := by decide +kernel
theorem dX6_init_70 : decode cX6_init 70 = .ok (.iconst 0, 1) := by decide +kernel
theorem dX6_init_71 : decode cX6_init 71 = .ok (.invokespecial 26, 3) := by decide +kernel
theorem dX6_init_74 : decode cX6_init 74 = .ok (.astore_n 1, 1) := by decide +kernel
theorem dX6_init_75 : decode cX6_init 75 = .ok (.aload_n 0, 1) := by decide +kernel
theorem dX6_init_76 : decode cX6_init 76 = .ok (.new 29, 3) := by decide +kernel
theorem dX6_init_79 : decode cX6_init 79 = .ok (.dup, 1) := by decide +kernel
theorem dX6_init_80 : decode cX6_init 80 = .ok (.new 31, 3) := by decide +kernel
theorem dX6_init_83 : decode cX6_init 83 = .ok (.dup, 1) := by decide +kernel
theorem dX6_init_84 : decode cX6_init 84 = .ok (.invokespecial 33, 3) := by decide +kernel
theorem dX6_init_87 : decode cX6_init 87 = .ok (.aload_n 1, 1) := by decide +kernel
theorem dX6_init_88 : decode cX6_init 88 = .ok (.sipush 200, 3) := by decide +kernel
theorem dX6_init_91 : decode cX6_init 91 = .ok (.invokespecial 34, 3) := by decide +kernel
theorem dX6_init_94 : decode cX6_init 94 = .ok (.putfield 37, 3) := by decide +kernel
theorem dX6_init_97 : decode cX6_init 97 = .ok (.aload_n 0, 1) := by decide +kernel
theorem dX6_init_98 : decode cX6_init 98 = .ok (.new 29, 3) := by decide +kernel
theorem dX6_init_101 : decode cX6_init 101 = .ok (.dup, 1) := by decide +kernel
theorem dX6_init_102 : decode cX6_init 102 = .ok (.new 31, 3) := by decide +kernel
theorem dX6_init_105 : decode cX6_init 105 = .ok (.dup, 1) := by decide +kernel
theorem dX6_init_106 : decode cX6_init 106 = .ok (.invokespecial 33, 3) := by decide +kernel
theorem dX6_init_109 : decode cX6_init 109 = .ok (.aload_n 1, 1) := by decide +kernel
theorem dX6_init_110 : decode cX6_init 110 = .ok (.sipush 200, 3) := by decide +kernel
theorem dX6_init_113 : decode cX6_init 113 = .ok (.invokespecial 34, 3) := by decide +kernel
theorem dX6_init_116 : decode cX6_init 116 = .ok (.putfield 41, 3) := by decide +kernel
theorem dX6_init_119 : decode cX6_init 119 = .ok (.aload_n 0, 1) := by decide +kernel
theorem dX6_init_120 : decode cX6_init 120 = .ok (.new 29, 3) := by decide +kernel
theorem dX6_init_123 : decode cX6_init 123 = .ok (.dup, 1) := by decide +kernel
theorem dX6_init_124 : decode cX6_init 124 = .ok (.new 31, 3) := by decide +kernel
theorem dX6_init_127 : decode cX6_init 127 = .ok (.dup, 1) := by decide +kernel
theorem dX6_init_128 : decode cX6_init 128 = .ok (.invokespecial 33, 3) := by decide +kernel
theorem dX6_init_131 : decode cX6_init 131 = .ok (.aload_n 1, 1) := by decide +kernel
theorem dX6_init_132 : decode cX6_init 132 = .ok (.iconst 0, 1) := by decide +kernel
theorem dX6_init_133 : decode cX6_init 133 = .ok (.invokespecial 34, 3) := by decide +kernel
theorem dX6_init_136 : decode cX6_init 136 = .ok (.putfield 44, 3) := by decide +kernel
theorem dX6_init_139 : decode cX6_init 139 = .ok (.return_, 1) := by decide +kernel
theorem dX6_feed_0 : decode cX6_feed 0 = .ok (.iload_n 1, 1) := by decide +kernel
theorem dX6_feed_1 : decode cX6_feed 1 = .ok (.ifCond .lt 9, 3) := by decide +kernel
theorem dX6_feed_4 : decode cX6_feed 4 = .ok (.iload_n 1, 1) := by decide +kernel
theorem dX6_feed_5 : decode cX6_feed 5 = .ok (.bipush 127, 2) := by decide +kernel
theorem dX6_feed_7 : decode cX6_feed 7 = .ok (.if_icmp .le 6, 3) := by decide +kernel
theorem dX6_feed_10 : decode cX6_feed 10 = .ok (.bipush (-2), 2) := by decide +kernel
theorem dX6_feed_12 : decode cX6_feed 12 = .ok (.ireturn, 1) := by decide +kernel
theorem dX6_feed_13 : decode cX6_feed 13 = .ok (.aload_n 0, 1) := by decide +kernel
theorem dX6_feed_14 : decode cX6_feed 14 = .ok (.getfield 47, 3) := by decide +kernel
theorem dX6_feed_17 : decode cX6_feed 17 = .ok (.bipush 80, 2) := by decide +kernel
theorem dX6_feed_19 : decode cX6_feed 19 = .ok (.if_icmp .lt 6, 3) := by decide +kernel
theorem dX6_feed_22 : decode cX6_feed 22 = .ok (.bipush (-4), 2) := by decide +kernel
theorem dX6_feed_24 : decode cX6_feed 24 = .ok (.ireturn, 1) := by decide +kernel
theorem dX6_feed_25 : decode cX6_feed 25 = .ok (.aload_n 0, 1) := by decide +kernel
theorem dX6_feed_26 : decode cX6_feed 26 = .ok (.getfield 9, 3) := by decide +kernel
theorem dX6_feed_29 : decode cX6_feed 29 = .ok (.aload_n 0, 1) := by decide +kernel
theorem dX6_feed_30 : decode cX6_feed 30 = .ok (.getfield 47, 3) := by decide +kernel
theorem dX6_feed_33 : decode cX6_feed 33 = .ok (.iload_n 1, 1) := by decide +kernel
theorem dX6_feed_34 : decode cX6_feed 34 = .ok (.iastore, 1) := by decide +kernel
theorem dX6_feed_35 : decode cX6_feed 35 = .ok (.aload_n 0, 1) := by decide +kernel
theorem dX6_feed_36 : decode cX6_feed 36 = .ok (.dup, 1) := by decide +kernel
theorem dX6_feed_37 : decode cX6_feed 37 = .ok (.getfield 47, 3) := by decide +kernel
theorem dX6_feed_40 : decode cX6_feed 40 = .ok (.iconst 1, 1) := by decide +kernel
theorem dX6_feed_41 : decode cX6_feed 41 = .ok (.iadd, 1) := by decide +kernel
theorem dX6_feed_42 : decode cX6_feed 42 = .ok (.putfield 47, 3) := by decide +kernel
theorem dX6_feed_45 : decode cX6_feed 45 = .ok (.aload_n 0, 1) := by decide +kernel
theorem dX6_feed_46 : decode cX6_feed 46 = .ok (.getfield 47, 3) := by decide +kernel
theorem dX6_feed_49 : decode cX6_feed 49 = .ok (.ireturn, 1) := by decide +kernel
theorem dX6_define_0 : decode cX6_define 0 = .ok (.iload_n 1, 1) := by decide +kernel
theorem dX6_define_1 : decode cX6_define 1 = .ok (.iconst 4, 1) := by decide +kernel
theorem dX6_define_2 : decode cX6_define 2 = .ok (.invokestatic 51, 3) := by decide +kernel
theorem dX6_define_5 : decode cX6_define 5 = .ok (.ifCond .ne 5, 3) := by decide +kernel
theorem dX6_define_8 : decode cX6_define 8 = .ok (.iconst (-1), 1) := by decide +kernel
theorem dX6_define_9 : decode cX6_define 9 = .ok (.ireturn, 1) := by decide +kernel
theorem dX6_define_10 : decode cX6_define 10 = .ok (.aload_n 0, 1) := by decide +kernel
theorem dX6_define_11 : decode cX6_define 11 = .ok (.getfield 37, 3) := by decide +kernel
theorem dX6_define_14 : decode cX6_define 14 = .ok (.getfield 55, 3) := by decide +kernel
theorem dX6_define_17 : decode cX6_define 17 = .ok (.iload_n 1, 1) := by decide +kernel
theorem dX6_define_18 : decode cX6_define 18 = .ok (.iaload, 1) := by decide +kernel
theorem dX6_define_19 : decode cX6_define 19 = .ok (.istore_n 2, 1) := by decide +kernel
theorem dX6_define_20 : decode cX6_define 20 = .ok (.iload_n 2, 1) := by decide +kernel
theorem dX6_define_21 : decode cX6_define 21 = .ok (.iconst 4, 1) := by decide +kernel
theorem dX6_define_22 : decode cX6_define 22 = .ok (.invokestatic 51, 3) := by decide +kernel
theorem dX6_define_25 : decode cX6_define 25 = .ok (.ifCond .ne 6, 3) := by decide +kernel
theorem dX6_define_28 : decode cX6_define 28 = .ok (.bipush (-4), 2) := by decide +kernel
theorem dX6_define_30 : decode cX6_define 30 = .ok (.ireturn, 1) := by decide +kernel
theorem dX6_define_31 : decode cX6_define 31 = .ok (.aload_n 0, 1) := by decide +kernel
theorem dX6_define_32 : decode cX6_define 32 = .ok (.getfield 37, 3) := by decide +kernel
theorem dX6_define_35 : decode cX6_define 35 = .ok (.aload_n 0, 1) := by decide +kernel
theorem dX6_define_36 : decode cX6_define 36 = .ok (.getfield 16, 3) := by decide +kernel
theorem dX6_define_39 : decode cX6_define 39 = .ok (.aload_n 0, 1) := by decide +kernel
theorem dX6_define_40 : decode cX6_define 40 = .ok (.getfield 9, 3) := by decide +kernel
theorem dX6_define_43 : decode cX6_define 43 = .ok (.aload_n 0, 1) := by decide +kernel
theorem dX6_define_44 : decode cX6_define 44 = .ok (.getfield 47, 3) := by decide +kernel
theorem dX6_define_47 : decode cX6_define 47 = .ok (.aload_n 0, 1) := by decide +kernel
theorem dX6_define_48 : decode cX6_define 48 = .ok (.getfield 22, 3) := by decide +kernel
theorem dX6_define_51 : decode cX6_define 51 = .ok (.iload_n 1, 1) := by decide +kernel
theorem dX6_define_52 : decode cX6_define 52 = .ok (.iconst 4, 1) := by decide +kernel
theorem dX6_define_53 : decode cX6_define 53 = .ok (.imul, 1) := by decide +kernel
theorem dX6_define_54 : decode cX6_define 54 = .ok (.iload_n 2, 1) := by decide +kernel
theorem dX6_define_55 : decode cX6_define 55 = .ok (.iadd, 1) := by decide +kernel
theorem dX6_define_56 : decode cX6_define 56 = .ok (.aaload, 1) := by decide +kernel
theorem dX6_define_57 : decode cX6_define 57 = .ok (.invokevirtual 58, 3) := by decide +kernel
theorem dX6_define_60 : decode cX6_define 60 = .ok (.putfield 62, 3) := by decide +kernel
theorem dX6_define_63 : decode cX6_define 63 = .ok (.aload_n 0, 1) := by decide +kernel
theorem dX6_define_64 : decode cX6_define 64 = .ok (.getfield 37, 3) := by decide +kernel
theorem dX6_define_67 : decode cX6_define 67 = .ok (.aload_n 0, 1) := by decide +kernel
theorem dX6_define_68 : decode cX6_define 68 = .ok (.getfield 16, 3) := by decide +kernel
theorem dX6_define_71 : decode cX6_define 71 = .ok (.getfield 65, 3) := by decide +kernel
theorem dX6_define_74 : decode cX6_define 74 = .ok (.putfield 68, 3) := by decide +kernel
theorem dX6_define_77 : decode cX6_define 77 = .ok (.aload_n 0, 1) := by decide +kernel
theorem dX6_define_78 : decode cX6_define 78 = .ok (.iconst 0, 1) := by decide +kernel
theorem dX6_define_79 : decode cX6_define 79 = .ok (.putfield 47, 3) := by decide +kernel
theorem dX6_define_82 : decode cX6_define 82 = .ok (.aload_n 0, 1) := by decide +kernel
theorem dX6_define_83 : decode cX6_define 83 = .ok (.getfield 37, 3) := by decide +kernel
theorem dX6_define_86 : decode cX6_define 86 = .ok (.getfield 62, 3) := by decide +kernel
theorem dX6_define_89 : decode cX6_define 89 = .ok (.ifCond .eq 14, 3) := by decide +kernel
theorem dX6_define_92 : decode cX6_define 92 = .ok (.bipush (-100), 2) := by decide +kernel
theorem dX6_define_94 : decode cX6_define 94 = .ok (.aload_n 0, 1) := by decide +kernel
theorem dX6_define_95 : decode cX6_define 95 = .ok (.getfield 37, 3) := by decide +kernel
theorem dX6_define_98 : decode cX6_define 98 = .ok (.getfield 68, 3) := by decide +kernel
theorem dX6_define_101 : decode cX6_define 101 = .ok (.isub, 1) := by decide +kernel
theorem dX6_define_102 : decode cX6_define 102 = .ok (.ireturn, 1) := by decide +kernel
theorem dX6_define_103 : decode cX6_define 103 = .ok (.aload_n 0, 1) := by decide +kernel
theorem dX6_define_104 : decode cX6_define 104 = .ok (.getfield 37, 3) := by decide +kernel
theorem dX6_define_107 : decode cX6_define 107 = .ok (.getfield 55, 3) := by decide +kernel
theorem dX6_define_110 : decode cX6_define 110 = .ok (.iload_n 1, 1) := by decide +kernel
theorem dX6_define_111 : decode cX6_define 111 = .ok (.iload_n 2, 1) := by decide +kernel
theorem dX6_define_112 : decode cX6_define 112 = .ok (.iconst 1, 1) := by decide +kernel
theorem dX6_define_113 : decode cX6_define 113 = .ok (.iadd, 1) := by decide +kernel
theorem dX6_define_114 : decode cX6_define 114 = .ok (.iastore, 1) := by decide +kernel
theorem dX6_define_115 : decode cX6_define 115 = .ok (.iload_n 2, 1) := by decide +kernel
theorem dX6_define_116 : decode cX6_define 116 = .ok (.ireturn, 1) := by decide +kernel
theorem dX6_wrong_0 : decode cX6_wrong 0 = .ok (.iload_n 1, 1) := by decide +kernel
theorem dX6_wrong_1 : decode cX6_wrong 1 = .ok (.ifCond .eq 10, 3) := by decide +kernel
theorem dX6_wrong_4 : decode cX6_wrong 4 = .ok (.iload_n 1, 1) := by decide +kernel
theorem dX6_wrong_5 : decode cX6_wrong 5 = .ok (.iconst 1, 1) := by decide +kernel
theorem dX6_wrong_6 : decode cX6_wrong 6 = .ok (.if_icmp .eq 5, 3) := by decide +kernel
theorem dX6_wrong_9 : decode cX6_wrong 9 = .ok (.iconst (-1), 1) := by decide +kernel
theorem dX6_wrong_10 : decode cX6_wrong 10 = .ok (.ireturn, 1) := by decide +kernel
theorem dX6_wrong_11 : decode cX6_wrong 11 = .ok (.aload_n 0, 1) := by decide +kernel
theorem dX6_wrong_12 : decode cX6_wrong 12 = .ok (.getfield 37, 3) := by decide +kernel
theorem dX6_wrong_15 : decode cX6_wrong 15 = .ok (.getfield 62, 3) := by decide +kernel
theorem dX6_wrong_18 : decode cX6_wrong 18 = .ok (.ifCond .ne 6, 3) := by decide +kernel
theorem dX6_wrong_21 : decode cX6_wrong 21 = .ok (.bipush (-5), 2) := by decide +kernel
theorem dX6_wrong_23 : decode cX6_wrong 23 = .ok (.ireturn, 1) := by decide +kernel
theorem dX6_wrong_24 : decode cX6_wrong 24 = .ok (.iload_n 1, 1) := by decide +kernel
theorem dX6_wrong_25 : decode cX6_wrong 25 = .ok (.ifCond .ne 13, 3) := by decide +kernel
theorem dX6_wrong_28 : decode cX6_wrong 28 = .ok (.aload_n 0, 1) := by decide +kernel
theorem dX6_wrong_29 : decode cX6_wrong 29 = .ok (.getfield 37, 3) := by decide +kernel
theorem dX6_wrong_32 : decode cX6_wrong 32 = .ok (.getfield 68, 3) := by decide +kernel
theorem dX6_wrong_35 : decode cX6_wrong 35 = .ok (.goto 10, 3) := by decide +kernel
theorem dX6_wrong_38 : decode cX6_wrong 38 = .ok (.aload_n 0, 1) := by decide +kernel
theorem dX6_wrong_39 : decode cX6_wrong 39 = .ok (.getfield 37, 3) := by decide +kernel
theorem dX6_wrong_42 : decode cX6_wrong 42 = .ok (.getfield 62, 3) := by decide +kernel
theorem dX6_wrong_45 : decode cX6_wrong 45 = .ok (.ireturn, 1) := by decide +kernel
theorem dX6_version_0 : decode cX6_version 0 = .ok (.iload_n 1, 1) := by decide +kernel
theorem dX6_version_1 : decode cX6_version 1 = .ok (.iconst 4, 1) := by decide +kernel
theorem dX6_version_2 : decode cX6_version 2 = .ok (.invokestatic 51, 3) := by decide +kernel
theorem dX6_version_5 : decode cX6_version 5 = .ok (.ifCond .ne 5, 3) := by decide +kernel
theorem dX6_version_8 : decode cX6_version 8 = .ok (.iconst (-1), 1) := by decide +kernel
theorem dX6_version_9 : decode cX6_version 9 = .ok (.ireturn, 1) := by decide +kernel
theorem dX6_version_10 : decode cX6_version 10 = .ok (.iload_n 2, 1) := by decide +kernel
theorem dX6_version_11 : decode cX6_version 11 = .ok (.iconst (-1), 1) := by decide +kernel
theorem dX6_version_12 : decode cX6_version 12 = .ok (.if_icmp .ne 17, 3) := by decide +kernel
theorem dX6_version_15 : decode cX6_version 15 = .ok (.aload_n 0, 1) := by decide +kernel
theorem dX6_version_16 : decode cX6_version 16 = .ok (.getfield 37, 3) := by decide +kernel
theorem dX6_version_19 : decode cX6_version 19 = .ok (.getfield 55, 3) := by decide +kernel
theorem dX6_version_22 : decode cX6_version 22 = .ok (.iload_n 1, 1) := by decide +kernel
theorem dX6_version_23 : decode cX6_version 23 = .ok (.iaload, 1) := by decide +kernel
theorem dX6_version_24 : decode cX6_version 24 = .ok (.iconst 1, 1) := by decide +kernel
theorem dX6_version_25 : decode cX6_version 25 = .ok (.isub, 1) := by decide +kernel
theorem dX6_version_26 : decode cX6_version 26 = .ok (.goto 4, 3) := by decide +kernel
theorem dX6_version_29 : decode cX6_version 29 = .ok (.iload_n 2, 1) := by decide +kernel
theorem dX6_version_30 : decode cX6_version 30 = .ok (.istore 4, 2) := by decide +kernel
theorem dX6_version_32 : decode cX6_version 32 = .ok (.iload 4, 2) := by decide +kernel
theorem dX6_version_34 : decode cX6_version 34 = .ok (.aload_n 0, 1) := by decide +kernel
theorem dX6_version_35 : decode cX6_version 35 = .ok (.getfield 37, 3) := by decide +kernel
theorem dX6_version_38 : decode cX6_version 38 = .ok (.getfield 55, 3) := by decide +kernel
theorem dX6_version_41 : decode cX6_version 41 = .ok (.iload_n 1, 1) := by decide +kernel
theorem dX6_version_42 : decode cX6_version 42 = .ok (.iaload, 1) := by decide +kernel
theorem dX6_version_43 : decode cX6_version 43 = .ok (.invokestatic 51, 3) := by decide +kernel
theorem dX6_version_46 : decode cX6_version 46 = .ok (.ifCond .eq 12, 3) := by decide +kernel
theorem dX6_version_49 : decode cX6_version 49 = .ok (.iload 4, 2) := by decide +kernel
theorem dX6_version_51 : decode cX6_version 51 = .ok (.iconst 4, 1) := by decide +kernel
theorem dX6_version_52 : decode cX6_version 52 = .ok (.invokestatic 51, 3) := by decide +kernel
theorem dX6_version_55 : decode cX6_version 55 = .ok (.ifCond .ne 5, 3) := by decide +kernel
theorem dX6_version_58 : decode cX6_version 58 = .ok (.iconst (-1), 1) := by decide +kernel
theorem dX6_version_59 : decode cX6_version 59 = .ok (.ireturn, 1) := by decide +kernel
theorem dX6_version_60 : decode cX6_version 60 = .ok (.aload_n 0, 1) := by decide +kernel
theorem dX6_version_61 : decode cX6_version 61 = .ok (.getfield 22, 3) := by decide +kernel
theorem dX6_version_64 : decode cX6_version 64 = .ok (.iload_n 1, 1) := by decide +kernel
theorem dX6_version_65 : decode cX6_version 65 = .ok (.iconst 4, 1) := by decide +kernel
theorem dX6_version_66 : decode cX6_version 66 = .ok (.imul, 1) := by decide +kernel
theorem dX6_version_67 : decode cX6_version 67 = .ok (.iload 4, 2) := by decide +kernel
theorem dX6_version_69 : decode cX6_version 69 = .ok (.iadd, 1) := by decide +kernel
theorem dX6_version_70 : decode cX6_version 70 = .ok (.aaload, 1) := by decide +kernel
theorem dX6_version_71 : decode cX6_version 71 = .ok (.astore 5, 2) := by decide +kernel
theorem dX6_version_73 : decode cX6_version 73 = .ok (.iload_n 3, 1) := by decide +kernel
theorem dX6_version_74 : decode cX6_version 74 = .ok (.tableswitch 64 0 4 #[34, 40, 46, 52, 58], 34) := by decide +kernel
theorem dX6_version_108 : decode cX6_version 108 = .ok (.aload 5, 2) := by decide +kernel
theorem dX6_version_110 : decode cX6_version 110 = .ok (.getfield 71, 3) := by decide +kernel
theorem dX6_version_113 : decode cX6_version 113 = .ok (.ireturn, 1) := by decide +kernel
theorem dX6_version_114 : decode cX6_version 114 = .ok (.aload 5, 2) := by decide +kernel
theorem dX6_version_116 : decode cX6_version 116 = .ok (.getfield 74, 3) := by decide +kernel
theorem dX6_version_119 : decode cX6_version 119 = .ok (.ireturn, 1) := by decide +kernel
theorem dX6_version_120 : decode cX6_version 120 = .ok (.aload 5, 2) := by decide +kernel
theorem dX6_version_122 : decode cX6_version 122 = .ok (.getfield 77, 3) := by decide +kernel
theorem dX6_version_125 : decode cX6_version 125 = .ok (.ireturn, 1) := by decide +kernel
theorem dX6_version_126 : decode cX6_version 126 = .ok (.aload 5, 2) := by decide +kernel
theorem dX6_version_128 : decode cX6_version 128 = .ok (.getfield 80, 3) := by decide +kernel
theorem dX6_version_131 : decode cX6_version 131 = .ok (.ireturn, 1) := by decide +kernel
theorem dX6_version_132 : decode cX6_version 132 = .ok (.aload 5, 2) := by decide +kernel
theorem dX6_version_134 : decode cX6_version 134 = .ok (.getfield 83, 3) := by decide +kernel
theorem dX6_version_137 : decode cX6_version 137 = .ok (.ireturn, 1) := by decide +kernel
theorem dX6_version_138 : decode cX6_version 138 = .ok (.iconst (-1), 1) := by decide +kernel
theorem dX6_version_139 : decode cX6_version 139 = .ok (.ireturn, 1) := by decide +kernel
theorem dX6_duration_0 : decode cX6_duration 0 = .ok (.aload_n 0, 1) := by decide +kernel
theorem dX6_duration_1 : decode cX6_duration 1 = .ok (.getfield 37, 3) := by decide +kernel
theorem dX6_duration_4 : decode cX6_duration 4 = .ok (.getfield 86, 3) := by decide +kernel
theorem dX6_duration_7 : decode cX6_duration 7 = .ok (.getfield 90, 3) := by decide +kernel
theorem dX6_duration_10 : decode cX6_duration 10 = .ok (.iload_n 1, 1) := by decide +kernel
theorem dX6_duration_11 : decode cX6_duration 11 = .ok (.iload_n 2, 1) := by decide +kernel
theorem dX6_duration_12 : decode cX6_duration 12 = .ok (.invokestatic 93, 3) := by decide +kernel
theorem dX6_duration_15 : decode cX6_duration 15 = .ok (.ireturn, 1) := by decide +kernel
theorem dX6_failures_0 : decode cX6_failures 0 = .ok (.aload_n 0, 1) := by decide +kernel
theorem dX6_failures_1 : decode cX6_failures 1 = .ok (.getfield 37, 3) := by decide +kernel
theorem dX6_failures_4 : decode cX6_failures 4 = .ok (.getfield 86, 3) := by decide +kernel
theorem dX6_failures_7 : decode cX6_failures 7 = .ok (.getfield 97, 3) := by decide +kernel
theorem dX6_failures_10 : decode cX6_failures 10 = .ok (.iload_n 1, 1) := by decide +kernel
theorem dX6_failures_11 : decode cX6_failures 11 = .ok (.iload_n 2, 1) := by decide +kernel
theorem dX6_failures_12 : decode cX6_failures 12 = .ok (.invokestatic 93, 3) := by decide +kernel
theorem dX6_failures_15 : decode cX6_failures 15 = .ok (.ireturn, 1) := by decide +kernel
theorem dX6_start_0 : decode cX6_start 0 = .ok (.iload_n 1, 1) := by decide +kernel
theorem dX6_start_1 : decode cX6_start 1 = .ok (.iconst 4, 1) := by decide +kernel
theorem dX6_start_2 : decode cX6_start 2 = .ok (.invokestatic 51, 3) := by decide +kernel
theorem dX6_start_5 : decode cX6_start 5 = .ok (.ifCond .ne 5, 3) := by decide +kernel
theorem dX6_start_8 : decode cX6_start 8 = .ok (.iconst (-1), 1) := by decide +kernel
theorem dX6_start_9 : decode cX6_start 9 = .ok (.ireturn, 1) := by decide +kernel
theorem dX6_start_10 : decode cX6_start 10 = .ok (.aload_n 0, 1) := by decide +kernel
theorem dX6_start_11 : decode cX6_start 11 = .ok (.getfield 37, 3) := by decide +kernel
theorem dX6_start_14 : decode cX6_start 14 = .ok (.getfield 55, 3) := by decide +kernel
theorem dX6_start_17 : decode cX6_start 17 = .ok (.iload_n 1, 1) := by decide +kernel
theorem dX6_start_18 : decode cX6_start 18 = .ok (.iaload, 1) := by decide +kernel
theorem dX6_start_19 : decode cX6_start 19 = .ok (.iconst 1, 1) := by decide +kernel
theorem dX6_start_20 : decode cX6_start 20 = .ok (.isub, 1) := by decide +kernel
theorem dX6_start_21 : decode cX6_start 21 = .ok (.istore_n 2, 1) := by decide +kernel
theorem dX6_start_22 : decode cX6_start 22 = .ok (.iload_n 2, 1) := by decide +kernel
theorem dX6_start_23 : decode cX6_start 23 = .ok (.iconst 4, 1) := by decide +kernel
theorem dX6_start_24 : decode cX6_start 24 = .ok (.invokestatic 51, 3) := by decide +kernel
theorem dX6_start_27 : decode cX6_start 27 = .ok (.ifCond .ne 6, 3) := by decide +kernel
theorem dX6_start_30 : decode cX6_start 30 = .ok (.bipush (-3), 2) := by decide +kernel
theorem dX6_start_32 : decode cX6_start 32 = .ok (.ireturn, 1) := by decide +kernel
theorem dX6_start_33 : decode cX6_start 33 = .ok (.aload_n 0, 1) := by decide +kernel
theorem dX6_start_34 : decode cX6_start 34 = .ok (.getfield 37, 3) := by decide +kernel
theorem dX6_start_37 : decode cX6_start 37 = .ok (.invokevirtual 100, 3) := by decide +kernel
theorem dX6_start_40 : decode cX6_start 40 = .ok (.istore_n 3, 1) := by decide +kernel
theorem dX6_start_41 : decode cX6_start 41 = .ok (.iload_n 3, 1) := by decide +kernel
theorem dX6_start_42 : decode cX6_start 42 = .ok (.bipush 6, 2) := by decide +kernel
theorem dX6_start_44 : decode cX6_start 44 = .ok (.invokestatic 51, 3) := by decide +kernel
theorem dX6_start_47 : decode cX6_start 47 = .ok (.ifCond .ne 6, 3) := by decide +kernel
theorem dX6_start_50 : decode cX6_start 50 = .ok (.bipush (-4), 2) := by decide +kernel
theorem dX6_start_52 : decode cX6_start 52 = .ok (.ireturn, 1) := by decide +kernel
theorem dX6_start_53 : decode cX6_start 53 = .ok (.aload_n 0, 1) := by decide +kernel
theorem dX6_start_54 : decode cX6_start 54 = .ok (.getfield 37, 3) := by decide +kernel
theorem dX6_start_57 : decode cX6_start 57 = .ok (.getfield 104, 3) := by decide +kernel
theorem dX6_start_60 : decode cX6_start 60 = .ok (.iload_n 3, 1) := by decide +kernel
theorem dX6_start_61 : decode cX6_start 61 = .ok (.aaload, 1) := by decide +kernel
theorem dX6_start_62 : decode cX6_start 62 = .ok (.aload_n 0, 1) := by decide +kernel
theorem dX6_start_63 : decode cX6_start 63 = .ok (.getfield 22, 3) := by decide +kernel
theorem dX6_start_66 : decode cX6_start 66 = .ok (.iload_n 1, 1) := by decide +kernel
theorem dX6_start_67 : decode cX6_start 67 = .ok (.iconst 4, 1) := by decide +kernel
theorem dX6_start_68 : decode cX6_start 68 = .ok (.imul, 1) := by decide +kernel
theorem dX6_start_69 : decode cX6_start 69 = .ok (.iload_n 2, 1) := by decide +kernel
theorem dX6_start_70 : decode cX6_start 70 = .ok (.iadd, 1) := by decide +kernel
theorem dX6_start_71 : decode cX6_start 71 = .ok (.aaload, 1) := by decide +kernel
theorem dX6_start_72 : decode cX6_start 72 = .ok (.invokevirtual 108, 3) := by decide +kernel
theorem dX6_start_75 : decode cX6_start 75 = .ok (.iload_n 3, 1) := by decide +kernel
theorem dX6_start_76 : decode cX6_start 76 = .ok (.ireturn, 1) := by decide +kernel
theorem dX6_signal_0 : decode cX6_signal 0 = .ok (.aload_n 0, 1) := by decide +kernel
theorem dX6_signal_1 : decode cX6_signal 1 = .ok (.iload_n 1, 1) := by decide +kernel
theorem dX6_signal_2 : decode cX6_signal 2 = .ok (.invokevirtual 114, 3) := by decide +kernel
theorem dX6_signal_5 : decode cX6_signal 5 = .ok (.astore_n 3, 1) := by decide +kernel
theorem dX6_signal_6 : decode cX6_signal 6 = .ok (.aload_n 3, 1) := by decide +kernel
theorem dX6_signal_7 : decode cX6_signal 7 = .ok (.ifnull 12, 3) := by decide +kernel
theorem dX6_signal_10 : decode cX6_signal 10 = .ok (.iload_n 2, 1) := by decide +kernel
theorem dX6_signal_11 : decode cX6_signal 11 = .ok (.bipush 8, 2) := by decide +kernel
theorem dX6_signal_13 : decode cX6_signal 13 = .ok (.invokestatic 51, 3) := by decide +kernel
theorem dX6_signal_16 : decode cX6_signal 16 = .ok (.ifCond .ne 5, 3) := by decide +kernel
theorem dX6_signal_19 : decode cX6_signal 19 = .ok (.iconst (-1), 1) := by decide +kernel
theorem dX6_signal_20 : decode cX6_signal 20 = .ok (.ireturn, 1) := by decide +kernel
theorem dX6_signal_21 : decode cX6_signal 21 = .ok (.aload_n 3, 1) := by decide +kernel
theorem dX6_signal_22 : decode cX6_signal 22 = .ok (.getfield 118, 3) := by decide +kernel
theorem dX6_signal_25 : decode cX6_signal 25 = .ok (.ifCond .eq 6, 3) := by decide +kernel
theorem dX6_signal_28 : decode cX6_signal 28 = .ok (.bipush (-3), 2) := by decide +kernel
theorem dX6_signal_30 : decode cX6_signal 30 = .ok (.ireturn, 1) := by decide +kernel
theorem dX6_signal_31 : decode cX6_signal 31 = .ok (.aload_n 3, 1) := by decide +kernel
theorem dX6_signal_32 : decode cX6_signal 32 = .ok (.getfield 121, 3) := by decide +kernel
theorem dX6_signal_35 : decode cX6_signal 35 = .ok (.iload_n 2, 1) := by decide +kernel
theorem dX6_signal_36 : decode cX6_signal 36 = .ok (.iaload, 1) := by decide +kernel
theorem dX6_signal_37 : decode cX6_signal 37 = .ok (.bipush 9, 2) := by decide +kernel
theorem dX6_signal_39 : decode cX6_signal 39 = .ok (.if_icmp .lt 6, 3) := by decide +kernel
theorem dX6_signal_42 : decode cX6_signal 42 = .ok (.bipush (-4), 2) := by decide +kernel
theorem dX6_signal_44 : decode cX6_signal 44 = .ok (.ireturn, 1) := by decide +kernel
theorem dX6_signal_45 : decode cX6_signal 45 = .ok (.aload_n 3, 1) := by decide +kernel
theorem dX6_signal_46 : decode cX6_signal 46 = .ok (.getfield 121, 3) := by decide +kernel
theorem dX6_signal_49 : decode cX6_signal 49 = .ok (.iload_n 2, 1) := by decide +kernel
theorem dX6_signal_50 : decode cX6_signal 50 = .ok (.dup2, 1) := by decide +kernel
theorem dX6_signal_51 : decode cX6_signal 51 = .ok (.iaload, 1) := by decide +kernel
theorem dX6_signal_52 : decode cX6_signal 52 = .ok (.iconst 1, 1) := by decide +kernel
theorem dX6_signal_53 : decode cX6_signal 53 = .ok (.iadd, 1) := by decide +kernel
theorem dX6_signal_54 : decode cX6_signal 54 = .ok (.iastore, 1) := by decide +kernel
theorem dX6_signal_55 : decode cX6_signal 55 = .ok (.aload_n 3, 1) := by decide +kernel
theorem dX6_signal_56 : decode cX6_signal 56 = .ok (.getfield 121, 3) := by decide +kernel
theorem dX6_signal_59 : decode cX6_signal 59 = .ok (.iload_n 2, 1) := by decide +kernel
theorem dX6_signal_60 : decode cX6_signal 60 = .ok (.iaload, 1) := by decide +kernel
theorem dX6_signal_61 : decode cX6_signal 61 = .ok (.ireturn, 1) := by decide +kernel
theorem dX6_abort_0 : decode cX6_abort 0 = .ok (.aload_n 0, 1) := by decide +kernel
theorem dX6_abort_1 : decode cX6_abort 1 = .ok (.iload_n 1, 1) := by decide +kernel
theorem dX6_abort_2 : decode cX6_abort 2 = .ok (.invokevirtual 114, 3) := by decide +kernel
theorem dX6_abort_5 : decode cX6_abort 5 = .ok (.astore_n 2, 1) := by decide +kernel
theorem dX6_abort_6 : decode cX6_abort 6 = .ok (.aload_n 2, 1) := by decide +kernel
theorem dX6_abort_7 : decode cX6_abort 7 = .ok (.ifnonnull 5, 3) := by decide +kernel
theorem dX6_abort_10 : decode cX6_abort 10 = .ok (.iconst (-1), 1) := by decide +kernel
theorem dX6_abort_11 : decode cX6_abort 11 = .ok (.ireturn, 1) := by decide +kernel
theorem dX6_abort_12 : decode cX6_abort 12 = .ok (.aload_n 2, 1) := by decide +kernel
theorem dX6_abort_13 : decode cX6_abort 13 = .ok (.getfield 118, 3) := by decide +kernel
theorem dX6_abort_16 : decode cX6_abort 16 = .ok (.ifCond .eq 6, 3) := by decide +kernel
theorem dX6_abort_19 : decode cX6_abort 19 = .ok (.bipush (-3), 2) := by decide +kernel
theorem dX6_abort_21 : decode cX6_abort 21 = .ok (.ireturn, 1) := by decide +kernel
theorem dX6_abort_22 : decode cX6_abort 22 = .ok (.aload_n 2, 1) := by decide +kernel
theorem dX6_abort_23 : decode cX6_abort 23 = .ok (.invokevirtual 124, 3) := by decide +kernel
theorem dX6_abort_26 : decode cX6_abort 26 = .ok (.aload_n 2, 1) := by decide +kernel
theorem dX6_abort_27 : decode cX6_abort 27 = .ok (.getfield 118, 3) := by decide +kernel
theorem dX6_abort_30 : decode cX6_abort 30 = .ok (.ireturn, 1) := by decide +kernel
theorem dX6_remove_0 : decode cX6_remove 0 = .ok (.aload_n 0, 1) := by decide +kernel
theorem dX6_remove_1 : decode cX6_remove 1 = .ok (.iload_n 1, 1) := by decide +kernel
theorem dX6_remove_2 : decode cX6_remove 2 = .ok (.invokevirtual 114, 3) := by decide +kernel
theorem dX6_remove_5 : decode cX6_remove 5 = .ok (.astore_n 2, 1) := by decide +kernel
theorem dX6_remove_6 : decode cX6_remove 6 = .ok (.aload_n 2, 1) := by decide +kernel
theorem dX6_remove_7 : decode cX6_remove 7 = .ok (.ifnonnull 5, 3) := by decide +kernel
theorem dX6_remove_10 : decode cX6_remove 10 = .ok (.iconst (-1), 1) := by decide +kernel
theorem dX6_remove_11 : decode cX6_remove 11 = .ok (.ireturn, 1) := by decide +kernel
theorem dX6_remove_12 : decode cX6_remove 12 = .ok (.aload_n 2, 1) := by decide +kernel
theorem dX6_remove_13 : decode cX6_remove 13 = .ok (.invokevirtual 127, 3) := by decide +kernel
theorem dX6_remove_16 : decode cX6_remove 16 = .ok (.ifCond .ne 6, 3) := by decide +kernel
theorem dX6_remove_19 : decode cX6_remove 19 = .ok (.bipush (-3), 2) := by decide +kernel
theorem dX6_remove_21 : decode cX6_remove 21 = .ok (.ireturn, 1) := by decide +kernel
theorem dX6_remove_22 : decode cX6_remove 22 = .ok (.aload_n 2, 1) := by decide +kernel
theorem dX6_remove_23 : decode cX6_remove 23 = .ok (.getfield 118, 3) := by decide +kernel
theorem dX6_remove_26 : decode cX6_remove 26 = .ok (.istore_n 3, 1) := by decide +kernel
theorem dX6_remove_27 : decode cX6_remove 27 = .ok (.aload_n 2, 1) := by decide +kernel
theorem dX6_remove_28 : decode cX6_remove 28 = .ok (.iconst (-1), 1) := by decide +kernel
theorem dX6_remove_29 : decode cX6_remove 29 = .ok (.putfield 118, 3) := by decide +kernel
theorem dX6_remove_32 : decode cX6_remove 32 = .ok (.iload_n 3, 1) := by decide +kernel
theorem dX6_remove_33 : decode cX6_remove 33 = .ok (.ireturn, 1) := by decide +kernel
theorem dX6_pass_0 : decode cX6_pass 0 = .ok (.iload_n 1, 1) := by decide +kernel
theorem dX6_pass_1 : decode cX6_pass 1 = .ok (.iconst 1, 1) := by decide +kernel
theorem dX6_pass_2 : decode cX6_pass 2 = .ok (.if_icmp .lt 10, 3) := by decide +kernel
theorem dX6_pass_5 : decode cX6_pass 5 = .ok (.iload_n 1, 1) := by decide +kernel
theorem dX6_pass_6 : decode cX6_pass 6 = .ok (.sipush 200, 3) := by decide +kernel
theorem dX6_pass_9 : decode cX6_pass 9 = .ok (.if_icmp .le 6, 3) := by decide +kernel
theorem dX6_pass_12 : decode cX6_pass 12 = .ok (.bipush (-2), 2) := by decide +kernel
theorem dX6_pass_14 : decode cX6_pass 14 = .ok (.ireturn, 1) := by decide +kernel
theorem dX6_pass_15 : decode cX6_pass 15 = .ok (.aload_n 0, 1) := by decide +kernel
theorem dX6_pass_16 : decode cX6_pass 16 = .ok (.getfield 37, 3) := by decide +kernel
theorem dX6_pass_19 : decode cX6_pass 19 = .ok (.getfield 86, 3) := by decide +kernel
theorem dX6_pass_22 : decode cX6_pass 22 = .ok (.getfield 131, 3) := by decide +kernel
theorem dX6_pass_25 : decode cX6_pass 25 = .ok (.iload_n 1, 1) := by decide +kernel
theorem dX6_pass_26 : decode cX6_pass 26 = .ok (.iadd, 1) := by decide +kernel
theorem dX6_pass_27 : decode cX6_pass 27 = .ok (.ldc 134, 2) := by decide +kernel
theorem dX6_pass_29 : decode cX6_pass 29 = .ok (.if_icmp .le 6, 3) := by decide +kernel
theorem dX6_pass_32 : decode cX6_pass 32 = .ok (.bipush (-4), 2) := by decide +kernel
theorem dX6_pass_34 : decode cX6_pass 34 = .ok (.ireturn, 1) := by decide +kernel
theorem dX6_pass_35 : decode cX6_pass 35 = .ok (.aload_n 0, 1) := by decide +kernel
theorem dX6_pass_36 : decode cX6_pass 36 = .ok (.getfield 37, 3) := by decide +kernel
theorem dX6_pass_39 : decode cX6_pass 39 = .ok (.iload_n 1, 1) := by decide +kernel
theorem dX6_pass_40 : decode cX6_pass 40 = .ok (.invokevirtual 135, 3) := by decide +kernel
theorem dX6_pass_43 : decode cX6_pass 43 = .ok (.aload_n 0, 1) := by decide +kernel
theorem dX6_pass_44 : decode cX6_pass 44 = .ok (.getfield 37, 3) := by decide +kernel
theorem dX6_pass_47 : decode cX6_pass 47 = .ok (.getfield 86, 3) := by decide +kernel
theorem dX6_pass_50 : decode cX6_pass 50 = .ok (.getfield 131, 3) := by decide +kernel
theorem dX6_pass_53 : decode cX6_pass 53 = .ok (.ireturn, 1) := by decide +kernel
theorem dX6_instance_0 : decode cX6_instance 0 = .ok (.aload_n 0, 1) := by decide +kernel
theorem dX6_instance_1 : decode cX6_instance 1 = .ok (.iload_n 1, 1) := by decide +kernel
theorem dX6_instance_2 : decode cX6_instance 2 = .ok (.invokevirtual 114, 3) := by decide +kernel
theorem dX6_instance_5 : decode cX6_instance 5 = .ok (.astore_n 3, 1) := by decide +kernel
theorem dX6_instance_6 : decode cX6_instance 6 = .ok (.aload_n 3, 1) := by decide +kernel
theorem dX6_instance_7 : decode cX6_instance 7 = .ok (.ifnonnull 5, 3) := by decide +kernel
theorem dX6_instance_10 : decode cX6_instance 10 = .ok (.iconst (-1), 1) := by decide +kernel
theorem dX6_instance_11 : decode cX6_instance 11 = .ok (.ireturn, 1) := by decide +kernel
theorem dX6_instance_12 : decode cX6_instance 12 = .ok (.iload_n 2, 1) := by decide +kernel
theorem dX6_instance_13 : decode cX6_instance 13 = .ok (.bipush 10, 2) := by decide +kernel
theorem dX6_instance_15 : decode cX6_instance 15 = .ok (.isub, 1) := by decide +kernel
theorem dX6_instance_16 : decode cX6_instance 16 = .ok (.iconst 4, 1) := by decide +kernel
theorem dX6_instance_17 : decode cX6_instance 17 = .ok (.invokestatic 51, 3) := by decide +kernel
theorem dX6_instance_20 : decode cX6_instance 20 = .ok (.ifCond .eq 13, 3) := by decide +kernel
theorem dX6_instance_23 : decode cX6_instance 23 = .ok (.aload_n 3, 1) := by decide +kernel
theorem dX6_instance_24 : decode cX6_instance 24 = .ok (.getfield 139, 3) := by decide +kernel
theorem dX6_instance_27 : decode cX6_instance 27 = .ok (.iload_n 2, 1) := by decide +kernel
theorem dX6_instance_28 : decode cX6_instance 28 = .ok (.bipush 10, 2) := by decide +kernel
theorem dX6_instance_30 : decode cX6_instance 30 = .ok (.isub, 1) := by decide +kernel
theorem dX6_instance_31 : decode cX6_instance 31 = .ok (.iaload, 1) := by decide +kernel
theorem dX6_instance_32 : decode cX6_instance 32 = .ok (.ireturn, 1) := by decide +kernel
theorem dX6_instance_33 : decode cX6_instance 33 = .ok (.iload_n 2, 1) := by decide +kernel
theorem dX6_instance_34 : decode cX6_instance 34 = .ok (.bipush 20, 2) := by decide +kernel
theorem dX6_instance_36 : decode cX6_instance 36 = .ok (.isub, 1) := by decide +kernel
theorem dX6_instance_37 : decode cX6_instance 37 = .ok (.bipush 8, 2) := by decide +kernel
theorem dX6_instance_39 : decode cX6_instance 39 = .ok (.invokestatic 51, 3) := by decide +kernel
theorem dX6_instance_42 : decode cX6_instance 42 = .ok (.ifCond .eq 13, 3) := by decide +kernel
theorem dX6_instance_45 : decode cX6_instance 45 = .ok (.aload_n 3, 1) := by decide +kernel
theorem dX6_instance_46 : decode cX6_instance 46 = .ok (.getfield 121, 3) := by decide +kernel
theorem dX6_instance_49 : decode cX6_instance 49 = .ok (.iload_n 2, 1) := by decide +kernel
theorem dX6_instance_50 : decode cX6_instance 50 = .ok (.bipush 20, 2) := by decide +kernel
theorem dX6_instance_52 : decode cX6_instance 52 = .ok (.isub, 1) := by decide +kernel
theorem dX6_instance_53 : decode cX6_instance 53 = .ok (.iaload, 1) := by decide +kernel
theorem dX6_instance_54 : decode cX6_instance 54 = .ok (.ireturn, 1) := by decide +kernel
theorem dX6_instance_55 : decode cX6_instance 55 = .ok (.iload_n 2, 1) := by decide +kernel
theorem dX6_instance_56 : decode cX6_instance 56 = .ok (.tableswitch 106 0 8 #[52, 57, 65, 73, 78, 83, 88, 93, 98], 52) := by decide +kernel
theorem dX6_instance_108 : decode cX6_instance 108 = .ok (.aload_n 3, 1) := by decide +kernel
theorem dX6_instance_109 : decode cX6_instance 109 = .ok (.getfield 118, 3) := by decide +kernel
theorem dX6_instance_112 : decode cX6_instance 112 = .ok (.ireturn, 1) := by decide +kernel
theorem dX6_instance_113 : decode cX6_instance 113 = .ok (.aload_n 3, 1) := by decide +kernel
theorem dX6_instance_114 : decode cX6_instance 114 = .ok (.getfield 142, 3) := by decide +kernel
theorem dX6_instance_117 : decode cX6_instance 117 = .ok (.getfield 146, 3) := by decide +kernel
theorem dX6_instance_120 : decode cX6_instance 120 = .ok (.ireturn, 1) := by decide +kernel
theorem dX6_instance_121 : decode cX6_instance 121 = .ok (.aload_n 3, 1) := by decide +kernel
theorem dX6_instance_122 : decode cX6_instance 122 = .ok (.getfield 142, 3) := by decide +kernel
theorem dX6_instance_125 : decode cX6_instance 125 = .ok (.getfield 149, 3) := by decide +kernel
theorem dX6_instance_128 : decode cX6_instance 128 = .ok (.ireturn, 1) := by decide +kernel
theorem dX6_instance_129 : decode cX6_instance 129 = .ok (.aload_n 3, 1) := by decide +kernel
theorem dX6_instance_130 : decode cX6_instance 130 = .ok (.getfield 152, 3) := by decide +kernel
theorem dX6_instance_133 : decode cX6_instance 133 = .ok (.ireturn, 1) := by decide +kernel
theorem dX6_instance_134 : decode cX6_instance 134 = .ok (.aload_n 3, 1) := by decide +kernel
theorem dX6_instance_135 : decode cX6_instance 135 = .ok (.getfield 155, 3) := by decide +kernel
theorem dX6_instance_138 : decode cX6_instance 138 = .ok (.ireturn, 1) := by decide +kernel
theorem dX6_instance_139 : decode cX6_instance 139 = .ok (.aload_n 3, 1) := by decide +kernel
theorem dX6_instance_140 : decode cX6_instance 140 = .ok (.getfield 158, 3) := by decide +kernel
theorem dX6_instance_143 : decode cX6_instance 143 = .ok (.ireturn, 1) := by decide +kernel
theorem dX6_instance_144 : decode cX6_instance 144 = .ok (.aload_n 3, 1) := by decide +kernel
theorem dX6_instance_145 : decode cX6_instance 145 = .ok (.getfield 161, 3) := by decide +kernel
theorem dX6_instance_148 : decode cX6_instance 148 = .ok (.ireturn, 1) := by decide +kernel
theorem dX6_instance_149 : decode cX6_instance 149 = .ok (.aload_n 3, 1) := by decide +kernel
theorem dX6_instance_150 : decode cX6_instance 150 = .ok (.getfield 164, 3) := by decide +kernel
theorem dX6_instance_153 : decode cX6_instance 153 = .ok (.ireturn, 1) := by decide +kernel
theorem dX6_instance_154 : decode cX6_instance 154 = .ok (.aload_n 3, 1) := by decide +kernel
theorem dX6_instance_155 : decode cX6_instance 155 = .ok (.getfield 167, 3) := by decide +kernel
theorem dX6_instance_158 : decode cX6_instance 158 = .ok (.getfield 171, 3) := by decide +kernel
theorem dX6_instance_161 : decode cX6_instance 161 = .ok (.ireturn, 1) := by decide +kernel
theorem dX6_instance_162 : decode cX6_instance 162 = .ok (.iconst (-1), 1) := by decide +kernel
theorem dX6_instance_163 : decode cX6_instance 163 = .ok (.ireturn, 1) := by decide +kernel
theorem dX6_entry_0 : decode cX6_entry 0 = .ok (.aload_n 0, 1) := by decide +kernel
theorem dX6_entry_1 : decode cX6_entry 1 = .ok (.iload_n 1, 1) := by decide +kernel
theorem dX6_entry_2 : decode cX6_entry 2 = .ok (.invokevirtual 114, 3) := by decide +kernel
theorem dX6_entry_5 : decode cX6_entry 5 = .ok (.astore 4, 2) := by decide +kernel
theorem dX6_entry_7 : decode cX6_entry 7 = .ok (.aload 4, 2) := by decide +kernel
theorem dX6_entry_9 : decode cX6_entry 9 = .ok (.ifnull 18, 3) := by decide +kernel
theorem dX6_entry_12 : decode cX6_entry 12 = .ok (.iload_n 2, 1) := by decide +kernel
theorem dX6_entry_13 : decode cX6_entry 13 = .ok (.aload 4, 2) := by decide +kernel
theorem dX6_entry_15 : decode cX6_entry 15 = .ok (.getfield 167, 3) := by decide +kernel
theorem dX6_entry_18 : decode cX6_entry 18 = .ok (.invokevirtual 176, 3) := by decide +kernel
theorem dX6_entry_21 : decode cX6_entry 21 = .ok (.invokestatic 51, 3) := by decide +kernel
theorem dX6_entry_24 : decode cX6_entry 24 = .ok (.ifCond .ne 5, 3) := by decide +kernel
theorem dX6_entry_27 : decode cX6_entry 27 = .ok (.iconst (-1), 1) := by decide +kernel
theorem dX6_entry_28 : decode cX6_entry 28 = .ok (.ireturn, 1) := by decide +kernel
theorem dX6_entry_29 : decode cX6_entry 29 = .ok (.iload_n 3, 1) := by decide +kernel
theorem dX6_entry_30 : decode cX6_entry 30 = .ok (.tableswitch 56 0 2 #[26, 36, 46], 26) := by decide +kernel
theorem dX6_entry_56 : decode cX6_entry 56 = .ok (.aload 4, 2) := by decide +kernel
theorem dX6_entry_58 : decode cX6_entry 58 = .ok (.getfield 167, 3) := by decide +kernel
theorem dX6_entry_61 : decode cX6_entry 61 = .ok (.iload_n 2, 1) := by decide +kernel
theorem dX6_entry_62 : decode cX6_entry 62 = .ok (.invokevirtual 179, 3) := by decide +kernel
theorem dX6_entry_65 : decode cX6_entry 65 = .ok (.ireturn, 1) := by decide +kernel
theorem dX6_entry_66 : decode cX6_entry 66 = .ok (.aload 4, 2) := by decide +kernel
theorem dX6_entry_68 : decode cX6_entry 68 = .ok (.getfield 167, 3) := by decide +kernel
theorem dX6_entry_71 : decode cX6_entry 71 = .ok (.iload_n 2, 1) := by decide +kernel
theorem dX6_entry_72 : decode cX6_entry 72 = .ok (.invokevirtual 183, 3) := by decide +kernel
theorem dX6_entry_75 : decode cX6_entry 75 = .ok (.ireturn, 1) := by decide +kernel
theorem dX6_entry_76 : decode cX6_entry 76 = .ok (.aload 4, 2) := by decide +kernel
theorem dX6_entry_78 : decode cX6_entry 78 = .ok (.getfield 167, 3) := by decide +kernel
theorem dX6_entry_81 : decode cX6_entry 81 = .ok (.iload_n 2, 1) := by decide +kernel
theorem dX6_entry_82 : decode cX6_entry 82 = .ok (.invokevirtual 186, 3) := by decide +kernel
theorem dX6_entry_85 : decode cX6_entry 85 = .ok (.ireturn, 1) := by decide +kernel
theorem dX6_entry_86 : decode cX6_entry 86 = .ok (.iconst (-1), 1) := by decide +kernel
theorem dX6_entry_87 : decode cX6_entry 87 = .ok (.ireturn, 1) := by decide +kernel
theorem dX6_running_0 : decode cX6_running 0 = .ok (.aload_n 0, 1) := by decide +kernel
theorem dX6_running_1 : decode cX6_running 1 = .ok (.iload_n 1, 1) := by decide +kernel
theorem dX6_running_2 : decode cX6_running 2 = .ok (.invokevirtual 114, 3) := by decide +kernel
theorem dX6_running_5 : decode cX6_running 5 = .ok (.astore_n 3, 1) := by decide +kernel
theorem dX6_running_6 : decode cX6_running 6 = .ok (.aload_n 3, 1) := by decide +kernel
theorem dX6_running_7 : decode cX6_running 7 = .ok (.ifnonnull 5, 3) := by decide +kernel
theorem dX6_running_10 : decode cX6_running 10 = .ok (.iconst (-1), 1) := by decide +kernel
theorem dX6_running_11 : decode cX6_running 11 = .ok (.ireturn, 1) := by decide +kernel
theorem dX6_running_12 : decode cX6_running 12 = .ok (.iload_n 2, 1) := by decide +kernel
theorem dX6_running_13 : decode cX6_running 13 = .ok (.iconst (-1), 1) := by decide +kernel
theorem dX6_running_14 : decode cX6_running 14 = .ok (.if_icmp .ne 10, 3) := by decide +kernel
theorem dX6_running_17 : decode cX6_running 17 = .ok (.aload_n 3, 1) := by decide +kernel
theorem dX6_running_18 : decode cX6_running 18 = .ok (.invokevirtual 189, 3) := by decide +kernel
theorem dX6_running_21 : decode cX6_running 21 = .ok (.goto 8, 3) := by decide +kernel
theorem dX6_running_24 : decode cX6_running 24 = .ok (.aload_n 3, 1) := by decide +kernel
theorem dX6_running_25 : decode cX6_running 25 = .ok (.iload_n 2, 1) := by decide +kernel
theorem dX6_running_26 : decode cX6_running 26 = .ok (.invokevirtual 192, 3) := by decide +kernel
theorem dX6_running_29 : decode cX6_running 29 = .ok (.ireturn, 1) := by decide +kernel
theorem dX6_due_0 : decode cX6_due 0 = .ok (.aload_n 0, 1) := by decide +kernel
theorem dX6_due_1 : decode cX6_due 1 = .ok (.iload_n 1, 1) := by decide +kernel
theorem dX6_due_2 : decode cX6_due 2 = .ok (.invokevirtual 114, 3) := by decide +kernel
theorem dX6_due_5 : decode cX6_due 5 = .ok (.astore_n 2, 1) := by decide +kernel
theorem dX6_due_6 : decode cX6_due 6 = .ok (.aload_n 2, 1) := by decide +kernel
theorem dX6_due_7 : decode cX6_due 7 = .ok (.ifnonnull 5, 3) := by decide +kernel
theorem dX6_due_10 : decode cX6_due 10 = .ok (.iconst (-1), 1) := by decide +kernel
theorem dX6_due_11 : decode cX6_due 11 = .ok (.ireturn, 1) := by decide +kernel
theorem dX6_due_12 : decode cX6_due 12 = .ok (.aload_n 2, 1) := by decide +kernel
theorem dX6_due_13 : decode cX6_due 13 = .ok (.invokevirtual 195, 3) := by decide +kernel
theorem dX6_due_16 : decode cX6_due 16 = .ok (.ireturn, 1) := by decide +kernel
theorem dX6_ahead_0 : decode cX6_ahead 0 = .ok (.aload_n 0, 1) := by decide +kernel
theorem dX6_ahead_1 : decode cX6_ahead 1 = .ok (.iload_n 1, 1) := by decide +kernel
theorem dX6_ahead_2 : decode cX6_ahead 2 = .ok (.invokevirtual 114, 3) := by decide +kernel
theorem dX6_ahead_5 : decode cX6_ahead 5 = .ok (.ifnull 12, 3) := by decide +kernel
theorem dX6_ahead_8 : decode cX6_ahead 8 = .ok (.iload_n 1, 1) := by decide +kernel
theorem dX6_ahead_9 : decode cX6_ahead 9 = .ok (.bipush 6, 2) := by decide +kernel
theorem dX6_ahead_11 : decode cX6_ahead 11 = .ok (.invokestatic 51, 3) := by decide +kernel
theorem dX6_ahead_14 : decode cX6_ahead 14 = .ok (.ifCond .ne 5, 3) := by decide +kernel
theorem dX6_ahead_17 : decode cX6_ahead 17 = .ok (.iconst (-1), 1) := by decide +kernel
theorem dX6_ahead_18 : decode cX6_ahead 18 = .ok (.ireturn, 1) := by decide +kernel
theorem dX6_ahead_19 : decode cX6_ahead 19 = .ok (.iload_n 2, 1) := by decide +kernel
theorem dX6_ahead_20 : decode cX6_ahead 20 = .ok (.iconst 1, 1) := by decide +kernel
theorem dX6_ahead_21 : decode cX6_ahead 21 = .ok (.if_icmp .lt 10, 3) := by decide +kernel
theorem dX6_ahead_24 : decode cX6_ahead 24 = .ok (.iload_n 2, 1) := by decide +kernel
theorem dX6_ahead_25 : decode cX6_ahead 25 = .ok (.sipush 200, 3) := by decide +kernel
theorem dX6_ahead_28 : decode cX6_ahead 28 = .ok (.if_icmp .le 6, 3) := by decide +kernel
theorem dX6_ahead_31 : decode cX6_ahead 31 = .ok (.bipush (-2), 2) := by decide +kernel
theorem dX6_ahead_33 : decode cX6_ahead 33 = .ok (.ireturn, 1) := by decide +kernel
theorem dX6_ahead_34 : decode cX6_ahead 34 = .ok (.aload_n 0, 1) := by decide +kernel
theorem dX6_ahead_35 : decode cX6_ahead 35 = .ok (.getfield 44, 3) := by decide +kernel
theorem dX6_ahead_38 : decode cX6_ahead 38 = .ok (.aload_n 0, 1) := by decide +kernel
theorem dX6_ahead_39 : decode cX6_ahead 39 = .ok (.getfield 37, 3) := by decide +kernel
theorem dX6_ahead_42 : decode cX6_ahead 42 = .ok (.invokevirtual 198, 3) := by decide +kernel
theorem dX6_ahead_45 : decode cX6_ahead 45 = .ok (.aload_n 0, 1) := by decide +kernel
theorem dX6_ahead_46 : decode cX6_ahead 46 = .ok (.getfield 44, 3) := by decide +kernel
theorem dX6_ahead_49 : decode cX6_ahead 49 = .ok (.iload_n 2, 1) := by decide +kernel
theorem dX6_ahead_50 : decode cX6_ahead 50 = .ok (.invokevirtual 135, 3) := by decide +kernel
theorem dX6_ahead_53 : decode cX6_ahead 53 = .ok (.aload_n 0, 1) := by decide +kernel
theorem dX6_ahead_54 : decode cX6_ahead 54 = .ok (.getfield 44, 3) := by decide +kernel
theorem dX6_ahead_57 : decode cX6_ahead 57 = .ok (.getfield 104, 3) := by decide +kernel
theorem dX6_ahead_60 : decode cX6_ahead 60 = .ok (.iload_n 1, 1) := by decide +kernel
theorem dX6_ahead_61 : decode cX6_ahead 61 = .ok (.aaload, 1) := by decide +kernel
theorem dX6_ahead_62 : decode cX6_ahead 62 = .ok (.getfield 118, 3) := by decide +kernel
theorem dX6_ahead_65 : decode cX6_ahead 65 = .ok (.ireturn, 1) := by decide +kernel
theorem dX6_replayed_0 : decode cX6_replayed 0 = .ok (.aload_n 0, 1) := by decide +kernel
theorem dX6_replayed_1 : decode cX6_replayed 1 = .ok (.iload_n 1, 1) := by decide +kernel
theorem dX6_replayed_2 : decode cX6_replayed 2 = .ok (.invokevirtual 114, 3) := by decide +kernel
theorem dX6_replayed_5 : decode cX6_replayed 5 = .ok (.astore_n 3, 1) := by decide +kernel
theorem dX6_replayed_6 : decode cX6_replayed 6 = .ok (.aload_n 3, 1) := by decide +kernel
theorem dX6_replayed_7 : decode cX6_replayed 7 = .ok (.ifnonnull 5, 3) := by decide +kernel
theorem dX6_replayed_10 : decode cX6_replayed 10 = .ok (.iconst (-1), 1) := by decide +kernel
theorem dX6_replayed_11 : decode cX6_replayed 11 = .ok (.ireturn, 1) := by decide +kernel
theorem dX6_replayed_12 : decode cX6_replayed 12 = .ok (.iload_n 2, 1) := by decide +kernel
theorem dX6_replayed_13 : decode cX6_replayed 13 = .ok (.tableswitch 93 0 5 #[39, 47, 56, 66, 76, 84], 39) := by decide +kernel
theorem dX6_replayed_52 : decode cX6_replayed 52 = .ok (.aload_n 3, 1) := by decide +kernel
theorem dX6_replayed_53 : decode cX6_replayed 53 = .ok (.getfield 167, 3) := by decide +kernel
theorem dX6_replayed_56 : decode cX6_replayed 56 = .ok (.invokevirtual 202, 3) := by decide +kernel
theorem dX6_replayed_59 : decode cX6_replayed 59 = .ok (.ireturn, 1) := by decide +kernel
theorem dX6_replayed_60 : decode cX6_replayed 60 = .ok (.aload_n 3, 1) := by decide +kernel
theorem dX6_replayed_61 : decode cX6_replayed 61 = .ok (.getfield 167, 3) := by decide +kernel
theorem dX6_replayed_64 : decode cX6_replayed 64 = .ok (.iconst 2, 1) := by decide +kernel
theorem dX6_replayed_65 : decode cX6_replayed 65 = .ok (.invokevirtual 205, 3) := by decide +kernel
theorem dX6_replayed_68 : decode cX6_replayed 68 = .ok (.ireturn, 1) := by decide +kernel
theorem dX6_replayed_69 : decode cX6_replayed 69 = .ok (.aload_n 3, 1) := by decide +kernel
theorem dX6_replayed_70 : decode cX6_replayed 70 = .ok (.getfield 167, 3) := by decide +kernel
theorem dX6_replayed_73 : decode cX6_replayed 73 = .ok (.bipush 6, 2) := by decide +kernel
theorem dX6_replayed_75 : decode cX6_replayed 75 = .ok (.invokevirtual 205, 3) := by decide +kernel
theorem dX6_replayed_78 : decode cX6_replayed 78 = .ok (.ireturn, 1) := by decide +kernel
theorem dX6_replayed_79 : decode cX6_replayed 79 = .ok (.aload_n 3, 1) := by decide +kernel
theorem dX6_replayed_80 : decode cX6_replayed 80 = .ok (.getfield 167, 3) := by decide +kernel
theorem dX6_replayed_83 : decode cX6_replayed 83 = .ok (.bipush 7, 2) := by decide +kernel
theorem dX6_replayed_85 : decode cX6_replayed 85 = .ok (.invokevirtual 205, 3) := by decide +kernel
theorem dX6_replayed_88 : decode cX6_replayed 88 = .ok (.ireturn, 1) := by decide +kernel
theorem dX6_replayed_89 : decode cX6_replayed 89 = .ok (.aload_n 3, 1) := by decide +kernel
theorem dX6_replayed_90 : decode cX6_replayed 90 = .ok (.getfield 167, 3) := by decide +kernel
theorem dX6_replayed_93 : decode cX6_replayed 93 = .ok (.invokevirtual 208, 3) := by decide +kernel
theorem dX6_replayed_96 : decode cX6_replayed 96 = .ok (.ireturn, 1) := by decide +kernel
theorem dX6_replayed_97 : decode cX6_replayed 97 = .ok (.aload_n 3, 1) := by decide +kernel
theorem dX6_replayed_98 : decode cX6_replayed 98 = .ok (.getfield 167, 3) := by decide +kernel
theorem dX6_replayed_101 : decode cX6_replayed 101 = .ok (.iconst 1, 1) := by decide +kernel
theorem dX6_replayed_102 : decode cX6_replayed 102 = .ok (.invokevirtual 205, 3) := by decide +kernel
theorem dX6_replayed_105 : decode cX6_replayed 105 = .ok (.ireturn, 1) := by decide +kernel
theorem dX6_replayed_106 : decode cX6_replayed 106 = .ok (.iconst (-1), 1) := by decide +kernel
theorem dX6_replayed_107 : decode cX6_replayed 107 = .ok (.ireturn, 1) := by decide +kernel
theorem dX6_statistic_0 : decode cX6_statistic 0 = .ok (.iload_n 1, 1) := by decide +kernel
theorem dX6_statistic_1 : decode cX6_statistic 1 = .ok (.iconst 4, 1) := by decide +kernel
theorem dX6_statistic_2 : decode cX6_statistic 2 = .ok (.invokestatic 51, 3) := by decide +kernel
theorem dX6_statistic_5 : decode cX6_statistic 5 = .ok (.ifCond .eq 13, 3) := by decide +kernel
theorem dX6_statistic_8 : decode cX6_statistic 8 = .ok (.iload_n 2, 1) := by decide +kernel
theorem dX6_statistic_9 : decode cX6_statistic 9 = .ok (.ifCond .lt 9, 3) := by decide +kernel
theorem dX6_statistic_12 : decode cX6_statistic 12 = .ok (.iload_n 2, 1) := by decide +kernel
theorem dX6_statistic_13 : decode cX6_statistic 13 = .ok (.bipush 7, 2) := by decide +kernel
theorem dX6_statistic_15 : decode cX6_statistic 15 = .ok (.if_icmp .le 5, 3) := by decide +kernel
theorem dX6_statistic_18 : decode cX6_statistic 18 = .ok (.iconst (-1), 1) := by decide +kernel
theorem dX6_statistic_19 : decode cX6_statistic 19 = .ok (.ireturn, 1) := by decide +kernel
theorem dX6_statistic_20 : decode cX6_statistic 20 = .ok (.iload_n 2, 1) := by decide +kernel
theorem dX6_statistic_21 : decode cX6_statistic 21 = .ok (.iconst 4, 1) := by decide +kernel
theorem dX6_statistic_22 : decode cX6_statistic 22 = .ok (.if_icmp .gt 13, 3) := by decide +kernel
theorem dX6_statistic_25 : decode cX6_statistic 25 = .ok (.aload_n 0, 1) := by decide +kernel
theorem dX6_statistic_26 : decode cX6_statistic 26 = .ok (.getfield 37, 3) := by decide +kernel
theorem dX6_statistic_29 : decode cX6_statistic 29 = .ok (.iload_n 1, 1) := by decide +kernel
theorem dX6_statistic_30 : decode cX6_statistic 30 = .ok (.iload_n 2, 1) := by decide +kernel
theorem dX6_statistic_31 : decode cX6_statistic 31 = .ok (.invokevirtual 211, 3) := by decide +kernel
theorem dX6_statistic_34 : decode cX6_statistic 34 = .ok (.ireturn, 1) := by decide +kernel
theorem dX6_statistic_35 : decode cX6_statistic 35 = .ok (.iload_n 2, 1) := by decide +kernel
theorem dX6_statistic_36 : decode cX6_statistic 36 = .ok (.iconst 5, 1) := by decide +kernel
theorem dX6_statistic_37 : decode cX6_statistic 37 = .ok (.if_icmp .ne 12, 3) := by decide +kernel
theorem dX6_statistic_40 : decode cX6_statistic 40 = .ok (.aload_n 0, 1) := by decide +kernel
theorem dX6_statistic_41 : decode cX6_statistic 41 = .ok (.getfield 37, 3) := by decide +kernel
theorem dX6_statistic_44 : decode cX6_statistic 44 = .ok (.iload_n 1, 1) := by decide +kernel
theorem dX6_statistic_45 : decode cX6_statistic 45 = .ok (.invokevirtual 215, 3) := by decide +kernel
theorem dX6_statistic_48 : decode cX6_statistic 48 = .ok (.ireturn, 1) := by decide +kernel
theorem dX6_statistic_49 : decode cX6_statistic 49 = .ok (.aload_n 0, 1) := by decide +kernel
theorem dX6_statistic_50 : decode cX6_statistic 50 = .ok (.getfield 37, 3) := by decide +kernel
theorem dX6_statistic_53 : decode cX6_statistic 53 = .ok (.iload_n 1, 1) := by decide +kernel
theorem dX6_statistic_54 : decode cX6_statistic 54 = .ok (.invokevirtual 218, 3) := by decide +kernel
theorem dX6_statistic_57 : decode cX6_statistic 57 = .ok (.istore_n 3, 1) := by decide +kernel
theorem dX6_statistic_58 : decode cX6_statistic 58 = .ok (.iload_n 3, 1) := by decide +kernel
theorem dX6_statistic_59 : decode cX6_statistic 59 = .ok (.ifCond .ne 6, 3) := by decide +kernel
theorem dX6_statistic_62 : decode cX6_statistic 62 = .ok (.bipush (-5), 2) := by decide +kernel
theorem dX6_statistic_64 : decode cX6_statistic 64 = .ok (.ireturn, 1) := by decide +kernel
theorem dX6_statistic_65 : decode cX6_statistic 65 = .ok (.iload_n 2, 1) := by decide +kernel
theorem dX6_statistic_66 : decode cX6_statistic 66 = .ok (.bipush 6, 2) := by decide +kernel
theorem dX6_statistic_68 : decode cX6_statistic 68 = .ok (.if_icmp .ne 14, 3) := by decide +kernel
theorem dX6_statistic_71 : decode cX6_statistic 71 = .ok (.aload_n 0, 1) := by decide +kernel
theorem dX6_statistic_72 : decode cX6_statistic 72 = .ok (.getfield 37, 3) := by decide +kernel
theorem dX6_statistic_75 : decode cX6_statistic 75 = .ok (.iload_n 1, 1) := by decide +kernel
theorem dX6_statistic_76 : decode cX6_statistic 76 = .ok (.invokevirtual 221, 3) := by decide +kernel
theorem dX6_statistic_79 : decode cX6_statistic 79 = .ok (.goto 12, 3) := by decide +kernel
theorem dX6_statistic_82 : decode cX6_statistic 82 = .ok (.aload_n 0, 1) := by decide +kernel
theorem dX6_statistic_83 : decode cX6_statistic 83 = .ok (.getfield 37, 3) := by decide +kernel
theorem dX6_statistic_86 : decode cX6_statistic 86 = .ok (.iload_n 1, 1) := by decide +kernel
theorem dX6_statistic_87 : decode cX6_statistic 87 = .ok (.iconst 1, 1) := by decide +kernel
theorem dX6_statistic_88 : decode cX6_statistic 88 = .ok (.invokevirtual 211, 3) := by decide +kernel
theorem dX6_statistic_91 : decode cX6_statistic 91 = .ok (.istore 4, 2) := by decide +kernel
theorem dX6_statistic_93 : decode cX6_statistic 93 = .ok (.iload 4, 2) := by decide +kernel
theorem dX6_statistic_95 : decode cX6_statistic 95 = .ok (.iload_n 3, 1) := by decide +kernel
theorem dX6_statistic_96 : decode cX6_statistic 96 = .ok (.invokestatic 224, 3) := by decide +kernel
theorem dX6_statistic_99 : decode cX6_statistic 99 = .ok (.ireturn, 1) := by decide +kernel
theorem dX6_image_0 : decode cX6_image 0 = .ok (.aload_n 0, 1) := by decide +kernel
theorem dX6_image_1 : decode cX6_image 1 = .ok (.getfield 41, 3) := by decide +kernel
theorem dX6_image_4 : decode cX6_image 4 = .ok (.aload_n 0, 1) := by decide +kernel
theorem dX6_image_5 : decode cX6_image 5 = .ok (.getfield 37, 3) := by decide +kernel
theorem dX6_image_8 : decode cX6_image 8 = .ok (.invokevirtual 198, 3) := by decide +kernel
theorem dX6_image_11 : decode cX6_image 11 = .ok (.aload_n 0, 1) := by decide +kernel
theorem dX6_image_12 : decode cX6_image 12 = .ok (.iconst 1, 1) := by decide +kernel
theorem dX6_image_13 : decode cX6_image 13 = .ok (.putfield 227, 3) := by decide +kernel
theorem dX6_image_16 : decode cX6_image 16 = .ok (.aload_n 0, 1) := by decide +kernel
theorem dX6_image_17 : decode cX6_image 17 = .ok (.getfield 37, 3) := by decide +kernel
theorem dX6_image_20 : decode cX6_image 20 = .ok (.invokevirtual 231, 3) := by decide +kernel
theorem dX6_image_23 : decode cX6_image 23 = .ok (.ireturn, 1) := by decide +kernel
theorem dX6_undo_0 : decode cX6_undo 0 = .ok (.aload_n 0, 1) := by decide +kernel
theorem dX6_undo_1 : decode cX6_undo 1 = .ok (.getfield 227, 3) := by decide +kernel
theorem dX6_undo_4 : decode cX6_undo 4 = .ok (.ifCond .ne 6, 3) := by decide +kernel
theorem dX6_undo_7 : decode cX6_undo 7 = .ok (.bipush (-3), 2) := by decide +kernel
theorem dX6_undo_9 : decode cX6_undo 9 = .ok (.ireturn, 1) := by decide +kernel
theorem dX6_undo_10 : decode cX6_undo 10 = .ok (.aload_n 0, 1) := by decide +kernel
theorem dX6_undo_11 : decode cX6_undo 11 = .ok (.getfield 37, 3) := by decide +kernel
theorem dX6_undo_14 : decode cX6_undo 14 = .ok (.aload_n 0, 1) := by decide +kernel
theorem dX6_undo_15 : decode cX6_undo 15 = .ok (.getfield 41, 3) := by decide +kernel
theorem dX6_undo_18 : decode cX6_undo 18 = .ok (.invokevirtual 198, 3) := by decide +kernel
theorem dX6_undo_21 : decode cX6_undo 21 = .ok (.aload_n 0, 1) := by decide +kernel
theorem dX6_undo_22 : decode cX6_undo 22 = .ok (.getfield 37, 3) := by decide +kernel
theorem dX6_undo_25 : decode cX6_undo 25 = .ok (.invokevirtual 231, 3) := by decide +kernel
theorem dX6_undo_28 : decode cX6_undo 28 = .ok (.ireturn, 1) := by decide +kernel
theorem dX6_count_0 : decode cX6_count 0 = .ok (.iload_n 1, 1) := by decide +kernel
theorem dX6_count_1 : decode cX6_count 1 = .ok (.bipush 10, 2) := by decide +kernel
theorem dX6_count_3 : decode cX6_count 3 = .ok (.isub, 1) := by decide +kernel
theorem dX6_count_4 : decode cX6_count 4 = .ok (.bipush 8, 2) := by decide +kernel
theorem dX6_count_6 : decode cX6_count 6 = .ok (.invokestatic 51, 3) := by decide +kernel
theorem dX6_count_9 : decode cX6_count 9 = .ok (.ifCond .eq 19, 3) := by decide +kernel
theorem dX6_count_12 : decode cX6_count 12 = .ok (.aload_n 0, 1) := by decide +kernel
theorem dX6_count_13 : decode cX6_count 13 = .ok (.getfield 37, 3) := by decide +kernel
theorem dX6_count_16 : decode cX6_count 16 = .ok (.getfield 86, 3) := by decide +kernel
theorem dX6_count_19 : decode cX6_count 19 = .ok (.getfield 90, 3) := by decide +kernel
theorem dX6_count_22 : decode cX6_count 22 = .ok (.iload_n 1, 1) := by decide +kernel
theorem dX6_count_23 : decode cX6_count 23 = .ok (.bipush 10, 2) := by decide +kernel
theorem dX6_count_25 : decode cX6_count 25 = .ok (.isub, 1) := by decide +kernel
theorem dX6_count_26 : decode cX6_count 26 = .ok (.iaload, 1) := by decide +kernel
theorem dX6_count_27 : decode cX6_count 27 = .ok (.ireturn, 1) := by decide +kernel
theorem dX6_count_28 : decode cX6_count 28 = .ok (.iload_n 1, 1) := by decide +kernel
theorem dX6_count_29 : decode cX6_count 29 = .ok (.bipush 20, 2) := by decide +kernel
theorem dX6_count_31 : decode cX6_count 31 = .ok (.isub, 1) := by decide +kernel
theorem dX6_count_32 : decode cX6_count 32 = .ok (.bipush 8, 2) := by decide +kernel
theorem dX6_count_34 : decode cX6_count 34 = .ok (.invokestatic 51, 3) := by decide +kernel
theorem dX6_count_37 : decode cX6_count 37 = .ok (.ifCond .eq 19, 3) := by decide +kernel
theorem dX6_count_40 : decode cX6_count 40 = .ok (.aload_n 0, 1) := by decide +kernel
theorem dX6_count_41 : decode cX6_count 41 = .ok (.getfield 37, 3) := by decide +kernel
theorem dX6_count_44 : decode cX6_count 44 = .ok (.getfield 86, 3) := by decide +kernel
theorem dX6_count_47 : decode cX6_count 47 = .ok (.getfield 97, 3) := by decide +kernel
theorem dX6_count_50 : decode cX6_count 50 = .ok (.iload_n 1, 1) := by decide +kernel
theorem dX6_count_51 : decode cX6_count 51 = .ok (.bipush 20, 2) := by decide +kernel
theorem dX6_count_53 : decode cX6_count 53 = .ok (.isub, 1) := by decide +kernel
theorem dX6_count_54 : decode cX6_count 54 = .ok (.iaload, 1) := by decide +kernel
theorem dX6_count_55 : decode cX6_count 55 = .ok (.ireturn, 1) := by decide +kernel
theorem dX6_count_56 : decode cX6_count 56 = .ok (.iload_n 1, 1) := by decide +kernel
theorem dX6_count_57 : decode cX6_count 57 = .ok (.tableswitch 89 0 5 #[39, 50, 58, 67, 76, 81], 39) := by decide +kernel
theorem dX6_count_96 : decode cX6_count 96 = .ok (.aload_n 0, 1) := by decide +kernel
theorem dX6_count_97 : decode cX6_count 97 = .ok (.getfield 37, 3) := by decide +kernel
theorem dX6_count_100 : decode cX6_count 100 = .ok (.getfield 86, 3) := by decide +kernel
theorem dX6_count_103 : decode cX6_count 103 = .ok (.getfield 131, 3) := by decide +kernel
theorem dX6_count_106 : decode cX6_count 106 = .ok (.ireturn, 1) := by decide +kernel
theorem dX6_count_107 : decode cX6_count 107 = .ok (.aload_n 0, 1) := by decide +kernel
theorem dX6_count_108 : decode cX6_count 108 = .ok (.getfield 37, 3) := by decide +kernel
theorem dX6_count_111 : decode cX6_count 111 = .ok (.invokevirtual 231, 3) := by decide +kernel
theorem dX6_count_114 : decode cX6_count 114 = .ok (.ireturn, 1) := by decide +kernel
theorem dX6_count_115 : decode cX6_count 115 = .ok (.aload_n 0, 1) := by decide +kernel
theorem dX6_count_116 : decode cX6_count 116 = .ok (.getfield 37, 3) := by decide +kernel
theorem dX6_count_119 : decode cX6_count 119 = .ok (.iconst 0, 1) := by decide +kernel
theorem dX6_count_120 : decode cX6_count 120 = .ok (.invokevirtual 233, 3) := by decide +kernel
theorem dX6_count_123 : decode cX6_count 123 = .ok (.ireturn, 1) := by decide +kernel
theorem dX6_count_124 : decode cX6_count 124 = .ok (.aload_n 0, 1) := by decide +kernel
theorem dX6_count_125 : decode cX6_count 125 = .ok (.getfield 37, 3) := by decide +kernel
theorem dX6_count_128 : decode cX6_count 128 = .ok (.iconst 2, 1) := by decide +kernel
theorem dX6_count_129 : decode cX6_count 129 = .ok (.invokevirtual 233, 3) := by decide +kernel
theorem dX6_count_132 : decode cX6_count 132 = .ok (.ireturn, 1) := by decide +kernel
theorem dX6_count_133 : decode cX6_count 133 = .ok (.aload_n 0, 1) := by decide +kernel
theorem dX6_count_134 : decode cX6_count 134 = .ok (.getfield 47, 3) := by decide +kernel
theorem dX6_count_137 : decode cX6_count 137 = .ok (.ireturn, 1) := by decide +kernel
theorem dX6_count_138 : decode cX6_count 138 = .ok (.aload_n 0, 1) := by decide +kernel
theorem dX6_count_139 : decode cX6_count 139 = .ok (.getfield 37, 3) := by decide +kernel
theorem dX6_count_142 : decode cX6_count 142 = .ok (.invokevirtual 236, 3) := by decide +kernel
theorem dX6_count_145 : decode cX6_count 145 = .ok (.ireturn, 1) := by decide +kernel
theorem dX6_count_146 : decode cX6_count 146 = .ok (.iconst (-1), 1) := by decide +kernel
theorem dX6_count_147 : decode cX6_count 147 = .ok (.ireturn, 1) := by decide +kernel
theorem dX6_find_0 : decode cX6_find 0 = .ok (.iload_n 1, 1) := by decide +kernel
theorem dX6_find_1 : decode cX6_find 1 = .ok (.bipush 6, 2) := by decide +kernel
theorem dX6_find_3 : decode cX6_find 3 = .ok (.invokestatic 51, 3) := by decide +kernel
theorem dX6_find_6 : decode cX6_find 6 = .ok (.ifCond .ne 5, 3) := by decide +kernel
theorem dX6_find_9 : decode cX6_find 9 = .ok (.aconst_null, 1) := by decide +kernel
theorem dX6_find_10 : decode cX6_find 10 = .ok (.areturn, 1) := by decide +kernel
theorem dX6_find_11 : decode cX6_find 11 = .ok (.aload_n 0, 1) := by decide +kernel
theorem dX6_find_12 : decode cX6_find 12 = .ok (.getfield 37, 3) := by decide +kernel
theorem dX6_find_15 : decode cX6_find 15 = .ok (.getfield 104, 3) := by decide +kernel
theorem dX6_find_18 : decode cX6_find 18 = .ok (.iload_n 1, 1) := by decide +kernel
theorem dX6_find_19 : decode cX6_find 19 = .ok (.aaload, 1) := by decide +kernel
theorem dX6_find_20 : decode cX6_find 20 = .ok (.astore_n 2, 1) := by decide +kernel
theorem dX6_find_21 : decode cX6_find 21 = .ok (.aload_n 2, 1) := by decide +kernel
theorem dX6_find_22 : decode cX6_find 22 = .ok (.getfield 118, 3) := by decide +kernel
theorem dX6_find_25 : decode cX6_find 25 = .ok (.iconst (-1), 1) := by decide +kernel
theorem dX6_find_26 : decode cX6_find 26 = .ok (.if_icmp .ne 7, 3) := by decide +kernel
theorem dX6_find_29 : decode cX6_find 29 = .ok (.aconst_null, 1) := by decide +kernel
theorem dX6_find_30 : decode cX6_find 30 = .ok (.goto 4, 3) := by decide +kernel
theorem dX6_find_33 : decode cX6_find 33 = .ok (.aload_n 2, 1) := by decide +kernel
theorem dX6_find_34 : decode cX6_find 34 = .ok (.areturn, 1) := by decide +kernel
theorem dX6_replaced_0 : decode cX6_replaced 0 = .ok (.iload_n 1, 1) := by decide +kernel
theorem dX6_replaced_1 : decode cX6_replaced 1 = .ok (.bipush 8, 2) := by decide +kernel
theorem dX6_replaced_3 : decode cX6_replaced 3 = .ok (.invokestatic 51, 3) := by decide +kernel
theorem dX6_replaced_6 : decode cX6_replaced 6 = .ok (.ifCond .eq 12, 3) := by decide +kernel
theorem dX6_replaced_9 : decode cX6_replaced 9 = .ok (.iload_n 1, 1) := by decide +kernel
theorem dX6_replaced_10 : decode cX6_replaced 10 = .ok (.aload_n 0, 1) := by decide +kernel
theorem dX6_replaced_11 : decode cX6_replaced 11 = .ok (.arraylength, 1) := by decide +kernel
theorem dX6_replaced_12 : decode cX6_replaced 12 = .ok (.invokestatic 51, 3) := by decide +kernel
theorem dX6_replaced_15 : decode cX6_replaced 15 = .ok (.ifCond .ne 5, 3) := by decide +kernel
theorem dX6_replaced_18 : decode cX6_replaced 18 = .ok (.iconst (-1), 1) := by decide +kernel
theorem dX6_replaced_19 : decode cX6_replaced 19 = .ok (.ireturn, 1) := by decide +kernel
theorem dX6_replaced_20 : decode cX6_replaced 20 = .ok (.iload_n 2, 1) := by decide +kernel
theorem dX6_replaced_21 : decode cX6_replaced 21 = .ok (.ifCond .lt 9, 3) := by decide +kernel
theorem dX6_replaced_24 : decode cX6_replaced 24 = .ok (.iload_n 2, 1) := by decide +kernel
theorem dX6_replaced_25 : decode cX6_replaced 25 = .ok (.bipush 99, 2) := by decide +kernel
theorem dX6_replaced_27 : decode cX6_replaced 27 = .ok (.if_icmp .le 6, 3) := by decide +kernel
theorem dX6_replaced_30 : decode cX6_replaced 30 = .ok (.bipush (-2), 2) := by decide +kernel
theorem dX6_replaced_32 : decode cX6_replaced 32 = .ok (.ireturn, 1) := by decide +kernel
theorem dX6_replaced_33 : decode cX6_replaced 33 = .ok (.aload_n 0, 1) := by decide +kernel
theorem dX6_replaced_34 : decode cX6_replaced 34 = .ok (.iload_n 1, 1) := by decide +kernel
theorem dX6_replaced_35 : decode cX6_replaced 35 = .ok (.iaload, 1) := by decide +kernel
theorem dX6_replaced_36 : decode cX6_replaced 36 = .ok (.istore_n 3, 1) := by decide +kernel
theorem dX6_replaced_37 : decode cX6_replaced 37 = .ok (.aload_n 0, 1) := by decide +kernel
theorem dX6_replaced_38 : decode cX6_replaced 38 = .ok (.iload_n 1, 1) := by decide +kernel
theorem dX6_replaced_39 : decode cX6_replaced 39 = .ok (.iload_n 2, 1) := by decide +kernel
theorem dX6_replaced_40 : decode cX6_replaced 40 = .ok (.iastore, 1) := by decide +kernel
theorem dX6_replaced_41 : decode cX6_replaced 41 = .ok (.iload_n 3, 1) := by decide +kernel
theorem dX6_replaced_42 : decode cX6_replaced 42 = .ok (.ireturn, 1) := by decide +kernel
theorem dX6_isInside_0 : decode cX6_isInside 0 = .ok (.iload_n 0, 1) := by decide +kernel
theorem dX6_isInside_1 : decode cX6_isInside 1 = .ok (.ifCond .lt 12, 3) := by decide +kernel
theorem dX6_isInside_4 : decode cX6_isInside 4 = .ok (.iload_n 0, 1) := by decide +kernel
theorem dX6_isInside_5 : decode cX6_isInside 5 = .ok (.iload_n 1, 1) := by decide +kernel
theorem dX6_isInside_6 : decode cX6_isInside 6 = .ok (.if_icmp .ge 7, 3) := by decide +kernel
theorem dX6_isInside_9 : decode cX6_isInside 9 = .ok (.iconst 1, 1) := by decide +kernel
theorem dX6_isInside_10 : decode cX6_isInside 10 = .ok (.goto 4, 3) := by decide +kernel
theorem dX6_isInside_13 : decode cX6_isInside 13 = .ok (.iconst 0, 1) := by decide +kernel
theorem dX6_isInside_14 : decode cX6_isInside 14 = .ok (.ireturn, 1) := by decide +kernel
theorem dX6_copyRow_0 : decode cX6_copyRow 0 = .ok (.aload_n 0, 1) := by decide +kernel
theorem dX6_copyRow_1 : decode cX6_copyRow 1 = .ok (.iconst 0, 1) := by decide +kernel
theorem dX6_copyRow_2 : decode cX6_copyRow 2 = .ok (.aload_n 1, 1) := by decide +kernel
theorem dX6_copyRow_3 : decode cX6_copyRow 3 = .ok (.iconst 0, 1) := by decide +kernel
theorem dX6_copyRow_4 : decode cX6_copyRow 4 = .ok (.aload_n 0, 1) := by decide +kernel
theorem dX6_copyRow_5 : decode cX6_copyRow 5 = .ok (.arraylength, 1) := by decide +kernel
theorem dX6_copyRow_6 : decode cX6_copyRow 6 = .ok (.aload_n 1, 1) := by decide +kernel
theorem dX6_copyRow_7 : decode cX6_copyRow 7 = .ok (.arraylength, 1) := by decide +kernel
theorem dX6_copyRow_8 : decode cX6_copyRow 8 = .ok (.invokestatic 239, 3) := by decide +kernel
theorem dX6_copyRow_11 : decode cX6_copyRow 11 = .ok (.invokestatic 244, 3) := by decide +kernel
theorem dX6_copyRow_14 : decode cX6_copyRow 14 = .ok (.return_, 1) := by decide +kernel
theorem dX6_floatBits_0 : decode cX6_floatBits 0 = .ok (.iload_n 0, 1) := by decide +kernel
theorem dX6_floatBits_1 : decode cX6_floatBits 1 = .ok (.ifCond .le 7, 3) := by decide +kernel
theorem dX6_floatBits_4 : decode cX6_floatBits 4 = .ok (.iload_n 1, 1) := by decide +kernel
theorem dX6_floatBits_5 : decode cX6_floatBits 5 = .ok (.ifCond .gt 5, 3) := by decide +kernel
theorem dX6_floatBits_8 : decode cX6_floatBits 8 = .ok (.iconst 0, 1) := by decide +kernel
theorem dX6_floatBits_9 : decode cX6_floatBits 9 = .ok (.ireturn, 1) := by decide +kernel
theorem dX6_floatBits_10 : decode cX6_floatBits 10 = .ok (.iload_n 0, 1) := by decide +kernel
theorem dX6_floatBits_11 : decode cX6_floatBits 11 = .ok (.i2l, 1) := by decide +kernel
theorem dX6_floatBits_12 : decode cX6_floatBits 12 = .ok (.lstore_n 2, 1) := by decide +kernel
theorem dX6_floatBits_13 : decode cX6_floatBits 13 = .ok (.iconst 0, 1) := by decide +kernel
theorem dX6_floatBits_14 : decode cX6_floatBits 14 = .ok (.istore 4, 2) := by decide +kernel
theorem dX6_floatBits_16 : decode cX6_floatBits 16 = .ok (.iload 4, 2) := by decide +kernel
theorem dX6_floatBits_18 : decode cX6_floatBits 18 = .ok (.bipush (-64), 2) := by decide +kernel
theorem dX6_floatBits_20 : decode cX6_floatBits 20 = .ok (.if_icmp .le 23, 3) := by decide +kernel
theorem dX6_floatBits_23 : decode cX6_floatBits 23 = .ok (.lload_n 2, 1) := by decide +kernel
theorem dX6_floatBits_24 : decode cX6_floatBits 24 = .ok (.iload_n 1, 1) := by decide +kernel
theorem dX6_floatBits_25 : decode cX6_floatBits 25 = .ok (.i2l, 1) := by decide +kernel
theorem dX6_floatBits_26 : decode cX6_floatBits 26 = .ok (.bipush 23, 2) := by decide +kernel
theorem dX6_floatBits_28 : decode cX6_floatBits 28 = .ok (.lshl, 1) := by decide +kernel
theorem dX6_floatBits_29 : decode cX6_floatBits 29 = .ok (.lcmp, 1) := by decide +kernel
theorem dX6_floatBits_30 : decode cX6_floatBits 30 = .ok (.ifCond .ge 13, 3) := by decide +kernel
theorem dX6_floatBits_33 : decode cX6_floatBits 33 = .ok (.lload_n 2, 1) := by decide +kernel
theorem dX6_floatBits_34 : decode cX6_floatBits 34 = .ok (.iconst 1, 1) := by decide +kernel
theorem dX6_floatBits_35 : decode cX6_floatBits 35 = .ok (.lshl, 1) := by decide +kernel
theorem dX6_floatBits_36 : decode cX6_floatBits 36 = .ok (.lstore_n 2, 1) := by decide +kernel
theorem dX6_floatBits_37 : decode cX6_floatBits 37 = .ok (.iinc 4 (-1), 3) := by decide +kernel
theorem dX6_floatBits_40 : decode cX6_floatBits 40 = .ok (.goto (-24), 3) := by decide +kernel
theorem dX6_floatBits_43 : decode cX6_floatBits 43 = .ok (.ldc2_w 250, 3) := by decide +kernel
theorem dX6_floatBits_46 : decode cX6_floatBits 46 = .ok (.lload_n 2, 1) := by decide +kernel
theorem dX6_floatBits_47 : decode cX6_floatBits 47 = .ok (.lmul, 1) := by decide +kernel
theorem dX6_floatBits_48 : decode cX6_floatBits 48 = .ok (.iload_n 1, 1) := by decide +kernel
theorem dX6_floatBits_49 : decode cX6_floatBits 49 = .ok (.i2l, 1) := by decide +kernel
theorem dX6_floatBits_50 : decode cX6_floatBits 50 = .ok (.ldiv, 1) := by decide +kernel
theorem dX6_floatBits_51 : decode cX6_floatBits 51 = .ok (.lconst 1, 1) := by decide +kernel
theorem dX6_floatBits_52 : decode cX6_floatBits 52 = .ok (.ladd, 1) := by decide +kernel
theorem dX6_floatBits_53 : decode cX6_floatBits 53 = .ok (.ldc2_w 250, 3) := by decide +kernel
theorem dX6_floatBits_56 : decode cX6_floatBits 56 = .ok (.ldiv, 1) := by decide +kernel
theorem dX6_floatBits_57 : decode cX6_floatBits 57 = .ok (.lstore 5, 2) := by decide +kernel
theorem dX6_floatBits_59 : decode cX6_floatBits 59 = .ok (.iload 4, 2) := by decide +kernel
theorem dX6_floatBits_61 : decode cX6_floatBits 61 = .ok (.sipush 149, 3) := by decide +kernel
theorem dX6_floatBits_64 : decode cX6_floatBits 64 = .ok (.iadd, 1) := by decide +kernel
theorem dX6_floatBits_65 : decode cX6_floatBits 65 = .ok (.bipush 23, 2) := by decide +kernel
theorem dX6_floatBits_67 : decode cX6_floatBits 67 = .ok (.ishl, 1) := by decide +kernel
theorem dX6_floatBits_68 : decode cX6_floatBits 68 = .ok (.lload 5, 2) := by decide +kernel
theorem dX6_floatBits_70 : decode cX6_floatBits 70 = .ok (.l2i, 1) := by decide +kernel
theorem dX6_floatBits_71 : decode cX6_floatBits 71 = .ok (.iadd, 1) := by decide +kernel
theorem dX6_floatBits_72 : decode cX6_floatBits 72 = .ok (.ireturn, 1) := by decide +kernel
