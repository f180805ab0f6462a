/-! decode rows of the reference, as the program printed them -/
theorem dX7_init_0 : decode cX7_init 0 = .ok (.aload_n 0, 1) := by decide +kernel
theorem dX7_init_1 : decode cX7_init 1 = .ok (.invokespecial 3, 3) := by decide +kernel
theorem dX7_init_4 : decode cX7_init 4 = .ok (.aload_n 0, 1) := by decide +kernel
theorem dX7_init_5 : decode cX7_init 5 = .ok (.sipush 9792, 3) := by decide +kernel
theorem dX7_init_8 : decode cX7_init 8 = .ok (.newarray .int, 2) := by decide +kernel
theorem dX7_init_10 : decode cX7_init 10 = .ok (.putfield 9, 3) := by decide +kernel
theorem dX7_init_13 : decode cX7_init 13 = .ok (.aload_n 0, 1) := by decide +kernel
theorem dX7_init_14 : decode cX7_init 14 = .ok (.sipush 9792, 3) := by decide +kernel
theorem dX7_init_17 : decode cX7_init 17 = .ok (.newarray .int, 2) := by decide +kernel
theorem dX7_init_19 : decode cX7_init 19 = .ok (.putfield 13, 3) := by decide +kernel
theorem dX7_init_22 : decode cX7_init 22 = .ok (.aload_n 0, 1) := by decide +kernel
theorem dX7_init_23 : decode cX7_init 23 = .ok (.bipush 68, 2) := by decide +kernel
theorem dX7_init_25 : decode cX7_init 25 = .ok (.newarray .int, 2) := by decide +kernel
theorem dX7_init_27 : decode cX7_init 27 = .ok (.putfield 16, 3) := by decide +kernel
theorem dX7_init_30 : decode cX7_init 30 = .ok (.aload_n 0, 1) := by decide +kernel
theorem dX7_init_31 : decode cX7_init 31 = .ok (.bipush 68, 2) := by decide +kernel
theorem dX7_init_33 : decode cX7_init 33 = .ok (.newarray .int, 2) := by decide +kernel
theorem dX7_init_35 : decode cX7_init 35 = .ok (.putfield 19, 3) := by decide +kernel
theorem dX7_init_38 : decode cX7_init 38 = .ok (.aload_n 0, 1) := by decide +kernel
theorem dX7_init_39 : decode cX7_init 39 = .ok (.sipush 7593, 3) := by decide +kernel
theorem dX7_init_42 : decode cX7_init 42 = .ok (.newarray .int, 2) := by decide +kernel
theorem dX7_init_44 : decode cX7_init 44 = .ok (.putfield 22, 3) := by decide +kernel
theorem dX7_init_47 : decode cX7_init 47 = .ok (.aload_n 0, 1) := by decide +kernel
theorem dX7_init_48 : decode cX7_init 48 = .ok (.sipush 7593, 3) := by decide +kernel
theorem dX7_init_51 : decode cX7_init 51 = .ok (.newarray .int, 2) := by decide +kernel
theorem dX7_init_53 : decode cX7_init 53 = .ok (.putfield 25, 3) := by decide +kernel
theorem dX7_init_56 : decode cX7_init 56 = .ok (.aload_n 0, 1) := by decide +kernel
theorem dX7_init_57 : decode cX7_init 57 = .ok (.sipush 7593, 3) := by decide +kernel
theorem dX7_init_60 : decode cX7_init 60 = .ok (.newarray .int, 2) := by decide +kernel
theorem dX7_init_62 : decode cX7_init 62 = .ok (.putfield 28, 3) := by decide +kernel
theorem dX7_init_65 : decode cX7_init 65 = .ok (.aload_n 0, 1) := by decide +kernel
theorem dX7_init_66 : decode cX7_init 66 = .ok (.bipush 80, 2) := by decide +kernel
theorem dX7_init_68 : decode cX7_init 68 = .ok (.newarray .int, 2) := by decide +kernel
theorem dX7_init_70 : decode cX7_init 70 = .ok (.putfield 31, 3) := by decide +kernel
theorem dX7_init_73 : decode cX7_init 73 = .ok (.aload_n 0, 1) := by decide +kernel
theorem dX7_init_74 : decode cX7_init 74 = .ok (.iconst (-1), 1) := by decide +kernel
theorem dX7_init_75 : decode cX7_init 75 = .ok (.putfield 34, 3) := by decide +kernel
theorem dX7_init_78 : decode cX7_init 78 = .ok (.iconst 0, 1) := by decide +kernel
theorem dX7_init_79 : decode cX7_init 79 = .ok (.istore_n 1, 1) := by decide +kernel
theorem dX7_init_80 : decode cX7_init 80 = .ok (.iload_n 1, 1) := by decide +kernel
theorem dX7_init_81 : decode cX7_init 81 = .ok (.bipush 8, 2) := by decide +kernel
theorem dX7_init_83 : decode cX7_init 83 = .ok (.if_icmp .ge 18, 3) := by decide +kernel
theorem dX7_init_86 : decode cX7_init 86 = .ok (.aload_n 0, 1) := by decide +kernel
theorem dX7_init_87 : decode cX7_init 87 = .ok (.getfield 22, 3) := by decide +kernel
theorem dX7_init_90 : decode cX7_init 90 = .ok (.iconst 1, 1) := by decide +kernel
theorem dX7_init_91 : decode cX7_init 91 = .ok (.iload_n 1, 1) := by decide +kernel
theorem dX7_init_92 : decode cX7_init 92 = .ok (.iadd, 1) := by decide +kernel
theorem dX7_init_93 : decode cX7_init 93 = .ok (.iconst 1, 1) := by decide +kernel
theorem dX7_init_94 : decode cX7_init 94 = .ok (.iastore, 1) := by decide +kernel
theorem dX7_init_95 : decode cX7_init 95 = .ok (.iinc 1 1, 3) := by decide +kernel
theorem dX7_init_98 : decode cX7_init 98 = .ok (.goto (-18), 3) := by decide +kernel
theorem dX7_init_101 : decode cX7_init 101 = .ok (.return_, 1) := by decide +kernel
theorem dX7_isIn_0 : decode cX7_isIn 0 = .ok (.iload_n 0, 1) := by decide +kernel
theorem dX7_isIn_1 : decode cX7_isIn 1 = .ok (.iload_n 1, 1) := by decide +kernel
theorem dX7_isIn_2 : decode cX7_isIn 2 = .ok (.if_icmp .lt 12, 3) := by decide +kernel
theorem dX7_isIn_5 : decode cX7_isIn 5 = .ok (.iload_n 0, 1) := by decide +kernel
theorem dX7_isIn_6 : decode cX7_isIn 6 = .ok (.iload_n 2, 1) := by decide +kernel
theorem dX7_isIn_7 : decode cX7_isIn 7 = .ok (.if_icmp .gt 7, 3) := by decide +kernel
theorem dX7_isIn_10 : decode cX7_isIn 10 = .ok (.iconst 1, 1) := by decide +kernel
theorem dX7_isIn_11 : decode cX7_isIn 11 = .ok (.goto 4, 3) := by decide +kernel
theorem dX7_isIn_14 : decode cX7_isIn 14 = .ok (.iconst 0, 1) := by decide +kernel
theorem dX7_isIn_15 : decode cX7_isIn 15 = .ok (.ireturn, 1) := by decide +kernel
theorem dX7_isCode_0 : decode cX7_isCode 0 = .ok (.iload_n 0, 1) := by decide +kernel
theorem dX7_isCode_1 : decode cX7_isCode 1 = .ok (.iconst 0, 1) := by decide +kernel
theorem dX7_isCode_2 : decode cX7_isCode 2 = .ok (.bipush 7, 2) := by decide +kernel
theorem dX7_isCode_4 : decode cX7_isCode 4 = .ok (.invokestatic 38, 3) := by decide +kernel
theorem dX7_isCode_7 : decode cX7_isCode 7 = .ok (.ireturn, 1) := by decide +kernel
theorem dX7_isWorkflow_0 : decode cX7_isWorkflow 0 = .ok (.iload_n 0, 1) := by decide +kernel
theorem dX7_isWorkflow_1 : decode cX7_isWorkflow 1 = .ok (.iconst 0, 1) := by decide +kernel
theorem dX7_isWorkflow_2 : decode cX7_isWorkflow 2 = .ok (.iconst 3, 1) := by decide +kernel
theorem dX7_isWorkflow_3 : decode cX7_isWorkflow 3 = .ok (.invokestatic 38, 3) := by decide +kernel
theorem dX7_isWorkflow_6 : decode cX7_isWorkflow 6 = .ok (.ireturn, 1) := by decide +kernel
theorem dX7_feed_0 : decode cX7_feed 0 = .ok (.iload_n 1, 1) := by decide +kernel
theorem dX7_feed_1 : decode cX7_feed 1 = .ok (.iconst 0, 1) := by decide +kernel
theorem dX7_feed_2 : decode cX7_feed 2 = .ok (.bipush 127, 2) := by decide +kernel
theorem dX7_feed_4 : decode cX7_feed 4 = .ok (.invokestatic 38, 3) := by decide +kernel
theorem dX7_feed_7 : decode cX7_feed 7 = .ok (.ifCond .ne 6, 3) := by decide +kernel
theorem dX7_feed_10 : decode cX7_feed 10 = .ok (.bipush (-2), 2) := by decide +kernel
theorem dX7_feed_12 : decode cX7_feed 12 = .ok (.ireturn, 1) := by decide +kernel
theorem dX7_feed_13 : decode cX7_feed 13 = .ok (.aload_n 0, 1) := by decide +kernel
theorem dX7_feed_14 : decode cX7_feed 14 = .ok (.getfield 42, 3) := by decide +kernel
theorem dX7_feed_17 : decode cX7_feed 17 = .ok (.bipush 80, 2) := by decide +kernel
theorem dX7_feed_19 : decode cX7_feed 19 = .ok (.if_icmp .ne 6, 3) := by decide +kernel
theorem dX7_feed_22 : decode cX7_feed 22 = .ok (.bipush (-4), 2) := by decide +kernel
theorem dX7_feed_24 : decode cX7_feed 24 = .ok (.ireturn, 1) := by decide +kernel
theorem dX7_feed_25 : decode cX7_feed 25 = .ok (.aload_n 0, 1) := by decide +kernel
theorem dX7_feed_26 : decode cX7_feed 26 = .ok (.getfield 31, 3) := by decide +kernel
theorem dX7_feed_29 : decode cX7_feed 29 = .ok (.aload_n 0, 1) := by decide +kernel
theorem dX7_feed_30 : decode cX7_feed 30 = .ok (.getfield 42, 3) := by decide +kernel
theorem dX7_feed_33 : decode cX7_feed 33 = .ok (.iload_n 1, 1) := by decide +kernel
theorem dX7_feed_34 : decode cX7_feed 34 = .ok (.iastore, 1) := by decide +kernel
theorem dX7_feed_35 : decode cX7_feed 35 = .ok (.aload_n 0, 1) := by decide +kernel
theorem dX7_feed_36 : decode cX7_feed 36 = .ok (.dup, 1) := by decide +kernel
theorem dX7_feed_37 : decode cX7_feed 37 = .ok (.getfield 42, 3) := by decide +kernel
theorem dX7_feed_40 : decode cX7_feed 40 = .ok (.iconst 1, 1) := by decide +kernel
theorem dX7_feed_41 : decode cX7_feed 41 = .ok (.iadd, 1) := by decide +kernel
theorem dX7_feed_42 : decode cX7_feed 42 = .ok (.putfield 42, 3) := by decide +kernel
theorem dX7_feed_45 : decode cX7_feed 45 = .ok (.aload_n 0, 1) := by decide +kernel
theorem dX7_feed_46 : decode cX7_feed 46 = .ok (.getfield 42, 3) := by decide +kernel
theorem dX7_feed_49 : decode cX7_feed 49 = .ok (.ireturn, 1) := by decide +kernel
theorem dX7_here_0 : decode cX7_here 0 = .ok (.aload_n 0, 1) := by decide +kernel
theorem dX7_here_1 : decode cX7_here 1 = .ok (.getfield 45, 3) := by decide +kernel
theorem dX7_here_4 : decode cX7_here 4 = .ok (.aload_n 0, 1) := by decide +kernel
theorem dX7_here_5 : decode cX7_here 5 = .ok (.getfield 42, 3) := by decide +kernel
theorem dX7_here_8 : decode cX7_here 8 = .ok (.if_icmp .ge 15, 3) := by decide +kernel
theorem dX7_here_11 : decode cX7_here 11 = .ok (.aload_n 0, 1) := by decide +kernel
theorem dX7_here_12 : decode cX7_here 12 = .ok (.getfield 31, 3) := by decide +kernel
theorem dX7_here_15 : decode cX7_here 15 = .ok (.aload_n 0, 1) := by decide +kernel
theorem dX7_here_16 : decode cX7_here 16 = .ok (.getfield 45, 3) := by decide +kernel
theorem dX7_here_19 : decode cX7_here 19 = .ok (.iaload, 1) := by decide +kernel
theorem dX7_here_20 : decode cX7_here 20 = .ok (.goto 4, 3) := by decide +kernel
theorem dX7_here_23 : decode cX7_here 23 = .ok (.iconst (-1), 1) := by decide +kernel
theorem dX7_here_24 : decode cX7_here 24 = .ok (.ireturn, 1) := by decide +kernel
theorem dX7_takes_0 : decode cX7_takes 0 = .ok (.aload_n 0, 1) := by decide +kernel
theorem dX7_takes_1 : decode cX7_takes 1 = .ok (.invokevirtual 48, 3) := by decide +kernel
theorem dX7_takes_4 : decode cX7_takes 4 = .ok (.iload_n 1, 1) := by decide +kernel
theorem dX7_takes_5 : decode cX7_takes 5 = .ok (.if_icmp .eq 5, 3) := by decide +kernel
theorem dX7_takes_8 : decode cX7_takes 8 = .ok (.iconst 0, 1) := by decide +kernel
theorem dX7_takes_9 : decode cX7_takes 9 = .ok (.ireturn, 1) := by decide +kernel
theorem dX7_takes_10 : decode cX7_takes 10 = .ok (.aload_n 0, 1) := by decide +kernel
theorem dX7_takes_11 : decode cX7_takes 11 = .ok (.dup, 1) := by decide +kernel
theorem dX7_takes_12 : decode cX7_takes 12 = .ok (.getfield 45, 3) := by decide +kernel
theorem dX7_takes_15 : decode cX7_takes 15 = .ok (.iconst 1, 1) := by decide +kernel
theorem dX7_takes_16 : decode cX7_takes 16 = .ok (.iadd, 1) := by decide +kernel
theorem dX7_takes_17 : decode cX7_takes 17 = .ok (.putfield 45, 3) := by decide +kernel
theorem dX7_takes_20 : decode cX7_takes 20 = .ok (.iconst 1, 1) := by decide +kernel
theorem dX7_takes_21 : decode cX7_takes 21 = .ok (.ireturn, 1) := by decide +kernel
theorem dX7_takesDigit_0 : decode cX7_takesDigit 0 = .ok (.aload_n 0, 1) := by decide +kernel
theorem dX7_takesDigit_1 : decode cX7_takesDigit 1 = .ok (.invokevirtual 48, 3) := by decide +kernel
theorem dX7_takesDigit_4 : decode cX7_takesDigit 4 = .ok (.bipush 48, 2) := by decide +kernel
theorem dX7_takesDigit_6 : decode cX7_takesDigit 6 = .ok (.iload_n 1, 1) := by decide +kernel
theorem dX7_takesDigit_7 : decode cX7_takesDigit 7 = .ok (.iadd, 1) := by decide +kernel
theorem dX7_takesDigit_8 : decode cX7_takesDigit 8 = .ok (.bipush 48, 2) := by decide +kernel
theorem dX7_takesDigit_10 : decode cX7_takesDigit 10 = .ok (.iload_n 2, 1) := by decide +kernel
theorem dX7_takesDigit_11 : decode cX7_takesDigit 11 = .ok (.iadd, 1) := by decide +kernel
theorem dX7_takesDigit_12 : decode cX7_takesDigit 12 = .ok (.invokestatic 38, 3) := by decide +kernel
theorem dX7_takesDigit_15 : decode cX7_takesDigit 15 = .ok (.ifCond .ne 5, 3) := by decide +kernel
theorem dX7_takesDigit_18 : decode cX7_takesDigit 18 = .ok (.iconst 0, 1) := by decide +kernel
theorem dX7_takesDigit_19 : decode cX7_takesDigit 19 = .ok (.ireturn, 1) := by decide +kernel
theorem dX7_takesDigit_20 : decode cX7_takesDigit 20 = .ok (.aload_n 0, 1) := by decide +kernel
theorem dX7_takesDigit_21 : decode cX7_takesDigit 21 = .ok (.aload_n 0, 1) := by decide +kernel
theorem dX7_takesDigit_22 : decode cX7_takesDigit 22 = .ok (.invokevirtual 48, 3) := by decide +kernel
theorem dX7_takesDigit_25 : decode cX7_takesDigit 25 = .ok (.bipush 48, 2) := by decide +kernel
theorem dX7_takesDigit_27 : decode cX7_takesDigit 27 = .ok (.isub, 1) := by decide +kernel
theorem dX7_takesDigit_28 : decode cX7_takesDigit 28 = .ok (.putfield 52, 3) := by decide +kernel
theorem dX7_takesDigit_31 : decode cX7_takesDigit 31 = .ok (.aload_n 0, 1) := by decide +kernel
theorem dX7_takesDigit_32 : decode cX7_takesDigit 32 = .ok (.dup, 1) := by decide +kernel
theorem dX7_takesDigit_33 : decode cX7_takesDigit 33 = .ok (.getfield 45, 3) := by decide +kernel
theorem dX7_takesDigit_36 : decode cX7_takesDigit 36 = .ok (.iconst 1, 1) := by decide +kernel
theorem dX7_takesDigit_37 : decode cX7_takesDigit 37 = .ok (.iadd, 1) := by decide +kernel
theorem dX7_takesDigit_38 : decode cX7_takesDigit 38 = .ok (.putfield 45, 3) := by decide +kernel
theorem dX7_takesDigit_41 : decode cX7_takesDigit 41 = .ok (.iconst 1, 1) := by decide +kernel
theorem dX7_takesDigit_42 : decode cX7_takesDigit 42 = .ok (.ireturn, 1) := by decide +kernel
theorem dX7_takesNumber_0 : decode cX7_takesNumber 0 = .ok (.aload_n 0, 1) := by decide +kernel
theorem dX7_takesNumber_1 : decode cX7_takesNumber 1 = .ok (.iconst 0, 1) := by decide +kernel
theorem dX7_takesNumber_2 : decode cX7_takesNumber 2 = .ok (.bipush 9, 2) := by decide +kernel
theorem dX7_takesNumber_4 : decode cX7_takesNumber 4 = .ok (.invokevirtual 55, 3) := by decide +kernel
theorem dX7_takesNumber_7 : decode cX7_takesNumber 7 = .ok (.ifCond .ne 5, 3) := by decide +kernel
theorem dX7_takesNumber_10 : decode cX7_takesNumber 10 = .ok (.iconst 0, 1) := by decide +kernel
theorem dX7_takesNumber_11 : decode cX7_takesNumber 11 = .ok (.ireturn, 1) := by decide +kernel
theorem dX7_takesNumber_12 : decode cX7_takesNumber 12 = .ok (.aload_n 0, 1) := by decide +kernel
theorem dX7_takesNumber_13 : decode cX7_takesNumber 13 = .ok (.getfield 52, 3) := by decide +kernel
theorem dX7_takesNumber_16 : decode cX7_takesNumber 16 = .ok (.istore_n 1, 1) := by decide +kernel
theorem dX7_takesNumber_17 : decode cX7_takesNumber 17 = .ok (.iconst 1, 1) := by decide +kernel
theorem dX7_takesNumber_18 : decode cX7_takesNumber 18 = .ok (.istore_n 2, 1) := by decide +kernel
theorem dX7_takesNumber_19 : decode cX7_takesNumber 19 = .ok (.iload_n 2, 1) := by decide +kernel
theorem dX7_takesNumber_20 : decode cX7_takesNumber 20 = .ok (.iconst 3, 1) := by decide +kernel
theorem dX7_takesNumber_21 : decode cX7_takesNumber 21 = .ok (.if_icmp .ge 50, 3) := by decide +kernel
theorem dX7_takesNumber_24 : decode cX7_takesNumber 24 = .ok (.iload_n 1, 1) := by decide +kernel
theorem dX7_takesNumber_25 : decode cX7_takesNumber 25 = .ok (.ifCond .le 46, 3) := by decide +kernel
theorem dX7_takesNumber_28 : decode cX7_takesNumber 28 = .ok (.aload_n 0, 1) := by decide +kernel
theorem dX7_takesNumber_29 : decode cX7_takesNumber 29 = .ok (.invokevirtual 48, 3) := by decide +kernel
theorem dX7_takesNumber_32 : decode cX7_takesNumber 32 = .ok (.bipush 48, 2) := by decide +kernel
theorem dX7_takesNumber_34 : decode cX7_takesNumber 34 = .ok (.bipush 57, 2) := by decide +kernel
theorem dX7_takesNumber_36 : decode cX7_takesNumber 36 = .ok (.invokestatic 38, 3) := by decide +kernel
theorem dX7_takesNumber_39 : decode cX7_takesNumber 39 = .ok (.ifCond .eq 32, 3) := by decide +kernel
theorem dX7_takesNumber_42 : decode cX7_takesNumber 42 = .ok (.bipush 10, 2) := by decide +kernel
theorem dX7_takesNumber_44 : decode cX7_takesNumber 44 = .ok (.iload_n 1, 1) := by decide +kernel
theorem dX7_takesNumber_45 : decode cX7_takesNumber 45 = .ok (.imul, 1) := by decide +kernel
theorem dX7_takesNumber_46 : decode cX7_takesNumber 46 = .ok (.aload_n 0, 1) := by decide +kernel
theorem dX7_takesNumber_47 : decode cX7_takesNumber 47 = .ok (.invokevirtual 48, 3) := by decide +kernel
theorem dX7_takesNumber_50 : decode cX7_takesNumber 50 = .ok (.iadd, 1) := by decide +kernel
theorem dX7_takesNumber_51 : decode cX7_takesNumber 51 = .ok (.bipush 48, 2) := by decide +kernel
theorem dX7_takesNumber_53 : decode cX7_takesNumber 53 = .ok (.isub, 1) := by decide +kernel
theorem dX7_takesNumber_54 : decode cX7_takesNumber 54 = .ok (.istore_n 1, 1) := by decide +kernel
theorem dX7_takesNumber_55 : decode cX7_takesNumber 55 = .ok (.aload_n 0, 1) := by decide +kernel
theorem dX7_takesNumber_56 : decode cX7_takesNumber 56 = .ok (.dup, 1) := by decide +kernel
theorem dX7_takesNumber_57 : decode cX7_takesNumber 57 = .ok (.getfield 45, 3) := by decide +kernel
theorem dX7_takesNumber_60 : decode cX7_takesNumber 60 = .ok (.iconst 1, 1) := by decide +kernel
theorem dX7_takesNumber_61 : decode cX7_takesNumber 61 = .ok (.iadd, 1) := by decide +kernel
theorem dX7_takesNumber_62 : decode cX7_takesNumber 62 = .ok (.putfield 45, 3) := by decide +kernel
theorem dX7_takesNumber_65 : decode cX7_takesNumber 65 = .ok (.iinc 2 1, 3) := by decide +kernel
theorem dX7_takesNumber_68 : decode cX7_takesNumber 68 = .ok (.goto (-49), 3) := by decide +kernel
theorem dX7_takesNumber_71 : decode cX7_takesNumber 71 = .ok (.aload_n 0, 1) := by decide +kernel
theorem dX7_takesNumber_72 : decode cX7_takesNumber 72 = .ok (.iload_n 1, 1) := by decide +kernel
theorem dX7_takesNumber_73 : decode cX7_takesNumber 73 = .ok (.putfield 52, 3) := by decide +kernel
theorem dX7_takesNumber_76 : decode cX7_takesNumber 76 = .ok (.iconst 1, 1) := by decide +kernel
theorem dX7_takesNumber_77 : decode cX7_takesNumber 77 = .ok (.ireturn, 1) := by decide +kernel
theorem dX7_takesSigned_0 : decode cX7_takesSigned 0 = .ok (.aload_n 0, 1) := by decide +kernel
theorem dX7_takesSigned_1 : decode cX7_takesSigned 1 = .ok (.bipush 45, 2) := by decide +kernel
theorem dX7_takesSigned_3 : decode cX7_takesSigned 3 = .ok (.invokevirtual 59, 3) := by decide +kernel
theorem dX7_takesSigned_6 : decode cX7_takesSigned 6 = .ok (.istore_n 1, 1) := by decide +kernel
theorem dX7_takesSigned_7 : decode cX7_takesSigned 7 = .ok (.aload_n 0, 1) := by decide +kernel
theorem dX7_takesSigned_8 : decode cX7_takesSigned 8 = .ok (.invokevirtual 63, 3) := by decide +kernel
theorem dX7_takesSigned_11 : decode cX7_takesSigned 11 = .ok (.ifCond .ne 5, 3) := by decide +kernel
theorem dX7_takesSigned_14 : decode cX7_takesSigned 14 = .ok (.iconst 0, 1) := by decide +kernel
theorem dX7_takesSigned_15 : decode cX7_takesSigned 15 = .ok (.ireturn, 1) := by decide +kernel
theorem dX7_takesSigned_16 : decode cX7_takesSigned 16 = .ok (.aload_n 0, 1) := by decide +kernel
theorem dX7_takesSigned_17 : decode cX7_takesSigned 17 = .ok (.iload_n 1, 1) := by decide +kernel
theorem dX7_takesSigned_18 : decode cX7_takesSigned 18 = .ok (.ifCond .eq 11, 3) := by decide +kernel
theorem dX7_takesSigned_21 : decode cX7_takesSigned 21 = .ok (.aload_n 0, 1) := by decide +kernel
theorem dX7_takesSigned_22 : decode cX7_takesSigned 22 = .ok (.getfield 52, 3) := by decide +kernel
theorem dX7_takesSigned_25 : decode cX7_takesSigned 25 = .ok (.ineg, 1) := by decide +kernel
theorem dX7_takesSigned_26 : decode cX7_takesSigned 26 = .ok (.goto 7, 3) := by decide +kernel
theorem dX7_takesSigned_29 : decode cX7_takesSigned 29 = .ok (.aload_n 0, 1) := by decide +kernel
theorem dX7_takesSigned_30 : decode cX7_takesSigned 30 = .ok (.getfield 52, 3) := by decide +kernel
theorem dX7_takesSigned_33 : decode cX7_takesSigned 33 = .ok (.putfield 52, 3) := by decide +kernel
theorem dX7_takesSigned_36 : decode cX7_takesSigned 36 = .ok (.iconst 1, 1) := by decide +kernel
theorem dX7_takesSigned_37 : decode cX7_takesSigned 37 = .ok (.ireturn, 1) := by decide +kernel
theorem dX7_takesCode_0 : decode cX7_takesCode 0 = .ok (.aload_n 0, 1) := by decide +kernel
theorem dX7_takesCode_1 : decode cX7_takesCode 1 = .ok (.invokevirtual 48, 3) := by decide +kernel
theorem dX7_takesCode_4 : decode cX7_takesCode 4 = .ok (.bipush 97, 2) := by decide +kernel
theorem dX7_takesCode_6 : decode cX7_takesCode 6 = .ok (.bipush 104, 2) := by decide +kernel
theorem dX7_takesCode_8 : decode cX7_takesCode 8 = .ok (.invokestatic 38, 3) := by decide +kernel
theorem dX7_takesCode_11 : decode cX7_takesCode 11 = .ok (.ifCond .ne 5, 3) := by decide +kernel
theorem dX7_takesCode_14 : decode cX7_takesCode 14 = .ok (.iconst 0, 1) := by decide +kernel
theorem dX7_takesCode_15 : decode cX7_takesCode 15 = .ok (.ireturn, 1) := by decide +kernel
theorem dX7_takesCode_16 : decode cX7_takesCode 16 = .ok (.aload_n 0, 1) := by decide +kernel
theorem dX7_takesCode_17 : decode cX7_takesCode 17 = .ok (.aload_n 0, 1) := by decide +kernel
theorem dX7_takesCode_18 : decode cX7_takesCode 18 = .ok (.invokevirtual 48, 3) := by decide +kernel
theorem dX7_takesCode_21 : decode cX7_takesCode 21 = .ok (.bipush 97, 2) := by decide +kernel
theorem dX7_takesCode_23 : decode cX7_takesCode 23 = .ok (.isub, 1) := by decide +kernel
theorem dX7_takesCode_24 : decode cX7_takesCode 24 = .ok (.putfield 52, 3) := by decide +kernel
theorem dX7_takesCode_27 : decode cX7_takesCode 27 = .ok (.aload_n 0, 1) := by decide +kernel
theorem dX7_takesCode_28 : decode cX7_takesCode 28 = .ok (.dup, 1) := by decide +kernel
theorem dX7_takesCode_29 : decode cX7_takesCode 29 = .ok (.getfield 45, 3) := by decide +kernel
theorem dX7_takesCode_32 : decode cX7_takesCode 32 = .ok (.iconst 1, 1) := by decide +kernel
theorem dX7_takesCode_33 : decode cX7_takesCode 33 = .ok (.iadd, 1) := by decide +kernel
theorem dX7_takesCode_34 : decode cX7_takesCode 34 = .ok (.putfield 45, 3) := by decide +kernel
theorem dX7_takesCode_37 : decode cX7_takesCode 37 = .ok (.iconst 1, 1) := by decide +kernel
theorem dX7_takesCode_38 : decode cX7_takesCode 38 = .ok (.ireturn, 1) := by decide +kernel
theorem dX7_part_0 : decode cX7_part 0 = .ok (.bipush 64, 2) := by decide +kernel
theorem dX7_part_2 : decode cX7_part 2 = .ok (.iload_n 0, 1) := by decide +kernel
theorem dX7_part_3 : decode cX7_part 3 = .ok (.imul, 1) := by decide +kernel
theorem dX7_part_4 : decode cX7_part 4 = .ok (.iload_n 1, 1) := by decide +kernel
theorem dX7_part_5 : decode cX7_part 5 = .ok (.iadd, 1) := by decide +kernel
theorem dX7_part_6 : decode cX7_part 6 = .ok (.bipush 9, 2) := by decide +kernel
theorem dX7_part_8 : decode cX7_part 8 = .ok (.imul, 1) := by decide +kernel
theorem dX7_part_9 : decode cX7_part 9 = .ok (.iload_n 2, 1) := by decide +kernel
theorem dX7_part_10 : decode cX7_part 10 = .ok (.iadd, 1) := by decide +kernel
theorem dX7_part_11 : decode cX7_part 11 = .ok (.ireturn, 1) := by decide +kernel
theorem dX7_put_0 : decode cX7_put 0 = .ok (.aload_n 0, 1) := by decide +kernel
theorem dX7_put_1 : decode cX7_put 1 = .ok (.getfield 9, 3) := by decide +kernel
theorem dX7_put_4 : decode cX7_put 4 = .ok (.bipush 16, 2) := by decide +kernel
theorem dX7_put_6 : decode cX7_put 6 = .ok (.iload_n 1, 1) := by decide +kernel
theorem dX7_put_7 : decode cX7_put 7 = .ok (.iload_n 2, 1) := by decide +kernel
theorem dX7_put_8 : decode cX7_put 8 = .ok (.invokestatic 67, 3) := by decide +kernel
theorem dX7_put_11 : decode cX7_put 11 = .ok (.iload_n 3, 1) := by decide +kernel
theorem dX7_put_12 : decode cX7_put 12 = .ok (.iastore, 1) := by decide +kernel
theorem dX7_put_13 : decode cX7_put 13 = .ok (.return_, 1) := by decide +kernel
theorem dX7_makes_0 : decode cX7_makes 0 = .ok (.aload_n 0, 1) := by decide +kernel
theorem dX7_makes_1 : decode cX7_makes 1 = .ok (.getfield 71, 3) := by decide +kernel
theorem dX7_makes_4 : decode cX7_makes 4 = .ok (.istore_n 3, 1) := by decide +kernel
theorem dX7_makes_5 : decode cX7_makes 5 = .ok (.aload_n 0, 1) := by decide +kernel
theorem dX7_makes_6 : decode cX7_makes 6 = .ok (.dup, 1) := by decide +kernel
theorem dX7_makes_7 : decode cX7_makes 7 = .ok (.getfield 71, 3) := by decide +kernel
theorem dX7_makes_10 : decode cX7_makes 10 = .ok (.iconst 1, 1) := by decide +kernel
theorem dX7_makes_11 : decode cX7_makes 11 = .ok (.iadd, 1) := by decide +kernel
theorem dX7_makes_12 : decode cX7_makes 12 = .ok (.putfield 71, 3) := by decide +kernel
theorem dX7_makes_15 : decode cX7_makes 15 = .ok (.iconst 0, 1) := by decide +kernel
theorem dX7_makes_16 : decode cX7_makes 16 = .ok (.istore 4, 2) := by decide +kernel
theorem dX7_makes_18 : decode cX7_makes 18 = .ok (.iload 4, 2) := by decide +kernel
theorem dX7_makes_20 : decode cX7_makes 20 = .ok (.bipush 9, 2) := by decide +kernel
theorem dX7_makes_22 : decode cX7_makes 22 = .ok (.if_icmp .ge 17, 3) := by decide +kernel
theorem dX7_makes_25 : decode cX7_makes 25 = .ok (.aload_n 0, 1) := by decide +kernel
theorem dX7_makes_26 : decode cX7_makes 26 = .ok (.iload_n 3, 1) := by decide +kernel
theorem dX7_makes_27 : decode cX7_makes 27 = .ok (.iload 4, 2) := by decide +kernel
theorem dX7_makes_29 : decode cX7_makes 29 = .ok (.iconst (-1), 1) := by decide +kernel
theorem dX7_makes_30 : decode cX7_makes 30 = .ok (.invokevirtual 74, 3) := by decide +kernel
theorem dX7_makes_33 : decode cX7_makes 33 = .ok (.iinc 4 1, 3) := by decide +kernel
theorem dX7_makes_36 : decode cX7_makes 36 = .ok (.goto (-18), 3) := by decide +kernel
theorem dX7_makes_39 : decode cX7_makes 39 = .ok (.aload_n 0, 1) := by decide +kernel
theorem dX7_makes_40 : decode cX7_makes 40 = .ok (.iload_n 3, 1) := by decide +kernel
theorem dX7_makes_41 : decode cX7_makes 41 = .ok (.iconst 0, 1) := by decide +kernel
theorem dX7_makes_42 : decode cX7_makes 42 = .ok (.iload_n 1, 1) := by decide +kernel
theorem dX7_makes_43 : decode cX7_makes 43 = .ok (.invokevirtual 74, 3) := by decide +kernel
theorem dX7_makes_46 : decode cX7_makes 46 = .ok (.aload_n 0, 1) := by decide +kernel
theorem dX7_makes_47 : decode cX7_makes 47 = .ok (.iload_n 3, 1) := by decide +kernel
theorem dX7_makes_48 : decode cX7_makes 48 = .ok (.bipush 7, 2) := by decide +kernel
theorem dX7_makes_50 : decode cX7_makes 50 = .ok (.aload_n 0, 1) := by decide +kernel
theorem dX7_makes_51 : decode cX7_makes 51 = .ok (.getfield 45, 3) := by decide +kernel
theorem dX7_makes_54 : decode cX7_makes 54 = .ok (.invokevirtual 74, 3) := by decide +kernel
theorem dX7_makes_57 : decode cX7_makes 57 = .ok (.aload_n 0, 1) := by decide +kernel
theorem dX7_makes_58 : decode cX7_makes 58 = .ok (.iload_n 3, 1) := by decide +kernel
theorem dX7_makes_59 : decode cX7_makes 59 = .ok (.bipush 8, 2) := by decide +kernel
theorem dX7_makes_61 : decode cX7_makes 61 = .ok (.iload_n 2, 1) := by decide +kernel
theorem dX7_makes_62 : decode cX7_makes 62 = .ok (.invokevirtual 74, 3) := by decide +kernel
theorem dX7_makes_65 : decode cX7_makes 65 = .ok (.iload_n 3, 1) := by decide +kernel
theorem dX7_makes_66 : decode cX7_makes 66 = .ok (.ireturn, 1) := by decide +kernel
theorem dX7_beginsItem_0 : decode cX7_beginsItem 0 = .ok (.iload_n 0, 1) := by decide +kernel
theorem dX7_beginsItem_1 : decode cX7_beginsItem 1 = .ok (.bipush 116, 2) := by decide +kernel
theorem dX7_beginsItem_3 : decode cX7_beginsItem 3 = .ok (.if_icmp .eq 33, 3) := by decide +kernel
theorem dX7_beginsItem_6 : decode cX7_beginsItem 6 = .ok (.iload_n 0, 1) := by decide +kernel
theorem dX7_beginsItem_7 : decode cX7_beginsItem 7 = .ok (.bipush 119, 2) := by decide +kernel
theorem dX7_beginsItem_9 : decode cX7_beginsItem 9 = .ok (.if_icmp .eq 27, 3) := by decide +kernel
theorem dX7_beginsItem_12 : decode cX7_beginsItem 12 = .ok (.iload_n 0, 1) := by decide +kernel
theorem dX7_beginsItem_13 : decode cX7_beginsItem 13 = .ok (.bipush 115, 2) := by decide +kernel
theorem dX7_beginsItem_15 : decode cX7_beginsItem 15 = .ok (.if_icmp .eq 21, 3) := by decide +kernel
theorem dX7_beginsItem_18 : decode cX7_beginsItem 18 = .ok (.iload_n 0, 1) := by decide +kernel
theorem dX7_beginsItem_19 : decode cX7_beginsItem 19 = .ok (.bipush 120, 2) := by decide +kernel
theorem dX7_beginsItem_21 : decode cX7_beginsItem 21 = .ok (.if_icmp .eq 15, 3) := by decide +kernel
theorem dX7_beginsItem_24 : decode cX7_beginsItem 24 = .ok (.iload_n 0, 1) := by decide +kernel
theorem dX7_beginsItem_25 : decode cX7_beginsItem 25 = .ok (.bipush 91, 2) := by decide +kernel
theorem dX7_beginsItem_27 : decode cX7_beginsItem 27 = .ok (.if_icmp .eq 9, 3) := by decide +kernel
theorem dX7_beginsItem_30 : decode cX7_beginsItem 30 = .ok (.iload_n 0, 1) := by decide +kernel
theorem dX7_beginsItem_31 : decode cX7_beginsItem 31 = .ok (.bipush 40, 2) := by decide +kernel
theorem dX7_beginsItem_33 : decode cX7_beginsItem 33 = .ok (.if_icmp .ne 7, 3) := by decide +kernel
theorem dX7_beginsItem_36 : decode cX7_beginsItem 36 = .ok (.iconst 1, 1) := by decide +kernel
theorem dX7_beginsItem_37 : decode cX7_beginsItem 37 = .ok (.goto 4, 3) := by decide +kernel
theorem dX7_beginsItem_40 : decode cX7_beginsItem 40 = .ok (.iconst 0, 1) := by decide +kernel
theorem dX7_beginsItem_41 : decode cX7_beginsItem 41 = .ok (.ireturn, 1) := by decide +kernel
theorem dX7_isTooMuch_0 : decode cX7_isTooMuch 0 = .ok (.aload_n 0, 1) := by decide +kernel
theorem dX7_isTooMuch_1 : decode cX7_isTooMuch 1 = .ok (.iconst 2, 1) := by decide +kernel
theorem dX7_isTooMuch_2 : decode cX7_isTooMuch 2 = .ok (.putfield 78, 3) := by decide +kernel
theorem dX7_isTooMuch_5 : decode cX7_isTooMuch 5 = .ok (.iconst 0, 1) := by decide +kernel
theorem dX7_isTooMuch_6 : decode cX7_isTooMuch 6 = .ok (.ireturn, 1) := by decide +kernel
theorem dX7_readsBody_0 : decode cX7_readsBody 0 = .ok (.aload_n 0, 1) := by decide +kernel
theorem dX7_readsBody_1 : decode cX7_readsBody 1 = .ok (.iconst 0, 1) := by decide +kernel
theorem dX7_readsBody_2 : decode cX7_readsBody 2 = .ok (.iload_n 1, 1) := by decide +kernel
theorem dX7_readsBody_3 : decode cX7_readsBody 3 = .ok (.invokevirtual 81, 3) := by decide +kernel
theorem dX7_readsBody_6 : decode cX7_readsBody 6 = .ok (.istore_n 3, 1) := by decide +kernel
theorem dX7_readsBody_7 : decode cX7_readsBody 7 = .ok (.iload_n 2, 1) := by decide +kernel
theorem dX7_readsBody_8 : decode cX7_readsBody 8 = .ok (.ifCond .lt 14, 3) := by decide +kernel
theorem dX7_readsBody_11 : decode cX7_readsBody 11 = .ok (.aload_n 0, 1) := by decide +kernel
theorem dX7_readsBody_12 : decode cX7_readsBody 12 = .ok (.iload_n 2, 1) := by decide +kernel
theorem dX7_readsBody_13 : decode cX7_readsBody 13 = .ok (.bipush 6, 2) := by decide +kernel
theorem dX7_readsBody_15 : decode cX7_readsBody 15 = .ok (.iload_n 3, 1) := by decide +kernel
theorem dX7_readsBody_16 : decode cX7_readsBody 16 = .ok (.invokevirtual 74, 3) := by decide +kernel
theorem dX7_readsBody_19 : decode cX7_readsBody 19 = .ok (.goto 14, 3) := by decide +kernel
theorem dX7_readsBody_22 : decode cX7_readsBody 22 = .ok (.iload_n 1, 1) := by decide +kernel
theorem dX7_readsBody_23 : decode cX7_readsBody 23 = .ok (.ifCond .lt 10, 3) := by decide +kernel
theorem dX7_readsBody_26 : decode cX7_readsBody 26 = .ok (.aload_n 0, 1) := by decide +kernel
theorem dX7_readsBody_27 : decode cX7_readsBody 27 = .ok (.iload_n 1, 1) := by decide +kernel
theorem dX7_readsBody_28 : decode cX7_readsBody 28 = .ok (.iconst 5, 1) := by decide +kernel
theorem dX7_readsBody_29 : decode cX7_readsBody 29 = .ok (.iload_n 3, 1) := by decide +kernel
theorem dX7_readsBody_30 : decode cX7_readsBody 30 = .ok (.invokevirtual 74, 3) := by decide +kernel
theorem dX7_readsBody_33 : decode cX7_readsBody 33 = .ok (.iconst (-1), 1) := by decide +kernel
theorem dX7_readsBody_34 : decode cX7_readsBody 34 = .ok (.istore 4, 2) := by decide +kernel
theorem dX7_readsBody_36 : decode cX7_readsBody 36 = .ok (.aload_n 0, 1) := by decide +kernel
theorem dX7_readsBody_37 : decode cX7_readsBody 37 = .ok (.getfield 71, 3) := by decide +kernel
theorem dX7_readsBody_40 : decode cX7_readsBody 40 = .ok (.istore 5, 2) := by decide +kernel
theorem dX7_readsBody_42 : decode cX7_readsBody 42 = .ok (.aload_n 0, 1) := by decide +kernel
theorem dX7_readsBody_43 : decode cX7_readsBody 43 = .ok (.iload_n 3, 1) := by decide +kernel
theorem dX7_readsBody_44 : decode cX7_readsBody 44 = .ok (.invokevirtual 85, 3) := by decide +kernel
theorem dX7_readsBody_47 : decode cX7_readsBody 47 = .ok (.ifCond .ne 5, 3) := by decide +kernel
theorem dX7_readsBody_50 : decode cX7_readsBody 50 = .ok (.iconst 0, 1) := by decide +kernel
theorem dX7_readsBody_51 : decode cX7_readsBody 51 = .ok (.ireturn, 1) := by decide +kernel
theorem dX7_readsBody_52 : decode cX7_readsBody 52 = .ok (.iload 4, 2) := by decide +kernel
theorem dX7_readsBody_54 : decode cX7_readsBody 54 = .ok (.ifCond .ge 14, 3) := by decide +kernel
theorem dX7_readsBody_57 : decode cX7_readsBody 57 = .ok (.aload_n 0, 1) := by decide +kernel
theorem dX7_readsBody_58 : decode cX7_readsBody 58 = .ok (.iload_n 3, 1) := by decide +kernel
theorem dX7_readsBody_59 : decode cX7_readsBody 59 = .ok (.iconst 5, 1) := by decide +kernel
theorem dX7_readsBody_60 : decode cX7_readsBody 60 = .ok (.iload 5, 2) := by decide +kernel
theorem dX7_readsBody_62 : decode cX7_readsBody 62 = .ok (.invokevirtual 74, 3) := by decide +kernel
theorem dX7_readsBody_65 : decode cX7_readsBody 65 = .ok (.goto 13, 3) := by decide +kernel
theorem dX7_readsBody_68 : decode cX7_readsBody 68 = .ok (.aload_n 0, 1) := by decide +kernel
theorem dX7_readsBody_69 : decode cX7_readsBody 69 = .ok (.iload 4, 2) := by decide +kernel
theorem dX7_readsBody_71 : decode cX7_readsBody 71 = .ok (.bipush 6, 2) := by decide +kernel
theorem dX7_readsBody_73 : decode cX7_readsBody 73 = .ok (.iload 5, 2) := by decide +kernel
theorem dX7_readsBody_75 : decode cX7_readsBody 75 = .ok (.invokevirtual 74, 3) := by decide +kernel
theorem dX7_readsBody_78 : decode cX7_readsBody 78 = .ok (.iload 5, 2) := by decide +kernel
theorem dX7_readsBody_80 : decode cX7_readsBody 80 = .ok (.istore 4, 2) := by decide +kernel
theorem dX7_readsBody_82 : decode cX7_readsBody 82 = .ok (.aload_n 0, 1) := by decide +kernel
theorem dX7_readsBody_83 : decode cX7_readsBody 83 = .ok (.bipush 59, 2) := by decide +kernel
theorem dX7_readsBody_85 : decode cX7_readsBody 85 = .ok (.invokevirtual 59, 3) := by decide +kernel
theorem dX7_readsBody_88 : decode cX7_readsBody 88 = .ok (.ifCond .ne (-52), 3) := by decide +kernel
theorem dX7_readsBody_91 : decode cX7_readsBody 91 = .ok (.iconst 1, 1) := by decide +kernel
theorem dX7_readsBody_92 : decode cX7_readsBody 92 = .ok (.ireturn, 1) := by decide +kernel
theorem dX7_readsItem_0 : decode cX7_readsItem 0 = .ok (.aload_n 0, 1) := by decide +kernel
theorem dX7_readsItem_1 : decode cX7_readsItem 1 = .ok (.invokevirtual 48, 3) := by decide +kernel
theorem dX7_readsItem_4 : decode cX7_readsItem 4 = .ok (.istore_n 2, 1) := by decide +kernel
theorem dX7_readsItem_5 : decode cX7_readsItem 5 = .ok (.iload_n 2, 1) := by decide +kernel
theorem dX7_readsItem_6 : decode cX7_readsItem 6 = .ok (.invokestatic 88, 3) := by decide +kernel
theorem dX7_readsItem_9 : decode cX7_readsItem 9 = .ok (.ifCond .ne 5, 3) := by decide +kernel
theorem dX7_readsItem_12 : decode cX7_readsItem 12 = .ok (.iconst 0, 1) := by decide +kernel
theorem dX7_readsItem_13 : decode cX7_readsItem 13 = .ok (.ireturn, 1) := by decide +kernel
theorem dX7_readsItem_14 : decode cX7_readsItem 14 = .ok (.aload_n 0, 1) := by decide +kernel
theorem dX7_readsItem_15 : decode cX7_readsItem 15 = .ok (.getfield 91, 3) := by decide +kernel
theorem dX7_readsItem_18 : decode cX7_readsItem 18 = .ok (.bipush 24, 2) := by decide +kernel
theorem dX7_readsItem_20 : decode cX7_readsItem 20 = .ok (.if_icmp .eq 23, 3) := by decide +kernel
theorem dX7_readsItem_23 : decode cX7_readsItem 23 = .ok (.iload_n 2, 1) := by decide +kernel
theorem dX7_readsItem_24 : decode cX7_readsItem 24 = .ok (.bipush 91, 2) := by decide +kernel
theorem dX7_readsItem_26 : decode cX7_readsItem 26 = .ok (.if_icmp .eq 9, 3) := by decide +kernel
theorem dX7_readsItem_29 : decode cX7_readsItem 29 = .ok (.iload_n 2, 1) := by decide +kernel
theorem dX7_readsItem_30 : decode cX7_readsItem 30 = .ok (.bipush 40, 2) := by decide +kernel
theorem dX7_readsItem_32 : decode cX7_readsItem 32 = .ok (.if_icmp .ne 16, 3) := by decide +kernel
theorem dX7_readsItem_35 : decode cX7_readsItem 35 = .ok (.aload_n 0, 1) := by decide +kernel
theorem dX7_readsItem_36 : decode cX7_readsItem 36 = .ok (.getfield 94, 3) := by decide +kernel
theorem dX7_readsItem_39 : decode cX7_readsItem 39 = .ok (.iconst 4, 1) := by decide +kernel
theorem dX7_readsItem_40 : decode cX7_readsItem 40 = .ok (.if_icmp .ne 8, 3) := by decide +kernel
theorem dX7_readsItem_43 : decode cX7_readsItem 43 = .ok (.aload_n 0, 1) := by decide +kernel
theorem dX7_readsItem_44 : decode cX7_readsItem 44 = .ok (.invokevirtual 97, 3) := by decide +kernel
theorem dX7_readsItem_47 : decode cX7_readsItem 47 = .ok (.ireturn, 1) := by decide +kernel
theorem dX7_readsItem_48 : decode cX7_readsItem 48 = .ok (.aload_n 0, 1) := by decide +kernel
theorem dX7_readsItem_49 : decode cX7_readsItem 49 = .ok (.dup, 1) := by decide +kernel
theorem dX7_readsItem_50 : decode cX7_readsItem 50 = .ok (.getfield 91, 3) := by decide +kernel
theorem dX7_readsItem_53 : decode cX7_readsItem 53 = .ok (.iconst 1, 1) := by decide +kernel
theorem dX7_readsItem_54 : decode cX7_readsItem 54 = .ok (.iadd, 1) := by decide +kernel
theorem dX7_readsItem_55 : decode cX7_readsItem 55 = .ok (.putfield 91, 3) := by decide +kernel
theorem dX7_readsItem_58 : decode cX7_readsItem 58 = .ok (.iload_n 2, 1) := by decide +kernel
theorem dX7_readsItem_59 : decode cX7_readsItem 59 = .ok (.lookupswitch 104 #[(91, 93), (115, 71), (116, 49), (119, 60), (120, 82)], 49) := by decide +kernel
theorem dX7_readsItem_108 : decode cX7_readsItem 108 = .ok (.aload_n 0, 1) := by decide +kernel
theorem dX7_readsItem_109 : decode cX7_readsItem 109 = .ok (.aload_n 0, 1) := by decide +kernel
theorem dX7_readsItem_110 : decode cX7_readsItem 110 = .ok (.iconst 1, 1) := by decide +kernel
theorem dX7_readsItem_111 : decode cX7_readsItem 111 = .ok (.iload_n 1, 1) := by decide +kernel
theorem dX7_readsItem_112 : decode cX7_readsItem 112 = .ok (.invokevirtual 81, 3) := by decide +kernel
theorem dX7_readsItem_115 : decode cX7_readsItem 115 = .ok (.invokevirtual 100, 3) := by decide +kernel
theorem dX7_readsItem_118 : decode cX7_readsItem 118 = .ok (.ireturn, 1) := by decide +kernel
theorem dX7_readsItem_119 : decode cX7_readsItem 119 = .ok (.aload_n 0, 1) := by decide +kernel
theorem dX7_readsItem_120 : decode cX7_readsItem 120 = .ok (.aload_n 0, 1) := by decide +kernel
theorem dX7_readsItem_121 : decode cX7_readsItem 121 = .ok (.iconst 2, 1) := by decide +kernel
theorem dX7_readsItem_122 : decode cX7_readsItem 122 = .ok (.iload_n 1, 1) := by decide +kernel
theorem dX7_readsItem_123 : decode cX7_readsItem 123 = .ok (.invokevirtual 81, 3) := by decide +kernel
theorem dX7_readsItem_126 : decode cX7_readsItem 126 = .ok (.invokevirtual 103, 3) := by decide +kernel
theorem dX7_readsItem_129 : decode cX7_readsItem 129 = .ok (.ireturn, 1) := by decide +kernel
theorem dX7_readsItem_130 : decode cX7_readsItem 130 = .ok (.aload_n 0, 1) := by decide +kernel
theorem dX7_readsItem_131 : decode cX7_readsItem 131 = .ok (.aload_n 0, 1) := by decide +kernel
theorem dX7_readsItem_132 : decode cX7_readsItem 132 = .ok (.iconst 3, 1) := by decide +kernel
theorem dX7_readsItem_133 : decode cX7_readsItem 133 = .ok (.iload_n 1, 1) := by decide +kernel
theorem dX7_readsItem_134 : decode cX7_readsItem 134 = .ok (.invokevirtual 81, 3) := by decide +kernel
theorem dX7_readsItem_137 : decode cX7_readsItem 137 = .ok (.invokevirtual 106, 3) := by decide +kernel
theorem dX7_readsItem_140 : decode cX7_readsItem 140 = .ok (.ireturn, 1) := by decide +kernel
theorem dX7_readsItem_141 : decode cX7_readsItem 141 = .ok (.aload_n 0, 1) := by decide +kernel
theorem dX7_readsItem_142 : decode cX7_readsItem 142 = .ok (.aload_n 0, 1) := by decide +kernel
theorem dX7_readsItem_143 : decode cX7_readsItem 143 = .ok (.iconst 4, 1) := by decide +kernel
theorem dX7_readsItem_144 : decode cX7_readsItem 144 = .ok (.iload_n 1, 1) := by decide +kernel
theorem dX7_readsItem_145 : decode cX7_readsItem 145 = .ok (.invokevirtual 81, 3) := by decide +kernel
theorem dX7_readsItem_148 : decode cX7_readsItem 148 = .ok (.invokevirtual 109, 3) := by decide +kernel
theorem dX7_readsItem_151 : decode cX7_readsItem 151 = .ok (.ireturn, 1) := by decide +kernel
theorem dX7_readsItem_152 : decode cX7_readsItem 152 = .ok (.aload_n 0, 1) := by decide +kernel
theorem dX7_readsItem_153 : decode cX7_readsItem 153 = .ok (.aload_n 0, 1) := by decide +kernel
theorem dX7_readsItem_154 : decode cX7_readsItem 154 = .ok (.iconst 5, 1) := by decide +kernel
theorem dX7_readsItem_155 : decode cX7_readsItem 155 = .ok (.iload_n 1, 1) := by decide +kernel
theorem dX7_readsItem_156 : decode cX7_readsItem 156 = .ok (.invokevirtual 81, 3) := by decide +kernel
theorem dX7_readsItem_159 : decode cX7_readsItem 159 = .ok (.invokevirtual 112, 3) := by decide +kernel
theorem dX7_readsItem_162 : decode cX7_readsItem 162 = .ok (.ireturn, 1) := by decide +kernel
theorem dX7_readsItem_163 : decode cX7_readsItem 163 = .ok (.aload_n 0, 1) := by decide +kernel
theorem dX7_readsItem_164 : decode cX7_readsItem 164 = .ok (.aload_n 0, 1) := by decide +kernel
theorem dX7_readsItem_165 : decode cX7_readsItem 165 = .ok (.bipush 6, 2) := by decide +kernel
theorem dX7_readsItem_167 : decode cX7_readsItem 167 = .ok (.iload_n 1, 1) := by decide +kernel
theorem dX7_readsItem_168 : decode cX7_readsItem 168 = .ok (.invokevirtual 81, 3) := by decide +kernel
theorem dX7_readsItem_171 : decode cX7_readsItem 171 = .ok (.invokevirtual 115, 3) := by decide +kernel
theorem dX7_readsItem_174 : decode cX7_readsItem 174 = .ok (.ireturn, 1) := by decide +kernel
theorem dX7_readsTask_0 : decode cX7_readsTask 0 = .ok (.aload_n 0, 1) := by decide +kernel
theorem dX7_readsTask_1 : decode cX7_readsTask 1 = .ok (.dup, 1) := by decide +kernel
theorem dX7_readsTask_2 : decode cX7_readsTask 2 = .ok (.getfield 45, 3) := by decide +kernel
theorem dX7_readsTask_5 : decode cX7_readsTask 5 = .ok (.iconst 1, 1) := by decide +kernel
theorem dX7_readsTask_6 : decode cX7_readsTask 6 = .ok (.iadd, 1) := by decide +kernel
theorem dX7_readsTask_7 : decode cX7_readsTask 7 = .ok (.putfield 45, 3) := by decide +kernel
theorem dX7_readsTask_10 : decode cX7_readsTask 10 = .ok (.aload_n 0, 1) := by decide +kernel
theorem dX7_readsTask_11 : decode cX7_readsTask 11 = .ok (.invokevirtual 118, 3) := by decide +kernel
theorem dX7_readsTask_14 : decode cX7_readsTask 14 = .ok (.ifCond .ne 5, 3) := by decide +kernel
theorem dX7_readsTask_17 : decode cX7_readsTask 17 = .ok (.iconst 0, 1) := by decide +kernel
theorem dX7_readsTask_18 : decode cX7_readsTask 18 = .ok (.ireturn, 1) := by decide +kernel
theorem dX7_readsTask_19 : decode cX7_readsTask 19 = .ok (.aload_n 0, 1) := by decide +kernel
theorem dX7_readsTask_20 : decode cX7_readsTask 20 = .ok (.iload_n 1, 1) := by decide +kernel
theorem dX7_readsTask_21 : decode cX7_readsTask 21 = .ok (.iconst 1, 1) := by decide +kernel
theorem dX7_readsTask_22 : decode cX7_readsTask 22 = .ok (.aload_n 0, 1) := by decide +kernel
theorem dX7_readsTask_23 : decode cX7_readsTask 23 = .ok (.getfield 52, 3) := by decide +kernel
theorem dX7_readsTask_26 : decode cX7_readsTask 26 = .ok (.invokevirtual 74, 3) := by decide +kernel
theorem dX7_readsTask_29 : decode cX7_readsTask 29 = .ok (.aload_n 0, 1) := by decide +kernel
theorem dX7_readsTask_30 : decode cX7_readsTask 30 = .ok (.iload_n 1, 1) := by decide +kernel
theorem dX7_readsTask_31 : decode cX7_readsTask 31 = .ok (.iconst 2, 1) := by decide +kernel
theorem dX7_readsTask_32 : decode cX7_readsTask 32 = .ok (.iconst 0, 1) := by decide +kernel
theorem dX7_readsTask_33 : decode cX7_readsTask 33 = .ok (.invokevirtual 74, 3) := by decide +kernel
theorem dX7_readsTask_36 : decode cX7_readsTask 36 = .ok (.aload_n 0, 1) := by decide +kernel
theorem dX7_readsTask_37 : decode cX7_readsTask 37 = .ok (.iload_n 1, 1) := by decide +kernel
theorem dX7_readsTask_38 : decode cX7_readsTask 38 = .ok (.iconst 3, 1) := by decide +kernel
theorem dX7_readsTask_39 : decode cX7_readsTask 39 = .ok (.iconst 0, 1) := by decide +kernel
theorem dX7_readsTask_40 : decode cX7_readsTask 40 = .ok (.invokevirtual 74, 3) := by decide +kernel
theorem dX7_readsTask_43 : decode cX7_readsTask 43 = .ok (.aload_n 0, 1) := by decide +kernel
theorem dX7_readsTask_44 : decode cX7_readsTask 44 = .ok (.bipush 114, 2) := by decide +kernel
theorem dX7_readsTask_46 : decode cX7_readsTask 46 = .ok (.invokevirtual 59, 3) := by decide +kernel
theorem dX7_readsTask_49 : decode cX7_readsTask 49 = .ok (.ifCond .eq 53, 3) := by decide +kernel
theorem dX7_readsTask_52 : decode cX7_readsTask 52 = .ok (.aload_n 0, 1) := by decide +kernel
theorem dX7_readsTask_53 : decode cX7_readsTask 53 = .ok (.iconst 0, 1) := by decide +kernel
theorem dX7_readsTask_54 : decode cX7_readsTask 54 = .ok (.bipush 9, 2) := by decide +kernel
theorem dX7_readsTask_56 : decode cX7_readsTask 56 = .ok (.invokevirtual 55, 3) := by decide +kernel
theorem dX7_readsTask_59 : decode cX7_readsTask 59 = .ok (.ifCond .ne 5, 3) := by decide +kernel
theorem dX7_readsTask_62 : decode cX7_readsTask 62 = .ok (.iconst 0, 1) := by decide +kernel
theorem dX7_readsTask_63 : decode cX7_readsTask 63 = .ok (.ireturn, 1) := by decide +kernel
theorem dX7_readsTask_64 : decode cX7_readsTask 64 = .ok (.aload_n 0, 1) := by decide +kernel
theorem dX7_readsTask_65 : decode cX7_readsTask 65 = .ok (.iload_n 1, 1) := by decide +kernel
theorem dX7_readsTask_66 : decode cX7_readsTask 66 = .ok (.iconst 2, 1) := by decide +kernel
theorem dX7_readsTask_67 : decode cX7_readsTask 67 = .ok (.aload_n 0, 1) := by decide +kernel
theorem dX7_readsTask_68 : decode cX7_readsTask 68 = .ok (.getfield 52, 3) := by decide +kernel
theorem dX7_readsTask_71 : decode cX7_readsTask 71 = .ok (.invokevirtual 74, 3) := by decide +kernel
theorem dX7_readsTask_74 : decode cX7_readsTask 74 = .ok (.aload_n 0, 1) := by decide +kernel
theorem dX7_readsTask_75 : decode cX7_readsTask 75 = .ok (.bipush 43, 2) := by decide +kernel
theorem dX7_readsTask_77 : decode cX7_readsTask 77 = .ok (.invokevirtual 59, 3) := by decide +kernel
theorem dX7_readsTask_80 : decode cX7_readsTask 80 = .ok (.ifCond .eq 22, 3) := by decide +kernel
theorem dX7_readsTask_83 : decode cX7_readsTask 83 = .ok (.aload_n 0, 1) := by decide +kernel
theorem dX7_readsTask_84 : decode cX7_readsTask 84 = .ok (.invokevirtual 63, 3) := by decide +kernel
theorem dX7_readsTask_87 : decode cX7_readsTask 87 = .ok (.ifCond .ne 5, 3) := by decide +kernel
theorem dX7_readsTask_90 : decode cX7_readsTask 90 = .ok (.iconst 0, 1) := by decide +kernel
theorem dX7_readsTask_91 : decode cX7_readsTask 91 = .ok (.ireturn, 1) := by decide +kernel
theorem dX7_readsTask_92 : decode cX7_readsTask 92 = .ok (.aload_n 0, 1) := by decide +kernel
theorem dX7_readsTask_93 : decode cX7_readsTask 93 = .ok (.iload_n 1, 1) := by decide +kernel
theorem dX7_readsTask_94 : decode cX7_readsTask 94 = .ok (.iconst 3, 1) := by decide +kernel
theorem dX7_readsTask_95 : decode cX7_readsTask 95 = .ok (.aload_n 0, 1) := by decide +kernel
theorem dX7_readsTask_96 : decode cX7_readsTask 96 = .ok (.getfield 52, 3) := by decide +kernel
theorem dX7_readsTask_99 : decode cX7_readsTask 99 = .ok (.invokevirtual 74, 3) := by decide +kernel
theorem dX7_readsTask_102 : decode cX7_readsTask 102 = .ok (.aload_n 0, 1) := by decide +kernel
theorem dX7_readsTask_103 : decode cX7_readsTask 103 = .ok (.bipush 99, 2) := by decide +kernel
theorem dX7_readsTask_105 : decode cX7_readsTask 105 = .ok (.invokevirtual 59, 3) := by decide +kernel
theorem dX7_readsTask_108 : decode cX7_readsTask 108 = .ok (.ifCond .eq 22, 3) := by decide +kernel
theorem dX7_readsTask_111 : decode cX7_readsTask 111 = .ok (.aload_n 0, 1) := by decide +kernel
theorem dX7_readsTask_112 : decode cX7_readsTask 112 = .ok (.invokevirtual 118, 3) := by decide +kernel
theorem dX7_readsTask_115 : decode cX7_readsTask 115 = .ok (.ifCond .ne 5, 3) := by decide +kernel
theorem dX7_readsTask_118 : decode cX7_readsTask 118 = .ok (.iconst 0, 1) := by decide +kernel
theorem dX7_readsTask_119 : decode cX7_readsTask 119 = .ok (.ireturn, 1) := by decide +kernel
theorem dX7_readsTask_120 : decode cX7_readsTask 120 = .ok (.aload_n 0, 1) := by decide +kernel
theorem dX7_readsTask_121 : decode cX7_readsTask 121 = .ok (.iload_n 1, 1) := by decide +kernel
theorem dX7_readsTask_122 : decode cX7_readsTask 122 = .ok (.iconst 4, 1) := by decide +kernel
theorem dX7_readsTask_123 : decode cX7_readsTask 123 = .ok (.aload_n 0, 1) := by decide +kernel
theorem dX7_readsTask_124 : decode cX7_readsTask 124 = .ok (.getfield 52, 3) := by decide +kernel
theorem dX7_readsTask_127 : decode cX7_readsTask 127 = .ok (.invokevirtual 74, 3) := by decide +kernel
theorem dX7_readsTask_130 : decode cX7_readsTask 130 = .ok (.iconst 1, 1) := by decide +kernel
theorem dX7_readsTask_131 : decode cX7_readsTask 131 = .ok (.ireturn, 1) := by decide +kernel
theorem dX7_readsWait_0 : decode cX7_readsWait 0 = .ok (.aload_n 0, 1) := by decide +kernel
theorem dX7_readsWait_1 : decode cX7_readsWait 1 = .ok (.dup, 1) := by decide +kernel
theorem dX7_readsWait_2 : decode cX7_readsWait 2 = .ok (.getfield 45, 3) := by decide +kernel
theorem dX7_readsWait_5 : decode cX7_readsWait 5 = .ok (.iconst 1, 1) := by decide +kernel
theorem dX7_readsWait_6 : decode cX7_readsWait 6 = .ok (.iadd, 1) := by decide +kernel
theorem dX7_readsWait_7 : decode cX7_readsWait 7 = .ok (.putfield 45, 3) := by decide +kernel
theorem dX7_readsWait_10 : decode cX7_readsWait 10 = .ok (.aload_n 0, 1) := by decide +kernel
theorem dX7_readsWait_11 : decode cX7_readsWait 11 = .ok (.invokevirtual 63, 3) := by decide +kernel
theorem dX7_readsWait_14 : decode cX7_readsWait 14 = .ok (.istore_n 2, 1) := by decide +kernel
theorem dX7_readsWait_15 : decode cX7_readsWait 15 = .ok (.aload_n 0, 1) := by decide +kernel
theorem dX7_readsWait_16 : decode cX7_readsWait 16 = .ok (.iload_n 1, 1) := by decide +kernel
theorem dX7_readsWait_17 : decode cX7_readsWait 17 = .ok (.iconst 1, 1) := by decide +kernel
theorem dX7_readsWait_18 : decode cX7_readsWait 18 = .ok (.aload_n 0, 1) := by decide +kernel
theorem dX7_readsWait_19 : decode cX7_readsWait 19 = .ok (.getfield 52, 3) := by decide +kernel
theorem dX7_readsWait_22 : decode cX7_readsWait 22 = .ok (.invokevirtual 74, 3) := by decide +kernel
theorem dX7_readsWait_25 : decode cX7_readsWait 25 = .ok (.iload_n 2, 1) := by decide +kernel
theorem dX7_readsWait_26 : decode cX7_readsWait 26 = .ok (.ireturn, 1) := by decide +kernel
theorem dX7_readsSignal_0 : decode cX7_readsSignal 0 = .ok (.aload_n 0, 1) := by decide +kernel
theorem dX7_readsSignal_1 : decode cX7_readsSignal 1 = .ok (.dup, 1) := by decide +kernel
theorem dX7_readsSignal_2 : decode cX7_readsSignal 2 = .ok (.getfield 45, 3) := by decide +kernel
theorem dX7_readsSignal_5 : decode cX7_readsSignal 5 = .ok (.iconst 1, 1) := by decide +kernel
theorem dX7_readsSignal_6 : decode cX7_readsSignal 6 = .ok (.iadd, 1) := by decide +kernel
theorem dX7_readsSignal_7 : decode cX7_readsSignal 7 = .ok (.putfield 45, 3) := by decide +kernel
theorem dX7_readsSignal_10 : decode cX7_readsSignal 10 = .ok (.aload_n 0, 1) := by decide +kernel
theorem dX7_readsSignal_11 : decode cX7_readsSignal 11 = .ok (.invokevirtual 118, 3) := by decide +kernel
theorem dX7_readsSignal_14 : decode cX7_readsSignal 14 = .ok (.ifCond .ne 5, 3) := by decide +kernel
theorem dX7_readsSignal_17 : decode cX7_readsSignal 17 = .ok (.iconst 0, 1) := by decide +kernel
theorem dX7_readsSignal_18 : decode cX7_readsSignal 18 = .ok (.ireturn, 1) := by decide +kernel
theorem dX7_readsSignal_19 : decode cX7_readsSignal 19 = .ok (.aload_n 0, 1) := by decide +kernel
theorem dX7_readsSignal_20 : decode cX7_readsSignal 20 = .ok (.iload_n 1, 1) := by decide +kernel
theorem dX7_readsSignal_21 : decode cX7_readsSignal 21 = .ok (.iconst 1, 1) := by decide +kernel
theorem dX7_readsSignal_22 : decode cX7_readsSignal 22 = .ok (.aload_n 0, 1) := by decide +kernel
theorem dX7_readsSignal_23 : decode cX7_readsSignal 23 = .ok (.getfield 52, 3) := by decide +kernel
theorem dX7_readsSignal_26 : decode cX7_readsSignal 26 = .ok (.invokevirtual 74, 3) := by decide +kernel
theorem dX7_readsSignal_29 : decode cX7_readsSignal 29 = .ok (.aload_n 0, 1) := by decide +kernel
theorem dX7_readsSignal_30 : decode cX7_readsSignal 30 = .ok (.bipush 44, 2) := by decide +kernel
theorem dX7_readsSignal_32 : decode cX7_readsSignal 32 = .ok (.invokevirtual 59, 3) := by decide +kernel
theorem dX7_readsSignal_35 : decode cX7_readsSignal 35 = .ok (.ifCond .eq 22, 3) := by decide +kernel
theorem dX7_readsSignal_38 : decode cX7_readsSignal 38 = .ok (.aload_n 0, 1) := by decide +kernel
theorem dX7_readsSignal_39 : decode cX7_readsSignal 39 = .ok (.invokevirtual 63, 3) := by decide +kernel
theorem dX7_readsSignal_42 : decode cX7_readsSignal 42 = .ok (.ifCond .ne 5, 3) := by decide +kernel
theorem dX7_readsSignal_45 : decode cX7_readsSignal 45 = .ok (.iconst 0, 1) := by decide +kernel
theorem dX7_readsSignal_46 : decode cX7_readsSignal 46 = .ok (.ireturn, 1) := by decide +kernel
theorem dX7_readsSignal_47 : decode cX7_readsSignal 47 = .ok (.aload_n 0, 1) := by decide +kernel
theorem dX7_readsSignal_48 : decode cX7_readsSignal 48 = .ok (.iload_n 1, 1) := by decide +kernel
theorem dX7_readsSignal_49 : decode cX7_readsSignal 49 = .ok (.iconst 2, 1) := by decide +kernel
theorem dX7_readsSignal_50 : decode cX7_readsSignal 50 = .ok (.aload_n 0, 1) := by decide +kernel
theorem dX7_readsSignal_51 : decode cX7_readsSignal 51 = .ok (.getfield 52, 3) := by decide +kernel
theorem dX7_readsSignal_54 : decode cX7_readsSignal 54 = .ok (.invokevirtual 74, 3) := by decide +kernel
theorem dX7_readsSignal_57 : decode cX7_readsSignal 57 = .ok (.iconst 1, 1) := by decide +kernel
theorem dX7_readsSignal_58 : decode cX7_readsSignal 58 = .ok (.ireturn, 1) := by decide +kernel
theorem dX7_readsSet_0 : decode cX7_readsSet 0 = .ok (.aload_n 0, 1) := by decide +kernel
theorem dX7_readsSet_1 : decode cX7_readsSet 1 = .ok (.dup, 1) := by decide +kernel
theorem dX7_readsSet_2 : decode cX7_readsSet 2 = .ok (.getfield 45, 3) := by decide +kernel
theorem dX7_readsSet_5 : decode cX7_readsSet 5 = .ok (.iconst 1, 1) := by decide +kernel
theorem dX7_readsSet_6 : decode cX7_readsSet 6 = .ok (.iadd, 1) := by decide +kernel
theorem dX7_readsSet_7 : decode cX7_readsSet 7 = .ok (.putfield 45, 3) := by decide +kernel
theorem dX7_readsSet_10 : decode cX7_readsSet 10 = .ok (.aload_n 0, 1) := by decide +kernel
theorem dX7_readsSet_11 : decode cX7_readsSet 11 = .ok (.iconst 0, 1) := by decide +kernel
theorem dX7_readsSet_12 : decode cX7_readsSet 12 = .ok (.iconst 3, 1) := by decide +kernel
theorem dX7_readsSet_13 : decode cX7_readsSet 13 = .ok (.invokevirtual 55, 3) := by decide +kernel
theorem dX7_readsSet_16 : decode cX7_readsSet 16 = .ok (.ifCond .ne 5, 3) := by decide +kernel
theorem dX7_readsSet_19 : decode cX7_readsSet 19 = .ok (.iconst 0, 1) := by decide +kernel
theorem dX7_readsSet_20 : decode cX7_readsSet 20 = .ok (.ireturn, 1) := by decide +kernel
theorem dX7_readsSet_21 : decode cX7_readsSet 21 = .ok (.aload_n 0, 1) := by decide +kernel
theorem dX7_readsSet_22 : decode cX7_readsSet 22 = .ok (.iload_n 1, 1) := by decide +kernel
theorem dX7_readsSet_23 : decode cX7_readsSet 23 = .ok (.iconst 1, 1) := by decide +kernel
theorem dX7_readsSet_24 : decode cX7_readsSet 24 = .ok (.aload_n 0, 1) := by decide +kernel
theorem dX7_readsSet_25 : decode cX7_readsSet 25 = .ok (.getfield 52, 3) := by decide +kernel
theorem dX7_readsSet_28 : decode cX7_readsSet 28 = .ok (.invokevirtual 74, 3) := by decide +kernel
theorem dX7_readsSet_31 : decode cX7_readsSet 31 = .ok (.aload_n 0, 1) := by decide +kernel
theorem dX7_readsSet_32 : decode cX7_readsSet 32 = .ok (.invokevirtual 48, 3) := by decide +kernel
theorem dX7_readsSet_35 : decode cX7_readsSet 35 = .ok (.bipush 61, 2) := by decide +kernel
theorem dX7_readsSet_37 : decode cX7_readsSet 37 = .ok (.if_icmp .eq 14, 3) := by decide +kernel
theorem dX7_readsSet_40 : decode cX7_readsSet 40 = .ok (.aload_n 0, 1) := by decide +kernel
theorem dX7_readsSet_41 : decode cX7_readsSet 41 = .ok (.invokevirtual 48, 3) := by decide +kernel
theorem dX7_readsSet_44 : decode cX7_readsSet 44 = .ok (.bipush 43, 2) := by decide +kernel
theorem dX7_readsSet_46 : decode cX7_readsSet 46 = .ok (.if_icmp .eq 5, 3) := by decide +kernel
theorem dX7_readsSet_49 : decode cX7_readsSet 49 = .ok (.iconst 0, 1) := by decide +kernel
theorem dX7_readsSet_50 : decode cX7_readsSet 50 = .ok (.ireturn, 1) := by decide +kernel
theorem dX7_readsSet_51 : decode cX7_readsSet 51 = .ok (.aload_n 0, 1) := by decide +kernel
theorem dX7_readsSet_52 : decode cX7_readsSet 52 = .ok (.iload_n 1, 1) := by decide +kernel
theorem dX7_readsSet_53 : decode cX7_readsSet 53 = .ok (.iconst 2, 1) := by decide +kernel
theorem dX7_readsSet_54 : decode cX7_readsSet 54 = .ok (.aload_n 0, 1) := by decide +kernel
theorem dX7_readsSet_55 : decode cX7_readsSet 55 = .ok (.invokevirtual 48, 3) := by decide +kernel
theorem dX7_readsSet_58 : decode cX7_readsSet 58 = .ok (.bipush 43, 2) := by decide +kernel
theorem dX7_readsSet_60 : decode cX7_readsSet 60 = .ok (.if_icmp .ne 7, 3) := by decide +kernel
theorem dX7_readsSet_63 : decode cX7_readsSet 63 = .ok (.iconst 1, 1) := by decide +kernel
theorem dX7_readsSet_64 : decode cX7_readsSet 64 = .ok (.goto 4, 3) := by decide +kernel
theorem dX7_readsSet_67 : decode cX7_readsSet 67 = .ok (.iconst 0, 1) := by decide +kernel
theorem dX7_readsSet_68 : decode cX7_readsSet 68 = .ok (.invokevirtual 74, 3) := by decide +kernel
theorem dX7_readsSet_71 : decode cX7_readsSet 71 = .ok (.aload_n 0, 1) := by decide +kernel
theorem dX7_readsSet_72 : decode cX7_readsSet 72 = .ok (.dup, 1) := by decide +kernel
theorem dX7_readsSet_73 : decode cX7_readsSet 73 = .ok (.getfield 45, 3) := by decide +kernel
theorem dX7_readsSet_76 : decode cX7_readsSet 76 = .ok (.iconst 1, 1) := by decide +kernel
theorem dX7_readsSet_77 : decode cX7_readsSet 77 = .ok (.iadd, 1) := by decide +kernel
theorem dX7_readsSet_78 : decode cX7_readsSet 78 = .ok (.putfield 45, 3) := by decide +kernel
theorem dX7_readsSet_81 : decode cX7_readsSet 81 = .ok (.aload_n 0, 1) := by decide +kernel
theorem dX7_readsSet_82 : decode cX7_readsSet 82 = .ok (.invokevirtual 121, 3) := by decide +kernel
theorem dX7_readsSet_85 : decode cX7_readsSet 85 = .ok (.istore_n 2, 1) := by decide +kernel
theorem dX7_readsSet_86 : decode cX7_readsSet 86 = .ok (.aload_n 0, 1) := by decide +kernel
theorem dX7_readsSet_87 : decode cX7_readsSet 87 = .ok (.iload_n 1, 1) := by decide +kernel
theorem dX7_readsSet_88 : decode cX7_readsSet 88 = .ok (.iconst 3, 1) := by decide +kernel
theorem dX7_readsSet_89 : decode cX7_readsSet 89 = .ok (.aload_n 0, 1) := by decide +kernel
theorem dX7_readsSet_90 : decode cX7_readsSet 90 = .ok (.getfield 52, 3) := by decide +kernel
theorem dX7_readsSet_93 : decode cX7_readsSet 93 = .ok (.invokevirtual 74, 3) := by decide +kernel
theorem dX7_readsSet_96 : decode cX7_readsSet 96 = .ok (.iload_n 2, 1) := by decide +kernel
theorem dX7_readsSet_97 : decode cX7_readsSet 97 = .ok (.ireturn, 1) := by decide +kernel
theorem dX7_opens_0 : decode cX7_opens 0 = .ok (.aload_n 0, 1) := by decide +kernel
theorem dX7_opens_1 : decode cX7_opens 1 = .ok (.dup, 1) := by decide +kernel
theorem dX7_opens_2 : decode cX7_opens 2 = .ok (.getfield 94, 3) := by decide +kernel
theorem dX7_opens_5 : decode cX7_opens 5 = .ok (.iconst 1, 1) := by decide +kernel
theorem dX7_opens_6 : decode cX7_opens 6 = .ok (.iadd, 1) := by decide +kernel
theorem dX7_opens_7 : decode cX7_opens 7 = .ok (.putfield 94, 3) := by decide +kernel
theorem dX7_opens_10 : decode cX7_opens 10 = .ok (.aload_n 0, 1) := by decide +kernel
theorem dX7_opens_11 : decode cX7_opens 11 = .ok (.aload_n 0, 1) := by decide +kernel
theorem dX7_opens_12 : decode cX7_opens 12 = .ok (.getfield 124, 3) := by decide +kernel
theorem dX7_opens_15 : decode cX7_opens 15 = .ok (.aload_n 0, 1) := by decide +kernel
theorem dX7_opens_16 : decode cX7_opens 16 = .ok (.getfield 94, 3) := by decide +kernel
theorem dX7_opens_19 : decode cX7_opens 19 = .ok (.invokestatic 127, 3) := by decide +kernel
theorem dX7_opens_22 : decode cX7_opens 22 = .ok (.putfield 124, 3) := by decide +kernel
theorem dX7_opens_25 : decode cX7_opens 25 = .ok (.return_, 1) := by decide +kernel
theorem dX7_readsChoice_0 : decode cX7_readsChoice 0 = .ok (.aload_n 0, 1) := by decide +kernel
theorem dX7_readsChoice_1 : decode cX7_readsChoice 1 = .ok (.dup, 1) := by decide +kernel
theorem dX7_readsChoice_2 : decode cX7_readsChoice 2 = .ok (.getfield 45, 3) := by decide +kernel
theorem dX7_readsChoice_5 : decode cX7_readsChoice 5 = .ok (.iconst 1, 1) := by decide +kernel
theorem dX7_readsChoice_6 : decode cX7_readsChoice 6 = .ok (.iadd, 1) := by decide +kernel
theorem dX7_readsChoice_7 : decode cX7_readsChoice 7 = .ok (.putfield 45, 3) := by decide +kernel
theorem dX7_readsChoice_10 : decode cX7_readsChoice 10 = .ok (.aload_n 0, 1) := by decide +kernel
theorem dX7_readsChoice_11 : decode cX7_readsChoice 11 = .ok (.invokevirtual 132, 3) := by decide +kernel
theorem dX7_readsChoice_14 : decode cX7_readsChoice 14 = .ok (.aload_n 0, 1) := by decide +kernel
theorem dX7_readsChoice_15 : decode cX7_readsChoice 15 = .ok (.bipush 120, 2) := by decide +kernel
theorem dX7_readsChoice_17 : decode cX7_readsChoice 17 = .ok (.invokevirtual 59, 3) := by decide +kernel
theorem dX7_readsChoice_20 : decode cX7_readsChoice 20 = .ok (.ifCond .eq 12, 3) := by decide +kernel
theorem dX7_readsChoice_23 : decode cX7_readsChoice 23 = .ok (.aload_n 0, 1) := by decide +kernel
theorem dX7_readsChoice_24 : decode cX7_readsChoice 24 = .ok (.iconst 0, 1) := by decide +kernel
theorem dX7_readsChoice_25 : decode cX7_readsChoice 25 = .ok (.iconst 3, 1) := by decide +kernel
theorem dX7_readsChoice_26 : decode cX7_readsChoice 26 = .ok (.invokevirtual 55, 3) := by decide +kernel
theorem dX7_readsChoice_29 : decode cX7_readsChoice 29 = .ok (.ifCond .ne 5, 3) := by decide +kernel
theorem dX7_readsChoice_32 : decode cX7_readsChoice 32 = .ok (.iconst 0, 1) := by decide +kernel
theorem dX7_readsChoice_33 : decode cX7_readsChoice 33 = .ok (.ireturn, 1) := by decide +kernel
theorem dX7_readsChoice_34 : decode cX7_readsChoice 34 = .ok (.aload_n 0, 1) := by decide +kernel
theorem dX7_readsChoice_35 : decode cX7_readsChoice 35 = .ok (.iload_n 1, 1) := by decide +kernel
theorem dX7_readsChoice_36 : decode cX7_readsChoice 36 = .ok (.iconst 1, 1) := by decide +kernel
theorem dX7_readsChoice_37 : decode cX7_readsChoice 37 = .ok (.aload_n 0, 1) := by decide +kernel
theorem dX7_readsChoice_38 : decode cX7_readsChoice 38 = .ok (.getfield 52, 3) := by decide +kernel
theorem dX7_readsChoice_41 : decode cX7_readsChoice 41 = .ok (.invokevirtual 74, 3) := by decide +kernel
theorem dX7_readsChoice_44 : decode cX7_readsChoice 44 = .ok (.aload_n 0, 1) := by decide +kernel
theorem dX7_readsChoice_45 : decode cX7_readsChoice 45 = .ok (.bipush 60, 2) := by decide +kernel
theorem dX7_readsChoice_47 : decode cX7_readsChoice 47 = .ok (.invokevirtual 59, 3) := by decide +kernel
theorem dX7_readsChoice_50 : decode cX7_readsChoice 50 = .ok (.ifCond .eq 10, 3) := by decide +kernel
theorem dX7_readsChoice_53 : decode cX7_readsChoice 53 = .ok (.aload_n 0, 1) := by decide +kernel
theorem dX7_readsChoice_54 : decode cX7_readsChoice 54 = .ok (.invokevirtual 121, 3) := by decide +kernel
theorem dX7_readsChoice_57 : decode cX7_readsChoice 57 = .ok (.ifCond .ne 5, 3) := by decide +kernel
theorem dX7_readsChoice_60 : decode cX7_readsChoice 60 = .ok (.iconst 0, 1) := by decide +kernel
theorem dX7_readsChoice_61 : decode cX7_readsChoice 61 = .ok (.ireturn, 1) := by decide +kernel
theorem dX7_readsChoice_62 : decode cX7_readsChoice 62 = .ok (.aload_n 0, 1) := by decide +kernel
theorem dX7_readsChoice_63 : decode cX7_readsChoice 63 = .ok (.iload_n 1, 1) := by decide +kernel
theorem dX7_readsChoice_64 : decode cX7_readsChoice 64 = .ok (.iconst 2, 1) := by decide +kernel
theorem dX7_readsChoice_65 : decode cX7_readsChoice 65 = .ok (.aload_n 0, 1) := by decide +kernel
theorem dX7_readsChoice_66 : decode cX7_readsChoice 66 = .ok (.getfield 52, 3) := by decide +kernel
theorem dX7_readsChoice_69 : decode cX7_readsChoice 69 = .ok (.invokevirtual 74, 3) := by decide +kernel
theorem dX7_readsChoice_72 : decode cX7_readsChoice 72 = .ok (.aload_n 0, 1) := by decide +kernel
theorem dX7_readsChoice_73 : decode cX7_readsChoice 73 = .ok (.bipush 58, 2) := by decide +kernel
theorem dX7_readsChoice_75 : decode cX7_readsChoice 75 = .ok (.invokevirtual 59, 3) := by decide +kernel
theorem dX7_readsChoice_78 : decode cX7_readsChoice 78 = .ok (.ifCond .ne 5, 3) := by decide +kernel
theorem dX7_readsChoice_81 : decode cX7_readsChoice 81 = .ok (.iconst 0, 1) := by decide +kernel
theorem dX7_readsChoice_82 : decode cX7_readsChoice 82 = .ok (.ireturn, 1) := by decide +kernel
theorem dX7_readsChoice_83 : decode cX7_readsChoice 83 = .ok (.aload_n 0, 1) := by decide +kernel
theorem dX7_readsChoice_84 : decode cX7_readsChoice 84 = .ok (.getfield 71, 3) := by decide +kernel
theorem dX7_readsChoice_87 : decode cX7_readsChoice 87 = .ok (.istore_n 2, 1) := by decide +kernel
theorem dX7_readsChoice_88 : decode cX7_readsChoice 88 = .ok (.aload_n 0, 1) := by decide +kernel
theorem dX7_readsChoice_89 : decode cX7_readsChoice 89 = .ok (.iload_n 1, 1) := by decide +kernel
theorem dX7_readsChoice_90 : decode cX7_readsChoice 90 = .ok (.iconst (-1), 1) := by decide +kernel
theorem dX7_readsChoice_91 : decode cX7_readsChoice 91 = .ok (.invokevirtual 135, 3) := by decide +kernel
theorem dX7_readsChoice_94 : decode cX7_readsChoice 94 = .ok (.ifCond .eq 30, 3) := by decide +kernel
theorem dX7_readsChoice_97 : decode cX7_readsChoice 97 = .ok (.aload_n 0, 1) := by decide +kernel
theorem dX7_readsChoice_98 : decode cX7_readsChoice 98 = .ok (.bipush 124, 2) := by decide +kernel
theorem dX7_readsChoice_100 : decode cX7_readsChoice 100 = .ok (.invokevirtual 59, 3) := by decide +kernel
theorem dX7_readsChoice_103 : decode cX7_readsChoice 103 = .ok (.ifCond .eq 21, 3) := by decide +kernel
theorem dX7_readsChoice_106 : decode cX7_readsChoice 106 = .ok (.aload_n 0, 1) := by decide +kernel
theorem dX7_readsChoice_107 : decode cX7_readsChoice 107 = .ok (.iload_n 1, 1) := by decide +kernel
theorem dX7_readsChoice_108 : decode cX7_readsChoice 108 = .ok (.iload_n 2, 1) := by decide +kernel
theorem dX7_readsChoice_109 : decode cX7_readsChoice 109 = .ok (.invokevirtual 135, 3) := by decide +kernel
theorem dX7_readsChoice_112 : decode cX7_readsChoice 112 = .ok (.ifCond .eq 12, 3) := by decide +kernel
theorem dX7_readsChoice_115 : decode cX7_readsChoice 115 = .ok (.aload_n 0, 1) := by decide +kernel
theorem dX7_readsChoice_116 : decode cX7_readsChoice 116 = .ok (.bipush 93, 2) := by decide +kernel
theorem dX7_readsChoice_118 : decode cX7_readsChoice 118 = .ok (.invokevirtual 59, 3) := by decide +kernel
theorem dX7_readsChoice_121 : decode cX7_readsChoice 121 = .ok (.ifCond .ne 5, 3) := by decide +kernel
theorem dX7_readsChoice_124 : decode cX7_readsChoice 124 = .ok (.iconst 0, 1) := by decide +kernel
theorem dX7_readsChoice_125 : decode cX7_readsChoice 125 = .ok (.ireturn, 1) := by decide +kernel
theorem dX7_readsChoice_126 : decode cX7_readsChoice 126 = .ok (.aload_n 0, 1) := by decide +kernel
theorem dX7_readsChoice_127 : decode cX7_readsChoice 127 = .ok (.dup, 1) := by decide +kernel
theorem dX7_readsChoice_128 : decode cX7_readsChoice 128 = .ok (.getfield 94, 3) := by decide +kernel
theorem dX7_readsChoice_131 : decode cX7_readsChoice 131 = .ok (.iconst 1, 1) := by decide +kernel
theorem dX7_readsChoice_132 : decode cX7_readsChoice 132 = .ok (.isub, 1) := by decide +kernel
theorem dX7_readsChoice_133 : decode cX7_readsChoice 133 = .ok (.putfield 94, 3) := by decide +kernel
theorem dX7_readsChoice_136 : decode cX7_readsChoice 136 = .ok (.iconst 1, 1) := by decide +kernel
theorem dX7_readsChoice_137 : decode cX7_readsChoice 137 = .ok (.ireturn, 1) := by decide +kernel
theorem dX7_readsParallel_0 : decode cX7_readsParallel 0 = .ok (.aload_n 0, 1) := by decide +kernel
theorem dX7_readsParallel_1 : decode cX7_readsParallel 1 = .ok (.dup, 1) := by decide +kernel
theorem dX7_readsParallel_2 : decode cX7_readsParallel 2 = .ok (.getfield 45, 3) := by decide +kernel
theorem dX7_readsParallel_5 : decode cX7_readsParallel 5 = .ok (.iconst 1, 1) := by decide +kernel
theorem dX7_readsParallel_6 : decode cX7_readsParallel 6 = .ok (.iadd, 1) := by decide +kernel
theorem dX7_readsParallel_7 : decode cX7_readsParallel 7 = .ok (.putfield 45, 3) := by decide +kernel
theorem dX7_readsParallel_10 : decode cX7_readsParallel 10 = .ok (.aload_n 0, 1) := by decide +kernel
theorem dX7_readsParallel_11 : decode cX7_readsParallel 11 = .ok (.invokevirtual 132, 3) := by decide +kernel
theorem dX7_readsParallel_14 : decode cX7_readsParallel 14 = .ok (.iconst 0, 1) := by decide +kernel
theorem dX7_readsParallel_15 : decode cX7_readsParallel 15 = .ok (.istore_n 2, 1) := by decide +kernel
theorem dX7_readsParallel_16 : decode cX7_readsParallel 16 = .ok (.iconst (-1), 1) := by decide +kernel
theorem dX7_readsParallel_17 : decode cX7_readsParallel 17 = .ok (.istore_n 3, 1) := by decide +kernel
theorem dX7_readsParallel_18 : decode cX7_readsParallel 18 = .ok (.iload_n 2, 1) := by decide +kernel
theorem dX7_readsParallel_19 : decode cX7_readsParallel 19 = .ok (.iconst 4, 1) := by decide +kernel
theorem dX7_readsParallel_20 : decode cX7_readsParallel 20 = .ok (.if_icmp .ne 24, 3) := by decide +kernel
theorem dX7_readsParallel_23 : decode cX7_readsParallel 23 = .ok (.aload_n 0, 1) := by decide +kernel
theorem dX7_readsParallel_24 : decode cX7_readsParallel 24 = .ok (.aload_n 0, 1) := by decide +kernel
theorem dX7_readsParallel_25 : decode cX7_readsParallel 25 = .ok (.invokevirtual 48, 3) := by decide +kernel
theorem dX7_readsParallel_28 : decode cX7_readsParallel 28 = .ok (.invokestatic 88, 3) := by decide +kernel
theorem dX7_readsParallel_31 : decode cX7_readsParallel 31 = .ok (.ifCond .eq 7, 3) := by decide +kernel
theorem dX7_readsParallel_34 : decode cX7_readsParallel 34 = .ok (.iconst 2, 1) := by decide +kernel
theorem dX7_readsParallel_35 : decode cX7_readsParallel 35 = .ok (.goto 4, 3) := by decide +kernel
theorem dX7_readsParallel_38 : decode cX7_readsParallel 38 = .ok (.iconst 1, 1) := by decide +kernel
theorem dX7_readsParallel_39 : decode cX7_readsParallel 39 = .ok (.putfield 78, 3) := by decide +kernel
theorem dX7_readsParallel_42 : decode cX7_readsParallel 42 = .ok (.iconst 0, 1) := by decide +kernel
theorem dX7_readsParallel_43 : decode cX7_readsParallel 43 = .ok (.ireturn, 1) := by decide +kernel
theorem dX7_readsParallel_44 : decode cX7_readsParallel 44 = .ok (.aload_n 0, 1) := by decide +kernel
theorem dX7_readsParallel_45 : decode cX7_readsParallel 45 = .ok (.getfield 71, 3) := by decide +kernel
theorem dX7_readsParallel_48 : decode cX7_readsParallel 48 = .ok (.istore 4, 2) := by decide +kernel
theorem dX7_readsParallel_50 : decode cX7_readsParallel 50 = .ok (.aload_n 0, 1) := by decide +kernel
theorem dX7_readsParallel_51 : decode cX7_readsParallel 51 = .ok (.iload_n 1, 1) := by decide +kernel
theorem dX7_readsParallel_52 : decode cX7_readsParallel 52 = .ok (.iload_n 3, 1) := by decide +kernel
theorem dX7_readsParallel_53 : decode cX7_readsParallel 53 = .ok (.invokevirtual 135, 3) := by decide +kernel
theorem dX7_readsParallel_56 : decode cX7_readsParallel 56 = .ok (.ifCond .ne 5, 3) := by decide +kernel
theorem dX7_readsParallel_59 : decode cX7_readsParallel 59 = .ok (.iconst 0, 1) := by decide +kernel
theorem dX7_readsParallel_60 : decode cX7_readsParallel 60 = .ok (.ireturn, 1) := by decide +kernel
theorem dX7_readsParallel_61 : decode cX7_readsParallel 61 = .ok (.iload 4, 2) := by decide +kernel
theorem dX7_readsParallel_63 : decode cX7_readsParallel 63 = .ok (.istore_n 3, 1) := by decide +kernel
theorem dX7_readsParallel_64 : decode cX7_readsParallel 64 = .ok (.iinc 2 1, 3) := by decide +kernel
theorem dX7_readsParallel_67 : decode cX7_readsParallel 67 = .ok (.aload_n 0, 1) := by decide +kernel
theorem dX7_readsParallel_68 : decode cX7_readsParallel 68 = .ok (.bipush 124, 2) := by decide +kernel
theorem dX7_readsParallel_70 : decode cX7_readsParallel 70 = .ok (.invokevirtual 59, 3) := by decide +kernel
theorem dX7_readsParallel_73 : decode cX7_readsParallel 73 = .ok (.ifCond .ne (-55), 3) := by decide +kernel
theorem dX7_readsParallel_76 : decode cX7_readsParallel 76 = .ok (.aload_n 0, 1) := by decide +kernel
theorem dX7_readsParallel_77 : decode cX7_readsParallel 77 = .ok (.bipush 41, 2) := by decide +kernel
theorem dX7_readsParallel_79 : decode cX7_readsParallel 79 = .ok (.invokevirtual 59, 3) := by decide +kernel
theorem dX7_readsParallel_82 : decode cX7_readsParallel 82 = .ok (.ifCond .ne 5, 3) := by decide +kernel
theorem dX7_readsParallel_85 : decode cX7_readsParallel 85 = .ok (.iconst 0, 1) := by decide +kernel
theorem dX7_readsParallel_86 : decode cX7_readsParallel 86 = .ok (.ireturn, 1) := by decide +kernel
theorem dX7_readsParallel_87 : decode cX7_readsParallel 87 = .ok (.aload_n 0, 1) := by decide +kernel
theorem dX7_readsParallel_88 : decode cX7_readsParallel 88 = .ok (.dup, 1) := by decide +kernel
theorem dX7_readsParallel_89 : decode cX7_readsParallel 89 = .ok (.getfield 94, 3) := by decide +kernel
theorem dX7_readsParallel_92 : decode cX7_readsParallel 92 = .ok (.iconst 1, 1) := by decide +kernel
theorem dX7_readsParallel_93 : decode cX7_readsParallel 93 = .ok (.isub, 1) := by decide +kernel
theorem dX7_readsParallel_94 : decode cX7_readsParallel 94 = .ok (.putfield 94, 3) := by decide +kernel
theorem dX7_readsParallel_97 : decode cX7_readsParallel 97 = .ok (.aload_n 0, 1) := by decide +kernel
theorem dX7_readsParallel_98 : decode cX7_readsParallel 98 = .ok (.iload_n 1, 1) := by decide +kernel
theorem dX7_readsParallel_99 : decode cX7_readsParallel 99 = .ok (.iconst 1, 1) := by decide +kernel
theorem dX7_readsParallel_100 : decode cX7_readsParallel 100 = .ok (.iload_n 2, 1) := by decide +kernel
theorem dX7_readsParallel_101 : decode cX7_readsParallel 101 = .ok (.invokevirtual 74, 3) := by decide +kernel
theorem dX7_readsParallel_104 : decode cX7_readsParallel 104 = .ok (.aload_n 0, 1) := by decide +kernel
theorem dX7_readsParallel_105 : decode cX7_readsParallel 105 = .ok (.bipush 113, 2) := by decide +kernel
theorem dX7_readsParallel_107 : decode cX7_readsParallel 107 = .ok (.invokevirtual 59, 3) := by decide +kernel
theorem dX7_readsParallel_110 : decode cX7_readsParallel 110 = .ok (.ifCond .eq 24, 3) := by decide +kernel
theorem dX7_readsParallel_113 : decode cX7_readsParallel 113 = .ok (.aload_n 0, 1) := by decide +kernel
theorem dX7_readsParallel_114 : decode cX7_readsParallel 114 = .ok (.iconst 1, 1) := by decide +kernel
theorem dX7_readsParallel_115 : decode cX7_readsParallel 115 = .ok (.iload_n 2, 1) := by decide +kernel
theorem dX7_readsParallel_116 : decode cX7_readsParallel 116 = .ok (.invokevirtual 55, 3) := by decide +kernel
theorem dX7_readsParallel_119 : decode cX7_readsParallel 119 = .ok (.ifCond .ne 5, 3) := by decide +kernel
theorem dX7_readsParallel_122 : decode cX7_readsParallel 122 = .ok (.iconst 0, 1) := by decide +kernel
theorem dX7_readsParallel_123 : decode cX7_readsParallel 123 = .ok (.ireturn, 1) := by decide +kernel
theorem dX7_readsParallel_124 : decode cX7_readsParallel 124 = .ok (.aload_n 0, 1) := by decide +kernel
theorem dX7_readsParallel_125 : decode cX7_readsParallel 125 = .ok (.iload_n 1, 1) := by decide +kernel
theorem dX7_readsParallel_126 : decode cX7_readsParallel 126 = .ok (.iconst 1, 1) := by decide +kernel
theorem dX7_readsParallel_127 : decode cX7_readsParallel 127 = .ok (.aload_n 0, 1) := by decide +kernel
theorem dX7_readsParallel_128 : decode cX7_readsParallel 128 = .ok (.getfield 52, 3) := by decide +kernel
theorem dX7_readsParallel_131 : decode cX7_readsParallel 131 = .ok (.invokevirtual 74, 3) := by decide +kernel
theorem dX7_readsParallel_134 : decode cX7_readsParallel 134 = .ok (.aload_n 0, 1) := by decide +kernel
theorem dX7_readsParallel_135 : decode cX7_readsParallel 135 = .ok (.iload_n 1, 1) := by decide +kernel
theorem dX7_readsParallel_136 : decode cX7_readsParallel 136 = .ok (.iconst 2, 1) := by decide +kernel
theorem dX7_readsParallel_137 : decode cX7_readsParallel 137 = .ok (.iload_n 2, 1) := by decide +kernel
theorem dX7_readsParallel_138 : decode cX7_readsParallel 138 = .ok (.invokevirtual 74, 3) := by decide +kernel
theorem dX7_readsParallel_141 : decode cX7_readsParallel 141 = .ok (.iconst 1, 1) := by decide +kernel
theorem dX7_readsParallel_142 : decode cX7_readsParallel 142 = .ok (.ireturn, 1) := by decide +kernel
theorem dX7_define_0 : decode cX7_define 0 = .ok (.iload_n 1, 1) := by decide +kernel
theorem dX7_define_1 : decode cX7_define 1 = .ok (.invokestatic 138, 3) := by decide +kernel
theorem dX7_define_4 : decode cX7_define 4 = .ok (.ifCond .ne 5, 3) := by decide +kernel
theorem dX7_define_7 : decode cX7_define 7 = .ok (.iconst (-1), 1) := by decide +kernel
theorem dX7_define_8 : decode cX7_define 8 = .ok (.ireturn, 1) := by decide +kernel
theorem dX7_define_9 : decode cX7_define 9 = .ok (.aload_n 0, 1) := by decide +kernel
theorem dX7_define_10 : decode cX7_define 10 = .ok (.getfield 22, 3) := by decide +kernel
theorem dX7_define_13 : decode cX7_define 13 = .ok (.bipush 17, 2) := by decide +kernel
theorem dX7_define_15 : decode cX7_define 15 = .ok (.iload_n 1, 1) := by decide +kernel
theorem dX7_define_16 : decode cX7_define 16 = .ok (.iadd, 1) := by decide +kernel
theorem dX7_define_17 : decode cX7_define 17 = .ok (.iaload, 1) := by decide +kernel
theorem dX7_define_18 : decode cX7_define 18 = .ok (.iconst 4, 1) := by decide +kernel
theorem dX7_define_19 : decode cX7_define 19 = .ok (.if_icmp .ne 6, 3) := by decide +kernel
theorem dX7_define_22 : decode cX7_define 22 = .ok (.bipush (-4), 2) := by decide +kernel
theorem dX7_define_24 : decode cX7_define 24 = .ok (.ireturn, 1) := by decide +kernel
theorem dX7_define_25 : decode cX7_define 25 = .ok (.aload_n 0, 1) := by decide +kernel
theorem dX7_define_26 : decode cX7_define 26 = .ok (.iconst 0, 1) := by decide +kernel
theorem dX7_define_27 : decode cX7_define 27 = .ok (.putfield 45, 3) := by decide +kernel
theorem dX7_define_30 : decode cX7_define 30 = .ok (.aload_n 0, 1) := by decide +kernel
theorem dX7_define_31 : decode cX7_define 31 = .ok (.iconst 1, 1) := by decide +kernel
theorem dX7_define_32 : decode cX7_define 32 = .ok (.putfield 78, 3) := by decide +kernel
theorem dX7_define_35 : decode cX7_define 35 = .ok (.aload_n 0, 1) := by decide +kernel
theorem dX7_define_36 : decode cX7_define 36 = .ok (.iconst 0, 1) := by decide +kernel
theorem dX7_define_37 : decode cX7_define 37 = .ok (.putfield 71, 3) := by decide +kernel
theorem dX7_define_40 : decode cX7_define 40 = .ok (.aload_n 0, 1) := by decide +kernel
theorem dX7_define_41 : decode cX7_define 41 = .ok (.iconst 0, 1) := by decide +kernel
theorem dX7_define_42 : decode cX7_define 42 = .ok (.putfield 91, 3) := by decide +kernel
theorem dX7_define_45 : decode cX7_define 45 = .ok (.aload_n 0, 1) := by decide +kernel
theorem dX7_define_46 : decode cX7_define 46 = .ok (.iconst 0, 1) := by decide +kernel
theorem dX7_define_47 : decode cX7_define 47 = .ok (.putfield 94, 3) := by decide +kernel
theorem dX7_define_50 : decode cX7_define 50 = .ok (.aload_n 0, 1) := by decide +kernel
theorem dX7_define_51 : decode cX7_define 51 = .ok (.iconst 0, 1) := by decide +kernel
theorem dX7_define_52 : decode cX7_define 52 = .ok (.putfield 124, 3) := by decide +kernel
theorem dX7_define_55 : decode cX7_define 55 = .ok (.aload_n 0, 1) := by decide +kernel
theorem dX7_define_56 : decode cX7_define 56 = .ok (.iconst (-1), 1) := by decide +kernel
theorem dX7_define_57 : decode cX7_define 57 = .ok (.iconst (-1), 1) := by decide +kernel
theorem dX7_define_58 : decode cX7_define 58 = .ok (.invokevirtual 135, 3) := by decide +kernel
theorem dX7_define_61 : decode cX7_define 61 = .ok (.ifCond .eq 18, 3) := by decide +kernel
theorem dX7_define_64 : decode cX7_define 64 = .ok (.aload_n 0, 1) := by decide +kernel
theorem dX7_define_65 : decode cX7_define 65 = .ok (.getfield 45, 3) := by decide +kernel
theorem dX7_define_68 : decode cX7_define 68 = .ok (.aload_n 0, 1) := by decide +kernel
theorem dX7_define_69 : decode cX7_define 69 = .ok (.getfield 42, 3) := by decide +kernel
theorem dX7_define_72 : decode cX7_define 72 = .ok (.if_icmp .ne 7, 3) := by decide +kernel
theorem dX7_define_75 : decode cX7_define 75 = .ok (.iconst 1, 1) := by decide +kernel
theorem dX7_define_76 : decode cX7_define 76 = .ok (.goto 4, 3) := by decide +kernel
theorem dX7_define_79 : decode cX7_define 79 = .ok (.iconst 0, 1) := by decide +kernel
theorem dX7_define_80 : decode cX7_define 80 = .ok (.istore_n 2, 1) := by decide +kernel
theorem dX7_define_81 : decode cX7_define 81 = .ok (.aload_n 0, 1) := by decide +kernel
theorem dX7_define_82 : decode cX7_define 82 = .ok (.getfield 42, 3) := by decide +kernel
theorem dX7_define_85 : decode cX7_define 85 = .ok (.istore_n 3, 1) := by decide +kernel
theorem dX7_define_86 : decode cX7_define 86 = .ok (.aload_n 0, 1) := by decide +kernel
theorem dX7_define_87 : decode cX7_define 87 = .ok (.iconst 0, 1) := by decide +kernel
theorem dX7_define_88 : decode cX7_define 88 = .ok (.putfield 42, 3) := by decide +kernel
theorem dX7_define_91 : decode cX7_define 91 = .ok (.aload_n 0, 1) := by decide +kernel
theorem dX7_define_92 : decode cX7_define 92 = .ok (.iload_n 2, 1) := by decide +kernel
theorem dX7_define_93 : decode cX7_define 93 = .ok (.ifCond .eq 7, 3) := by decide +kernel
theorem dX7_define_96 : decode cX7_define 96 = .ok (.iconst (-1), 1) := by decide +kernel
theorem dX7_define_97 : decode cX7_define 97 = .ok (.goto 7, 3) := by decide +kernel
theorem dX7_define_100 : decode cX7_define 100 = .ok (.aload_n 0, 1) := by decide +kernel
theorem dX7_define_101 : decode cX7_define 101 = .ok (.getfield 45, 3) := by decide +kernel
theorem dX7_define_104 : decode cX7_define 104 = .ok (.putfield 34, 3) := by decide +kernel
theorem dX7_define_107 : decode cX7_define 107 = .ok (.aload_n 0, 1) := by decide +kernel
theorem dX7_define_108 : decode cX7_define 108 = .ok (.aload_n 0, 1) := by decide +kernel
theorem dX7_define_109 : decode cX7_define 109 = .ok (.getfield 78, 3) := by decide +kernel
theorem dX7_define_112 : decode cX7_define 112 = .ok (.putfield 141, 3) := by decide +kernel
theorem dX7_define_115 : decode cX7_define 115 = .ok (.iload_n 2, 1) := by decide +kernel
theorem dX7_define_116 : decode cX7_define 116 = .ok (.ifCond .ne 11, 3) := by decide +kernel
theorem dX7_define_119 : decode cX7_define 119 = .ok (.bipush (-100), 2) := by decide +kernel
theorem dX7_define_121 : decode cX7_define 121 = .ok (.aload_n 0, 1) := by decide +kernel
theorem dX7_define_122 : decode cX7_define 122 = .ok (.getfield 45, 3) := by decide +kernel
theorem dX7_define_125 : decode cX7_define 125 = .ok (.isub, 1) := by decide +kernel
theorem dX7_define_126 : decode cX7_define 126 = .ok (.ireturn, 1) := by decide +kernel
theorem dX7_define_127 : decode cX7_define 127 = .ok (.aload_n 0, 1) := by decide +kernel
theorem dX7_define_128 : decode cX7_define 128 = .ok (.getfield 22, 3) := by decide +kernel
theorem dX7_define_131 : decode cX7_define 131 = .ok (.bipush 17, 2) := by decide +kernel
theorem dX7_define_133 : decode cX7_define 133 = .ok (.iload_n 1, 1) := by decide +kernel
theorem dX7_define_134 : decode cX7_define 134 = .ok (.iadd, 1) := by decide +kernel
theorem dX7_define_135 : decode cX7_define 135 = .ok (.iaload, 1) := by decide +kernel
theorem dX7_define_136 : decode cX7_define 136 = .ok (.istore 4, 2) := by decide +kernel
theorem dX7_define_138 : decode cX7_define 138 = .ok (.iconst 4, 1) := by decide +kernel
theorem dX7_define_139 : decode cX7_define 139 = .ok (.iload_n 1, 1) := by decide +kernel
theorem dX7_define_140 : decode cX7_define 140 = .ok (.imul, 1) := by decide +kernel
theorem dX7_define_141 : decode cX7_define 141 = .ok (.iload 4, 2) := by decide +kernel
theorem dX7_define_143 : decode cX7_define 143 = .ok (.iadd, 1) := by decide +kernel
theorem dX7_define_144 : decode cX7_define 144 = .ok (.istore 5, 2) := by decide +kernel
theorem dX7_define_146 : decode cX7_define 146 = .ok (.iconst 0, 1) := by decide +kernel
theorem dX7_define_147 : decode cX7_define 147 = .ok (.istore 6, 2) := by decide +kernel
theorem dX7_define_149 : decode cX7_define 149 = .ok (.iload 6, 2) := by decide +kernel
theorem dX7_define_151 : decode cX7_define 151 = .ok (.sipush 576, 3) := by decide +kernel
theorem dX7_define_154 : decode cX7_define 154 = .ok (.if_icmp .ge 39, 3) := by decide +kernel
theorem dX7_define_157 : decode cX7_define 157 = .ok (.aload_n 0, 1) := by decide +kernel
theorem dX7_define_158 : decode cX7_define 158 = .ok (.getfield 9, 3) := by decide +kernel
theorem dX7_define_161 : decode cX7_define 161 = .ok (.iload 5, 2) := by decide +kernel
theorem dX7_define_163 : decode cX7_define 163 = .ok (.iconst 0, 1) := by decide +kernel
theorem dX7_define_164 : decode cX7_define 164 = .ok (.iconst 0, 1) := by decide +kernel
theorem dX7_define_165 : decode cX7_define 165 = .ok (.invokestatic 67, 3) := by decide +kernel
theorem dX7_define_168 : decode cX7_define 168 = .ok (.iload 6, 2) := by decide +kernel
theorem dX7_define_170 : decode cX7_define 170 = .ok (.iadd, 1) := by decide +kernel
theorem dX7_define_171 : decode cX7_define 171 = .ok (.aload_n 0, 1) := by decide +kernel
theorem dX7_define_172 : decode cX7_define 172 = .ok (.getfield 9, 3) := by decide +kernel
theorem dX7_define_175 : decode cX7_define 175 = .ok (.bipush 16, 2) := by decide +kernel
theorem dX7_define_177 : decode cX7_define 177 = .ok (.iconst 0, 1) := by decide +kernel
theorem dX7_define_178 : decode cX7_define 178 = .ok (.iconst 0, 1) := by decide +kernel
theorem dX7_define_179 : decode cX7_define 179 = .ok (.invokestatic 67, 3) := by decide +kernel
theorem dX7_define_182 : decode cX7_define 182 = .ok (.iload 6, 2) := by decide +kernel
theorem dX7_define_184 : decode cX7_define 184 = .ok (.iadd, 1) := by decide +kernel
theorem dX7_define_185 : decode cX7_define 185 = .ok (.iaload, 1) := by decide +kernel
theorem dX7_define_186 : decode cX7_define 186 = .ok (.iastore, 1) := by decide +kernel
theorem dX7_define_187 : decode cX7_define 187 = .ok (.iinc 6 1, 3) := by decide +kernel
theorem dX7_define_190 : decode cX7_define 190 = .ok (.goto (-41), 3) := by decide +kernel
theorem dX7_define_193 : decode cX7_define 193 = .ok (.aload_n 0, 1) := by decide +kernel
theorem dX7_define_194 : decode cX7_define 194 = .ok (.getfield 16, 3) := by decide +kernel
theorem dX7_define_197 : decode cX7_define 197 = .ok (.iconst 4, 1) := by decide +kernel
theorem dX7_define_198 : decode cX7_define 198 = .ok (.iload 5, 2) := by decide +kernel
theorem dX7_define_200 : decode cX7_define 200 = .ok (.imul, 1) := by decide +kernel
theorem dX7_define_201 : decode cX7_define 201 = .ok (.aload_n 0, 1) := by decide +kernel
theorem dX7_define_202 : decode cX7_define 202 = .ok (.getfield 71, 3) := by decide +kernel
theorem dX7_define_205 : decode cX7_define 205 = .ok (.iastore, 1) := by decide +kernel
theorem dX7_define_206 : decode cX7_define 206 = .ok (.aload_n 0, 1) := by decide +kernel
theorem dX7_define_207 : decode cX7_define 207 = .ok (.getfield 16, 3) := by decide +kernel
theorem dX7_define_210 : decode cX7_define 210 = .ok (.iconst 4, 1) := by decide +kernel
theorem dX7_define_211 : decode cX7_define 211 = .ok (.iload 5, 2) := by decide +kernel
theorem dX7_define_213 : decode cX7_define 213 = .ok (.imul, 1) := by decide +kernel
theorem dX7_define_214 : decode cX7_define 214 = .ok (.iconst 1, 1) := by decide +kernel
theorem dX7_define_215 : decode cX7_define 215 = .ok (.iadd, 1) := by decide +kernel
theorem dX7_define_216 : decode cX7_define 216 = .ok (.aload_n 0, 1) := by decide +kernel
theorem dX7_define_217 : decode cX7_define 217 = .ok (.getfield 91, 3) := by decide +kernel
theorem dX7_define_220 : decode cX7_define 220 = .ok (.iastore, 1) := by decide +kernel
theorem dX7_define_221 : decode cX7_define 221 = .ok (.aload_n 0, 1) := by decide +kernel
theorem dX7_define_222 : decode cX7_define 222 = .ok (.getfield 16, 3) := by decide +kernel
theorem dX7_define_225 : decode cX7_define 225 = .ok (.iconst 4, 1) := by decide +kernel
theorem dX7_define_226 : decode cX7_define 226 = .ok (.iload 5, 2) := by decide +kernel
theorem dX7_define_228 : decode cX7_define 228 = .ok (.imul, 1) := by decide +kernel
theorem dX7_define_229 : decode cX7_define 229 = .ok (.iconst 2, 1) := by decide +kernel
theorem dX7_define_230 : decode cX7_define 230 = .ok (.iadd, 1) := by decide +kernel
theorem dX7_define_231 : decode cX7_define 231 = .ok (.aload_n 0, 1) := by decide +kernel
theorem dX7_define_232 : decode cX7_define 232 = .ok (.getfield 124, 3) := by decide +kernel
theorem dX7_define_235 : decode cX7_define 235 = .ok (.iastore, 1) := by decide +kernel
theorem dX7_define_236 : decode cX7_define 236 = .ok (.aload_n 0, 1) := by decide +kernel
theorem dX7_define_237 : decode cX7_define 237 = .ok (.getfield 16, 3) := by decide +kernel
theorem dX7_define_240 : decode cX7_define 240 = .ok (.iconst 4, 1) := by decide +kernel
theorem dX7_define_241 : decode cX7_define 241 = .ok (.iload 5, 2) := by decide +kernel
theorem dX7_define_243 : decode cX7_define 243 = .ok (.imul, 1) := by decide +kernel
theorem dX7_define_244 : decode cX7_define 244 = .ok (.iconst 3, 1) := by decide +kernel
theorem dX7_define_245 : decode cX7_define 245 = .ok (.iadd, 1) := by decide +kernel
theorem dX7_define_246 : decode cX7_define 246 = .ok (.iload_n 3, 1) := by decide +kernel
theorem dX7_define_247 : decode cX7_define 247 = .ok (.iastore, 1) := by decide +kernel
theorem dX7_define_248 : decode cX7_define 248 = .ok (.aload_n 0, 1) := by decide +kernel
theorem dX7_define_249 : decode cX7_define 249 = .ok (.getfield 22, 3) := by decide +kernel
theorem dX7_define_252 : decode cX7_define 252 = .ok (.bipush 17, 2) := by decide +kernel
theorem dX7_define_254 : decode cX7_define 254 = .ok (.iload_n 1, 1) := by decide +kernel
theorem dX7_define_255 : decode cX7_define 255 = .ok (.iadd, 1) := by decide +kernel
theorem dX7_define_256 : decode cX7_define 256 = .ok (.dup2, 1) := by decide +kernel
theorem dX7_define_257 : decode cX7_define 257 = .ok (.iaload, 1) := by decide +kernel
theorem dX7_define_258 : decode cX7_define 258 = .ok (.iconst 1, 1) := by decide +kernel
theorem dX7_define_259 : decode cX7_define 259 = .ok (.iadd, 1) := by decide +kernel
theorem dX7_define_260 : decode cX7_define 260 = .ok (.iastore, 1) := by decide +kernel
theorem dX7_define_261 : decode cX7_define 261 = .ok (.iload 4, 2) := by decide +kernel
theorem dX7_define_263 : decode cX7_define 263 = .ok (.ireturn, 1) := by decide +kernel
theorem dX7_wrong_0 : decode cX7_wrong 0 = .ok (.iload_n 1, 1) := by decide +kernel
theorem dX7_wrong_1 : decode cX7_wrong 1 = .ok (.iconst 0, 1) := by decide +kernel
theorem dX7_wrong_2 : decode cX7_wrong 2 = .ok (.iconst 1, 1) := by decide +kernel
theorem dX7_wrong_3 : decode cX7_wrong 3 = .ok (.invokestatic 38, 3) := by decide +kernel
theorem dX7_wrong_6 : decode cX7_wrong 6 = .ok (.ifCond .ne 7, 3) := by decide +kernel
theorem dX7_wrong_9 : decode cX7_wrong 9 = .ok (.iconst (-1), 1) := by decide +kernel
theorem dX7_wrong_10 : decode cX7_wrong 10 = .ok (.goto 30, 3) := by decide +kernel
theorem dX7_wrong_13 : decode cX7_wrong 13 = .ok (.aload_n 0, 1) := by decide +kernel
theorem dX7_wrong_14 : decode cX7_wrong 14 = .ok (.getfield 34, 3) := by decide +kernel
theorem dX7_wrong_17 : decode cX7_wrong 17 = .ok (.ifCond .ge 8, 3) := by decide +kernel
theorem dX7_wrong_20 : decode cX7_wrong 20 = .ok (.bipush (-5), 2) := by decide +kernel
theorem dX7_wrong_22 : decode cX7_wrong 22 = .ok (.goto 18, 3) := by decide +kernel
theorem dX7_wrong_25 : decode cX7_wrong 25 = .ok (.iload_n 1, 1) := by decide +kernel
theorem dX7_wrong_26 : decode cX7_wrong 26 = .ok (.ifCond .ne 10, 3) := by decide +kernel
theorem dX7_wrong_29 : decode cX7_wrong 29 = .ok (.aload_n 0, 1) := by decide +kernel
theorem dX7_wrong_30 : decode cX7_wrong 30 = .ok (.getfield 34, 3) := by decide +kernel
theorem dX7_wrong_33 : decode cX7_wrong 33 = .ok (.goto 7, 3) := by decide +kernel
theorem dX7_wrong_36 : decode cX7_wrong 36 = .ok (.aload_n 0, 1) := by decide +kernel
theorem dX7_wrong_37 : decode cX7_wrong 37 = .ok (.getfield 141, 3) := by decide +kernel
theorem dX7_wrong_40 : decode cX7_wrong 40 = .ok (.ireturn, 1) := by decide +kernel
theorem dX7_kind_0 : decode cX7_kind 0 = .ok (.aload_n 0, 1) := by decide +kernel
theorem dX7_kind_1 : decode cX7_kind 1 = .ok (.getfield 9, 3) := by decide +kernel
theorem dX7_kind_4 : decode cX7_kind 4 = .ok (.iload_n 1, 1) := by decide +kernel
theorem dX7_kind_5 : decode cX7_kind 5 = .ok (.iload_n 2, 1) := by decide +kernel
theorem dX7_kind_6 : decode cX7_kind 6 = .ok (.iconst 0, 1) := by decide +kernel
theorem dX7_kind_7 : decode cX7_kind 7 = .ok (.invokestatic 67, 3) := by decide +kernel
theorem dX7_kind_10 : decode cX7_kind 10 = .ok (.iaload, 1) := by decide +kernel
theorem dX7_kind_11 : decode cX7_kind 11 = .ok (.ireturn, 1) := by decide +kernel
theorem dX7_child_0 : decode cX7_child 0 = .ok (.aload_n 0, 1) := by decide +kernel
theorem dX7_child_1 : decode cX7_child 1 = .ok (.getfield 9, 3) := by decide +kernel
theorem dX7_child_4 : decode cX7_child 4 = .ok (.iload_n 1, 1) := by decide +kernel
theorem dX7_child_5 : decode cX7_child 5 = .ok (.iload_n 2, 1) := by decide +kernel
theorem dX7_child_6 : decode cX7_child 6 = .ok (.iconst 5, 1) := by decide +kernel
theorem dX7_child_7 : decode cX7_child 7 = .ok (.invokestatic 67, 3) := by decide +kernel
theorem dX7_child_10 : decode cX7_child 10 = .ok (.iaload, 1) := by decide +kernel
theorem dX7_child_11 : decode cX7_child 11 = .ok (.ireturn, 1) := by decide +kernel
theorem dX7_next_0 : decode cX7_next 0 = .ok (.aload_n 0, 1) := by decide +kernel
theorem dX7_next_1 : decode cX7_next 1 = .ok (.getfield 9, 3) := by decide +kernel
theorem dX7_next_4 : decode cX7_next 4 = .ok (.iload_n 1, 1) := by decide +kernel
theorem dX7_next_5 : decode cX7_next 5 = .ok (.iload_n 2, 1) := by decide +kernel
theorem dX7_next_6 : decode cX7_next 6 = .ok (.bipush 6, 2) := by decide +kernel
theorem dX7_next_8 : decode cX7_next 8 = .ok (.invokestatic 67, 3) := by decide +kernel
theorem dX7_next_11 : decode cX7_next 11 = .ok (.iaload, 1) := by decide +kernel
theorem dX7_next_12 : decode cX7_next 12 = .ok (.ireturn, 1) := by decide +kernel
theorem dX7_tasksIn_0 : decode cX7_tasksIn 0 = .ok (.iconst 0, 1) := by decide +kernel
theorem dX7_tasksIn_1 : decode cX7_tasksIn 1 = .ok (.istore_n 2, 1) := by decide +kernel
theorem dX7_tasksIn_2 : decode cX7_tasksIn 2 = .ok (.iconst 0, 1) := by decide +kernel
theorem dX7_tasksIn_3 : decode cX7_tasksIn 3 = .ok (.istore_n 3, 1) := by decide +kernel
theorem dX7_tasksIn_4 : decode cX7_tasksIn 4 = .ok (.iload_n 3, 1) := by decide +kernel
theorem dX7_tasksIn_5 : decode cX7_tasksIn 5 = .ok (.aload_n 0, 1) := by decide +kernel
theorem dX7_tasksIn_6 : decode cX7_tasksIn 6 = .ok (.getfield 16, 3) := by decide +kernel
theorem dX7_tasksIn_9 : decode cX7_tasksIn 9 = .ok (.iconst 4, 1) := by decide +kernel
theorem dX7_tasksIn_10 : decode cX7_tasksIn 10 = .ok (.iload_n 1, 1) := by decide +kernel
theorem dX7_tasksIn_11 : decode cX7_tasksIn 11 = .ok (.imul, 1) := by decide +kernel
theorem dX7_tasksIn_12 : decode cX7_tasksIn 12 = .ok (.iaload, 1) := by decide +kernel
theorem dX7_tasksIn_13 : decode cX7_tasksIn 13 = .ok (.if_icmp .ge 27, 3) := by decide +kernel
theorem dX7_tasksIn_16 : decode cX7_tasksIn 16 = .ok (.iload_n 2, 1) := by decide +kernel
theorem dX7_tasksIn_17 : decode cX7_tasksIn 17 = .ok (.aload_n 0, 1) := by decide +kernel
theorem dX7_tasksIn_18 : decode cX7_tasksIn 18 = .ok (.iload_n 1, 1) := by decide +kernel
theorem dX7_tasksIn_19 : decode cX7_tasksIn 19 = .ok (.iload_n 3, 1) := by decide +kernel
theorem dX7_tasksIn_20 : decode cX7_tasksIn 20 = .ok (.invokevirtual 144, 3) := by decide +kernel
theorem dX7_tasksIn_23 : decode cX7_tasksIn 23 = .ok (.iconst 1, 1) := by decide +kernel
theorem dX7_tasksIn_24 : decode cX7_tasksIn 24 = .ok (.if_icmp .ne 7, 3) := by decide +kernel
theorem dX7_tasksIn_27 : decode cX7_tasksIn 27 = .ok (.iconst 1, 1) := by decide +kernel
theorem dX7_tasksIn_28 : decode cX7_tasksIn 28 = .ok (.goto 4, 3) := by decide +kernel
theorem dX7_tasksIn_31 : decode cX7_tasksIn 31 = .ok (.iconst 0, 1) := by decide +kernel
theorem dX7_tasksIn_32 : decode cX7_tasksIn 32 = .ok (.iadd, 1) := by decide +kernel
theorem dX7_tasksIn_33 : decode cX7_tasksIn 33 = .ok (.istore_n 2, 1) := by decide +kernel
theorem dX7_tasksIn_34 : decode cX7_tasksIn 34 = .ok (.iinc 3 1, 3) := by decide +kernel
theorem dX7_tasksIn_37 : decode cX7_tasksIn 37 = .ok (.goto (-33), 3) := by decide +kernel
theorem dX7_tasksIn_40 : decode cX7_tasksIn 40 = .ok (.iload_n 2, 1) := by decide +kernel
theorem dX7_tasksIn_41 : decode cX7_tasksIn 41 = .ok (.ireturn, 1) := by decide +kernel
theorem dX7_width_0 : decode cX7_width 0 = .ok (.aload_n 0, 1) := by decide +kernel
theorem dX7_width_1 : decode cX7_width 1 = .ok (.iload_n 1, 1) := by decide +kernel
theorem dX7_width_2 : decode cX7_width 2 = .ok (.iload_n 2, 1) := by decide +kernel
theorem dX7_width_3 : decode cX7_width 3 = .ok (.invokevirtual 144, 3) := by decide +kernel
theorem dX7_width_6 : decode cX7_width 6 = .ok (.istore_n 3, 1) := by decide +kernel
theorem dX7_width_7 : decode cX7_width 7 = .ok (.iload_n 3, 1) := by decide +kernel
theorem dX7_width_8 : decode cX7_width 8 = .ok (.ifCond .eq 16, 3) := by decide +kernel
theorem dX7_width_11 : decode cX7_width 11 = .ok (.iload_n 3, 1) := by decide +kernel
theorem dX7_width_12 : decode cX7_width 12 = .ok (.iconst 5, 1) := by decide +kernel
theorem dX7_width_13 : decode cX7_width 13 = .ok (.if_icmp .eq 11, 3) := by decide +kernel
theorem dX7_width_16 : decode cX7_width 16 = .ok (.iload_n 3, 1) := by decide +kernel
theorem dX7_width_17 : decode cX7_width 17 = .ok (.bipush 6, 2) := by decide +kernel
theorem dX7_width_19 : decode cX7_width 19 = .ok (.if_icmp .eq 5, 3) := by decide +kernel
theorem dX7_width_22 : decode cX7_width 22 = .ok (.iconst 1, 1) := by decide +kernel
theorem dX7_width_23 : decode cX7_width 23 = .ok (.ireturn, 1) := by decide +kernel
theorem dX7_width_24 : decode cX7_width 24 = .ok (.iconst 0, 1) := by decide +kernel
theorem dX7_width_25 : decode cX7_width 25 = .ok (.istore 4, 2) := by decide +kernel
theorem dX7_width_27 : decode cX7_width 27 = .ok (.iconst 0, 1) := by decide +kernel
theorem dX7_width_28 : decode cX7_width 28 = .ok (.istore 5, 2) := by decide +kernel
theorem dX7_width_30 : decode cX7_width 30 = .ok (.aload_n 0, 1) := by decide +kernel
theorem dX7_width_31 : decode cX7_width 31 = .ok (.iload_n 1, 1) := by decide +kernel
theorem dX7_width_32 : decode cX7_width 32 = .ok (.iload_n 2, 1) := by decide +kernel
theorem dX7_width_33 : decode cX7_width 33 = .ok (.invokevirtual 147, 3) := by decide +kernel
theorem dX7_width_36 : decode cX7_width 36 = .ok (.istore 6, 2) := by decide +kernel
theorem dX7_width_38 : decode cX7_width 38 = .ok (.iload 6, 2) := by decide +kernel
theorem dX7_width_40 : decode cX7_width 40 = .ok (.ifCond .lt 40, 3) := by decide +kernel
theorem dX7_width_43 : decode cX7_width 43 = .ok (.aload_n 0, 1) := by decide +kernel
theorem dX7_width_44 : decode cX7_width 44 = .ok (.iload_n 1, 1) := by decide +kernel
theorem dX7_width_45 : decode cX7_width 45 = .ok (.iload 6, 2) := by decide +kernel
theorem dX7_width_47 : decode cX7_width 47 = .ok (.invokevirtual 150, 3) := by decide +kernel
theorem dX7_width_50 : decode cX7_width 50 = .ok (.istore 7, 2) := by decide +kernel
theorem dX7_width_52 : decode cX7_width 52 = .ok (.iload 4, 2) := by decide +kernel
theorem dX7_width_54 : decode cX7_width 54 = .ok (.iload 7, 2) := by decide +kernel
theorem dX7_width_56 : decode cX7_width 56 = .ok (.invokestatic 127, 3) := by decide +kernel
theorem dX7_width_59 : decode cX7_width 59 = .ok (.istore 4, 2) := by decide +kernel
theorem dX7_width_61 : decode cX7_width 61 = .ok (.iload 5, 2) := by decide +kernel
theorem dX7_width_63 : decode cX7_width 63 = .ok (.iload 7, 2) := by decide +kernel
theorem dX7_width_65 : decode cX7_width 65 = .ok (.iadd, 1) := by decide +kernel
theorem dX7_width_66 : decode cX7_width 66 = .ok (.istore 5, 2) := by decide +kernel
theorem dX7_width_68 : decode cX7_width 68 = .ok (.aload_n 0, 1) := by decide +kernel
theorem dX7_width_69 : decode cX7_width 69 = .ok (.iload_n 1, 1) := by decide +kernel
theorem dX7_width_70 : decode cX7_width 70 = .ok (.iload 6, 2) := by decide +kernel
theorem dX7_width_72 : decode cX7_width 72 = .ok (.invokevirtual 153, 3) := by decide +kernel
theorem dX7_width_75 : decode cX7_width 75 = .ok (.istore 6, 2) := by decide +kernel
theorem dX7_width_77 : decode cX7_width 77 = .ok (.goto (-39), 3) := by decide +kernel
theorem dX7_width_80 : decode cX7_width 80 = .ok (.iload_n 3, 1) := by decide +kernel
theorem dX7_width_81 : decode cX7_width 81 = .ok (.bipush 6, 2) := by decide +kernel
theorem dX7_width_83 : decode cX7_width 83 = .ok (.if_icmp .ne 8, 3) := by decide +kernel
theorem dX7_width_86 : decode cX7_width 86 = .ok (.iload 5, 2) := by decide +kernel
theorem dX7_width_88 : decode cX7_width 88 = .ok (.goto 5, 3) := by decide +kernel
theorem dX7_width_91 : decode cX7_width 91 = .ok (.iload 4, 2) := by decide +kernel
theorem dX7_width_93 : decode cX7_width 93 = .ok (.ireturn, 1) := by decide +kernel
theorem dX7_version_0 : decode cX7_version 0 = .ok (.iload_n 1, 1) := by decide +kernel
theorem dX7_version_1 : decode cX7_version 1 = .ok (.invokestatic 138, 3) := by decide +kernel
theorem dX7_version_4 : decode cX7_version 4 = .ok (.ifCond .eq 12, 3) := by decide +kernel
theorem dX7_version_7 : decode cX7_version 7 = .ok (.iload_n 3, 1) := by decide +kernel
theorem dX7_version_8 : decode cX7_version 8 = .ok (.iconst 0, 1) := by decide +kernel
theorem dX7_version_9 : decode cX7_version 9 = .ok (.iconst 4, 1) := by decide +kernel
theorem dX7_version_10 : decode cX7_version 10 = .ok (.invokestatic 38, 3) := by decide +kernel
theorem dX7_version_13 : decode cX7_version 13 = .ok (.ifCond .ne 5, 3) := by decide +kernel
theorem dX7_version_16 : decode cX7_version 16 = .ok (.iconst (-1), 1) := by decide +kernel
theorem dX7_version_17 : decode cX7_version 17 = .ok (.ireturn, 1) := by decide +kernel
theorem dX7_version_18 : decode cX7_version 18 = .ok (.iload_n 2, 1) := by decide +kernel
theorem dX7_version_19 : decode cX7_version 19 = .ok (.iconst (-1), 1) := by decide +kernel
theorem dX7_version_20 : decode cX7_version 20 = .ok (.if_icmp .ne 17, 3) := by decide +kernel
theorem dX7_version_23 : decode cX7_version 23 = .ok (.aload_n 0, 1) := by decide +kernel
theorem dX7_version_24 : decode cX7_version 24 = .ok (.getfield 22, 3) := by decide +kernel
theorem dX7_version_27 : decode cX7_version 27 = .ok (.bipush 17, 2) := by decide +kernel
theorem dX7_version_29 : decode cX7_version 29 = .ok (.iload_n 1, 1) := by decide +kernel
theorem dX7_version_30 : decode cX7_version 30 = .ok (.iadd, 1) := by decide +kernel
theorem dX7_version_31 : decode cX7_version 31 = .ok (.iaload, 1) := by decide +kernel
theorem dX7_version_32 : decode cX7_version 32 = .ok (.iconst 1, 1) := by decide +kernel
theorem dX7_version_33 : decode cX7_version 33 = .ok (.isub, 1) := by decide +kernel
theorem dX7_version_34 : decode cX7_version 34 = .ok (.goto 4, 3) := by decide +kernel
theorem dX7_version_37 : decode cX7_version 37 = .ok (.iload_n 2, 1) := by decide +kernel
theorem dX7_version_38 : decode cX7_version 38 = .ok (.istore 4, 2) := by decide +kernel
theorem dX7_version_40 : decode cX7_version 40 = .ok (.iload 4, 2) := by decide +kernel
theorem dX7_version_42 : decode cX7_version 42 = .ok (.iconst 0, 1) := by decide +kernel
theorem dX7_version_43 : decode cX7_version 43 = .ok (.aload_n 0, 1) := by decide +kernel
theorem dX7_version_44 : decode cX7_version 44 = .ok (.getfield 22, 3) := by decide +kernel
theorem dX7_version_47 : decode cX7_version 47 = .ok (.bipush 17, 2) := by decide +kernel
theorem dX7_version_49 : decode cX7_version 49 = .ok (.iload_n 1, 1) := by decide +kernel
theorem dX7_version_50 : decode cX7_version 50 = .ok (.iadd, 1) := by decide +kernel
theorem dX7_version_51 : decode cX7_version 51 = .ok (.iaload, 1) := by decide +kernel
theorem dX7_version_52 : decode cX7_version 52 = .ok (.iconst 1, 1) := by decide +kernel
theorem dX7_version_53 : decode cX7_version 53 = .ok (.isub, 1) := by decide +kernel
theorem dX7_version_54 : decode cX7_version 54 = .ok (.invokestatic 38, 3) := by decide +kernel
theorem dX7_version_57 : decode cX7_version 57 = .ok (.ifCond .ne 5, 3) := by decide +kernel
theorem dX7_version_60 : decode cX7_version 60 = .ok (.iconst (-1), 1) := by decide +kernel
theorem dX7_version_61 : decode cX7_version 61 = .ok (.ireturn, 1) := by decide +kernel
theorem dX7_version_62 : decode cX7_version 62 = .ok (.iconst 4, 1) := by decide +kernel
theorem dX7_version_63 : decode cX7_version 63 = .ok (.iload_n 1, 1) := by decide +kernel
theorem dX7_version_64 : decode cX7_version 64 = .ok (.imul, 1) := by decide +kernel
theorem dX7_version_65 : decode cX7_version 65 = .ok (.iload 4, 2) := by decide +kernel
theorem dX7_version_67 : decode cX7_version 67 = .ok (.iadd, 1) := by decide +kernel
theorem dX7_version_68 : decode cX7_version 68 = .ok (.istore 5, 2) := by decide +kernel
theorem dX7_version_70 : decode cX7_version 70 = .ok (.iload_n 3, 1) := by decide +kernel
theorem dX7_version_71 : decode cX7_version 71 = .ok (.ifCond .ne 17, 3) := by decide +kernel
theorem dX7_version_74 : decode cX7_version 74 = .ok (.aload_n 0, 1) := by decide +kernel
theorem dX7_version_75 : decode cX7_version 75 = .ok (.getfield 16, 3) := by decide +kernel
theorem dX7_version_78 : decode cX7_version 78 = .ok (.iconst 4, 1) := by decide +kernel
theorem dX7_version_79 : decode cX7_version 79 = .ok (.iload 5, 2) := by decide +kernel
theorem dX7_version_81 : decode cX7_version 81 = .ok (.imul, 1) := by decide +kernel
theorem dX7_version_82 : decode cX7_version 82 = .ok (.iconst 1, 1) := by decide +kernel
theorem dX7_version_83 : decode cX7_version 83 = .ok (.iadd, 1) := by decide +kernel
theorem dX7_version_84 : decode cX7_version 84 = .ok (.iaload, 1) := by decide +kernel
theorem dX7_version_85 : decode cX7_version 85 = .ok (.goto 62, 3) := by decide +kernel
theorem dX7_version_88 : decode cX7_version 88 = .ok (.iload_n 3, 1) := by decide +kernel
theorem dX7_version_89 : decode cX7_version 89 = .ok (.iconst 1, 1) := by decide +kernel
theorem dX7_version_90 : decode cX7_version 90 = .ok (.if_icmp .ne 12, 3) := by decide +kernel
theorem dX7_version_93 : decode cX7_version 93 = .ok (.aload_n 0, 1) := by decide +kernel
theorem dX7_version_94 : decode cX7_version 94 = .ok (.iload 5, 2) := by decide +kernel
theorem dX7_version_96 : decode cX7_version 96 = .ok (.invokevirtual 156, 3) := by decide +kernel
theorem dX7_version_99 : decode cX7_version 99 = .ok (.goto 48, 3) := by decide +kernel
theorem dX7_version_102 : decode cX7_version 102 = .ok (.iload_n 3, 1) := by decide +kernel
theorem dX7_version_103 : decode cX7_version 103 = .ok (.iconst 2, 1) := by decide +kernel
theorem dX7_version_104 : decode cX7_version 104 = .ok (.if_icmp .ne 17, 3) := by decide +kernel
theorem dX7_version_107 : decode cX7_version 107 = .ok (.aload_n 0, 1) := by decide +kernel
theorem dX7_version_108 : decode cX7_version 108 = .ok (.getfield 16, 3) := by decide +kernel
theorem dX7_version_111 : decode cX7_version 111 = .ok (.iconst 4, 1) := by decide +kernel
theorem dX7_version_112 : decode cX7_version 112 = .ok (.iload 5, 2) := by decide +kernel
theorem dX7_version_114 : decode cX7_version 114 = .ok (.imul, 1) := by decide +kernel
theorem dX7_version_115 : decode cX7_version 115 = .ok (.iconst 2, 1) := by decide +kernel
theorem dX7_version_116 : decode cX7_version 116 = .ok (.iadd, 1) := by decide +kernel
theorem dX7_version_117 : decode cX7_version 117 = .ok (.iaload, 1) := by decide +kernel
theorem dX7_version_118 : decode cX7_version 118 = .ok (.goto 29, 3) := by decide +kernel
theorem dX7_version_121 : decode cX7_version 121 = .ok (.iload_n 3, 1) := by decide +kernel
theorem dX7_version_122 : decode cX7_version 122 = .ok (.iconst 3, 1) := by decide +kernel
theorem dX7_version_123 : decode cX7_version 123 = .ok (.if_icmp .ne 17, 3) := by decide +kernel
theorem dX7_version_126 : decode cX7_version 126 = .ok (.aload_n 0, 1) := by decide +kernel
theorem dX7_version_127 : decode cX7_version 127 = .ok (.getfield 16, 3) := by decide +kernel
theorem dX7_version_130 : decode cX7_version 130 = .ok (.iconst 4, 1) := by decide +kernel
theorem dX7_version_131 : decode cX7_version 131 = .ok (.iload 5, 2) := by decide +kernel
theorem dX7_version_133 : decode cX7_version 133 = .ok (.imul, 1) := by decide +kernel
theorem dX7_version_134 : decode cX7_version 134 = .ok (.iconst 3, 1) := by decide +kernel
theorem dX7_version_135 : decode cX7_version 135 = .ok (.iadd, 1) := by decide +kernel
theorem dX7_version_136 : decode cX7_version 136 = .ok (.iaload, 1) := by decide +kernel
theorem dX7_version_137 : decode cX7_version 137 = .ok (.goto 10, 3) := by decide +kernel
theorem dX7_version_140 : decode cX7_version 140 = .ok (.aload_n 0, 1) := by decide +kernel
theorem dX7_version_141 : decode cX7_version 141 = .ok (.iload 5, 2) := by decide +kernel
theorem dX7_version_143 : decode cX7_version 143 = .ok (.iconst 0, 1) := by decide +kernel
theorem dX7_version_144 : decode cX7_version 144 = .ok (.invokevirtual 150, 3) := by decide +kernel
theorem dX7_version_147 : decode cX7_version 147 = .ok (.ireturn, 1) := by decide +kernel
theorem dX7_duration_0 : decode cX7_duration 0 = .ok (.iload_n 1, 1) := by decide +kernel
theorem dX7_duration_1 : decode cX7_duration 1 = .ok (.invokestatic 160, 3) := by decide +kernel
theorem dX7_duration_4 : decode cX7_duration 4 = .ok (.ifCond .ne 5, 3) := by decide +kernel
theorem dX7_duration_7 : decode cX7_duration 7 = .ok (.iconst (-1), 1) := by decide +kernel
theorem dX7_duration_8 : decode cX7_duration 8 = .ok (.ireturn, 1) := by decide +kernel
theorem dX7_duration_9 : decode cX7_duration 9 = .ok (.iload_n 2, 1) := by decide +kernel
theorem dX7_duration_10 : decode cX7_duration 10 = .ok (.iconst 0, 1) := by decide +kernel
theorem dX7_duration_11 : decode cX7_duration 11 = .ok (.bipush 99, 2) := by decide +kernel
theorem dX7_duration_13 : decode cX7_duration 13 = .ok (.invokestatic 38, 3) := by decide +kernel
theorem dX7_duration_16 : decode cX7_duration 16 = .ok (.ifCond .ne 6, 3) := by decide +kernel
theorem dX7_duration_19 : decode cX7_duration 19 = .ok (.bipush (-2), 2) := by decide +kernel
theorem dX7_duration_21 : decode cX7_duration 21 = .ok (.ireturn, 1) := by decide +kernel
theorem dX7_duration_22 : decode cX7_duration 22 = .ok (.aload_n 0, 1) := by decide +kernel
theorem dX7_duration_23 : decode cX7_duration 23 = .ok (.getfield 22, 3) := by decide +kernel
theorem dX7_duration_26 : decode cX7_duration 26 = .ok (.iconst 1, 1) := by decide +kernel
theorem dX7_duration_27 : decode cX7_duration 27 = .ok (.iload_n 1, 1) := by decide +kernel
theorem dX7_duration_28 : decode cX7_duration 28 = .ok (.iadd, 1) := by decide +kernel
theorem dX7_duration_29 : decode cX7_duration 29 = .ok (.iaload, 1) := by decide +kernel
theorem dX7_duration_30 : decode cX7_duration 30 = .ok (.istore_n 3, 1) := by decide +kernel
theorem dX7_duration_31 : decode cX7_duration 31 = .ok (.aload_n 0, 1) := by decide +kernel
theorem dX7_duration_32 : decode cX7_duration 32 = .ok (.getfield 22, 3) := by decide +kernel
theorem dX7_duration_35 : decode cX7_duration 35 = .ok (.iconst 1, 1) := by decide +kernel
theorem dX7_duration_36 : decode cX7_duration 36 = .ok (.iload_n 1, 1) := by decide +kernel
theorem dX7_duration_37 : decode cX7_duration 37 = .ok (.iadd, 1) := by decide +kernel
theorem dX7_duration_38 : decode cX7_duration 38 = .ok (.iload_n 2, 1) := by decide +kernel
theorem dX7_duration_39 : decode cX7_duration 39 = .ok (.iastore, 1) := by decide +kernel
theorem dX7_duration_40 : decode cX7_duration 40 = .ok (.iload_n 3, 1) := by decide +kernel
theorem dX7_duration_41 : decode cX7_duration 41 = .ok (.ireturn, 1) := by decide +kernel
theorem dX7_failures_0 : decode cX7_failures 0 = .ok (.iload_n 1, 1) := by decide +kernel
theorem dX7_failures_1 : decode cX7_failures 1 = .ok (.invokestatic 160, 3) := by decide +kernel
theorem dX7_failures_4 : decode cX7_failures 4 = .ok (.ifCond .ne 5, 3) := by decide +kernel
theorem dX7_failures_7 : decode cX7_failures 7 = .ok (.iconst (-1), 1) := by decide +kernel
theorem dX7_failures_8 : decode cX7_failures 8 = .ok (.ireturn, 1) := by decide +kernel
theorem dX7_failures_9 : decode cX7_failures 9 = .ok (.iload_n 2, 1) := by decide +kernel
theorem dX7_failures_10 : decode cX7_failures 10 = .ok (.iconst 0, 1) := by decide +kernel
theorem dX7_failures_11 : decode cX7_failures 11 = .ok (.bipush 99, 2) := by decide +kernel
theorem dX7_failures_13 : decode cX7_failures 13 = .ok (.invokestatic 38, 3) := by decide +kernel
theorem dX7_failures_16 : decode cX7_failures 16 = .ok (.ifCond .ne 6, 3) := by decide +kernel
theorem dX7_failures_19 : decode cX7_failures 19 = .ok (.bipush (-2), 2) := by decide +kernel
theorem dX7_failures_21 : decode cX7_failures 21 = .ok (.ireturn, 1) := by decide +kernel
theorem dX7_failures_22 : decode cX7_failures 22 = .ok (.aload_n 0, 1) := by decide +kernel
theorem dX7_failures_23 : decode cX7_failures 23 = .ok (.getfield 22, 3) := by decide +kernel
theorem dX7_failures_26 : decode cX7_failures 26 = .ok (.bipush 9, 2) := by decide +kernel
theorem dX7_failures_28 : decode cX7_failures 28 = .ok (.iload_n 1, 1) := by decide +kernel
theorem dX7_failures_29 : decode cX7_failures 29 = .ok (.iadd, 1) := by decide +kernel
theorem dX7_failures_30 : decode cX7_failures 30 = .ok (.iaload, 1) := by decide +kernel
theorem dX7_failures_31 : decode cX7_failures 31 = .ok (.istore_n 3, 1) := by decide +kernel
theorem dX7_failures_32 : decode cX7_failures 32 = .ok (.aload_n 0, 1) := by decide +kernel
theorem dX7_failures_33 : decode cX7_failures 33 = .ok (.getfield 22, 3) := by decide +kernel
theorem dX7_failures_36 : decode cX7_failures 36 = .ok (.bipush 9, 2) := by decide +kernel
theorem dX7_failures_38 : decode cX7_failures 38 = .ok (.iload_n 1, 1) := by decide +kernel
theorem dX7_failures_39 : decode cX7_failures 39 = .ok (.iadd, 1) := by decide +kernel
theorem dX7_failures_40 : decode cX7_failures 40 = .ok (.iload_n 2, 1) := by decide +kernel
theorem dX7_failures_41 : decode cX7_failures 41 = .ok (.iastore, 1) := by decide +kernel
theorem dX7_failures_42 : decode cX7_failures 42 = .ok (.iload_n 3, 1) := by decide +kernel
theorem dX7_failures_43 : decode cX7_failures 43 = .ok (.ireturn, 1) := by decide +kernel
theorem dX7_fails_0 : decode cX7_fails 0 = .ok (.aload_n 0, 1) := by decide +kernel
theorem dX7_fails_1 : decode cX7_fails 1 = .ok (.getfield 22, 3) := by decide +kernel
theorem dX7_fails_4 : decode cX7_fails 4 = .ok (.bipush 9, 2) := by decide +kernel
theorem dX7_fails_6 : decode cX7_fails 6 = .ok (.iload_n 1, 1) := by decide +kernel
theorem dX7_fails_7 : decode cX7_fails 7 = .ok (.iadd, 1) := by decide +kernel
theorem dX7_fails_8 : decode cX7_fails 8 = .ok (.iaload, 1) := by decide +kernel
theorem dX7_fails_9 : decode cX7_fails 9 = .ok (.ifCond .ne 5, 3) := by decide +kernel
theorem dX7_fails_12 : decode cX7_fails 12 = .ok (.iconst 0, 1) := by decide +kernel
theorem dX7_fails_13 : decode cX7_fails 13 = .ok (.ireturn, 1) := by decide +kernel
theorem dX7_fails_14 : decode cX7_fails 14 = .ok (.aload_n 0, 1) := by decide +kernel
theorem dX7_fails_15 : decode cX7_fails 15 = .ok (.getfield 22, 3) := by decide +kernel
theorem dX7_fails_18 : decode cX7_fails 18 = .ok (.bipush 9, 2) := by decide +kernel
theorem dX7_fails_20 : decode cX7_fails 20 = .ok (.iload_n 1, 1) := by decide +kernel
theorem dX7_fails_21 : decode cX7_fails 21 = .ok (.iadd, 1) := by decide +kernel
theorem dX7_fails_22 : decode cX7_fails 22 = .ok (.dup2, 1) := by decide +kernel
theorem dX7_fails_23 : decode cX7_fails 23 = .ok (.iaload, 1) := by decide +kernel
theorem dX7_fails_24 : decode cX7_fails 24 = .ok (.iconst 1, 1) := by decide +kernel
theorem dX7_fails_25 : decode cX7_fails 25 = .ok (.isub, 1) := by decide +kernel
theorem dX7_fails_26 : decode cX7_fails 26 = .ok (.iastore, 1) := by decide +kernel
theorem dX7_fails_27 : decode cX7_fails 27 = .ok (.iconst 1, 1) := by decide +kernel
theorem dX7_fails_28 : decode cX7_fails 28 = .ok (.ireturn, 1) := by decide +kernel
theorem dX7_of_0 : decode cX7_of 0 = .ok (.bipush 21, 2) := by decide +kernel
theorem dX7_of_2 : decode cX7_of 2 = .ok (.sipush 1262, 3) := by decide +kernel
theorem dX7_of_5 : decode cX7_of 5 = .ok (.iload_n 0, 1) := by decide +kernel
theorem dX7_of_6 : decode cX7_of 6 = .ok (.imul, 1) := by decide +kernel
theorem dX7_of_7 : decode cX7_of 7 = .ok (.iadd, 1) := by decide +kernel
theorem dX7_of_8 : decode cX7_of 8 = .ok (.iload_n 1, 1) := by decide +kernel
theorem dX7_of_9 : decode cX7_of 9 = .ok (.iadd, 1) := by decide +kernel
theorem dX7_of_10 : decode cX7_of 10 = .ok (.ireturn, 1) := by decide +kernel
theorem dX7_at_0 : decode cX7_at 0 = .ok (.iload_n 0, 1) := by decide +kernel
theorem dX7_at_1 : decode cX7_at 1 = .ok (.sipush 622, 3) := by decide +kernel
theorem dX7_at_4 : decode cX7_at 4 = .ok (.bipush 10, 2) := by decide +kernel
theorem dX7_at_6 : decode cX7_at 6 = .ok (.iload_n 1, 1) := by decide +kernel
theorem dX7_at_7 : decode cX7_at 7 = .ok (.imul, 1) := by decide +kernel
theorem dX7_at_8 : decode cX7_at 8 = .ok (.iadd, 1) := by decide +kernel
theorem dX7_at_9 : decode cX7_at 9 = .ok (.iload_n 2, 1) := by decide +kernel
theorem dX7_at_10 : decode cX7_at 10 = .ok (.iadd, 1) := by decide +kernel
theorem dX7_at_11 : decode cX7_at 11 = .ok (.invokestatic 163, 3) := by decide +kernel
theorem dX7_at_14 : decode cX7_at 14 = .ok (.ireturn, 1) := by decide +kernel
theorem dX7_versionOf_0 : decode cX7_versionOf 0 = .ok (.iconst 4, 1) := by decide +kernel
theorem dX7_versionOf_1 : decode cX7_versionOf 1 = .ok (.aload_n 0, 1) := by decide +kernel
theorem dX7_versionOf_2 : decode cX7_versionOf 2 = .ok (.getfield 22, 3) := by decide +kernel
theorem dX7_versionOf_5 : decode cX7_versionOf 5 = .ok (.iload_n 1, 1) := by decide +kernel
theorem dX7_versionOf_6 : decode cX7_versionOf 6 = .ok (.iconst 2, 1) := by decide +kernel
theorem dX7_versionOf_7 : decode cX7_versionOf 7 = .ok (.invokestatic 163, 3) := by decide +kernel
theorem dX7_versionOf_10 : decode cX7_versionOf 10 = .ok (.iaload, 1) := by decide +kernel
theorem dX7_versionOf_11 : decode cX7_versionOf 11 = .ok (.imul, 1) := by decide +kernel
theorem dX7_versionOf_12 : decode cX7_versionOf 12 = .ok (.aload_n 0, 1) := by decide +kernel
theorem dX7_versionOf_13 : decode cX7_versionOf 13 = .ok (.getfield 22, 3) := by decide +kernel
theorem dX7_versionOf_16 : decode cX7_versionOf 16 = .ok (.iload_n 1, 1) := by decide +kernel
theorem dX7_versionOf_17 : decode cX7_versionOf 17 = .ok (.iconst 3, 1) := by decide +kernel
theorem dX7_versionOf_18 : decode cX7_versionOf 18 = .ok (.invokestatic 163, 3) := by decide +kernel
theorem dX7_versionOf_21 : decode cX7_versionOf 21 = .ok (.iaload, 1) := by decide +kernel
theorem dX7_versionOf_22 : decode cX7_versionOf 22 = .ok (.iadd, 1) := by decide +kernel
theorem dX7_versionOf_23 : decode cX7_versionOf 23 = .ok (.ireturn, 1) := by decide +kernel
theorem dX7_nodePart_0 : decode cX7_nodePart 0 = .ok (.aload_n 0, 1) := by decide +kernel
theorem dX7_nodePart_1 : decode cX7_nodePart 1 = .ok (.getfield 9, 3) := by decide +kernel
theorem dX7_nodePart_4 : decode cX7_nodePart 4 = .ok (.aload_n 0, 1) := by decide +kernel
theorem dX7_nodePart_5 : decode cX7_nodePart 5 = .ok (.iload_n 1, 1) := by decide +kernel
theorem dX7_nodePart_6 : decode cX7_nodePart 6 = .ok (.invokevirtual 166, 3) := by decide +kernel
theorem dX7_nodePart_9 : decode cX7_nodePart 9 = .ok (.iload_n 2, 1) := by decide +kernel
theorem dX7_nodePart_10 : decode cX7_nodePart 10 = .ok (.iload_n 3, 1) := by decide +kernel
theorem dX7_nodePart_11 : decode cX7_nodePart 11 = .ok (.invokestatic 67, 3) := by decide +kernel
theorem dX7_nodePart_14 : decode cX7_nodePart 14 = .ok (.iaload, 1) := by decide +kernel
theorem dX7_nodePart_15 : decode cX7_nodePart 15 = .ok (.ireturn, 1) := by decide +kernel
theorem dX7_isInstance_0 : decode cX7_isInstance 0 = .ok (.iload_n 1, 1) := by decide +kernel
theorem dX7_isInstance_1 : decode cX7_isInstance 1 = .ok (.iconst 0, 1) := by decide +kernel
theorem dX7_isInstance_2 : decode cX7_isInstance 2 = .ok (.iconst 5, 1) := by decide +kernel
theorem dX7_isInstance_3 : decode cX7_isInstance 3 = .ok (.invokestatic 38, 3) := by decide +kernel
theorem dX7_isInstance_6 : decode cX7_isInstance 6 = .ok (.ifCond .eq 21, 3) := by decide +kernel
theorem dX7_isInstance_9 : decode cX7_isInstance 9 = .ok (.aload_n 0, 1) := by decide +kernel
theorem dX7_isInstance_10 : decode cX7_isInstance 10 = .ok (.getfield 22, 3) := by decide +kernel
theorem dX7_isInstance_13 : decode cX7_isInstance 13 = .ok (.iload_n 1, 1) := by decide +kernel
theorem dX7_isInstance_14 : decode cX7_isInstance 14 = .ok (.iconst 0, 1) := by decide +kernel
theorem dX7_isInstance_15 : decode cX7_isInstance 15 = .ok (.invokestatic 163, 3) := by decide +kernel
theorem dX7_isInstance_18 : decode cX7_isInstance 18 = .ok (.iaload, 1) := by decide +kernel
theorem dX7_isInstance_19 : decode cX7_isInstance 19 = .ok (.iconst 1, 1) := by decide +kernel
theorem dX7_isInstance_20 : decode cX7_isInstance 20 = .ok (.if_icmp .ne 7, 3) := by decide +kernel
theorem dX7_isInstance_23 : decode cX7_isInstance 23 = .ok (.iconst 1, 1) := by decide +kernel
theorem dX7_isInstance_24 : decode cX7_isInstance 24 = .ok (.goto 4, 3) := by decide +kernel
theorem dX7_isInstance_27 : decode cX7_isInstance 27 = .ok (.iconst 0, 1) := by decide +kernel
theorem dX7_isInstance_28 : decode cX7_isInstance 28 = .ok (.ireturn, 1) := by decide +kernel
theorem dX7_notes_0 : decode cX7_notes 0 = .ok (.aload_n 0, 1) := by decide +kernel
theorem dX7_notes_1 : decode cX7_notes 1 = .ok (.getfield 22, 3) := by decide +kernel
theorem dX7_notes_4 : decode cX7_notes 4 = .ok (.iload_n 1, 1) := by decide +kernel
theorem dX7_notes_5 : decode cX7_notes 5 = .ok (.bipush 9, 2) := by decide +kernel
theorem dX7_notes_7 : decode cX7_notes 7 = .ok (.invokestatic 163, 3) := by decide +kernel
theorem dX7_notes_10 : decode cX7_notes 10 = .ok (.iaload, 1) := by decide +kernel
theorem dX7_notes_11 : decode cX7_notes 11 = .ok (.istore 4, 2) := by decide +kernel
theorem dX7_notes_13 : decode cX7_notes 13 = .ok (.iload 4, 2) := by decide +kernel
theorem dX7_notes_15 : decode cX7_notes 15 = .ok (.sipush 200, 3) := by decide +kernel
theorem dX7_notes_18 : decode cX7_notes 18 = .ok (.if_icmp .ge 63, 3) := by decide +kernel
theorem dX7_notes_21 : decode cX7_notes 21 = .ok (.aload_n 0, 1) := by decide +kernel
theorem dX7_notes_22 : decode cX7_notes 22 = .ok (.getfield 22, 3) := by decide +kernel
theorem dX7_notes_25 : decode cX7_notes 25 = .ok (.iload_n 1, 1) := by decide +kernel
theorem dX7_notes_26 : decode cX7_notes 26 = .ok (.bipush 22, 2) := by decide +kernel
theorem dX7_notes_28 : decode cX7_notes 28 = .ok (.iconst 3, 1) := by decide +kernel
theorem dX7_notes_29 : decode cX7_notes 29 = .ok (.iload 4, 2) := by decide +kernel
theorem dX7_notes_31 : decode cX7_notes 31 = .ok (.imul, 1) := by decide +kernel
theorem dX7_notes_32 : decode cX7_notes 32 = .ok (.iadd, 1) := by decide +kernel
theorem dX7_notes_33 : decode cX7_notes 33 = .ok (.invokestatic 163, 3) := by decide +kernel
theorem dX7_notes_36 : decode cX7_notes 36 = .ok (.aload_n 0, 1) := by decide +kernel
theorem dX7_notes_37 : decode cX7_notes 37 = .ok (.getfield 22, 3) := by decide +kernel
theorem dX7_notes_40 : decode cX7_notes 40 = .ok (.iconst 0, 1) := by decide +kernel
theorem dX7_notes_41 : decode cX7_notes 41 = .ok (.iaload, 1) := by decide +kernel
theorem dX7_notes_42 : decode cX7_notes 42 = .ok (.iastore, 1) := by decide +kernel
theorem dX7_notes_43 : decode cX7_notes 43 = .ok (.aload_n 0, 1) := by decide +kernel
theorem dX7_notes_44 : decode cX7_notes 44 = .ok (.getfield 22, 3) := by decide +kernel
theorem dX7_notes_47 : decode cX7_notes 47 = .ok (.iload_n 1, 1) := by decide +kernel
theorem dX7_notes_48 : decode cX7_notes 48 = .ok (.bipush 22, 2) := by decide +kernel
theorem dX7_notes_50 : decode cX7_notes 50 = .ok (.iconst 3, 1) := by decide +kernel
theorem dX7_notes_51 : decode cX7_notes 51 = .ok (.iload 4, 2) := by decide +kernel
theorem dX7_notes_53 : decode cX7_notes 53 = .ok (.imul, 1) := by decide +kernel
theorem dX7_notes_54 : decode cX7_notes 54 = .ok (.iadd, 1) := by decide +kernel
theorem dX7_notes_55 : decode cX7_notes 55 = .ok (.iconst 1, 1) := by decide +kernel
theorem dX7_notes_56 : decode cX7_notes 56 = .ok (.iadd, 1) := by decide +kernel
theorem dX7_notes_57 : decode cX7_notes 57 = .ok (.invokestatic 163, 3) := by decide +kernel
theorem dX7_notes_60 : decode cX7_notes 60 = .ok (.iload_n 2, 1) := by decide +kernel
theorem dX7_notes_61 : decode cX7_notes 61 = .ok (.iastore, 1) := by decide +kernel
theorem dX7_notes_62 : decode cX7_notes 62 = .ok (.aload_n 0, 1) := by decide +kernel
theorem dX7_notes_63 : decode cX7_notes 63 = .ok (.getfield 22, 3) := by decide +kernel
theorem dX7_notes_66 : decode cX7_notes 66 = .ok (.iload_n 1, 1) := by decide +kernel
theorem dX7_notes_67 : decode cX7_notes 67 = .ok (.bipush 22, 2) := by decide +kernel
theorem dX7_notes_69 : decode cX7_notes 69 = .ok (.iconst 3, 1) := by decide +kernel
theorem dX7_notes_70 : decode cX7_notes 70 = .ok (.iload 4, 2) := by decide +kernel
theorem dX7_notes_72 : decode cX7_notes 72 = .ok (.imul, 1) := by decide +kernel
theorem dX7_notes_73 : decode cX7_notes 73 = .ok (.iadd, 1) := by decide +kernel
theorem dX7_notes_74 : decode cX7_notes 74 = .ok (.iconst 2, 1) := by decide +kernel
theorem dX7_notes_75 : decode cX7_notes 75 = .ok (.iadd, 1) := by decide +kernel
theorem dX7_notes_76 : decode cX7_notes 76 = .ok (.invokestatic 163, 3) := by decide +kernel
theorem dX7_notes_79 : decode cX7_notes 79 = .ok (.iload_n 3, 1) := by decide +kernel
theorem dX7_notes_80 : decode cX7_notes 80 = .ok (.iastore, 1) := by decide +kernel
theorem dX7_notes_81 : decode cX7_notes 81 = .ok (.aload_n 0, 1) := by decide +kernel
theorem dX7_notes_82 : decode cX7_notes 82 = .ok (.getfield 22, 3) := by decide +kernel
theorem dX7_notes_85 : decode cX7_notes 85 = .ok (.iload_n 1, 1) := by decide +kernel
theorem dX7_notes_86 : decode cX7_notes 86 = .ok (.bipush 9, 2) := by decide +kernel
theorem dX7_notes_88 : decode cX7_notes 88 = .ok (.invokestatic 163, 3) := by decide +kernel
theorem dX7_notes_91 : decode cX7_notes 91 = .ok (.dup2, 1) := by decide +kernel
theorem dX7_notes_92 : decode cX7_notes 92 = .ok (.iaload, 1) := by decide +kernel
theorem dX7_notes_93 : decode cX7_notes 93 = .ok (.iconst 1, 1) := by decide +kernel
theorem dX7_notes_94 : decode cX7_notes 94 = .ok (.iadd, 1) := by decide +kernel
theorem dX7_notes_95 : decode cX7_notes 95 = .ok (.iastore, 1) := by decide +kernel
theorem dX7_notes_96 : decode cX7_notes 96 = .ok (.return_, 1) := by decide +kernel
theorem dX7_comesTo_0 : decode cX7_comesTo 0 = .ok (.aload_n 0, 1) := by decide +kernel
theorem dX7_comesTo_1 : decode cX7_comesTo 1 = .ok (.getfield 22, 3) := by decide +kernel
theorem dX7_comesTo_4 : decode cX7_comesTo 4 = .ok (.iload_n 1, 1) := by decide +kernel
theorem dX7_comesTo_5 : decode cX7_comesTo 5 = .ok (.iload_n 2, 1) := by decide +kernel
theorem dX7_comesTo_6 : decode cX7_comesTo 6 = .ok (.iconst 0, 1) := by decide +kernel
theorem dX7_comesTo_7 : decode cX7_comesTo 7 = .ok (.invokestatic 169, 3) := by decide +kernel
theorem dX7_comesTo_10 : decode cX7_comesTo 10 = .ok (.iload_n 3, 1) := by decide +kernel
theorem dX7_comesTo_11 : decode cX7_comesTo 11 = .ok (.iastore, 1) := by decide +kernel
theorem dX7_comesTo_12 : decode cX7_comesTo 12 = .ok (.iload_n 3, 1) := by decide +kernel
theorem dX7_comesTo_13 : decode cX7_comesTo 13 = .ok (.ireturn, 1) := by decide +kernel
theorem dX7_tries_0 : decode cX7_tries 0 = .ok (.aload_n 0, 1) := by decide +kernel
theorem dX7_tries_1 : decode cX7_tries 1 = .ok (.iload_n 1, 1) := by decide +kernel
theorem dX7_tries_2 : decode cX7_tries 2 = .ok (.iload_n 2, 1) := by decide +kernel
theorem dX7_tries_3 : decode cX7_tries 3 = .ok (.iconst 1, 1) := by decide +kernel
theorem dX7_tries_4 : decode cX7_tries 4 = .ok (.invokevirtual 171, 3) := by decide +kernel
theorem dX7_tries_7 : decode cX7_tries 7 = .ok (.istore_n 3, 1) := by decide +kernel
theorem dX7_tries_8 : decode cX7_tries 8 = .ok (.aload_n 0, 1) := by decide +kernel
theorem dX7_tries_9 : decode cX7_tries 9 = .ok (.iload_n 1, 1) := by decide +kernel
theorem dX7_tries_10 : decode cX7_tries 10 = .ok (.iconst 0, 1) := by decide +kernel
theorem dX7_tries_11 : decode cX7_tries 11 = .ok (.iload_n 3, 1) := by decide +kernel
theorem dX7_tries_12 : decode cX7_tries 12 = .ok (.invokevirtual 174, 3) := by decide +kernel
theorem dX7_tries_15 : decode cX7_tries 15 = .ok (.aload_n 0, 1) := by decide +kernel
theorem dX7_tries_16 : decode cX7_tries 16 = .ok (.getfield 22, 3) := by decide +kernel
theorem dX7_tries_19 : decode cX7_tries 19 = .ok (.iload_n 1, 1) := by decide +kernel
theorem dX7_tries_20 : decode cX7_tries 20 = .ok (.iload_n 2, 1) := by decide +kernel
theorem dX7_tries_21 : decode cX7_tries 21 = .ok (.iconst 2, 1) := by decide +kernel
theorem dX7_tries_22 : decode cX7_tries 22 = .ok (.invokestatic 169, 3) := by decide +kernel
theorem dX7_tries_25 : decode cX7_tries 25 = .ok (.dup2, 1) := by decide +kernel
theorem dX7_tries_26 : decode cX7_tries 26 = .ok (.iaload, 1) := by decide +kernel
theorem dX7_tries_27 : decode cX7_tries 27 = .ok (.iconst 1, 1) := by decide +kernel
theorem dX7_tries_28 : decode cX7_tries 28 = .ok (.iadd, 1) := by decide +kernel
theorem dX7_tries_29 : decode cX7_tries 29 = .ok (.iastore, 1) := by decide +kernel
theorem dX7_tries_30 : decode cX7_tries 30 = .ok (.aload_n 0, 1) := by decide +kernel
theorem dX7_tries_31 : decode cX7_tries 31 = .ok (.getfield 22, 3) := by decide +kernel
theorem dX7_tries_34 : decode cX7_tries 34 = .ok (.iload_n 1, 1) := by decide +kernel
theorem dX7_tries_35 : decode cX7_tries 35 = .ok (.iload_n 2, 1) := by decide +kernel
theorem dX7_tries_36 : decode cX7_tries 36 = .ok (.iconst 3, 1) := by decide +kernel
theorem dX7_tries_37 : decode cX7_tries 37 = .ok (.invokestatic 169, 3) := by decide +kernel
theorem dX7_tries_40 : decode cX7_tries 40 = .ok (.aload_n 0, 1) := by decide +kernel
theorem dX7_tries_41 : decode cX7_tries 41 = .ok (.getfield 22, 3) := by decide +kernel
theorem dX7_tries_44 : decode cX7_tries 44 = .ok (.iconst 0, 1) := by decide +kernel
theorem dX7_tries_45 : decode cX7_tries 45 = .ok (.iaload, 1) := by decide +kernel
theorem dX7_tries_46 : decode cX7_tries 46 = .ok (.aload_n 0, 1) := by decide +kernel
theorem dX7_tries_47 : decode cX7_tries 47 = .ok (.getfield 22, 3) := by decide +kernel
theorem dX7_tries_50 : decode cX7_tries 50 = .ok (.iconst 1, 1) := by decide +kernel
theorem dX7_tries_51 : decode cX7_tries 51 = .ok (.iload_n 3, 1) := by decide +kernel
theorem dX7_tries_52 : decode cX7_tries 52 = .ok (.iadd, 1) := by decide +kernel
theorem dX7_tries_53 : decode cX7_tries 53 = .ok (.iaload, 1) := by decide +kernel
theorem dX7_tries_54 : decode cX7_tries 54 = .ok (.iadd, 1) := by decide +kernel
theorem dX7_tries_55 : decode cX7_tries 55 = .ok (.iastore, 1) := by decide +kernel
theorem dX7_tries_56 : decode cX7_tries 56 = .ok (.return_, 1) := by decide +kernel
theorem dX7_looksAtTask_0 : decode cX7_looksAtTask 0 = .ok (.aload_n 0, 1) := by decide +kernel
theorem dX7_looksAtTask_1 : decode cX7_looksAtTask 1 = .ok (.iload_n 1, 1) := by decide +kernel
theorem dX7_looksAtTask_2 : decode cX7_looksAtTask 2 = .ok (.iload_n 2, 1) := by decide +kernel
theorem dX7_looksAtTask_3 : decode cX7_looksAtTask 3 = .ok (.iconst 1, 1) := by decide +kernel
theorem dX7_looksAtTask_4 : decode cX7_looksAtTask 4 = .ok (.invokevirtual 171, 3) := by decide +kernel
theorem dX7_looksAtTask_7 : decode cX7_looksAtTask 7 = .ok (.istore_n 3, 1) := by decide +kernel
theorem dX7_looksAtTask_8 : decode cX7_looksAtTask 8 = .ok (.aload_n 0, 1) := by decide +kernel
theorem dX7_looksAtTask_9 : decode cX7_looksAtTask 9 = .ok (.getfield 22, 3) := by decide +kernel
theorem dX7_looksAtTask_12 : decode cX7_looksAtTask 12 = .ok (.iload_n 1, 1) := by decide +kernel
theorem dX7_looksAtTask_13 : decode cX7_looksAtTask 13 = .ok (.iload_n 2, 1) := by decide +kernel
theorem dX7_looksAtTask_14 : decode cX7_looksAtTask 14 = .ok (.iconst 3, 1) := by decide +kernel
theorem dX7_looksAtTask_15 : decode cX7_looksAtTask 15 = .ok (.invokestatic 169, 3) := by decide +kernel
theorem dX7_looksAtTask_18 : decode cX7_looksAtTask 18 = .ok (.iaload, 1) := by decide +kernel
theorem dX7_looksAtTask_19 : decode cX7_looksAtTask 19 = .ok (.istore 4, 2) := by decide +kernel
theorem dX7_looksAtTask_21 : decode cX7_looksAtTask 21 = .ok (.iload 4, 2) := by decide +kernel
theorem dX7_looksAtTask_23 : decode cX7_looksAtTask 23 = .ok (.ifCond .ge 34, 3) := by decide +kernel
theorem dX7_looksAtTask_26 : decode cX7_looksAtTask 26 = .ok (.aload_n 0, 1) := by decide +kernel
theorem dX7_looksAtTask_27 : decode cX7_looksAtTask 27 = .ok (.getfield 22, 3) := by decide +kernel
theorem dX7_looksAtTask_30 : decode cX7_looksAtTask 30 = .ok (.iload_n 1, 1) := by decide +kernel
theorem dX7_looksAtTask_31 : decode cX7_looksAtTask 31 = .ok (.iload_n 2, 1) := by decide +kernel
theorem dX7_looksAtTask_32 : decode cX7_looksAtTask 32 = .ok (.iconst 4, 1) := by decide +kernel
theorem dX7_looksAtTask_33 : decode cX7_looksAtTask 33 = .ok (.invokestatic 169, 3) := by decide +kernel
theorem dX7_looksAtTask_36 : decode cX7_looksAtTask 36 = .ok (.iaload, 1) := by decide +kernel
theorem dX7_looksAtTask_37 : decode cX7_looksAtTask 37 = .ok (.aload_n 0, 1) := by decide +kernel
theorem dX7_looksAtTask_38 : decode cX7_looksAtTask 38 = .ok (.getfield 22, 3) := by decide +kernel
theorem dX7_looksAtTask_41 : decode cX7_looksAtTask 41 = .ok (.iconst 0, 1) := by decide +kernel
theorem dX7_looksAtTask_42 : decode cX7_looksAtTask 42 = .ok (.iaload, 1) := by decide +kernel
theorem dX7_looksAtTask_43 : decode cX7_looksAtTask 43 = .ok (.if_icmp .le 5, 3) := by decide +kernel
theorem dX7_looksAtTask_46 : decode cX7_looksAtTask 46 = .ok (.iconst 1, 1) := by decide +kernel
theorem dX7_looksAtTask_47 : decode cX7_looksAtTask 47 = .ok (.ireturn, 1) := by decide +kernel
theorem dX7_looksAtTask_48 : decode cX7_looksAtTask 48 = .ok (.aload_n 0, 1) := by decide +kernel
theorem dX7_looksAtTask_49 : decode cX7_looksAtTask 49 = .ok (.iload_n 1, 1) := by decide +kernel
theorem dX7_looksAtTask_50 : decode cX7_looksAtTask 50 = .ok (.iload_n 2, 1) := by decide +kernel
theorem dX7_looksAtTask_51 : decode cX7_looksAtTask 51 = .ok (.invokevirtual 177, 3) := by decide +kernel
theorem dX7_looksAtTask_54 : decode cX7_looksAtTask 54 = .ok (.goto (-46), 3) := by decide +kernel
theorem dX7_looksAtTask_57 : decode cX7_looksAtTask 57 = .ok (.iload 4, 2) := by decide +kernel
theorem dX7_looksAtTask_59 : decode cX7_looksAtTask 59 = .ok (.aload_n 0, 1) := by decide +kernel
theorem dX7_looksAtTask_60 : decode cX7_looksAtTask 60 = .ok (.getfield 22, 3) := by decide +kernel
theorem dX7_looksAtTask_63 : decode cX7_looksAtTask 63 = .ok (.iconst 0, 1) := by decide +kernel
theorem dX7_looksAtTask_64 : decode cX7_looksAtTask 64 = .ok (.iaload, 1) := by decide +kernel
theorem dX7_looksAtTask_65 : decode cX7_looksAtTask 65 = .ok (.if_icmp .le 5, 3) := by decide +kernel
theorem dX7_looksAtTask_68 : decode cX7_looksAtTask 68 = .ok (.iconst 1, 1) := by decide +kernel
theorem dX7_looksAtTask_69 : decode cX7_looksAtTask 69 = .ok (.ireturn, 1) := by decide +kernel
theorem dX7_looksAtTask_70 : decode cX7_looksAtTask 70 = .ok (.aload_n 0, 1) := by decide +kernel
theorem dX7_looksAtTask_71 : decode cX7_looksAtTask 71 = .ok (.iload_n 3, 1) := by decide +kernel
theorem dX7_looksAtTask_72 : decode cX7_looksAtTask 72 = .ok (.invokevirtual 181, 3) := by decide +kernel
theorem dX7_looksAtTask_75 : decode cX7_looksAtTask 75 = .ok (.ifCond .ne 55, 3) := by decide +kernel
theorem dX7_looksAtTask_78 : decode cX7_looksAtTask 78 = .ok (.aload_n 0, 1) := by decide +kernel
theorem dX7_looksAtTask_79 : decode cX7_looksAtTask 79 = .ok (.iload_n 1, 1) := by decide +kernel
theorem dX7_looksAtTask_80 : decode cX7_looksAtTask 80 = .ok (.iconst 2, 1) := by decide +kernel
theorem dX7_looksAtTask_81 : decode cX7_looksAtTask 81 = .ok (.iload_n 3, 1) := by decide +kernel
theorem dX7_looksAtTask_82 : decode cX7_looksAtTask 82 = .ok (.invokevirtual 174, 3) := by decide +kernel
theorem dX7_looksAtTask_85 : decode cX7_looksAtTask 85 = .ok (.aload_n 0, 1) := by decide +kernel
theorem dX7_looksAtTask_86 : decode cX7_looksAtTask 86 = .ok (.getfield 22, 3) := by decide +kernel
theorem dX7_looksAtTask_89 : decode cX7_looksAtTask 89 = .ok (.iload_n 1, 1) := by decide +kernel
theorem dX7_looksAtTask_90 : decode cX7_looksAtTask 90 = .ok (.bipush 6, 2) := by decide +kernel
theorem dX7_looksAtTask_92 : decode cX7_looksAtTask 92 = .ok (.invokestatic 163, 3) := by decide +kernel
theorem dX7_looksAtTask_95 : decode cX7_looksAtTask 95 = .ok (.dup2, 1) := by decide +kernel
theorem dX7_looksAtTask_96 : decode cX7_looksAtTask 96 = .ok (.iaload, 1) := by decide +kernel
theorem dX7_looksAtTask_97 : decode cX7_looksAtTask 97 = .ok (.iconst 1, 1) := by decide +kernel
theorem dX7_looksAtTask_98 : decode cX7_looksAtTask 98 = .ok (.iadd, 1) := by decide +kernel
theorem dX7_looksAtTask_99 : decode cX7_looksAtTask 99 = .ok (.iastore, 1) := by decide +kernel
theorem dX7_looksAtTask_100 : decode cX7_looksAtTask 100 = .ok (.aload_n 0, 1) := by decide +kernel
theorem dX7_looksAtTask_101 : decode cX7_looksAtTask 101 = .ok (.getfield 22, 3) := by decide +kernel
theorem dX7_looksAtTask_104 : decode cX7_looksAtTask 104 = .ok (.iload_n 1, 1) := by decide +kernel
theorem dX7_looksAtTask_105 : decode cX7_looksAtTask 105 = .ok (.iload_n 2, 1) := by decide +kernel
theorem dX7_looksAtTask_106 : decode cX7_looksAtTask 106 = .ok (.iconst 5, 1) := by decide +kernel
theorem dX7_looksAtTask_107 : decode cX7_looksAtTask 107 = .ok (.invokestatic 169, 3) := by decide +kernel
theorem dX7_looksAtTask_110 : decode cX7_looksAtTask 110 = .ok (.aload_n 0, 1) := by decide +kernel
theorem dX7_looksAtTask_111 : decode cX7_looksAtTask 111 = .ok (.getfield 22, 3) := by decide +kernel
theorem dX7_looksAtTask_114 : decode cX7_looksAtTask 114 = .ok (.iload_n 1, 1) := by decide +kernel
theorem dX7_looksAtTask_115 : decode cX7_looksAtTask 115 = .ok (.bipush 6, 2) := by decide +kernel
theorem dX7_looksAtTask_117 : decode cX7_looksAtTask 117 = .ok (.invokestatic 163, 3) := by decide +kernel
theorem dX7_looksAtTask_120 : decode cX7_looksAtTask 120 = .ok (.iaload, 1) := by decide +kernel
theorem dX7_looksAtTask_121 : decode cX7_looksAtTask 121 = .ok (.iastore, 1) := by decide +kernel
theorem dX7_looksAtTask_122 : decode cX7_looksAtTask 122 = .ok (.aload_n 0, 1) := by decide +kernel
theorem dX7_looksAtTask_123 : decode cX7_looksAtTask 123 = .ok (.iload_n 1, 1) := by decide +kernel
theorem dX7_looksAtTask_124 : decode cX7_looksAtTask 124 = .ok (.iload_n 2, 1) := by decide +kernel
theorem dX7_looksAtTask_125 : decode cX7_looksAtTask 125 = .ok (.iconst 2, 1) := by decide +kernel
theorem dX7_looksAtTask_126 : decode cX7_looksAtTask 126 = .ok (.invokevirtual 184, 3) := by decide +kernel
theorem dX7_looksAtTask_129 : decode cX7_looksAtTask 129 = .ok (.ireturn, 1) := by decide +kernel
theorem dX7_looksAtTask_130 : decode cX7_looksAtTask 130 = .ok (.aload_n 0, 1) := by decide +kernel
theorem dX7_looksAtTask_131 : decode cX7_looksAtTask 131 = .ok (.iload_n 1, 1) := by decide +kernel
theorem dX7_looksAtTask_132 : decode cX7_looksAtTask 132 = .ok (.iconst 1, 1) := by decide +kernel
theorem dX7_looksAtTask_133 : decode cX7_looksAtTask 133 = .ok (.iload_n 3, 1) := by decide +kernel
theorem dX7_looksAtTask_134 : decode cX7_looksAtTask 134 = .ok (.invokevirtual 174, 3) := by decide +kernel
theorem dX7_looksAtTask_137 : decode cX7_looksAtTask 137 = .ok (.aload_n 0, 1) := by decide +kernel
theorem dX7_looksAtTask_138 : decode cX7_looksAtTask 138 = .ok (.getfield 22, 3) := by decide +kernel
theorem dX7_looksAtTask_141 : decode cX7_looksAtTask 141 = .ok (.iload_n 1, 1) := by decide +kernel
theorem dX7_looksAtTask_142 : decode cX7_looksAtTask 142 = .ok (.iload_n 2, 1) := by decide +kernel
theorem dX7_looksAtTask_143 : decode cX7_looksAtTask 143 = .ok (.iconst 2, 1) := by decide +kernel
theorem dX7_looksAtTask_144 : decode cX7_looksAtTask 144 = .ok (.invokestatic 169, 3) := by decide +kernel
theorem dX7_looksAtTask_147 : decode cX7_looksAtTask 147 = .ok (.iaload, 1) := by decide +kernel
theorem dX7_looksAtTask_148 : decode cX7_looksAtTask 148 = .ok (.istore 5, 2) := by decide +kernel
theorem dX7_looksAtTask_150 : decode cX7_looksAtTask 150 = .ok (.iload 5, 2) := by decide +kernel
theorem dX7_looksAtTask_152 : decode cX7_looksAtTask 152 = .ok (.aload_n 0, 1) := by decide +kernel
theorem dX7_looksAtTask_153 : decode cX7_looksAtTask 153 = .ok (.iload_n 1, 1) := by decide +kernel
theorem dX7_looksAtTask_154 : decode cX7_looksAtTask 154 = .ok (.iload_n 2, 1) := by decide +kernel
theorem dX7_looksAtTask_155 : decode cX7_looksAtTask 155 = .ok (.iconst 2, 1) := by decide +kernel
theorem dX7_looksAtTask_156 : decode cX7_looksAtTask 156 = .ok (.invokevirtual 171, 3) := by decide +kernel
theorem dX7_looksAtTask_159 : decode cX7_looksAtTask 159 = .ok (.if_icmp .le 11, 3) := by decide +kernel
theorem dX7_looksAtTask_162 : decode cX7_looksAtTask 162 = .ok (.aload_n 0, 1) := by decide +kernel
theorem dX7_looksAtTask_163 : decode cX7_looksAtTask 163 = .ok (.iload_n 1, 1) := by decide +kernel
theorem dX7_looksAtTask_164 : decode cX7_looksAtTask 164 = .ok (.iload_n 2, 1) := by decide +kernel
theorem dX7_looksAtTask_165 : decode cX7_looksAtTask 165 = .ok (.iconst 3, 1) := by decide +kernel
theorem dX7_looksAtTask_166 : decode cX7_looksAtTask 166 = .ok (.invokevirtual 184, 3) := by decide +kernel
theorem dX7_looksAtTask_169 : decode cX7_looksAtTask 169 = .ok (.ireturn, 1) := by decide +kernel
theorem dX7_looksAtTask_170 : decode cX7_looksAtTask 170 = .ok (.aload_n 0, 1) := by decide +kernel
theorem dX7_looksAtTask_171 : decode cX7_looksAtTask 171 = .ok (.getfield 22, 3) := by decide +kernel
theorem dX7_looksAtTask_174 : decode cX7_looksAtTask 174 = .ok (.iload_n 1, 1) := by decide +kernel
theorem dX7_looksAtTask_175 : decode cX7_looksAtTask 175 = .ok (.iload_n 2, 1) := by decide +kernel
theorem dX7_looksAtTask_176 : decode cX7_looksAtTask 176 = .ok (.iconst 4, 1) := by decide +kernel
theorem dX7_looksAtTask_177 : decode cX7_looksAtTask 177 = .ok (.invokestatic 169, 3) := by decide +kernel
theorem dX7_looksAtTask_180 : decode cX7_looksAtTask 180 = .ok (.iload 4, 2) := by decide +kernel
theorem dX7_looksAtTask_182 : decode cX7_looksAtTask 182 = .ok (.aload_n 0, 1) := by decide +kernel
theorem dX7_looksAtTask_183 : decode cX7_looksAtTask 183 = .ok (.iload_n 1, 1) := by decide +kernel
theorem dX7_looksAtTask_184 : decode cX7_looksAtTask 184 = .ok (.iload_n 2, 1) := by decide +kernel
theorem dX7_looksAtTask_185 : decode cX7_looksAtTask 185 = .ok (.iconst 3, 1) := by decide +kernel
theorem dX7_looksAtTask_186 : decode cX7_looksAtTask 186 = .ok (.invokevirtual 171, 3) := by decide +kernel
theorem dX7_looksAtTask_189 : decode cX7_looksAtTask 189 = .ok (.iconst 1, 1) := by decide +kernel
theorem dX7_looksAtTask_190 : decode cX7_looksAtTask 190 = .ok (.iload 5, 2) := by decide +kernel
theorem dX7_looksAtTask_192 : decode cX7_looksAtTask 192 = .ok (.iconst 1, 1) := by decide +kernel
theorem dX7_looksAtTask_193 : decode cX7_looksAtTask 193 = .ok (.isub, 1) := by decide +kernel
theorem dX7_looksAtTask_194 : decode cX7_looksAtTask 194 = .ok (.ishl, 1) := by decide +kernel
theorem dX7_looksAtTask_195 : decode cX7_looksAtTask 195 = .ok (.imul, 1) := by decide +kernel
theorem dX7_looksAtTask_196 : decode cX7_looksAtTask 196 = .ok (.iadd, 1) := by decide +kernel
theorem dX7_looksAtTask_197 : decode cX7_looksAtTask 197 = .ok (.iastore, 1) := by decide +kernel
theorem dX7_looksAtTask_198 : decode cX7_looksAtTask 198 = .ok (.aload_n 0, 1) := by decide +kernel
theorem dX7_looksAtTask_199 : decode cX7_looksAtTask 199 = .ok (.getfield 22, 3) := by decide +kernel
theorem dX7_looksAtTask_202 : decode cX7_looksAtTask 202 = .ok (.iload_n 1, 1) := by decide +kernel
theorem dX7_looksAtTask_203 : decode cX7_looksAtTask 203 = .ok (.iload_n 2, 1) := by decide +kernel
theorem dX7_looksAtTask_204 : decode cX7_looksAtTask 204 = .ok (.iconst 3, 1) := by decide +kernel
theorem dX7_looksAtTask_205 : decode cX7_looksAtTask 205 = .ok (.invokestatic 169, 3) := by decide +kernel
theorem dX7_looksAtTask_208 : decode cX7_looksAtTask 208 = .ok (.iconst (-1), 1) := by decide +kernel
theorem dX7_looksAtTask_209 : decode cX7_looksAtTask 209 = .ok (.iastore, 1) := by decide +kernel
theorem dX7_looksAtTask_210 : decode cX7_looksAtTask 210 = .ok (.goto (-202), 3) := by decide +kernel
theorem dX7_looksAtSignal_0 : decode cX7_looksAtSignal 0 = .ok (.aload_n 0, 1) := by decide +kernel
theorem dX7_looksAtSignal_1 : decode cX7_looksAtSignal 1 = .ok (.iload_n 1, 1) := by decide +kernel
theorem dX7_looksAtSignal_2 : decode cX7_looksAtSignal 2 = .ok (.iload_n 2, 1) := by decide +kernel
theorem dX7_looksAtSignal_3 : decode cX7_looksAtSignal 3 = .ok (.iconst 1, 1) := by decide +kernel
theorem dX7_looksAtSignal_4 : decode cX7_looksAtSignal 4 = .ok (.invokevirtual 171, 3) := by decide +kernel
theorem dX7_looksAtSignal_7 : decode cX7_looksAtSignal 7 = .ok (.istore_n 3, 1) := by decide +kernel
theorem dX7_looksAtSignal_8 : decode cX7_looksAtSignal 8 = .ok (.aload_n 0, 1) := by decide +kernel
theorem dX7_looksAtSignal_9 : decode cX7_looksAtSignal 9 = .ok (.iload_n 1, 1) := by decide +kernel
theorem dX7_looksAtSignal_10 : decode cX7_looksAtSignal 10 = .ok (.iload_n 2, 1) := by decide +kernel
theorem dX7_looksAtSignal_11 : decode cX7_looksAtSignal 11 = .ok (.iconst 2, 1) := by decide +kernel
theorem dX7_looksAtSignal_12 : decode cX7_looksAtSignal 12 = .ok (.invokevirtual 171, 3) := by decide +kernel
theorem dX7_looksAtSignal_15 : decode cX7_looksAtSignal 15 = .ok (.istore 4, 2) := by decide +kernel
theorem dX7_looksAtSignal_17 : decode cX7_looksAtSignal 17 = .ok (.aload_n 0, 1) := by decide +kernel
theorem dX7_looksAtSignal_18 : decode cX7_looksAtSignal 18 = .ok (.getfield 22, 3) := by decide +kernel
theorem dX7_looksAtSignal_21 : decode cX7_looksAtSignal 21 = .ok (.iload_n 1, 1) := by decide +kernel
theorem dX7_looksAtSignal_22 : decode cX7_looksAtSignal 22 = .ok (.bipush 14, 2) := by decide +kernel
theorem dX7_looksAtSignal_24 : decode cX7_looksAtSignal 24 = .ok (.iload_n 3, 1) := by decide +kernel
theorem dX7_looksAtSignal_25 : decode cX7_looksAtSignal 25 = .ok (.iadd, 1) := by decide +kernel
theorem dX7_looksAtSignal_26 : decode cX7_looksAtSignal 26 = .ok (.invokestatic 163, 3) := by decide +kernel
theorem dX7_looksAtSignal_29 : decode cX7_looksAtSignal 29 = .ok (.iaload, 1) := by decide +kernel
theorem dX7_looksAtSignal_30 : decode cX7_looksAtSignal 30 = .ok (.ifCond .le 35, 3) := by decide +kernel
theorem dX7_looksAtSignal_33 : decode cX7_looksAtSignal 33 = .ok (.aload_n 0, 1) := by decide +kernel
theorem dX7_looksAtSignal_34 : decode cX7_looksAtSignal 34 = .ok (.getfield 22, 3) := by decide +kernel
theorem dX7_looksAtSignal_37 : decode cX7_looksAtSignal 37 = .ok (.iload_n 1, 1) := by decide +kernel
theorem dX7_looksAtSignal_38 : decode cX7_looksAtSignal 38 = .ok (.bipush 14, 2) := by decide +kernel
theorem dX7_looksAtSignal_40 : decode cX7_looksAtSignal 40 = .ok (.iload_n 3, 1) := by decide +kernel
theorem dX7_looksAtSignal_41 : decode cX7_looksAtSignal 41 = .ok (.iadd, 1) := by decide +kernel
theorem dX7_looksAtSignal_42 : decode cX7_looksAtSignal 42 = .ok (.invokestatic 163, 3) := by decide +kernel
theorem dX7_looksAtSignal_45 : decode cX7_looksAtSignal 45 = .ok (.dup2, 1) := by decide +kernel
theorem dX7_looksAtSignal_46 : decode cX7_looksAtSignal 46 = .ok (.iaload, 1) := by decide +kernel
theorem dX7_looksAtSignal_47 : decode cX7_looksAtSignal 47 = .ok (.iconst 1, 1) := by decide +kernel
theorem dX7_looksAtSignal_48 : decode cX7_looksAtSignal 48 = .ok (.isub, 1) := by decide +kernel
theorem dX7_looksAtSignal_49 : decode cX7_looksAtSignal 49 = .ok (.iastore, 1) := by decide +kernel
theorem dX7_looksAtSignal_50 : decode cX7_looksAtSignal 50 = .ok (.aload_n 0, 1) := by decide +kernel
theorem dX7_looksAtSignal_51 : decode cX7_looksAtSignal 51 = .ok (.iload_n 1, 1) := by decide +kernel
theorem dX7_looksAtSignal_52 : decode cX7_looksAtSignal 52 = .ok (.iconst 3, 1) := by decide +kernel
theorem dX7_looksAtSignal_53 : decode cX7_looksAtSignal 53 = .ok (.iload_n 3, 1) := by decide +kernel
theorem dX7_looksAtSignal_54 : decode cX7_looksAtSignal 54 = .ok (.invokevirtual 174, 3) := by decide +kernel
theorem dX7_looksAtSignal_57 : decode cX7_looksAtSignal 57 = .ok (.aload_n 0, 1) := by decide +kernel
theorem dX7_looksAtSignal_58 : decode cX7_looksAtSignal 58 = .ok (.iload_n 1, 1) := by decide +kernel
theorem dX7_looksAtSignal_59 : decode cX7_looksAtSignal 59 = .ok (.iload_n 2, 1) := by decide +kernel
theorem dX7_looksAtSignal_60 : decode cX7_looksAtSignal 60 = .ok (.iconst 2, 1) := by decide +kernel
theorem dX7_looksAtSignal_61 : decode cX7_looksAtSignal 61 = .ok (.invokevirtual 184, 3) := by decide +kernel
theorem dX7_looksAtSignal_64 : decode cX7_looksAtSignal 64 = .ok (.ireturn, 1) := by decide +kernel
theorem dX7_looksAtSignal_65 : decode cX7_looksAtSignal 65 = .ok (.iload 4, 2) := by decide +kernel
theorem dX7_looksAtSignal_67 : decode cX7_looksAtSignal 67 = .ok (.ifCond .lt 41, 3) := by decide +kernel
theorem dX7_looksAtSignal_70 : decode cX7_looksAtSignal 70 = .ok (.aload_n 0, 1) := by decide +kernel
theorem dX7_looksAtSignal_71 : decode cX7_looksAtSignal 71 = .ok (.getfield 22, 3) := by decide +kernel
theorem dX7_looksAtSignal_74 : decode cX7_looksAtSignal 74 = .ok (.iconst 0, 1) := by decide +kernel
theorem dX7_looksAtSignal_75 : decode cX7_looksAtSignal 75 = .ok (.iaload, 1) := by decide +kernel
theorem dX7_looksAtSignal_76 : decode cX7_looksAtSignal 76 = .ok (.aload_n 0, 1) := by decide +kernel
theorem dX7_looksAtSignal_77 : decode cX7_looksAtSignal 77 = .ok (.getfield 22, 3) := by decide +kernel
theorem dX7_looksAtSignal_80 : decode cX7_looksAtSignal 80 = .ok (.iload_n 1, 1) := by decide +kernel
theorem dX7_looksAtSignal_81 : decode cX7_looksAtSignal 81 = .ok (.iload_n 2, 1) := by decide +kernel
theorem dX7_looksAtSignal_82 : decode cX7_looksAtSignal 82 = .ok (.iconst 1, 1) := by decide +kernel
theorem dX7_looksAtSignal_83 : decode cX7_looksAtSignal 83 = .ok (.invokestatic 169, 3) := by decide +kernel
theorem dX7_looksAtSignal_86 : decode cX7_looksAtSignal 86 = .ok (.iaload, 1) := by decide +kernel
theorem dX7_looksAtSignal_87 : decode cX7_looksAtSignal 87 = .ok (.iload 4, 2) := by decide +kernel
theorem dX7_looksAtSignal_89 : decode cX7_looksAtSignal 89 = .ok (.iadd, 1) := by decide +kernel
theorem dX7_looksAtSignal_90 : decode cX7_looksAtSignal 90 = .ok (.if_icmp .lt 18, 3) := by decide +kernel
theorem dX7_looksAtSignal_93 : decode cX7_looksAtSignal 93 = .ok (.aload_n 0, 1) := by decide +kernel
theorem dX7_looksAtSignal_94 : decode cX7_looksAtSignal 94 = .ok (.iload_n 1, 1) := by decide +kernel
theorem dX7_looksAtSignal_95 : decode cX7_looksAtSignal 95 = .ok (.iconst 4, 1) := by decide +kernel
theorem dX7_looksAtSignal_96 : decode cX7_looksAtSignal 96 = .ok (.iload_n 3, 1) := by decide +kernel
theorem dX7_looksAtSignal_97 : decode cX7_looksAtSignal 97 = .ok (.invokevirtual 174, 3) := by decide +kernel
theorem dX7_looksAtSignal_100 : decode cX7_looksAtSignal 100 = .ok (.aload_n 0, 1) := by decide +kernel
theorem dX7_looksAtSignal_101 : decode cX7_looksAtSignal 101 = .ok (.iload_n 1, 1) := by decide +kernel
theorem dX7_looksAtSignal_102 : decode cX7_looksAtSignal 102 = .ok (.iload_n 2, 1) := by decide +kernel
theorem dX7_looksAtSignal_103 : decode cX7_looksAtSignal 103 = .ok (.iconst 3, 1) := by decide +kernel
theorem dX7_looksAtSignal_104 : decode cX7_looksAtSignal 104 = .ok (.invokevirtual 184, 3) := by decide +kernel
theorem dX7_looksAtSignal_107 : decode cX7_looksAtSignal 107 = .ok (.ireturn, 1) := by decide +kernel
theorem dX7_looksAtSignal_108 : decode cX7_looksAtSignal 108 = .ok (.iconst 1, 1) := by decide +kernel
theorem dX7_looksAtSignal_109 : decode cX7_looksAtSignal 109 = .ok (.ireturn, 1) := by decide +kernel
theorem dX7_sets_0 : decode cX7_sets 0 = .ok (.aload_n 0, 1) := by decide +kernel
theorem dX7_sets_1 : decode cX7_sets 1 = .ok (.iload_n 1, 1) := by decide +kernel
theorem dX7_sets_2 : decode cX7_sets 2 = .ok (.iload_n 2, 1) := by decide +kernel
theorem dX7_sets_3 : decode cX7_sets 3 = .ok (.iconst 1, 1) := by decide +kernel
theorem dX7_sets_4 : decode cX7_sets 4 = .ok (.invokevirtual 171, 3) := by decide +kernel
theorem dX7_sets_7 : decode cX7_sets 7 = .ok (.istore_n 3, 1) := by decide +kernel
theorem dX7_sets_8 : decode cX7_sets 8 = .ok (.aload_n 0, 1) := by decide +kernel
theorem dX7_sets_9 : decode cX7_sets 9 = .ok (.iload_n 1, 1) := by decide +kernel
theorem dX7_sets_10 : decode cX7_sets 10 = .ok (.iload_n 2, 1) := by decide +kernel
theorem dX7_sets_11 : decode cX7_sets 11 = .ok (.iconst 3, 1) := by decide +kernel
theorem dX7_sets_12 : decode cX7_sets 12 = .ok (.invokevirtual 171, 3) := by decide +kernel
theorem dX7_sets_15 : decode cX7_sets 15 = .ok (.istore 4, 2) := by decide +kernel
theorem dX7_sets_17 : decode cX7_sets 17 = .ok (.iload_n 1, 1) := by decide +kernel
theorem dX7_sets_18 : decode cX7_sets 18 = .ok (.bipush 10, 2) := by decide +kernel
theorem dX7_sets_20 : decode cX7_sets 20 = .ok (.iload_n 3, 1) := by decide +kernel
theorem dX7_sets_21 : decode cX7_sets 21 = .ok (.iadd, 1) := by decide +kernel
theorem dX7_sets_22 : decode cX7_sets 22 = .ok (.invokestatic 163, 3) := by decide +kernel
theorem dX7_sets_25 : decode cX7_sets 25 = .ok (.istore 5, 2) := by decide +kernel
theorem dX7_sets_27 : decode cX7_sets 27 = .ok (.aload_n 0, 1) := by decide +kernel
theorem dX7_sets_28 : decode cX7_sets 28 = .ok (.getfield 22, 3) := by decide +kernel
theorem dX7_sets_31 : decode cX7_sets 31 = .ok (.iload 5, 2) := by decide +kernel
theorem dX7_sets_33 : decode cX7_sets 33 = .ok (.aload_n 0, 1) := by decide +kernel
theorem dX7_sets_34 : decode cX7_sets 34 = .ok (.iload_n 1, 1) := by decide +kernel
theorem dX7_sets_35 : decode cX7_sets 35 = .ok (.iload_n 2, 1) := by decide +kernel
theorem dX7_sets_36 : decode cX7_sets 36 = .ok (.iconst 2, 1) := by decide +kernel
theorem dX7_sets_37 : decode cX7_sets 37 = .ok (.invokevirtual 171, 3) := by decide +kernel
theorem dX7_sets_40 : decode cX7_sets 40 = .ok (.iconst 1, 1) := by decide +kernel
theorem dX7_sets_41 : decode cX7_sets 41 = .ok (.if_icmp .ne 16, 3) := by decide +kernel
theorem dX7_sets_44 : decode cX7_sets 44 = .ok (.aload_n 0, 1) := by decide +kernel
theorem dX7_sets_45 : decode cX7_sets 45 = .ok (.getfield 22, 3) := by decide +kernel
theorem dX7_sets_48 : decode cX7_sets 48 = .ok (.iload 5, 2) := by decide +kernel
theorem dX7_sets_50 : decode cX7_sets 50 = .ok (.iaload, 1) := by decide +kernel
theorem dX7_sets_51 : decode cX7_sets 51 = .ok (.iload 4, 2) := by decide +kernel
theorem dX7_sets_53 : decode cX7_sets 53 = .ok (.iadd, 1) := by decide +kernel
theorem dX7_sets_54 : decode cX7_sets 54 = .ok (.goto 5, 3) := by decide +kernel
theorem dX7_sets_57 : decode cX7_sets 57 = .ok (.iload 4, 2) := by decide +kernel
theorem dX7_sets_59 : decode cX7_sets 59 = .ok (.iastore, 1) := by decide +kernel
theorem dX7_sets_60 : decode cX7_sets 60 = .ok (.aload_n 0, 1) := by decide +kernel
theorem dX7_sets_61 : decode cX7_sets 61 = .ok (.iload_n 1, 1) := by decide +kernel
theorem dX7_sets_62 : decode cX7_sets 62 = .ok (.bipush 8, 2) := by decide +kernel
theorem dX7_sets_64 : decode cX7_sets 64 = .ok (.iload_n 3, 1) := by decide +kernel
theorem dX7_sets_65 : decode cX7_sets 65 = .ok (.invokevirtual 174, 3) := by decide +kernel
theorem dX7_sets_68 : decode cX7_sets 68 = .ok (.aload_n 0, 1) := by decide +kernel
theorem dX7_sets_69 : decode cX7_sets 69 = .ok (.iload_n 1, 1) := by decide +kernel
theorem dX7_sets_70 : decode cX7_sets 70 = .ok (.iload_n 2, 1) := by decide +kernel
theorem dX7_sets_71 : decode cX7_sets 71 = .ok (.iconst 2, 1) := by decide +kernel
theorem dX7_sets_72 : decode cX7_sets 72 = .ok (.invokevirtual 184, 3) := by decide +kernel
theorem dX7_sets_75 : decode cX7_sets 75 = .ok (.ireturn, 1) := by decide +kernel
theorem dX7_looks_0 : decode cX7_looks 0 = .ok (.aload_n 0, 1) := by decide +kernel
theorem dX7_looks_1 : decode cX7_looks 1 = .ok (.iload_n 1, 1) := by decide +kernel
theorem dX7_looks_2 : decode cX7_looks 2 = .ok (.iload_n 2, 1) := by decide +kernel
theorem dX7_looks_3 : decode cX7_looks 3 = .ok (.iconst 0, 1) := by decide +kernel
theorem dX7_looks_4 : decode cX7_looks 4 = .ok (.invokevirtual 171, 3) := by decide +kernel
theorem dX7_looks_7 : decode cX7_looks 7 = .ok (.tableswitch 117 1 5 #[33, 40, 80, 87, 94], 33) := by decide +kernel
theorem dX7_looks_40 : decode cX7_looks 40 = .ok (.aload_n 0, 1) := by decide +kernel
theorem dX7_looks_41 : decode cX7_looks 41 = .ok (.iload_n 1, 1) := by decide +kernel
theorem dX7_looks_42 : decode cX7_looks 42 = .ok (.iload_n 2, 1) := by decide +kernel
theorem dX7_looks_43 : decode cX7_looks 43 = .ok (.invokevirtual 187, 3) := by decide +kernel
theorem dX7_looks_46 : decode cX7_looks 46 = .ok (.ireturn, 1) := by decide +kernel
theorem dX7_looks_47 : decode cX7_looks 47 = .ok (.aload_n 0, 1) := by decide +kernel
theorem dX7_looks_48 : decode cX7_looks 48 = .ok (.getfield 22, 3) := by decide +kernel
theorem dX7_looks_51 : decode cX7_looks 51 = .ok (.iconst 0, 1) := by decide +kernel
theorem dX7_looks_52 : decode cX7_looks 52 = .ok (.iaload, 1) := by decide +kernel
theorem dX7_looks_53 : decode cX7_looks 53 = .ok (.aload_n 0, 1) := by decide +kernel
theorem dX7_looks_54 : decode cX7_looks 54 = .ok (.getfield 22, 3) := by decide +kernel
theorem dX7_looks_57 : decode cX7_looks 57 = .ok (.iload_n 1, 1) := by decide +kernel
theorem dX7_looks_58 : decode cX7_looks 58 = .ok (.iload_n 2, 1) := by decide +kernel
theorem dX7_looks_59 : decode cX7_looks 59 = .ok (.iconst 1, 1) := by decide +kernel
theorem dX7_looks_60 : decode cX7_looks 60 = .ok (.invokestatic 169, 3) := by decide +kernel
theorem dX7_looks_63 : decode cX7_looks 63 = .ok (.iaload, 1) := by decide +kernel
theorem dX7_looks_64 : decode cX7_looks 64 = .ok (.aload_n 0, 1) := by decide +kernel
theorem dX7_looks_65 : decode cX7_looks 65 = .ok (.iload_n 1, 1) := by decide +kernel
theorem dX7_looks_66 : decode cX7_looks 66 = .ok (.iload_n 2, 1) := by decide +kernel
theorem dX7_looks_67 : decode cX7_looks 67 = .ok (.iconst 1, 1) := by decide +kernel
theorem dX7_looks_68 : decode cX7_looks 68 = .ok (.invokevirtual 171, 3) := by decide +kernel
theorem dX7_looks_71 : decode cX7_looks 71 = .ok (.iadd, 1) := by decide +kernel
theorem dX7_looks_72 : decode cX7_looks 72 = .ok (.if_icmp .lt 13, 3) := by decide +kernel
theorem dX7_looks_75 : decode cX7_looks 75 = .ok (.aload_n 0, 1) := by decide +kernel
theorem dX7_looks_76 : decode cX7_looks 76 = .ok (.iload_n 1, 1) := by decide +kernel
theorem dX7_looks_77 : decode cX7_looks 77 = .ok (.iload_n 2, 1) := by decide +kernel
theorem dX7_looks_78 : decode cX7_looks 78 = .ok (.iconst 2, 1) := by decide +kernel
theorem dX7_looks_79 : decode cX7_looks 79 = .ok (.invokevirtual 184, 3) := by decide +kernel
theorem dX7_looks_82 : decode cX7_looks 82 = .ok (.goto 4, 3) := by decide +kernel
theorem dX7_looks_85 : decode cX7_looks 85 = .ok (.iconst 1, 1) := by decide +kernel
theorem dX7_looks_86 : decode cX7_looks 86 = .ok (.ireturn, 1) := by decide +kernel
theorem dX7_looks_87 : decode cX7_looks 87 = .ok (.aload_n 0, 1) := by decide +kernel
theorem dX7_looks_88 : decode cX7_looks 88 = .ok (.iload_n 1, 1) := by decide +kernel
theorem dX7_looks_89 : decode cX7_looks 89 = .ok (.iload_n 2, 1) := by decide +kernel
theorem dX7_looks_90 : decode cX7_looks 90 = .ok (.invokevirtual 190, 3) := by decide +kernel
theorem dX7_looks_93 : decode cX7_looks 93 = .ok (.ireturn, 1) := by decide +kernel
theorem dX7_looks_94 : decode cX7_looks 94 = .ok (.aload_n 0, 1) := by decide +kernel
theorem dX7_looks_95 : decode cX7_looks 95 = .ok (.iload_n 1, 1) := by decide +kernel
theorem dX7_looks_96 : decode cX7_looks 96 = .ok (.iload_n 2, 1) := by decide +kernel
theorem dX7_looks_97 : decode cX7_looks 97 = .ok (.invokevirtual 193, 3) := by decide +kernel
theorem dX7_looks_100 : decode cX7_looks 100 = .ok (.ireturn, 1) := by decide +kernel
theorem dX7_looks_101 : decode cX7_looks 101 = .ok (.aload_n 0, 1) := by decide +kernel
theorem dX7_looks_102 : decode cX7_looks 102 = .ok (.iload_n 1, 1) := by decide +kernel
theorem dX7_looks_103 : decode cX7_looks 103 = .ok (.iload_n 2, 1) := by decide +kernel
theorem dX7_looks_104 : decode cX7_looks 104 = .ok (.aload_n 0, 1) := by decide +kernel
theorem dX7_looks_105 : decode cX7_looks 105 = .ok (.iload_n 1, 1) := by decide +kernel
theorem dX7_looks_106 : decode cX7_looks 106 = .ok (.aload_n 0, 1) := by decide +kernel
theorem dX7_looks_107 : decode cX7_looks 107 = .ok (.getfield 22, 3) := by decide +kernel
theorem dX7_looks_110 : decode cX7_looks 110 = .ok (.iload_n 1, 1) := by decide +kernel
theorem dX7_looks_111 : decode cX7_looks 111 = .ok (.iload_n 2, 1) := by decide +kernel
theorem dX7_looks_112 : decode cX7_looks 112 = .ok (.iconst 2, 1) := by decide +kernel
theorem dX7_looks_113 : decode cX7_looks 113 = .ok (.invokestatic 169, 3) := by decide +kernel
theorem dX7_looks_116 : decode cX7_looks 116 = .ok (.iaload, 1) := by decide +kernel
theorem dX7_looks_117 : decode cX7_looks 117 = .ok (.invokevirtual 196, 3) := by decide +kernel
theorem dX7_looks_120 : decode cX7_looks 120 = .ok (.invokevirtual 184, 3) := by decide +kernel
theorem dX7_looks_123 : decode cX7_looks 123 = .ok (.ireturn, 1) := by decide +kernel
theorem dX7_looks_124 : decode cX7_looks 124 = .ok (.aload_n 0, 1) := by decide +kernel
theorem dX7_looks_125 : decode cX7_looks 125 = .ok (.iload_n 1, 1) := by decide +kernel
theorem dX7_looks_126 : decode cX7_looks 126 = .ok (.iload_n 2, 1) := by decide +kernel
theorem dX7_looks_127 : decode cX7_looks 127 = .ok (.invokevirtual 199, 3) := by decide +kernel
theorem dX7_looks_130 : decode cX7_looks 130 = .ok (.ireturn, 1) := by decide +kernel
theorem dX7_begins_0 : decode cX7_begins 0 = .ok (.aload_n 0, 1) := by decide +kernel
theorem dX7_begins_1 : decode cX7_begins 1 = .ok (.getfield 22, 3) := by decide +kernel
theorem dX7_begins_4 : decode cX7_begins 4 = .ok (.iload_n 1, 1) := by decide +kernel
theorem dX7_begins_5 : decode cX7_begins 5 = .ok (.iload_n 2, 1) := by decide +kernel
theorem dX7_begins_6 : decode cX7_begins 6 = .ok (.iconst 0, 1) := by decide +kernel
theorem dX7_begins_7 : decode cX7_begins 7 = .ok (.invokestatic 169, 3) := by decide +kernel
theorem dX7_begins_10 : decode cX7_begins 10 = .ok (.iconst 1, 1) := by decide +kernel
theorem dX7_begins_11 : decode cX7_begins 11 = .ok (.iastore, 1) := by decide +kernel
theorem dX7_begins_12 : decode cX7_begins 12 = .ok (.aload_n 0, 1) := by decide +kernel
theorem dX7_begins_13 : decode cX7_begins 13 = .ok (.getfield 22, 3) := by decide +kernel
theorem dX7_begins_16 : decode cX7_begins 16 = .ok (.iload_n 1, 1) := by decide +kernel
theorem dX7_begins_17 : decode cX7_begins 17 = .ok (.iload_n 2, 1) := by decide +kernel
theorem dX7_begins_18 : decode cX7_begins 18 = .ok (.iconst 1, 1) := by decide +kernel
theorem dX7_begins_19 : decode cX7_begins 19 = .ok (.invokestatic 169, 3) := by decide +kernel
theorem dX7_begins_22 : decode cX7_begins 22 = .ok (.aload_n 0, 1) := by decide +kernel
theorem dX7_begins_23 : decode cX7_begins 23 = .ok (.getfield 22, 3) := by decide +kernel
theorem dX7_begins_26 : decode cX7_begins 26 = .ok (.iconst 0, 1) := by decide +kernel
theorem dX7_begins_27 : decode cX7_begins 27 = .ok (.iaload, 1) := by decide +kernel
theorem dX7_begins_28 : decode cX7_begins 28 = .ok (.iastore, 1) := by decide +kernel
theorem dX7_begins_29 : decode cX7_begins 29 = .ok (.aload_n 0, 1) := by decide +kernel
theorem dX7_begins_30 : decode cX7_begins 30 = .ok (.iload_n 1, 1) := by decide +kernel
theorem dX7_begins_31 : decode cX7_begins 31 = .ok (.iload_n 2, 1) := by decide +kernel
theorem dX7_begins_32 : decode cX7_begins 32 = .ok (.iconst 0, 1) := by decide +kernel
theorem dX7_begins_33 : decode cX7_begins 33 = .ok (.invokevirtual 171, 3) := by decide +kernel
theorem dX7_begins_36 : decode cX7_begins 36 = .ok (.istore_n 3, 1) := by decide +kernel
theorem dX7_begins_37 : decode cX7_begins 37 = .ok (.iload_n 3, 1) := by decide +kernel
theorem dX7_begins_38 : decode cX7_begins 38 = .ok (.iconst 1, 1) := by decide +kernel
theorem dX7_begins_39 : decode cX7_begins 39 = .ok (.if_icmp .ne 9, 3) := by decide +kernel
theorem dX7_begins_42 : decode cX7_begins 42 = .ok (.aload_n 0, 1) := by decide +kernel
theorem dX7_begins_43 : decode cX7_begins 43 = .ok (.iload_n 1, 1) := by decide +kernel
theorem dX7_begins_44 : decode cX7_begins 44 = .ok (.iload_n 2, 1) := by decide +kernel
theorem dX7_begins_45 : decode cX7_begins 45 = .ok (.invokevirtual 177, 3) := by decide +kernel
theorem dX7_begins_48 : decode cX7_begins 48 = .ok (.iload_n 3, 1) := by decide +kernel
theorem dX7_begins_49 : decode cX7_begins 49 = .ok (.iconst 5, 1) := by decide +kernel
theorem dX7_begins_50 : decode cX7_begins 50 = .ok (.if_icmp .ne 78, 3) := by decide +kernel
theorem dX7_begins_53 : decode cX7_begins 53 = .ok (.aload_n 0, 1) := by decide +kernel
theorem dX7_begins_54 : decode cX7_begins 54 = .ok (.iload_n 1, 1) := by decide +kernel
theorem dX7_begins_55 : decode cX7_begins 55 = .ok (.iload_n 2, 1) := by decide +kernel
theorem dX7_begins_56 : decode cX7_begins 56 = .ok (.iconst 5, 1) := by decide +kernel
theorem dX7_begins_57 : decode cX7_begins 57 = .ok (.invokevirtual 171, 3) := by decide +kernel
theorem dX7_begins_60 : decode cX7_begins 60 = .ok (.istore 4, 2) := by decide +kernel
theorem dX7_begins_62 : decode cX7_begins 62 = .ok (.aload_n 0, 1) := by decide +kernel
theorem dX7_begins_63 : decode cX7_begins 63 = .ok (.getfield 22, 3) := by decide +kernel
theorem dX7_begins_66 : decode cX7_begins 66 = .ok (.iload_n 1, 1) := by decide +kernel
theorem dX7_begins_67 : decode cX7_begins 67 = .ok (.bipush 10, 2) := by decide +kernel
theorem dX7_begins_69 : decode cX7_begins 69 = .ok (.aload_n 0, 1) := by decide +kernel
theorem dX7_begins_70 : decode cX7_begins 70 = .ok (.iload_n 1, 1) := by decide +kernel
theorem dX7_begins_71 : decode cX7_begins 71 = .ok (.iload_n 2, 1) := by decide +kernel
theorem dX7_begins_72 : decode cX7_begins 72 = .ok (.iconst 1, 1) := by decide +kernel
theorem dX7_begins_73 : decode cX7_begins 73 = .ok (.invokevirtual 171, 3) := by decide +kernel
theorem dX7_begins_76 : decode cX7_begins 76 = .ok (.iadd, 1) := by decide +kernel
theorem dX7_begins_77 : decode cX7_begins 77 = .ok (.invokestatic 163, 3) := by decide +kernel
theorem dX7_begins_80 : decode cX7_begins 80 = .ok (.iaload, 1) := by decide +kernel
theorem dX7_begins_81 : decode cX7_begins 81 = .ok (.aload_n 0, 1) := by decide +kernel
theorem dX7_begins_82 : decode cX7_begins 82 = .ok (.iload_n 1, 1) := by decide +kernel
theorem dX7_begins_83 : decode cX7_begins 83 = .ok (.iload_n 2, 1) := by decide +kernel
theorem dX7_begins_84 : decode cX7_begins 84 = .ok (.iconst 2, 1) := by decide +kernel
theorem dX7_begins_85 : decode cX7_begins 85 = .ok (.invokevirtual 171, 3) := by decide +kernel
theorem dX7_begins_88 : decode cX7_begins 88 = .ok (.if_icmp .ge 7, 3) := by decide +kernel
theorem dX7_begins_91 : decode cX7_begins 91 = .ok (.iconst 1, 1) := by decide +kernel
theorem dX7_begins_92 : decode cX7_begins 92 = .ok (.goto 4, 3) := by decide +kernel
theorem dX7_begins_95 : decode cX7_begins 95 = .ok (.iconst 0, 1) := by decide +kernel
theorem dX7_begins_96 : decode cX7_begins 96 = .ok (.istore 5, 2) := by decide +kernel
theorem dX7_begins_98 : decode cX7_begins 98 = .ok (.aload_n 0, 1) := by decide +kernel
theorem dX7_begins_99 : decode cX7_begins 99 = .ok (.getfield 22, 3) := by decide +kernel
theorem dX7_begins_102 : decode cX7_begins 102 = .ok (.iload_n 1, 1) := by decide +kernel
theorem dX7_begins_103 : decode cX7_begins 103 = .ok (.iload_n 2, 1) := by decide +kernel
theorem dX7_begins_104 : decode cX7_begins 104 = .ok (.iconst 2, 1) := by decide +kernel
theorem dX7_begins_105 : decode cX7_begins 105 = .ok (.invokestatic 169, 3) := by decide +kernel
theorem dX7_begins_108 : decode cX7_begins 108 = .ok (.iload 5, 2) := by decide +kernel
theorem dX7_begins_110 : decode cX7_begins 110 = .ok (.ifCond .eq 8, 3) := by decide +kernel
theorem dX7_begins_113 : decode cX7_begins 113 = .ok (.iload 4, 2) := by decide +kernel
theorem dX7_begins_115 : decode cX7_begins 115 = .ok (.goto 12, 3) := by decide +kernel
theorem dX7_begins_118 : decode cX7_begins 118 = .ok (.aload_n 0, 1) := by decide +kernel
theorem dX7_begins_119 : decode cX7_begins 119 = .ok (.iload_n 1, 1) := by decide +kernel
theorem dX7_begins_120 : decode cX7_begins 120 = .ok (.iload 4, 2) := by decide +kernel
theorem dX7_begins_122 : decode cX7_begins 122 = .ok (.bipush 6, 2) := by decide +kernel
theorem dX7_begins_124 : decode cX7_begins 124 = .ok (.invokevirtual 171, 3) := by decide +kernel
theorem dX7_begins_127 : decode cX7_begins 127 = .ok (.iastore, 1) := by decide +kernel
theorem dX7_begins_128 : decode cX7_begins 128 = .ok (.iload_n 3, 1) := by decide +kernel
theorem dX7_begins_129 : decode cX7_begins 129 = .ok (.bipush 6, 2) := by decide +kernel
theorem dX7_begins_131 : decode cX7_begins 131 = .ok (.if_icmp .ne 40, 3) := by decide +kernel
theorem dX7_begins_134 : decode cX7_begins 134 = .ok (.aload_n 0, 1) := by decide +kernel
theorem dX7_begins_135 : decode cX7_begins 135 = .ok (.iload_n 1, 1) := by decide +kernel
theorem dX7_begins_136 : decode cX7_begins 136 = .ok (.iload_n 2, 1) := by decide +kernel
theorem dX7_begins_137 : decode cX7_begins 137 = .ok (.iconst 5, 1) := by decide +kernel
theorem dX7_begins_138 : decode cX7_begins 138 = .ok (.invokevirtual 171, 3) := by decide +kernel
theorem dX7_begins_141 : decode cX7_begins 141 = .ok (.istore 4, 2) := by decide +kernel
theorem dX7_begins_143 : decode cX7_begins 143 = .ok (.iload 4, 2) := by decide +kernel
theorem dX7_begins_145 : decode cX7_begins 145 = .ok (.ifCond .lt 26, 3) := by decide +kernel
theorem dX7_begins_148 : decode cX7_begins 148 = .ok (.aload_n 0, 1) := by decide +kernel
theorem dX7_begins_149 : decode cX7_begins 149 = .ok (.iload_n 1, 1) := by decide +kernel
theorem dX7_begins_150 : decode cX7_begins 150 = .ok (.iload 4, 2) := by decide +kernel
theorem dX7_begins_152 : decode cX7_begins 152 = .ok (.invokevirtual 196, 3) := by decide +kernel
theorem dX7_begins_155 : decode cX7_begins 155 = .ok (.istore 5, 2) := by decide +kernel
theorem dX7_begins_157 : decode cX7_begins 157 = .ok (.aload_n 0, 1) := by decide +kernel
theorem dX7_begins_158 : decode cX7_begins 158 = .ok (.iload_n 1, 1) := by decide +kernel
theorem dX7_begins_159 : decode cX7_begins 159 = .ok (.iload 4, 2) := by decide +kernel
theorem dX7_begins_161 : decode cX7_begins 161 = .ok (.bipush 6, 2) := by decide +kernel
theorem dX7_begins_163 : decode cX7_begins 163 = .ok (.invokevirtual 171, 3) := by decide +kernel
theorem dX7_begins_166 : decode cX7_begins 166 = .ok (.istore 4, 2) := by decide +kernel
theorem dX7_begins_168 : decode cX7_begins 168 = .ok (.goto (-25), 3) := by decide +kernel
theorem dX7_begins_171 : decode cX7_begins 171 = .ok (.aload_n 0, 1) := by decide +kernel
theorem dX7_begins_172 : decode cX7_begins 172 = .ok (.iload_n 1, 1) := by decide +kernel
theorem dX7_begins_173 : decode cX7_begins 173 = .ok (.iload_n 2, 1) := by decide +kernel
theorem dX7_begins_174 : decode cX7_begins 174 = .ok (.invokevirtual 202, 3) := by decide +kernel
theorem dX7_begins_177 : decode cX7_begins 177 = .ok (.ireturn, 1) := by decide +kernel
theorem dX7_looksAtBody_0 : decode cX7_looksAtBody 0 = .ok (.aload_n 0, 1) := by decide +kernel
theorem dX7_looksAtBody_1 : decode cX7_looksAtBody 1 = .ok (.getfield 22, 3) := by decide +kernel
theorem dX7_looksAtBody_4 : decode cX7_looksAtBody 4 = .ok (.iload_n 1, 1) := by decide +kernel
theorem dX7_looksAtBody_5 : decode cX7_looksAtBody 5 = .ok (.iload_n 2, 1) := by decide +kernel
theorem dX7_looksAtBody_6 : decode cX7_looksAtBody 6 = .ok (.iconst 0, 1) := by decide +kernel
theorem dX7_looksAtBody_7 : decode cX7_looksAtBody 7 = .ok (.invokestatic 169, 3) := by decide +kernel
theorem dX7_looksAtBody_10 : decode cX7_looksAtBody 10 = .ok (.iconst 1, 1) := by decide +kernel
theorem dX7_looksAtBody_11 : decode cX7_looksAtBody 11 = .ok (.iastore, 1) := by decide +kernel
theorem dX7_looksAtBody_12 : decode cX7_looksAtBody 12 = .ok (.aload_n 0, 1) := by decide +kernel
theorem dX7_looksAtBody_13 : decode cX7_looksAtBody 13 = .ok (.iload_n 1, 1) := by decide +kernel
theorem dX7_looksAtBody_14 : decode cX7_looksAtBody 14 = .ok (.iload_n 2, 1) := by decide +kernel
theorem dX7_looksAtBody_15 : decode cX7_looksAtBody 15 = .ok (.iconst 5, 1) := by decide +kernel
theorem dX7_looksAtBody_16 : decode cX7_looksAtBody 16 = .ok (.invokevirtual 171, 3) := by decide +kernel
theorem dX7_looksAtBody_19 : decode cX7_looksAtBody 19 = .ok (.istore_n 3, 1) := by decide +kernel
theorem dX7_looksAtBody_20 : decode cX7_looksAtBody 20 = .ok (.iload_n 3, 1) := by decide +kernel
theorem dX7_looksAtBody_21 : decode cX7_looksAtBody 21 = .ok (.ifCond .lt 86, 3) := by decide +kernel
theorem dX7_looksAtBody_24 : decode cX7_looksAtBody 24 = .ok (.aload_n 0, 1) := by decide +kernel
theorem dX7_looksAtBody_25 : decode cX7_looksAtBody 25 = .ok (.getfield 22, 3) := by decide +kernel
theorem dX7_looksAtBody_28 : decode cX7_looksAtBody 28 = .ok (.iload_n 1, 1) := by decide +kernel
theorem dX7_looksAtBody_29 : decode cX7_looksAtBody 29 = .ok (.iload_n 3, 1) := by decide +kernel
theorem dX7_looksAtBody_30 : decode cX7_looksAtBody 30 = .ok (.iconst 0, 1) := by decide +kernel
theorem dX7_looksAtBody_31 : decode cX7_looksAtBody 31 = .ok (.invokestatic 169, 3) := by decide +kernel
theorem dX7_looksAtBody_34 : decode cX7_looksAtBody 34 = .ok (.iaload, 1) := by decide +kernel
theorem dX7_looksAtBody_35 : decode cX7_looksAtBody 35 = .ok (.istore 4, 2) := by decide +kernel
theorem dX7_looksAtBody_37 : decode cX7_looksAtBody 37 = .ok (.iload 4, 2) := by decide +kernel
theorem dX7_looksAtBody_39 : decode cX7_looksAtBody 39 = .ok (.ifCond .ne 14, 3) := by decide +kernel
theorem dX7_looksAtBody_42 : decode cX7_looksAtBody 42 = .ok (.aload_n 0, 1) := by decide +kernel
theorem dX7_looksAtBody_43 : decode cX7_looksAtBody 43 = .ok (.iload_n 1, 1) := by decide +kernel
theorem dX7_looksAtBody_44 : decode cX7_looksAtBody 44 = .ok (.iload_n 3, 1) := by decide +kernel
theorem dX7_looksAtBody_45 : decode cX7_looksAtBody 45 = .ok (.invokevirtual 205, 3) := by decide +kernel
theorem dX7_looksAtBody_48 : decode cX7_looksAtBody 48 = .ok (.istore 4, 2) := by decide +kernel
theorem dX7_looksAtBody_50 : decode cX7_looksAtBody 50 = .ok (.goto 23, 3) := by decide +kernel
theorem dX7_looksAtBody_53 : decode cX7_looksAtBody 53 = .ok (.iload 4, 2) := by decide +kernel
theorem dX7_looksAtBody_55 : decode cX7_looksAtBody 55 = .ok (.iconst 1, 1) := by decide +kernel
theorem dX7_looksAtBody_56 : decode cX7_looksAtBody 56 = .ok (.if_icmp .eq 9, 3) := by decide +kernel
theorem dX7_looksAtBody_59 : decode cX7_looksAtBody 59 = .ok (.iload 4, 2) := by decide +kernel
theorem dX7_looksAtBody_61 : decode cX7_looksAtBody 61 = .ok (.iconst 5, 1) := by decide +kernel
theorem dX7_looksAtBody_62 : decode cX7_looksAtBody 62 = .ok (.if_icmp .ne 11, 3) := by decide +kernel
theorem dX7_looksAtBody_65 : decode cX7_looksAtBody 65 = .ok (.aload_n 0, 1) := by decide +kernel
theorem dX7_looksAtBody_66 : decode cX7_looksAtBody 66 = .ok (.iload_n 1, 1) := by decide +kernel
theorem dX7_looksAtBody_67 : decode cX7_looksAtBody 67 = .ok (.iload_n 3, 1) := by decide +kernel
theorem dX7_looksAtBody_68 : decode cX7_looksAtBody 68 = .ok (.invokevirtual 202, 3) := by decide +kernel
theorem dX7_looksAtBody_71 : decode cX7_looksAtBody 71 = .ok (.istore 4, 2) := by decide +kernel
theorem dX7_looksAtBody_73 : decode cX7_looksAtBody 73 = .ok (.iload 4, 2) := by decide +kernel
theorem dX7_looksAtBody_75 : decode cX7_looksAtBody 75 = .ok (.iconst 3, 1) := by decide +kernel
theorem dX7_looksAtBody_76 : decode cX7_looksAtBody 76 = .ok (.if_icmp .ne 11, 3) := by decide +kernel
theorem dX7_looksAtBody_79 : decode cX7_looksAtBody 79 = .ok (.aload_n 0, 1) := by decide +kernel
theorem dX7_looksAtBody_80 : decode cX7_looksAtBody 80 = .ok (.iload_n 1, 1) := by decide +kernel
theorem dX7_looksAtBody_81 : decode cX7_looksAtBody 81 = .ok (.iload_n 2, 1) := by decide +kernel
theorem dX7_looksAtBody_82 : decode cX7_looksAtBody 82 = .ok (.iconst 3, 1) := by decide +kernel
theorem dX7_looksAtBody_83 : decode cX7_looksAtBody 83 = .ok (.invokevirtual 184, 3) := by decide +kernel
theorem dX7_looksAtBody_86 : decode cX7_looksAtBody 86 = .ok (.ireturn, 1) := by decide +kernel
theorem dX7_looksAtBody_87 : decode cX7_looksAtBody 87 = .ok (.iload 4, 2) := by decide +kernel
theorem dX7_looksAtBody_89 : decode cX7_looksAtBody 89 = .ok (.iconst 2, 1) := by decide +kernel
theorem dX7_looksAtBody_90 : decode cX7_looksAtBody 90 = .ok (.if_icmp .eq 5, 3) := by decide +kernel
theorem dX7_looksAtBody_93 : decode cX7_looksAtBody 93 = .ok (.iconst 1, 1) := by decide +kernel
theorem dX7_looksAtBody_94 : decode cX7_looksAtBody 94 = .ok (.ireturn, 1) := by decide +kernel
theorem dX7_looksAtBody_95 : decode cX7_looksAtBody 95 = .ok (.aload_n 0, 1) := by decide +kernel
theorem dX7_looksAtBody_96 : decode cX7_looksAtBody 96 = .ok (.iload_n 1, 1) := by decide +kernel
theorem dX7_looksAtBody_97 : decode cX7_looksAtBody 97 = .ok (.iload_n 3, 1) := by decide +kernel
theorem dX7_looksAtBody_98 : decode cX7_looksAtBody 98 = .ok (.bipush 6, 2) := by decide +kernel
theorem dX7_looksAtBody_100 : decode cX7_looksAtBody 100 = .ok (.invokevirtual 171, 3) := by decide +kernel
theorem dX7_looksAtBody_103 : decode cX7_looksAtBody 103 = .ok (.istore_n 3, 1) := by decide +kernel
theorem dX7_looksAtBody_104 : decode cX7_looksAtBody 104 = .ok (.goto (-84), 3) := by decide +kernel
theorem dX7_looksAtBody_107 : decode cX7_looksAtBody 107 = .ok (.aload_n 0, 1) := by decide +kernel
theorem dX7_looksAtBody_108 : decode cX7_looksAtBody 108 = .ok (.iload_n 1, 1) := by decide +kernel
theorem dX7_looksAtBody_109 : decode cX7_looksAtBody 109 = .ok (.iload_n 2, 1) := by decide +kernel
theorem dX7_looksAtBody_110 : decode cX7_looksAtBody 110 = .ok (.iconst 2, 1) := by decide +kernel
theorem dX7_looksAtBody_111 : decode cX7_looksAtBody 111 = .ok (.invokevirtual 184, 3) := by decide +kernel
theorem dX7_looksAtBody_114 : decode cX7_looksAtBody 114 = .ok (.ireturn, 1) := by decide +kernel
theorem dX7_bodiesIn_0 : decode cX7_bodiesIn 0 = .ok (.iconst 0, 1) := by decide +kernel
theorem dX7_bodiesIn_1 : decode cX7_bodiesIn 1 = .ok (.istore 4, 2) := by decide +kernel
theorem dX7_bodiesIn_3 : decode cX7_bodiesIn 3 = .ok (.aload_n 0, 1) := by decide +kernel
theorem dX7_bodiesIn_4 : decode cX7_bodiesIn 4 = .ok (.iload_n 1, 1) := by decide +kernel
theorem dX7_bodiesIn_5 : decode cX7_bodiesIn 5 = .ok (.iload_n 2, 1) := by decide +kernel
theorem dX7_bodiesIn_6 : decode cX7_bodiesIn 6 = .ok (.iconst 5, 1) := by decide +kernel
theorem dX7_bodiesIn_7 : decode cX7_bodiesIn 7 = .ok (.invokevirtual 171, 3) := by decide +kernel
theorem dX7_bodiesIn_10 : decode cX7_bodiesIn 10 = .ok (.istore 5, 2) := by decide +kernel
theorem dX7_bodiesIn_12 : decode cX7_bodiesIn 12 = .ok (.iload 5, 2) := by decide +kernel
theorem dX7_bodiesIn_14 : decode cX7_bodiesIn 14 = .ok (.ifCond .lt 43, 3) := by decide +kernel
theorem dX7_bodiesIn_17 : decode cX7_bodiesIn 17 = .ok (.iload 4, 2) := by decide +kernel
theorem dX7_bodiesIn_19 : decode cX7_bodiesIn 19 = .ok (.aload_n 0, 1) := by decide +kernel
theorem dX7_bodiesIn_20 : decode cX7_bodiesIn 20 = .ok (.getfield 22, 3) := by decide +kernel
theorem dX7_bodiesIn_23 : decode cX7_bodiesIn 23 = .ok (.iload_n 1, 1) := by decide +kernel
theorem dX7_bodiesIn_24 : decode cX7_bodiesIn 24 = .ok (.iload 5, 2) := by decide +kernel
theorem dX7_bodiesIn_26 : decode cX7_bodiesIn 26 = .ok (.iconst 0, 1) := by decide +kernel
theorem dX7_bodiesIn_27 : decode cX7_bodiesIn 27 = .ok (.invokestatic 169, 3) := by decide +kernel
theorem dX7_bodiesIn_30 : decode cX7_bodiesIn 30 = .ok (.iaload, 1) := by decide +kernel
theorem dX7_bodiesIn_31 : decode cX7_bodiesIn 31 = .ok (.iload_n 3, 1) := by decide +kernel
theorem dX7_bodiesIn_32 : decode cX7_bodiesIn 32 = .ok (.if_icmp .ne 7, 3) := by decide +kernel
theorem dX7_bodiesIn_35 : decode cX7_bodiesIn 35 = .ok (.iconst 1, 1) := by decide +kernel
theorem dX7_bodiesIn_36 : decode cX7_bodiesIn 36 = .ok (.goto 4, 3) := by decide +kernel
theorem dX7_bodiesIn_39 : decode cX7_bodiesIn 39 = .ok (.iconst 0, 1) := by decide +kernel
theorem dX7_bodiesIn_40 : decode cX7_bodiesIn 40 = .ok (.iadd, 1) := by decide +kernel
theorem dX7_bodiesIn_41 : decode cX7_bodiesIn 41 = .ok (.istore 4, 2) := by decide +kernel
theorem dX7_bodiesIn_43 : decode cX7_bodiesIn 43 = .ok (.aload_n 0, 1) := by decide +kernel
theorem dX7_bodiesIn_44 : decode cX7_bodiesIn 44 = .ok (.iload_n 1, 1) := by decide +kernel
theorem dX7_bodiesIn_45 : decode cX7_bodiesIn 45 = .ok (.iload 5, 2) := by decide +kernel
theorem dX7_bodiesIn_47 : decode cX7_bodiesIn 47 = .ok (.bipush 6, 2) := by decide +kernel
theorem dX7_bodiesIn_49 : decode cX7_bodiesIn 49 = .ok (.invokevirtual 171, 3) := by decide +kernel
theorem dX7_bodiesIn_52 : decode cX7_bodiesIn 52 = .ok (.istore 5, 2) := by decide +kernel
theorem dX7_bodiesIn_54 : decode cX7_bodiesIn 54 = .ok (.goto (-42), 3) := by decide +kernel
theorem dX7_bodiesIn_57 : decode cX7_bodiesIn 57 = .ok (.iload 4, 2) := by decide +kernel
theorem dX7_bodiesIn_59 : decode cX7_bodiesIn 59 = .ok (.ireturn, 1) := by decide +kernel
theorem dX7_cancels_0 : decode cX7_cancels 0 = .ok (.aload_n 0, 1) := by decide +kernel
theorem dX7_cancels_1 : decode cX7_cancels 1 = .ok (.getfield 22, 3) := by decide +kernel
theorem dX7_cancels_4 : decode cX7_cancels 4 = .ok (.iload_n 1, 1) := by decide +kernel
theorem dX7_cancels_5 : decode cX7_cancels 5 = .ok (.iload_n 2, 1) := by decide +kernel
theorem dX7_cancels_6 : decode cX7_cancels 6 = .ok (.iconst 0, 1) := by decide +kernel
theorem dX7_cancels_7 : decode cX7_cancels 7 = .ok (.invokestatic 169, 3) := by decide +kernel
theorem dX7_cancels_10 : decode cX7_cancels 10 = .ok (.iconst 4, 1) := by decide +kernel
theorem dX7_cancels_11 : decode cX7_cancels 11 = .ok (.iastore, 1) := by decide +kernel
theorem dX7_cancels_12 : decode cX7_cancels 12 = .ok (.aload_n 0, 1) := by decide +kernel
theorem dX7_cancels_13 : decode cX7_cancels 13 = .ok (.getfield 22, 3) := by decide +kernel
theorem dX7_cancels_16 : decode cX7_cancels 16 = .ok (.iload_n 1, 1) := by decide +kernel
theorem dX7_cancels_17 : decode cX7_cancels 17 = .ok (.iload_n 2, 1) := by decide +kernel
theorem dX7_cancels_18 : decode cX7_cancels 18 = .ok (.bipush 7, 2) := by decide +kernel
theorem dX7_cancels_20 : decode cX7_cancels 20 = .ok (.invokestatic 169, 3) := by decide +kernel
theorem dX7_cancels_23 : decode cX7_cancels 23 = .ok (.iconst (-1), 1) := by decide +kernel
theorem dX7_cancels_24 : decode cX7_cancels 24 = .ok (.iastore, 1) := by decide +kernel
theorem dX7_cancels_25 : decode cX7_cancels 25 = .ok (.aload_n 0, 1) := by decide +kernel
theorem dX7_cancels_26 : decode cX7_cancels 26 = .ok (.iload_n 1, 1) := by decide +kernel
theorem dX7_cancels_27 : decode cX7_cancels 27 = .ok (.iload_n 2, 1) := by decide +kernel
theorem dX7_cancels_28 : decode cX7_cancels 28 = .ok (.iconst 5, 1) := by decide +kernel
theorem dX7_cancels_29 : decode cX7_cancels 29 = .ok (.invokevirtual 171, 3) := by decide +kernel
theorem dX7_cancels_32 : decode cX7_cancels 32 = .ok (.istore_n 3, 1) := by decide +kernel
theorem dX7_cancels_33 : decode cX7_cancels 33 = .ok (.iload_n 3, 1) := by decide +kernel
theorem dX7_cancels_34 : decode cX7_cancels 34 = .ok (.ifCond .lt 46, 3) := by decide +kernel
theorem dX7_cancels_37 : decode cX7_cancels 37 = .ok (.aload_n 0, 1) := by decide +kernel
theorem dX7_cancels_38 : decode cX7_cancels 38 = .ok (.getfield 22, 3) := by decide +kernel
theorem dX7_cancels_41 : decode cX7_cancels 41 = .ok (.iload_n 1, 1) := by decide +kernel
theorem dX7_cancels_42 : decode cX7_cancels 42 = .ok (.iload_n 3, 1) := by decide +kernel
theorem dX7_cancels_43 : decode cX7_cancels 43 = .ok (.iconst 0, 1) := by decide +kernel
theorem dX7_cancels_44 : decode cX7_cancels 44 = .ok (.invokestatic 169, 3) := by decide +kernel
theorem dX7_cancels_47 : decode cX7_cancels 47 = .ok (.iaload, 1) := by decide +kernel
theorem dX7_cancels_48 : decode cX7_cancels 48 = .ok (.istore 4, 2) := by decide +kernel
theorem dX7_cancels_50 : decode cX7_cancels 50 = .ok (.iload 4, 2) := by decide +kernel
theorem dX7_cancels_52 : decode cX7_cancels 52 = .ok (.iconst 1, 1) := by decide +kernel
theorem dX7_cancels_53 : decode cX7_cancels 53 = .ok (.if_icmp .eq 9, 3) := by decide +kernel
theorem dX7_cancels_56 : decode cX7_cancels 56 = .ok (.iload 4, 2) := by decide +kernel
theorem dX7_cancels_58 : decode cX7_cancels 58 = .ok (.iconst 5, 1) := by decide +kernel
theorem dX7_cancels_59 : decode cX7_cancels 59 = .ok (.if_icmp .ne 9, 3) := by decide +kernel
theorem dX7_cancels_62 : decode cX7_cancels 62 = .ok (.aload_n 0, 1) := by decide +kernel
theorem dX7_cancels_63 : decode cX7_cancels 63 = .ok (.iload_n 1, 1) := by decide +kernel
theorem dX7_cancels_64 : decode cX7_cancels 64 = .ok (.iload_n 3, 1) := by decide +kernel
theorem dX7_cancels_65 : decode cX7_cancels 65 = .ok (.invokevirtual 208, 3) := by decide +kernel
theorem dX7_cancels_68 : decode cX7_cancels 68 = .ok (.aload_n 0, 1) := by decide +kernel
theorem dX7_cancels_69 : decode cX7_cancels 69 = .ok (.iload_n 1, 1) := by decide +kernel
theorem dX7_cancels_70 : decode cX7_cancels 70 = .ok (.iload_n 3, 1) := by decide +kernel
theorem dX7_cancels_71 : decode cX7_cancels 71 = .ok (.bipush 6, 2) := by decide +kernel
theorem dX7_cancels_73 : decode cX7_cancels 73 = .ok (.invokevirtual 171, 3) := by decide +kernel
theorem dX7_cancels_76 : decode cX7_cancels 76 = .ok (.istore_n 3, 1) := by decide +kernel
theorem dX7_cancels_77 : decode cX7_cancels 77 = .ok (.goto (-44), 3) := by decide +kernel
theorem dX7_cancels_80 : decode cX7_cancels 80 = .ok (.return_, 1) := by decide +kernel
theorem dX7_cancelsBodies_0 : decode cX7_cancelsBodies 0 = .ok (.iconst 0, 1) := by decide +kernel
theorem dX7_cancelsBodies_1 : decode cX7_cancelsBodies 1 = .ok (.istore_n 3, 1) := by decide +kernel
theorem dX7_cancelsBodies_2 : decode cX7_cancelsBodies 2 = .ok (.aload_n 0, 1) := by decide +kernel
theorem dX7_cancelsBodies_3 : decode cX7_cancelsBodies 3 = .ok (.iload_n 1, 1) := by decide +kernel
theorem dX7_cancelsBodies_4 : decode cX7_cancelsBodies 4 = .ok (.iload_n 2, 1) := by decide +kernel
theorem dX7_cancelsBodies_5 : decode cX7_cancelsBodies 5 = .ok (.iconst 5, 1) := by decide +kernel
theorem dX7_cancelsBodies_6 : decode cX7_cancelsBodies 6 = .ok (.invokevirtual 171, 3) := by decide +kernel
theorem dX7_cancelsBodies_9 : decode cX7_cancelsBodies 9 = .ok (.istore 4, 2) := by decide +kernel
theorem dX7_cancelsBodies_11 : decode cX7_cancelsBodies 11 = .ok (.iload 4, 2) := by decide +kernel
theorem dX7_cancelsBodies_13 : decode cX7_cancelsBodies 13 = .ok (.ifCond .lt 51, 3) := by decide +kernel
theorem dX7_cancelsBodies_16 : decode cX7_cancelsBodies 16 = .ok (.aload_n 0, 1) := by decide +kernel
theorem dX7_cancelsBodies_17 : decode cX7_cancelsBodies 17 = .ok (.getfield 22, 3) := by decide +kernel
theorem dX7_cancelsBodies_20 : decode cX7_cancelsBodies 20 = .ok (.iload_n 1, 1) := by decide +kernel
theorem dX7_cancelsBodies_21 : decode cX7_cancelsBodies 21 = .ok (.iload 4, 2) := by decide +kernel
theorem dX7_cancelsBodies_23 : decode cX7_cancelsBodies 23 = .ok (.iconst 0, 1) := by decide +kernel
theorem dX7_cancelsBodies_24 : decode cX7_cancelsBodies 24 = .ok (.invokestatic 169, 3) := by decide +kernel
theorem dX7_cancelsBodies_27 : decode cX7_cancelsBodies 27 = .ok (.iaload, 1) := by decide +kernel
theorem dX7_cancelsBodies_28 : decode cX7_cancelsBodies 28 = .ok (.iconst 1, 1) := by decide +kernel
theorem dX7_cancelsBodies_29 : decode cX7_cancelsBodies 29 = .ok (.if_icmp .ne 18, 3) := by decide +kernel
theorem dX7_cancelsBodies_32 : decode cX7_cancelsBodies 32 = .ok (.aload_n 0, 1) := by decide +kernel
theorem dX7_cancelsBodies_33 : decode cX7_cancelsBodies 33 = .ok (.iload_n 1, 1) := by decide +kernel
theorem dX7_cancelsBodies_34 : decode cX7_cancelsBodies 34 = .ok (.iload 4, 2) := by decide +kernel
theorem dX7_cancelsBodies_36 : decode cX7_cancelsBodies 36 = .ok (.invokevirtual 208, 3) := by decide +kernel
theorem dX7_cancelsBodies_39 : decode cX7_cancelsBodies 39 = .ok (.aload_n 0, 1) := by decide +kernel
theorem dX7_cancelsBodies_40 : decode cX7_cancelsBodies 40 = .ok (.iload_n 1, 1) := by decide +kernel
theorem dX7_cancelsBodies_41 : decode cX7_cancelsBodies 41 = .ok (.bipush 10, 2) := by decide +kernel
theorem dX7_cancelsBodies_43 : decode cX7_cancelsBodies 43 = .ok (.iload_n 3, 1) := by decide +kernel
theorem dX7_cancelsBodies_44 : decode cX7_cancelsBodies 44 = .ok (.invokevirtual 174, 3) := by decide +kernel
theorem dX7_cancelsBodies_47 : decode cX7_cancelsBodies 47 = .ok (.iinc 3 1, 3) := by decide +kernel
theorem dX7_cancelsBodies_50 : decode cX7_cancelsBodies 50 = .ok (.aload_n 0, 1) := by decide +kernel
theorem dX7_cancelsBodies_51 : decode cX7_cancelsBodies 51 = .ok (.iload_n 1, 1) := by decide +kernel
theorem dX7_cancelsBodies_52 : decode cX7_cancelsBodies 52 = .ok (.iload 4, 2) := by decide +kernel
theorem dX7_cancelsBodies_54 : decode cX7_cancelsBodies 54 = .ok (.bipush 6, 2) := by decide +kernel
theorem dX7_cancelsBodies_56 : decode cX7_cancelsBodies 56 = .ok (.invokevirtual 171, 3) := by decide +kernel
theorem dX7_cancelsBodies_59 : decode cX7_cancelsBodies 59 = .ok (.istore 4, 2) := by decide +kernel
theorem dX7_cancelsBodies_61 : decode cX7_cancelsBodies 61 = .ok (.goto (-50), 3) := by decide +kernel
theorem dX7_cancelsBodies_64 : decode cX7_cancelsBodies 64 = .ok (.return_, 1) := by decide +kernel
theorem dX7_looksAtParallel_0 : decode cX7_looksAtParallel 0 = .ok (.aload_n 0, 1) := by decide +kernel
theorem dX7_looksAtParallel_1 : decode cX7_looksAtParallel 1 = .ok (.getfield 22, 3) := by decide +kernel
theorem dX7_looksAtParallel_4 : decode cX7_looksAtParallel 4 = .ok (.iload_n 1, 1) := by decide +kernel
theorem dX7_looksAtParallel_5 : decode cX7_looksAtParallel 5 = .ok (.iload_n 2, 1) := by decide +kernel
theorem dX7_looksAtParallel_6 : decode cX7_looksAtParallel 6 = .ok (.iconst 0, 1) := by decide +kernel
theorem dX7_looksAtParallel_7 : decode cX7_looksAtParallel 7 = .ok (.invokestatic 169, 3) := by decide +kernel
theorem dX7_looksAtParallel_10 : decode cX7_looksAtParallel 10 = .ok (.iaload, 1) := by decide +kernel
theorem dX7_looksAtParallel_11 : decode cX7_looksAtParallel 11 = .ok (.iconst 5, 1) := by decide +kernel
theorem dX7_looksAtParallel_12 : decode cX7_looksAtParallel 12 = .ok (.if_icmp .eq 138, 3) := by decide +kernel
theorem dX7_looksAtParallel_15 : decode cX7_looksAtParallel 15 = .ok (.aload_n 0, 1) := by decide +kernel
theorem dX7_looksAtParallel_16 : decode cX7_looksAtParallel 16 = .ok (.iload_n 1, 1) := by decide +kernel
theorem dX7_looksAtParallel_17 : decode cX7_looksAtParallel 17 = .ok (.iload_n 2, 1) := by decide +kernel
theorem dX7_looksAtParallel_18 : decode cX7_looksAtParallel 18 = .ok (.iconst 5, 1) := by decide +kernel
theorem dX7_looksAtParallel_19 : decode cX7_looksAtParallel 19 = .ok (.invokevirtual 171, 3) := by decide +kernel
theorem dX7_looksAtParallel_22 : decode cX7_looksAtParallel 22 = .ok (.istore_n 3, 1) := by decide +kernel
theorem dX7_looksAtParallel_23 : decode cX7_looksAtParallel 23 = .ok (.iload_n 3, 1) := by decide +kernel
theorem dX7_looksAtParallel_24 : decode cX7_looksAtParallel 24 = .ok (.ifCond .lt 42, 3) := by decide +kernel
theorem dX7_looksAtParallel_27 : decode cX7_looksAtParallel 27 = .ok (.aload_n 0, 1) := by decide +kernel
theorem dX7_looksAtParallel_28 : decode cX7_looksAtParallel 28 = .ok (.getfield 22, 3) := by decide +kernel
theorem dX7_looksAtParallel_31 : decode cX7_looksAtParallel 31 = .ok (.iload_n 1, 1) := by decide +kernel
theorem dX7_looksAtParallel_32 : decode cX7_looksAtParallel 32 = .ok (.iload_n 3, 1) := by decide +kernel
theorem dX7_looksAtParallel_33 : decode cX7_looksAtParallel 33 = .ok (.iconst 0, 1) := by decide +kernel
theorem dX7_looksAtParallel_34 : decode cX7_looksAtParallel 34 = .ok (.invokestatic 169, 3) := by decide +kernel
theorem dX7_looksAtParallel_37 : decode cX7_looksAtParallel 37 = .ok (.iaload, 1) := by decide +kernel
theorem dX7_looksAtParallel_38 : decode cX7_looksAtParallel 38 = .ok (.iconst 1, 1) := by decide +kernel
theorem dX7_looksAtParallel_39 : decode cX7_looksAtParallel 39 = .ok (.if_icmp .ne 12, 3) := by decide +kernel
theorem dX7_looksAtParallel_42 : decode cX7_looksAtParallel 42 = .ok (.aload_n 0, 1) := by decide +kernel
theorem dX7_looksAtParallel_43 : decode cX7_looksAtParallel 43 = .ok (.iload_n 1, 1) := by decide +kernel
theorem dX7_looksAtParallel_44 : decode cX7_looksAtParallel 44 = .ok (.iload_n 3, 1) := by decide +kernel
theorem dX7_looksAtParallel_45 : decode cX7_looksAtParallel 45 = .ok (.invokevirtual 196, 3) := by decide +kernel
theorem dX7_looksAtParallel_48 : decode cX7_looksAtParallel 48 = .ok (.goto 4, 3) := by decide +kernel
theorem dX7_looksAtParallel_51 : decode cX7_looksAtParallel 51 = .ok (.iconst 0, 1) := by decide +kernel
theorem dX7_looksAtParallel_52 : decode cX7_looksAtParallel 52 = .ok (.istore 4, 2) := by decide +kernel
theorem dX7_looksAtParallel_54 : decode cX7_looksAtParallel 54 = .ok (.aload_n 0, 1) := by decide +kernel
theorem dX7_looksAtParallel_55 : decode cX7_looksAtParallel 55 = .ok (.iload_n 1, 1) := by decide +kernel
theorem dX7_looksAtParallel_56 : decode cX7_looksAtParallel 56 = .ok (.iload_n 3, 1) := by decide +kernel
theorem dX7_looksAtParallel_57 : decode cX7_looksAtParallel 57 = .ok (.bipush 6, 2) := by decide +kernel
theorem dX7_looksAtParallel_59 : decode cX7_looksAtParallel 59 = .ok (.invokevirtual 171, 3) := by decide +kernel
theorem dX7_looksAtParallel_62 : decode cX7_looksAtParallel 62 = .ok (.istore_n 3, 1) := by decide +kernel
theorem dX7_looksAtParallel_63 : decode cX7_looksAtParallel 63 = .ok (.goto (-40), 3) := by decide +kernel
theorem dX7_looksAtParallel_66 : decode cX7_looksAtParallel 66 = .ok (.aload_n 0, 1) := by decide +kernel
theorem dX7_looksAtParallel_67 : decode cX7_looksAtParallel 67 = .ok (.iload_n 1, 1) := by decide +kernel
theorem dX7_looksAtParallel_68 : decode cX7_looksAtParallel 68 = .ok (.iload_n 2, 1) := by decide +kernel
theorem dX7_looksAtParallel_69 : decode cX7_looksAtParallel 69 = .ok (.iconst 1, 1) := by decide +kernel
theorem dX7_looksAtParallel_70 : decode cX7_looksAtParallel 70 = .ok (.invokevirtual 171, 3) := by decide +kernel
theorem dX7_looksAtParallel_73 : decode cX7_looksAtParallel 73 = .ok (.istore_n 3, 1) := by decide +kernel
theorem dX7_looksAtParallel_74 : decode cX7_looksAtParallel 74 = .ok (.aload_n 0, 1) := by decide +kernel
theorem dX7_looksAtParallel_75 : decode cX7_looksAtParallel 75 = .ok (.iload_n 1, 1) := by decide +kernel
theorem dX7_looksAtParallel_76 : decode cX7_looksAtParallel 76 = .ok (.iload_n 2, 1) := by decide +kernel
theorem dX7_looksAtParallel_77 : decode cX7_looksAtParallel 77 = .ok (.iconst 2, 1) := by decide +kernel
theorem dX7_looksAtParallel_78 : decode cX7_looksAtParallel 78 = .ok (.invokevirtual 211, 3) := by decide +kernel
theorem dX7_looksAtParallel_81 : decode cX7_looksAtParallel 81 = .ok (.istore 4, 2) := by decide +kernel
theorem dX7_looksAtParallel_83 : decode cX7_looksAtParallel 83 = .ok (.iload 4, 2) := by decide +kernel
theorem dX7_looksAtParallel_85 : decode cX7_looksAtParallel 85 = .ok (.aload_n 0, 1) := by decide +kernel
theorem dX7_looksAtParallel_86 : decode cX7_looksAtParallel 86 = .ok (.iload_n 1, 1) := by decide +kernel
theorem dX7_looksAtParallel_87 : decode cX7_looksAtParallel 87 = .ok (.iload_n 2, 1) := by decide +kernel
theorem dX7_looksAtParallel_88 : decode cX7_looksAtParallel 88 = .ok (.iconst 1, 1) := by decide +kernel
theorem dX7_looksAtParallel_89 : decode cX7_looksAtParallel 89 = .ok (.invokevirtual 211, 3) := by decide +kernel
theorem dX7_looksAtParallel_92 : decode cX7_looksAtParallel 92 = .ok (.iadd, 1) := by decide +kernel
theorem dX7_looksAtParallel_93 : decode cX7_looksAtParallel 93 = .ok (.iload_n 3, 1) := by decide +kernel
theorem dX7_looksAtParallel_94 : decode cX7_looksAtParallel 94 = .ok (.if_icmp .ge 17, 3) := by decide +kernel
theorem dX7_looksAtParallel_97 : decode cX7_looksAtParallel 97 = .ok (.aload_n 0, 1) := by decide +kernel
theorem dX7_looksAtParallel_98 : decode cX7_looksAtParallel 98 = .ok (.iload_n 1, 1) := by decide +kernel
theorem dX7_looksAtParallel_99 : decode cX7_looksAtParallel 99 = .ok (.iload_n 2, 1) := by decide +kernel
theorem dX7_looksAtParallel_100 : decode cX7_looksAtParallel 100 = .ok (.invokevirtual 214, 3) := by decide +kernel
theorem dX7_looksAtParallel_103 : decode cX7_looksAtParallel 103 = .ok (.aload_n 0, 1) := by decide +kernel
theorem dX7_looksAtParallel_104 : decode cX7_looksAtParallel 104 = .ok (.iload_n 1, 1) := by decide +kernel
theorem dX7_looksAtParallel_105 : decode cX7_looksAtParallel 105 = .ok (.iload_n 2, 1) := by decide +kernel
theorem dX7_looksAtParallel_106 : decode cX7_looksAtParallel 106 = .ok (.iconst 3, 1) := by decide +kernel
theorem dX7_looksAtParallel_107 : decode cX7_looksAtParallel 107 = .ok (.invokevirtual 184, 3) := by decide +kernel
theorem dX7_looksAtParallel_110 : decode cX7_looksAtParallel 110 = .ok (.ireturn, 1) := by decide +kernel
theorem dX7_looksAtParallel_111 : decode cX7_looksAtParallel 111 = .ok (.iload 4, 2) := by decide +kernel
theorem dX7_looksAtParallel_113 : decode cX7_looksAtParallel 113 = .ok (.iload_n 3, 1) := by decide +kernel
theorem dX7_looksAtParallel_114 : decode cX7_looksAtParallel 114 = .ok (.if_icmp .ge 5, 3) := by decide +kernel
theorem dX7_looksAtParallel_117 : decode cX7_looksAtParallel 117 = .ok (.iconst 1, 1) := by decide +kernel
theorem dX7_looksAtParallel_118 : decode cX7_looksAtParallel 118 = .ok (.ireturn, 1) := by decide +kernel
theorem dX7_looksAtParallel_119 : decode cX7_looksAtParallel 119 = .ok (.aload_n 0, 1) := by decide +kernel
theorem dX7_looksAtParallel_120 : decode cX7_looksAtParallel 120 = .ok (.iload_n 1, 1) := by decide +kernel
theorem dX7_looksAtParallel_121 : decode cX7_looksAtParallel 121 = .ok (.iload_n 2, 1) := by decide +kernel
theorem dX7_looksAtParallel_122 : decode cX7_looksAtParallel 122 = .ok (.invokevirtual 214, 3) := by decide +kernel
theorem dX7_looksAtParallel_125 : decode cX7_looksAtParallel 125 = .ok (.aload_n 0, 1) := by decide +kernel
theorem dX7_looksAtParallel_126 : decode cX7_looksAtParallel 126 = .ok (.getfield 22, 3) := by decide +kernel
theorem dX7_looksAtParallel_129 : decode cX7_looksAtParallel 129 = .ok (.iload_n 1, 1) := by decide +kernel
theorem dX7_looksAtParallel_130 : decode cX7_looksAtParallel 130 = .ok (.iload_n 2, 1) := by decide +kernel
theorem dX7_looksAtParallel_131 : decode cX7_looksAtParallel 131 = .ok (.iconst 0, 1) := by decide +kernel
theorem dX7_looksAtParallel_132 : decode cX7_looksAtParallel 132 = .ok (.invokestatic 169, 3) := by decide +kernel
theorem dX7_looksAtParallel_135 : decode cX7_looksAtParallel 135 = .ok (.iconst 5, 1) := by decide +kernel
theorem dX7_looksAtParallel_136 : decode cX7_looksAtParallel 136 = .ok (.iastore, 1) := by decide +kernel
theorem dX7_looksAtParallel_137 : decode cX7_looksAtParallel 137 = .ok (.aload_n 0, 1) := by decide +kernel
theorem dX7_looksAtParallel_138 : decode cX7_looksAtParallel 138 = .ok (.getfield 22, 3) := by decide +kernel
theorem dX7_looksAtParallel_141 : decode cX7_looksAtParallel 141 = .ok (.iload_n 1, 1) := by decide +kernel
theorem dX7_looksAtParallel_142 : decode cX7_looksAtParallel 142 = .ok (.iload_n 2, 1) := by decide +kernel
theorem dX7_looksAtParallel_143 : decode cX7_looksAtParallel 143 = .ok (.bipush 7, 2) := by decide +kernel
theorem dX7_looksAtParallel_145 : decode cX7_looksAtParallel 145 = .ok (.invokestatic 169, 3) := by decide +kernel
theorem dX7_looksAtParallel_148 : decode cX7_looksAtParallel 148 = .ok (.iconst (-1), 1) := by decide +kernel
theorem dX7_looksAtParallel_149 : decode cX7_looksAtParallel 149 = .ok (.iastore, 1) := by decide +kernel
theorem dX7_looksAtParallel_150 : decode cX7_looksAtParallel 150 = .ok (.aload_n 0, 1) := by decide +kernel
theorem dX7_looksAtParallel_151 : decode cX7_looksAtParallel 151 = .ok (.iload_n 1, 1) := by decide +kernel
theorem dX7_looksAtParallel_152 : decode cX7_looksAtParallel 152 = .ok (.iload_n 2, 1) := by decide +kernel
theorem dX7_looksAtParallel_153 : decode cX7_looksAtParallel 153 = .ok (.invokevirtual 217, 3) := by decide +kernel
theorem dX7_looksAtParallel_156 : decode cX7_looksAtParallel 156 = .ok (.ifCond .ne 5, 3) := by decide +kernel
theorem dX7_looksAtParallel_159 : decode cX7_looksAtParallel 159 = .ok (.iconst 5, 1) := by decide +kernel
theorem dX7_looksAtParallel_160 : decode cX7_looksAtParallel 160 = .ok (.ireturn, 1) := by decide +kernel
theorem dX7_looksAtParallel_161 : decode cX7_looksAtParallel 161 = .ok (.aload_n 0, 1) := by decide +kernel
theorem dX7_looksAtParallel_162 : decode cX7_looksAtParallel 162 = .ok (.iload_n 1, 1) := by decide +kernel
theorem dX7_looksAtParallel_163 : decode cX7_looksAtParallel 163 = .ok (.bipush 9, 2) := by decide +kernel
theorem dX7_looksAtParallel_165 : decode cX7_looksAtParallel 165 = .ok (.aload_n 0, 1) := by decide +kernel
theorem dX7_looksAtParallel_166 : decode cX7_looksAtParallel 166 = .ok (.iload_n 1, 1) := by decide +kernel
theorem dX7_looksAtParallel_167 : decode cX7_looksAtParallel 167 = .ok (.iload_n 2, 1) := by decide +kernel
theorem dX7_looksAtParallel_168 : decode cX7_looksAtParallel 168 = .ok (.iconst 2, 1) := by decide +kernel
theorem dX7_looksAtParallel_169 : decode cX7_looksAtParallel 169 = .ok (.invokevirtual 211, 3) := by decide +kernel
theorem dX7_looksAtParallel_172 : decode cX7_looksAtParallel 172 = .ok (.invokevirtual 174, 3) := by decide +kernel
theorem dX7_looksAtParallel_175 : decode cX7_looksAtParallel 175 = .ok (.aload_n 0, 1) := by decide +kernel
theorem dX7_looksAtParallel_176 : decode cX7_looksAtParallel 176 = .ok (.iload_n 1, 1) := by decide +kernel
theorem dX7_looksAtParallel_177 : decode cX7_looksAtParallel 177 = .ok (.iload_n 2, 1) := by decide +kernel
theorem dX7_looksAtParallel_178 : decode cX7_looksAtParallel 178 = .ok (.iconst 2, 1) := by decide +kernel
theorem dX7_looksAtParallel_179 : decode cX7_looksAtParallel 179 = .ok (.invokevirtual 184, 3) := by decide +kernel
theorem dX7_looksAtParallel_182 : decode cX7_looksAtParallel 182 = .ok (.ireturn, 1) := by decide +kernel
theorem dX7_isFor_0 : decode cX7_isFor 0 = .ok (.iload_n 3, 1) := by decide +kernel
theorem dX7_isFor_1 : decode cX7_isFor 1 = .ok (.ifCond .ne 5, 3) := by decide +kernel
theorem dX7_isFor_4 : decode cX7_isFor 4 = .ok (.iconst 1, 1) := by decide +kernel
theorem dX7_isFor_5 : decode cX7_isFor 5 = .ok (.ireturn, 1) := by decide +kernel
theorem dX7_isFor_6 : decode cX7_isFor 6 = .ok (.iload_n 2, 1) := by decide +kernel
theorem dX7_isFor_7 : decode cX7_isFor 7 = .ok (.istore 4, 2) := by decide +kernel
theorem dX7_isFor_9 : decode cX7_isFor 9 = .ok (.iload 4, 2) := by decide +kernel
theorem dX7_isFor_11 : decode cX7_isFor 11 = .ok (.ifCond .lt 30, 3) := by decide +kernel
theorem dX7_isFor_14 : decode cX7_isFor 14 = .ok (.aload_n 0, 1) := by decide +kernel
theorem dX7_isFor_15 : decode cX7_isFor 15 = .ok (.iload_n 1, 1) := by decide +kernel
theorem dX7_isFor_16 : decode cX7_isFor 16 = .ok (.iload 4, 2) := by decide +kernel
theorem dX7_isFor_18 : decode cX7_isFor 18 = .ok (.bipush 8, 2) := by decide +kernel
theorem dX7_isFor_20 : decode cX7_isFor 20 = .ok (.invokevirtual 171, 3) := by decide +kernel
theorem dX7_isFor_23 : decode cX7_isFor 23 = .ok (.iload_n 3, 1) := by decide +kernel
theorem dX7_isFor_24 : decode cX7_isFor 24 = .ok (.if_icmp .eq 17, 3) := by decide +kernel
theorem dX7_isFor_27 : decode cX7_isFor 27 = .ok (.aload_n 0, 1) := by decide +kernel
theorem dX7_isFor_28 : decode cX7_isFor 28 = .ok (.iload_n 1, 1) := by decide +kernel
theorem dX7_isFor_29 : decode cX7_isFor 29 = .ok (.iload 4, 2) := by decide +kernel
theorem dX7_isFor_31 : decode cX7_isFor 31 = .ok (.bipush 8, 2) := by decide +kernel
theorem dX7_isFor_33 : decode cX7_isFor 33 = .ok (.invokevirtual 171, 3) := by decide +kernel
theorem dX7_isFor_36 : decode cX7_isFor 36 = .ok (.istore 4, 2) := by decide +kernel
theorem dX7_isFor_38 : decode cX7_isFor 38 = .ok (.goto (-29), 3) := by decide +kernel
theorem dX7_isFor_41 : decode cX7_isFor 41 = .ok (.iload 4, 2) := by decide +kernel
theorem dX7_isFor_43 : decode cX7_isFor 43 = .ok (.ifCond .ge 7, 3) := by decide +kernel
theorem dX7_isFor_46 : decode cX7_isFor 46 = .ok (.iconst 2, 1) := by decide +kernel
theorem dX7_isFor_47 : decode cX7_isFor 47 = .ok (.goto 15, 3) := by decide +kernel
theorem dX7_isFor_50 : decode cX7_isFor 50 = .ok (.aload_n 0, 1) := by decide +kernel
theorem dX7_isFor_51 : decode cX7_isFor 51 = .ok (.getfield 22, 3) := by decide +kernel
theorem dX7_isFor_54 : decode cX7_isFor 54 = .ok (.iload_n 1, 1) := by decide +kernel
theorem dX7_isFor_55 : decode cX7_isFor 55 = .ok (.iload 4, 2) := by decide +kernel
theorem dX7_isFor_57 : decode cX7_isFor 57 = .ok (.iconst 0, 1) := by decide +kernel
theorem dX7_isFor_58 : decode cX7_isFor 58 = .ok (.invokestatic 169, 3) := by decide +kernel
theorem dX7_isFor_61 : decode cX7_isFor 61 = .ok (.iaload, 1) := by decide +kernel
theorem dX7_isFor_62 : decode cX7_isFor 62 = .ok (.istore 5, 2) := by decide +kernel
theorem dX7_isFor_64 : decode cX7_isFor 64 = .ok (.iload 5, 2) := by decide +kernel
theorem dX7_isFor_66 : decode cX7_isFor 66 = .ok (.iconst 3, 1) := by decide +kernel
theorem dX7_isFor_67 : decode cX7_isFor 67 = .ok (.if_icmp .eq 9, 3) := by decide +kernel
theorem dX7_isFor_70 : decode cX7_isFor 70 = .ok (.iload 5, 2) := by decide +kernel
theorem dX7_isFor_72 : decode cX7_isFor 72 = .ok (.iconst 4, 1) := by decide +kernel
theorem dX7_isFor_73 : decode cX7_isFor 73 = .ok (.if_icmp .ne 7, 3) := by decide +kernel
theorem dX7_isFor_76 : decode cX7_isFor 76 = .ok (.iconst 1, 1) := by decide +kernel
theorem dX7_isFor_77 : decode cX7_isFor 77 = .ok (.goto 4, 3) := by decide +kernel
theorem dX7_isFor_80 : decode cX7_isFor 80 = .ok (.iconst 0, 1) := by decide +kernel
theorem dX7_isFor_81 : decode cX7_isFor 81 = .ok (.ireturn, 1) := by decide +kernel
theorem dX7_nextToCompensate_0 : decode cX7_nextToCompensate 0 = .ok (.iconst (-1), 1) := by decide +kernel
theorem dX7_nextToCompensate_1 : decode cX7_nextToCompensate 1 = .ok (.istore_n 3, 1) := by decide +kernel
theorem dX7_nextToCompensate_2 : decode cX7_nextToCompensate 2 = .ok (.iconst 0, 1) := by decide +kernel
theorem dX7_nextToCompensate_3 : decode cX7_nextToCompensate 3 = .ok (.istore 4, 2) := by decide +kernel
theorem dX7_nextToCompensate_5 : decode cX7_nextToCompensate 5 = .ok (.iconst 0, 1) := by decide +kernel
theorem dX7_nextToCompensate_6 : decode cX7_nextToCompensate 6 = .ok (.istore 5, 2) := by decide +kernel
theorem dX7_nextToCompensate_8 : decode cX7_nextToCompensate 8 = .ok (.iload 5, 2) := by decide +kernel
theorem dX7_nextToCompensate_10 : decode cX7_nextToCompensate 10 = .ok (.aload_n 0, 1) := by decide +kernel
theorem dX7_nextToCompensate_11 : decode cX7_nextToCompensate 11 = .ok (.getfield 16, 3) := by decide +kernel
theorem dX7_nextToCompensate_14 : decode cX7_nextToCompensate 14 = .ok (.iconst 4, 1) := by decide +kernel
theorem dX7_nextToCompensate_15 : decode cX7_nextToCompensate 15 = .ok (.aload_n 0, 1) := by decide +kernel
theorem dX7_nextToCompensate_16 : decode cX7_nextToCompensate 16 = .ok (.iload_n 1, 1) := by decide +kernel
theorem dX7_nextToCompensate_17 : decode cX7_nextToCompensate 17 = .ok (.invokevirtual 166, 3) := by decide +kernel
theorem dX7_nextToCompensate_20 : decode cX7_nextToCompensate 20 = .ok (.imul, 1) := by decide +kernel
theorem dX7_nextToCompensate_21 : decode cX7_nextToCompensate 21 = .ok (.iaload, 1) := by decide +kernel
theorem dX7_nextToCompensate_22 : decode cX7_nextToCompensate 22 = .ok (.if_icmp .ge 121, 3) := by decide +kernel
theorem dX7_nextToCompensate_25 : decode cX7_nextToCompensate 25 = .ok (.aload_n 0, 1) := by decide +kernel
theorem dX7_nextToCompensate_26 : decode cX7_nextToCompensate 26 = .ok (.iload_n 1, 1) := by decide +kernel
theorem dX7_nextToCompensate_27 : decode cX7_nextToCompensate 27 = .ok (.iload 5, 2) := by decide +kernel
theorem dX7_nextToCompensate_29 : decode cX7_nextToCompensate 29 = .ok (.iconst 0, 1) := by decide +kernel
theorem dX7_nextToCompensate_30 : decode cX7_nextToCompensate 30 = .ok (.invokevirtual 171, 3) := by decide +kernel
theorem dX7_nextToCompensate_33 : decode cX7_nextToCompensate 33 = .ok (.iconst 1, 1) := by decide +kernel
theorem dX7_nextToCompensate_34 : decode cX7_nextToCompensate 34 = .ok (.if_icmp .ne 50, 3) := by decide +kernel
theorem dX7_nextToCompensate_37 : decode cX7_nextToCompensate 37 = .ok (.aload_n 0, 1) := by decide +kernel
theorem dX7_nextToCompensate_38 : decode cX7_nextToCompensate 38 = .ok (.getfield 22, 3) := by decide +kernel
theorem dX7_nextToCompensate_41 : decode cX7_nextToCompensate 41 = .ok (.iload_n 1, 1) := by decide +kernel
theorem dX7_nextToCompensate_42 : decode cX7_nextToCompensate 42 = .ok (.iload 5, 2) := by decide +kernel
theorem dX7_nextToCompensate_44 : decode cX7_nextToCompensate 44 = .ok (.iconst 0, 1) := by decide +kernel
theorem dX7_nextToCompensate_45 : decode cX7_nextToCompensate 45 = .ok (.invokestatic 169, 3) := by decide +kernel
theorem dX7_nextToCompensate_48 : decode cX7_nextToCompensate 48 = .ok (.iaload, 1) := by decide +kernel
theorem dX7_nextToCompensate_49 : decode cX7_nextToCompensate 49 = .ok (.iconst 2, 1) := by decide +kernel
theorem dX7_nextToCompensate_50 : decode cX7_nextToCompensate 50 = .ok (.if_icmp .ne 34, 3) := by decide +kernel
theorem dX7_nextToCompensate_53 : decode cX7_nextToCompensate 53 = .ok (.aload_n 0, 1) := by decide +kernel
theorem dX7_nextToCompensate_54 : decode cX7_nextToCompensate 54 = .ok (.iload_n 1, 1) := by decide +kernel
theorem dX7_nextToCompensate_55 : decode cX7_nextToCompensate 55 = .ok (.iload 5, 2) := by decide +kernel
theorem dX7_nextToCompensate_57 : decode cX7_nextToCompensate 57 = .ok (.iconst 4, 1) := by decide +kernel
theorem dX7_nextToCompensate_58 : decode cX7_nextToCompensate 58 = .ok (.invokevirtual 171, 3) := by decide +kernel
theorem dX7_nextToCompensate_61 : decode cX7_nextToCompensate 61 = .ok (.ifCond .lt 23, 3) := by decide +kernel
theorem dX7_nextToCompensate_64 : decode cX7_nextToCompensate 64 = .ok (.aload_n 0, 1) := by decide +kernel
theorem dX7_nextToCompensate_65 : decode cX7_nextToCompensate 65 = .ok (.getfield 22, 3) := by decide +kernel
theorem dX7_nextToCompensate_68 : decode cX7_nextToCompensate 68 = .ok (.iload_n 1, 1) := by decide +kernel
theorem dX7_nextToCompensate_69 : decode cX7_nextToCompensate 69 = .ok (.iload 5, 2) := by decide +kernel
theorem dX7_nextToCompensate_71 : decode cX7_nextToCompensate 71 = .ok (.bipush 6, 2) := by decide +kernel
theorem dX7_nextToCompensate_73 : decode cX7_nextToCompensate 73 = .ok (.invokestatic 169, 3) := by decide +kernel
theorem dX7_nextToCompensate_76 : decode cX7_nextToCompensate 76 = .ok (.iaload, 1) := by decide +kernel
theorem dX7_nextToCompensate_77 : decode cX7_nextToCompensate 77 = .ok (.ifCond .ne 7, 3) := by decide +kernel
theorem dX7_nextToCompensate_80 : decode cX7_nextToCompensate 80 = .ok (.iconst 1, 1) := by decide +kernel
theorem dX7_nextToCompensate_81 : decode cX7_nextToCompensate 81 = .ok (.goto 4, 3) := by decide +kernel
theorem dX7_nextToCompensate_84 : decode cX7_nextToCompensate 84 = .ok (.iconst 0, 1) := by decide +kernel
theorem dX7_nextToCompensate_85 : decode cX7_nextToCompensate 85 = .ok (.istore 6, 2) := by decide +kernel
theorem dX7_nextToCompensate_87 : decode cX7_nextToCompensate 87 = .ok (.iload 6, 2) := by decide +kernel
theorem dX7_nextToCompensate_89 : decode cX7_nextToCompensate 89 = .ok (.ifCond .eq 48, 3) := by decide +kernel
theorem dX7_nextToCompensate_92 : decode cX7_nextToCompensate 92 = .ok (.aload_n 0, 1) := by decide +kernel
theorem dX7_nextToCompensate_93 : decode cX7_nextToCompensate 93 = .ok (.getfield 22, 3) := by decide +kernel
theorem dX7_nextToCompensate_96 : decode cX7_nextToCompensate 96 = .ok (.iload_n 1, 1) := by decide +kernel
theorem dX7_nextToCompensate_97 : decode cX7_nextToCompensate 97 = .ok (.iload 5, 2) := by decide +kernel
theorem dX7_nextToCompensate_99 : decode cX7_nextToCompensate 99 = .ok (.iconst 5, 1) := by decide +kernel
theorem dX7_nextToCompensate_100 : decode cX7_nextToCompensate 100 = .ok (.invokestatic 169, 3) := by decide +kernel
theorem dX7_nextToCompensate_103 : decode cX7_nextToCompensate 103 = .ok (.iaload, 1) := by decide +kernel
theorem dX7_nextToCompensate_104 : decode cX7_nextToCompensate 104 = .ok (.iload 4, 2) := by decide +kernel
theorem dX7_nextToCompensate_106 : decode cX7_nextToCompensate 106 = .ok (.if_icmp .le 31, 3) := by decide +kernel
theorem dX7_nextToCompensate_109 : decode cX7_nextToCompensate 109 = .ok (.aload_n 0, 1) := by decide +kernel
theorem dX7_nextToCompensate_110 : decode cX7_nextToCompensate 110 = .ok (.iload_n 1, 1) := by decide +kernel
theorem dX7_nextToCompensate_111 : decode cX7_nextToCompensate 111 = .ok (.iload 5, 2) := by decide +kernel
theorem dX7_nextToCompensate_113 : decode cX7_nextToCompensate 113 = .ok (.iload_n 2, 1) := by decide +kernel
theorem dX7_nextToCompensate_114 : decode cX7_nextToCompensate 114 = .ok (.invokevirtual 220, 3) := by decide +kernel
theorem dX7_nextToCompensate_117 : decode cX7_nextToCompensate 117 = .ok (.ifCond .eq 20, 3) := by decide +kernel
theorem dX7_nextToCompensate_120 : decode cX7_nextToCompensate 120 = .ok (.iload 5, 2) := by decide +kernel
theorem dX7_nextToCompensate_122 : decode cX7_nextToCompensate 122 = .ok (.istore_n 3, 1) := by decide +kernel
theorem dX7_nextToCompensate_123 : decode cX7_nextToCompensate 123 = .ok (.aload_n 0, 1) := by decide +kernel
theorem dX7_nextToCompensate_124 : decode cX7_nextToCompensate 124 = .ok (.getfield 22, 3) := by decide +kernel
theorem dX7_nextToCompensate_127 : decode cX7_nextToCompensate 127 = .ok (.iload_n 1, 1) := by decide +kernel
theorem dX7_nextToCompensate_128 : decode cX7_nextToCompensate 128 = .ok (.iload 5, 2) := by decide +kernel
theorem dX7_nextToCompensate_130 : decode cX7_nextToCompensate 130 = .ok (.iconst 5, 1) := by decide +kernel
theorem dX7_nextToCompensate_131 : decode cX7_nextToCompensate 131 = .ok (.invokestatic 169, 3) := by decide +kernel
theorem dX7_nextToCompensate_134 : decode cX7_nextToCompensate 134 = .ok (.iaload, 1) := by decide +kernel
theorem dX7_nextToCompensate_135 : decode cX7_nextToCompensate 135 = .ok (.istore 4, 2) := by decide +kernel
theorem dX7_nextToCompensate_137 : decode cX7_nextToCompensate 137 = .ok (.iinc 5 1, 3) := by decide +kernel
theorem dX7_nextToCompensate_140 : decode cX7_nextToCompensate 140 = .ok (.goto (-132), 3) := by decide +kernel
theorem dX7_nextToCompensate_143 : decode cX7_nextToCompensate 143 = .ok (.iload_n 3, 1) := by decide +kernel
theorem dX7_nextToCompensate_144 : decode cX7_nextToCompensate 144 = .ok (.ireturn, 1) := by decide +kernel
theorem dX7_triesToCompensate_0 : decode cX7_triesToCompensate 0 = .ok (.aload_n 0, 1) := by decide +kernel
theorem dX7_triesToCompensate_1 : decode cX7_triesToCompensate 1 = .ok (.iload_n 1, 1) := by decide +kernel
theorem dX7_triesToCompensate_2 : decode cX7_triesToCompensate 2 = .ok (.aload_n 0, 1) := by decide +kernel
theorem dX7_triesToCompensate_3 : decode cX7_triesToCompensate 3 = .ok (.getfield 22, 3) := by decide +kernel
theorem dX7_triesToCompensate_6 : decode cX7_triesToCompensate 6 = .ok (.iload_n 1, 1) := by decide +kernel
theorem dX7_triesToCompensate_7 : decode cX7_triesToCompensate 7 = .ok (.iload_n 2, 1) := by decide +kernel
theorem dX7_triesToCompensate_8 : decode cX7_triesToCompensate 8 = .ok (.bipush 7, 2) := by decide +kernel
theorem dX7_triesToCompensate_10 : decode cX7_triesToCompensate 10 = .ok (.invokestatic 169, 3) := by decide +kernel
theorem dX7_triesToCompensate_13 : decode cX7_triesToCompensate 13 = .ok (.iaload, 1) := by decide +kernel
theorem dX7_triesToCompensate_14 : decode cX7_triesToCompensate 14 = .ok (.iconst 4, 1) := by decide +kernel
theorem dX7_triesToCompensate_15 : decode cX7_triesToCompensate 15 = .ok (.invokevirtual 171, 3) := by decide +kernel
theorem dX7_triesToCompensate_18 : decode cX7_triesToCompensate 18 = .ok (.istore_n 3, 1) := by decide +kernel
theorem dX7_triesToCompensate_19 : decode cX7_triesToCompensate 19 = .ok (.aload_n 0, 1) := by decide +kernel
theorem dX7_triesToCompensate_20 : decode cX7_triesToCompensate 20 = .ok (.iload_n 1, 1) := by decide +kernel
theorem dX7_triesToCompensate_21 : decode cX7_triesToCompensate 21 = .ok (.iconst 5, 1) := by decide +kernel
theorem dX7_triesToCompensate_22 : decode cX7_triesToCompensate 22 = .ok (.iload_n 3, 1) := by decide +kernel
theorem dX7_triesToCompensate_23 : decode cX7_triesToCompensate 23 = .ok (.invokevirtual 174, 3) := by decide +kernel
theorem dX7_triesToCompensate_26 : decode cX7_triesToCompensate 26 = .ok (.aload_n 0, 1) := by decide +kernel
theorem dX7_triesToCompensate_27 : decode cX7_triesToCompensate 27 = .ok (.getfield 22, 3) := by decide +kernel
theorem dX7_triesToCompensate_30 : decode cX7_triesToCompensate 30 = .ok (.iload_n 1, 1) := by decide +kernel
theorem dX7_triesToCompensate_31 : decode cX7_triesToCompensate 31 = .ok (.iload_n 2, 1) := by decide +kernel
theorem dX7_triesToCompensate_32 : decode cX7_triesToCompensate 32 = .ok (.bipush 9, 2) := by decide +kernel
theorem dX7_triesToCompensate_34 : decode cX7_triesToCompensate 34 = .ok (.invokestatic 169, 3) := by decide +kernel
theorem dX7_triesToCompensate_37 : decode cX7_triesToCompensate 37 = .ok (.aload_n 0, 1) := by decide +kernel
theorem dX7_triesToCompensate_38 : decode cX7_triesToCompensate 38 = .ok (.getfield 22, 3) := by decide +kernel
theorem dX7_triesToCompensate_41 : decode cX7_triesToCompensate 41 = .ok (.iconst 0, 1) := by decide +kernel
theorem dX7_triesToCompensate_42 : decode cX7_triesToCompensate 42 = .ok (.iaload, 1) := by decide +kernel
theorem dX7_triesToCompensate_43 : decode cX7_triesToCompensate 43 = .ok (.aload_n 0, 1) := by decide +kernel
theorem dX7_triesToCompensate_44 : decode cX7_triesToCompensate 44 = .ok (.getfield 22, 3) := by decide +kernel
theorem dX7_triesToCompensate_47 : decode cX7_triesToCompensate 47 = .ok (.iconst 1, 1) := by decide +kernel
theorem dX7_triesToCompensate_48 : decode cX7_triesToCompensate 48 = .ok (.iload_n 3, 1) := by decide +kernel
theorem dX7_triesToCompensate_49 : decode cX7_triesToCompensate 49 = .ok (.iadd, 1) := by decide +kernel
theorem dX7_triesToCompensate_50 : decode cX7_triesToCompensate 50 = .ok (.iaload, 1) := by decide +kernel
theorem dX7_triesToCompensate_51 : decode cX7_triesToCompensate 51 = .ok (.iadd, 1) := by decide +kernel
theorem dX7_triesToCompensate_52 : decode cX7_triesToCompensate 52 = .ok (.iastore, 1) := by decide +kernel
theorem dX7_triesToCompensate_53 : decode cX7_triesToCompensate 53 = .ok (.return_, 1) := by decide +kernel
theorem dX7_handles_0 : decode cX7_handles 0 = .ok (.aload_n 0, 1) := by decide +kernel
theorem dX7_handles_1 : decode cX7_handles 1 = .ok (.getfield 22, 3) := by decide +kernel
theorem dX7_handles_4 : decode cX7_handles 4 = .ok (.iload_n 1, 1) := by decide +kernel
theorem dX7_handles_5 : decode cX7_handles 5 = .ok (.iload_n 2, 1) := by decide +kernel
theorem dX7_handles_6 : decode cX7_handles 6 = .ok (.bipush 7, 2) := by decide +kernel
theorem dX7_handles_8 : decode cX7_handles 8 = .ok (.invokestatic 169, 3) := by decide +kernel
theorem dX7_handles_11 : decode cX7_handles 11 = .ok (.iaload, 1) := by decide +kernel
theorem dX7_handles_12 : decode cX7_handles 12 = .ok (.istore 5, 2) := by decide +kernel
theorem dX7_handles_14 : decode cX7_handles 14 = .ok (.aload_n 0, 1) := by decide +kernel
theorem dX7_handles_15 : decode cX7_handles 15 = .ok (.iload_n 1, 1) := by decide +kernel
theorem dX7_handles_16 : decode cX7_handles 16 = .ok (.iload_n 3, 1) := by decide +kernel
theorem dX7_handles_17 : decode cX7_handles 17 = .ok (.aload_n 0, 1) := by decide +kernel
theorem dX7_handles_18 : decode cX7_handles 18 = .ok (.iload_n 1, 1) := by decide +kernel
theorem dX7_handles_19 : decode cX7_handles 19 = .ok (.iload 5, 2) := by decide +kernel
theorem dX7_handles_21 : decode cX7_handles 21 = .ok (.iconst 1, 1) := by decide +kernel
theorem dX7_handles_22 : decode cX7_handles 22 = .ok (.invokevirtual 171, 3) := by decide +kernel
theorem dX7_handles_25 : decode cX7_handles 25 = .ok (.invokevirtual 174, 3) := by decide +kernel
theorem dX7_handles_28 : decode cX7_handles 28 = .ok (.aload_n 0, 1) := by decide +kernel
theorem dX7_handles_29 : decode cX7_handles 29 = .ok (.getfield 22, 3) := by decide +kernel
theorem dX7_handles_32 : decode cX7_handles 32 = .ok (.iload_n 1, 1) := by decide +kernel
theorem dX7_handles_33 : decode cX7_handles 33 = .ok (.iload 5, 2) := by decide +kernel
theorem dX7_handles_35 : decode cX7_handles 35 = .ok (.bipush 6, 2) := by decide +kernel
theorem dX7_handles_37 : decode cX7_handles 37 = .ok (.invokestatic 169, 3) := by decide +kernel
theorem dX7_handles_40 : decode cX7_handles 40 = .ok (.iload_n 3, 1) := by decide +kernel
theorem dX7_handles_41 : decode cX7_handles 41 = .ok (.iastore, 1) := by decide +kernel
theorem dX7_handles_42 : decode cX7_handles 42 = .ok (.aload_n 0, 1) := by decide +kernel
theorem dX7_handles_43 : decode cX7_handles 43 = .ok (.getfield 22, 3) := by decide +kernel
theorem dX7_handles_46 : decode cX7_handles 46 = .ok (.iload_n 1, 1) := by decide +kernel
theorem dX7_handles_47 : decode cX7_handles 47 = .ok (.iload 4, 2) := by decide +kernel
theorem dX7_handles_49 : decode cX7_handles 49 = .ok (.invokestatic 163, 3) := by decide +kernel
theorem dX7_handles_52 : decode cX7_handles 52 = .ok (.dup2, 1) := by decide +kernel
theorem dX7_handles_53 : decode cX7_handles 53 = .ok (.iaload, 1) := by decide +kernel
theorem dX7_handles_54 : decode cX7_handles 54 = .ok (.iconst 1, 1) := by decide +kernel
theorem dX7_handles_55 : decode cX7_handles 55 = .ok (.iadd, 1) := by decide +kernel
theorem dX7_handles_56 : decode cX7_handles 56 = .ok (.iastore, 1) := by decide +kernel
theorem dX7_handles_57 : decode cX7_handles 57 = .ok (.aload_n 0, 1) := by decide +kernel
theorem dX7_handles_58 : decode cX7_handles 58 = .ok (.getfield 22, 3) := by decide +kernel
theorem dX7_handles_61 : decode cX7_handles 61 = .ok (.iload_n 1, 1) := by decide +kernel
theorem dX7_handles_62 : decode cX7_handles 62 = .ok (.iload_n 2, 1) := by decide +kernel
theorem dX7_handles_63 : decode cX7_handles 63 = .ok (.bipush 7, 2) := by decide +kernel
theorem dX7_handles_65 : decode cX7_handles 65 = .ok (.invokestatic 169, 3) := by decide +kernel
theorem dX7_handles_68 : decode cX7_handles 68 = .ok (.iconst (-1), 1) := by decide +kernel
theorem dX7_handles_69 : decode cX7_handles 69 = .ok (.iastore, 1) := by decide +kernel
theorem dX7_handles_70 : decode cX7_handles 70 = .ok (.return_, 1) := by decide +kernel
theorem dX7_compensates_0 : decode cX7_compensates 0 = .ok (.aload_n 0, 1) := by decide +kernel
theorem dX7_compensates_1 : decode cX7_compensates 1 = .ok (.getfield 22, 3) := by decide +kernel
theorem dX7_compensates_4 : decode cX7_compensates 4 = .ok (.iload_n 1, 1) := by decide +kernel
theorem dX7_compensates_5 : decode cX7_compensates 5 = .ok (.iload_n 2, 1) := by decide +kernel
theorem dX7_compensates_6 : decode cX7_compensates 6 = .ok (.bipush 7, 2) := by decide +kernel
theorem dX7_compensates_8 : decode cX7_compensates 8 = .ok (.invokestatic 169, 3) := by decide +kernel
theorem dX7_compensates_11 : decode cX7_compensates 11 = .ok (.iaload, 1) := by decide +kernel
theorem dX7_compensates_12 : decode cX7_compensates 12 = .ok (.ifCond .ge 48, 3) := by decide +kernel
theorem dX7_compensates_15 : decode cX7_compensates 15 = .ok (.aload_n 0, 1) := by decide +kernel
theorem dX7_compensates_16 : decode cX7_compensates 16 = .ok (.iload_n 1, 1) := by decide +kernel
theorem dX7_compensates_17 : decode cX7_compensates 17 = .ok (.iload_n 2, 1) := by decide +kernel
theorem dX7_compensates_18 : decode cX7_compensates 18 = .ok (.invokevirtual 223, 3) := by decide +kernel
theorem dX7_compensates_21 : decode cX7_compensates 21 = .ok (.istore_n 3, 1) := by decide +kernel
theorem dX7_compensates_22 : decode cX7_compensates 22 = .ok (.iload_n 3, 1) := by decide +kernel
theorem dX7_compensates_23 : decode cX7_compensates 23 = .ok (.ifCond .ge 5, 3) := by decide +kernel
theorem dX7_compensates_26 : decode cX7_compensates 26 = .ok (.iconst 1, 1) := by decide +kernel
theorem dX7_compensates_27 : decode cX7_compensates 27 = .ok (.ireturn, 1) := by decide +kernel
theorem dX7_compensates_28 : decode cX7_compensates 28 = .ok (.aload_n 0, 1) := by decide +kernel
theorem dX7_compensates_29 : decode cX7_compensates 29 = .ok (.getfield 22, 3) := by decide +kernel
theorem dX7_compensates_32 : decode cX7_compensates 32 = .ok (.iload_n 1, 1) := by decide +kernel
theorem dX7_compensates_33 : decode cX7_compensates 33 = .ok (.iload_n 2, 1) := by decide +kernel
theorem dX7_compensates_34 : decode cX7_compensates 34 = .ok (.bipush 7, 2) := by decide +kernel
theorem dX7_compensates_36 : decode cX7_compensates 36 = .ok (.invokestatic 169, 3) := by decide +kernel
theorem dX7_compensates_39 : decode cX7_compensates 39 = .ok (.iload_n 3, 1) := by decide +kernel
theorem dX7_compensates_40 : decode cX7_compensates 40 = .ok (.iastore, 1) := by decide +kernel
theorem dX7_compensates_41 : decode cX7_compensates 41 = .ok (.aload_n 0, 1) := by decide +kernel
theorem dX7_compensates_42 : decode cX7_compensates 42 = .ok (.getfield 22, 3) := by decide +kernel
theorem dX7_compensates_45 : decode cX7_compensates 45 = .ok (.iload_n 1, 1) := by decide +kernel
theorem dX7_compensates_46 : decode cX7_compensates 46 = .ok (.iload_n 2, 1) := by decide +kernel
theorem dX7_compensates_47 : decode cX7_compensates 47 = .ok (.bipush 8, 2) := by decide +kernel
theorem dX7_compensates_49 : decode cX7_compensates 49 = .ok (.invokestatic 169, 3) := by decide +kernel
theorem dX7_compensates_52 : decode cX7_compensates 52 = .ok (.iconst 0, 1) := by decide +kernel
theorem dX7_compensates_53 : decode cX7_compensates 53 = .ok (.iastore, 1) := by decide +kernel
theorem dX7_compensates_54 : decode cX7_compensates 54 = .ok (.aload_n 0, 1) := by decide +kernel
theorem dX7_compensates_55 : decode cX7_compensates 55 = .ok (.iload_n 1, 1) := by decide +kernel
theorem dX7_compensates_56 : decode cX7_compensates 56 = .ok (.iload_n 2, 1) := by decide +kernel
theorem dX7_compensates_57 : decode cX7_compensates 57 = .ok (.invokevirtual 226, 3) := by decide +kernel
theorem dX7_compensates_60 : decode cX7_compensates 60 = .ok (.aload_n 0, 1) := by decide +kernel
theorem dX7_compensates_61 : decode cX7_compensates 61 = .ok (.getfield 22, 3) := by decide +kernel
theorem dX7_compensates_64 : decode cX7_compensates 64 = .ok (.iload_n 1, 1) := by decide +kernel
theorem dX7_compensates_65 : decode cX7_compensates 65 = .ok (.iload_n 2, 1) := by decide +kernel
theorem dX7_compensates_66 : decode cX7_compensates 66 = .ok (.bipush 9, 2) := by decide +kernel
theorem dX7_compensates_68 : decode cX7_compensates 68 = .ok (.invokestatic 169, 3) := by decide +kernel
theorem dX7_compensates_71 : decode cX7_compensates 71 = .ok (.iaload, 1) := by decide +kernel
theorem dX7_compensates_72 : decode cX7_compensates 72 = .ok (.aload_n 0, 1) := by decide +kernel
theorem dX7_compensates_73 : decode cX7_compensates 73 = .ok (.getfield 22, 3) := by decide +kernel
theorem dX7_compensates_76 : decode cX7_compensates 76 = .ok (.iconst 0, 1) := by decide +kernel
theorem dX7_compensates_77 : decode cX7_compensates 77 = .ok (.iaload, 1) := by decide +kernel
theorem dX7_compensates_78 : decode cX7_compensates 78 = .ok (.if_icmp .le 5, 3) := by decide +kernel
theorem dX7_compensates_81 : decode cX7_compensates 81 = .ok (.iconst 0, 1) := by decide +kernel
theorem dX7_compensates_82 : decode cX7_compensates 82 = .ok (.ireturn, 1) := by decide +kernel
theorem dX7_compensates_83 : decode cX7_compensates 83 = .ok (.aload_n 0, 1) := by decide +kernel
theorem dX7_compensates_84 : decode cX7_compensates 84 = .ok (.aload_n 0, 1) := by decide +kernel
theorem dX7_compensates_85 : decode cX7_compensates 85 = .ok (.iload_n 1, 1) := by decide +kernel
theorem dX7_compensates_86 : decode cX7_compensates 86 = .ok (.aload_n 0, 1) := by decide +kernel
theorem dX7_compensates_87 : decode cX7_compensates 87 = .ok (.getfield 22, 3) := by decide +kernel
theorem dX7_compensates_90 : decode cX7_compensates 90 = .ok (.iload_n 1, 1) := by decide +kernel
theorem dX7_compensates_91 : decode cX7_compensates 91 = .ok (.iload_n 2, 1) := by decide +kernel
theorem dX7_compensates_92 : decode cX7_compensates 92 = .ok (.bipush 7, 2) := by decide +kernel
theorem dX7_compensates_94 : decode cX7_compensates 94 = .ok (.invokestatic 169, 3) := by decide +kernel
theorem dX7_compensates_97 : decode cX7_compensates 97 = .ok (.iaload, 1) := by decide +kernel
theorem dX7_compensates_98 : decode cX7_compensates 98 = .ok (.iconst 4, 1) := by decide +kernel
theorem dX7_compensates_99 : decode cX7_compensates 99 = .ok (.invokevirtual 171, 3) := by decide +kernel
theorem dX7_compensates_102 : decode cX7_compensates 102 = .ok (.invokevirtual 181, 3) := by decide +kernel
theorem dX7_compensates_105 : decode cX7_compensates 105 = .ok (.ifCond .ne 16, 3) := by decide +kernel
theorem dX7_compensates_108 : decode cX7_compensates 108 = .ok (.aload_n 0, 1) := by decide +kernel
theorem dX7_compensates_109 : decode cX7_compensates 109 = .ok (.iload_n 1, 1) := by decide +kernel
theorem dX7_compensates_110 : decode cX7_compensates 110 = .ok (.iload_n 2, 1) := by decide +kernel
theorem dX7_compensates_111 : decode cX7_compensates 111 = .ok (.bipush 6, 2) := by decide +kernel
theorem dX7_compensates_113 : decode cX7_compensates 113 = .ok (.bipush 7, 2) := by decide +kernel
theorem dX7_compensates_115 : decode cX7_compensates 115 = .ok (.invokevirtual 229, 3) := by decide +kernel
theorem dX7_compensates_118 : decode cX7_compensates 118 = .ok (.goto (-118), 3) := by decide +kernel
theorem dX7_compensates_121 : decode cX7_compensates 121 = .ok (.aload_n 0, 1) := by decide +kernel
theorem dX7_compensates_122 : decode cX7_compensates 122 = .ok (.getfield 22, 3) := by decide +kernel
theorem dX7_compensates_125 : decode cX7_compensates 125 = .ok (.iload_n 1, 1) := by decide +kernel
theorem dX7_compensates_126 : decode cX7_compensates 126 = .ok (.iload_n 2, 1) := by decide +kernel
theorem dX7_compensates_127 : decode cX7_compensates 127 = .ok (.bipush 8, 2) := by decide +kernel
theorem dX7_compensates_129 : decode cX7_compensates 129 = .ok (.invokestatic 169, 3) := by decide +kernel
theorem dX7_compensates_132 : decode cX7_compensates 132 = .ok (.dup2, 1) := by decide +kernel
theorem dX7_compensates_133 : decode cX7_compensates 133 = .ok (.iaload, 1) := by decide +kernel
theorem dX7_compensates_134 : decode cX7_compensates 134 = .ok (.iconst 1, 1) := by decide +kernel
theorem dX7_compensates_135 : decode cX7_compensates 135 = .ok (.iadd, 1) := by decide +kernel
theorem dX7_compensates_136 : decode cX7_compensates 136 = .ok (.iastore, 1) := by decide +kernel
theorem dX7_compensates_137 : decode cX7_compensates 137 = .ok (.aload_n 0, 1) := by decide +kernel
theorem dX7_compensates_138 : decode cX7_compensates 138 = .ok (.getfield 22, 3) := by decide +kernel
theorem dX7_compensates_141 : decode cX7_compensates 141 = .ok (.iload_n 1, 1) := by decide +kernel
theorem dX7_compensates_142 : decode cX7_compensates 142 = .ok (.iload_n 2, 1) := by decide +kernel
theorem dX7_compensates_143 : decode cX7_compensates 143 = .ok (.bipush 8, 2) := by decide +kernel
theorem dX7_compensates_145 : decode cX7_compensates 145 = .ok (.invokestatic 169, 3) := by decide +kernel
theorem dX7_compensates_148 : decode cX7_compensates 148 = .ok (.iaload, 1) := by decide +kernel
theorem dX7_compensates_149 : decode cX7_compensates 149 = .ok (.iconst 3, 1) := by decide +kernel
theorem dX7_compensates_150 : decode cX7_compensates 150 = .ok (.if_icmp .ne 16, 3) := by decide +kernel
theorem dX7_compensates_153 : decode cX7_compensates 153 = .ok (.aload_n 0, 1) := by decide +kernel
theorem dX7_compensates_154 : decode cX7_compensates 154 = .ok (.iload_n 1, 1) := by decide +kernel
theorem dX7_compensates_155 : decode cX7_compensates 155 = .ok (.iload_n 2, 1) := by decide +kernel
theorem dX7_compensates_156 : decode cX7_compensates 156 = .ok (.bipush 7, 2) := by decide +kernel
theorem dX7_compensates_158 : decode cX7_compensates 158 = .ok (.bipush 8, 2) := by decide +kernel
theorem dX7_compensates_160 : decode cX7_compensates 160 = .ok (.invokevirtual 229, 3) := by decide +kernel
theorem dX7_compensates_163 : decode cX7_compensates 163 = .ok (.goto (-163), 3) := by decide +kernel
theorem dX7_compensates_166 : decode cX7_compensates 166 = .ok (.aload_n 0, 1) := by decide +kernel
theorem dX7_compensates_167 : decode cX7_compensates 167 = .ok (.iload_n 1, 1) := by decide +kernel
theorem dX7_compensates_168 : decode cX7_compensates 168 = .ok (.iload_n 2, 1) := by decide +kernel
theorem dX7_compensates_169 : decode cX7_compensates 169 = .ok (.invokevirtual 226, 3) := by decide +kernel
theorem dX7_compensates_172 : decode cX7_compensates 172 = .ok (.goto (-172), 3) := by decide +kernel
theorem dX7_becomes_0 : decode cX7_becomes 0 = .ok (.aload_n 0, 1) := by decide +kernel
theorem dX7_becomes_1 : decode cX7_becomes 1 = .ok (.getfield 22, 3) := by decide +kernel
theorem dX7_becomes_4 : decode cX7_becomes 4 = .ok (.iload_n 1, 1) := by decide +kernel
theorem dX7_becomes_5 : decode cX7_becomes 5 = .ok (.iconst 1, 1) := by decide +kernel
theorem dX7_becomes_6 : decode cX7_becomes 6 = .ok (.invokestatic 163, 3) := by decide +kernel
theorem dX7_becomes_9 : decode cX7_becomes 9 = .ok (.iload_n 2, 1) := by decide +kernel
theorem dX7_becomes_10 : decode cX7_becomes 10 = .ok (.iastore, 1) := by decide +kernel
theorem dX7_becomes_11 : decode cX7_becomes 11 = .ok (.aload_n 0, 1) := by decide +kernel
theorem dX7_becomes_12 : decode cX7_becomes 12 = .ok (.iload_n 1, 1) := by decide +kernel
theorem dX7_becomes_13 : decode cX7_becomes 13 = .ok (.bipush 11, 2) := by decide +kernel
theorem dX7_becomes_15 : decode cX7_becomes 15 = .ok (.iload_n 2, 1) := by decide +kernel
theorem dX7_becomes_16 : decode cX7_becomes 16 = .ok (.invokevirtual 174, 3) := by decide +kernel
theorem dX7_becomes_19 : decode cX7_becomes 19 = .ok (.iload_n 2, 1) := by decide +kernel
theorem dX7_becomes_20 : decode cX7_becomes 20 = .ok (.iconst 2, 1) := by decide +kernel
theorem dX7_becomes_21 : decode cX7_becomes 21 = .ok (.if_icmp .eq 19, 3) := by decide +kernel
theorem dX7_becomes_24 : decode cX7_becomes 24 = .ok (.aload_n 0, 1) := by decide +kernel
theorem dX7_becomes_25 : decode cX7_becomes 25 = .ok (.getfield 22, 3) := by decide +kernel
theorem dX7_becomes_28 : decode cX7_becomes 28 = .ok (.iload_n 1, 1) := by decide +kernel
theorem dX7_becomes_29 : decode cX7_becomes 29 = .ok (.iconst 5, 1) := by decide +kernel
theorem dX7_becomes_30 : decode cX7_becomes 30 = .ok (.invokestatic 163, 3) := by decide +kernel
theorem dX7_becomes_33 : decode cX7_becomes 33 = .ok (.aload_n 0, 1) := by decide +kernel
theorem dX7_becomes_34 : decode cX7_becomes 34 = .ok (.getfield 22, 3) := by decide +kernel
theorem dX7_becomes_37 : decode cX7_becomes 37 = .ok (.iconst 0, 1) := by decide +kernel
theorem dX7_becomes_38 : decode cX7_becomes 38 = .ok (.iaload, 1) := by decide +kernel
theorem dX7_becomes_39 : decode cX7_becomes 39 = .ok (.iastore, 1) := by decide +kernel
theorem dX7_becomes_40 : decode cX7_becomes 40 = .ok (.return_, 1) := by decide +kernel
theorem dX7_looksAt_0 : decode cX7_looksAt 0 = .ok (.aload_n 0, 1) := by decide +kernel
theorem dX7_looksAt_1 : decode cX7_looksAt 1 = .ok (.getfield 22, 3) := by decide +kernel
theorem dX7_looksAt_4 : decode cX7_looksAt 4 = .ok (.iload_n 1, 1) := by decide +kernel
theorem dX7_looksAt_5 : decode cX7_looksAt 5 = .ok (.iconst 1, 1) := by decide +kernel
theorem dX7_looksAt_6 : decode cX7_looksAt 6 = .ok (.invokestatic 163, 3) := by decide +kernel
theorem dX7_looksAt_9 : decode cX7_looksAt 9 = .ok (.iaload, 1) := by decide +kernel
theorem dX7_looksAt_10 : decode cX7_looksAt 10 = .ok (.ifCond .ne 48, 3) := by decide +kernel
theorem dX7_looksAt_13 : decode cX7_looksAt 13 = .ok (.aload_n 0, 1) := by decide +kernel
theorem dX7_looksAt_14 : decode cX7_looksAt 14 = .ok (.iload_n 1, 1) := by decide +kernel
theorem dX7_looksAt_15 : decode cX7_looksAt 15 = .ok (.iconst 0, 1) := by decide +kernel
theorem dX7_looksAt_16 : decode cX7_looksAt 16 = .ok (.invokevirtual 196, 3) := by decide +kernel
theorem dX7_looksAt_19 : decode cX7_looksAt 19 = .ok (.istore_n 2, 1) := by decide +kernel
theorem dX7_looksAt_20 : decode cX7_looksAt 20 = .ok (.iload_n 2, 1) := by decide +kernel
theorem dX7_looksAt_21 : decode cX7_looksAt 21 = .ok (.iconst 2, 1) := by decide +kernel
theorem dX7_looksAt_22 : decode cX7_looksAt 22 = .ok (.if_icmp .ne 12, 3) := by decide +kernel
theorem dX7_looksAt_25 : decode cX7_looksAt 25 = .ok (.aload_n 0, 1) := by decide +kernel
theorem dX7_looksAt_26 : decode cX7_looksAt 26 = .ok (.iload_n 1, 1) := by decide +kernel
theorem dX7_looksAt_27 : decode cX7_looksAt 27 = .ok (.iconst 1, 1) := by decide +kernel
theorem dX7_looksAt_28 : decode cX7_looksAt 28 = .ok (.invokevirtual 233, 3) := by decide +kernel
theorem dX7_looksAt_31 : decode cX7_looksAt 31 = .ok (.goto 27, 3) := by decide +kernel
theorem dX7_looksAt_34 : decode cX7_looksAt 34 = .ok (.iload_n 2, 1) := by decide +kernel
theorem dX7_looksAt_35 : decode cX7_looksAt 35 = .ok (.iconst 3, 1) := by decide +kernel
theorem dX7_looksAt_36 : decode cX7_looksAt 36 = .ok (.if_icmp .ne 22, 3) := by decide +kernel
theorem dX7_looksAt_39 : decode cX7_looksAt 39 = .ok (.aload_n 0, 1) := by decide +kernel
theorem dX7_looksAt_40 : decode cX7_looksAt 40 = .ok (.getfield 22, 3) := by decide +kernel
theorem dX7_looksAt_43 : decode cX7_looksAt 43 = .ok (.iload_n 1, 1) := by decide +kernel
theorem dX7_looksAt_44 : decode cX7_looksAt 44 = .ok (.iconst 0, 1) := by decide +kernel
theorem dX7_looksAt_45 : decode cX7_looksAt 45 = .ok (.bipush 7, 2) := by decide +kernel
theorem dX7_looksAt_47 : decode cX7_looksAt 47 = .ok (.invokestatic 169, 3) := by decide +kernel
theorem dX7_looksAt_50 : decode cX7_looksAt 50 = .ok (.iconst (-1), 1) := by decide +kernel
theorem dX7_looksAt_51 : decode cX7_looksAt 51 = .ok (.iastore, 1) := by decide +kernel
theorem dX7_looksAt_52 : decode cX7_looksAt 52 = .ok (.aload_n 0, 1) := by decide +kernel
theorem dX7_looksAt_53 : decode cX7_looksAt 53 = .ok (.iload_n 1, 1) := by decide +kernel
theorem dX7_looksAt_54 : decode cX7_looksAt 54 = .ok (.iconst 2, 1) := by decide +kernel
theorem dX7_looksAt_55 : decode cX7_looksAt 55 = .ok (.invokevirtual 233, 3) := by decide +kernel
theorem dX7_looksAt_58 : decode cX7_looksAt 58 = .ok (.aload_n 0, 1) := by decide +kernel
theorem dX7_looksAt_59 : decode cX7_looksAt 59 = .ok (.getfield 22, 3) := by decide +kernel
theorem dX7_looksAt_62 : decode cX7_looksAt 62 = .ok (.iload_n 1, 1) := by decide +kernel
theorem dX7_looksAt_63 : decode cX7_looksAt 63 = .ok (.iconst 1, 1) := by decide +kernel
theorem dX7_looksAt_64 : decode cX7_looksAt 64 = .ok (.invokestatic 163, 3) := by decide +kernel
theorem dX7_looksAt_67 : decode cX7_looksAt 67 = .ok (.iaload, 1) := by decide +kernel
theorem dX7_looksAt_68 : decode cX7_looksAt 68 = .ok (.iconst 2, 1) := by decide +kernel
theorem dX7_looksAt_69 : decode cX7_looksAt 69 = .ok (.if_icmp .ne 36, 3) := by decide +kernel
theorem dX7_looksAt_72 : decode cX7_looksAt 72 = .ok (.aload_n 0, 1) := by decide +kernel
theorem dX7_looksAt_73 : decode cX7_looksAt 73 = .ok (.iload_n 1, 1) := by decide +kernel
theorem dX7_looksAt_74 : decode cX7_looksAt 74 = .ok (.iconst 0, 1) := by decide +kernel
theorem dX7_looksAt_75 : decode cX7_looksAt 75 = .ok (.invokevirtual 217, 3) := by decide +kernel
theorem dX7_looksAt_78 : decode cX7_looksAt 78 = .ok (.ifCond .eq 27, 3) := by decide +kernel
theorem dX7_looksAt_81 : decode cX7_looksAt 81 = .ok (.aload_n 0, 1) := by decide +kernel
theorem dX7_looksAt_82 : decode cX7_looksAt 82 = .ok (.iload_n 1, 1) := by decide +kernel
theorem dX7_looksAt_83 : decode cX7_looksAt 83 = .ok (.aload_n 0, 1) := by decide +kernel
theorem dX7_looksAt_84 : decode cX7_looksAt 84 = .ok (.getfield 22, 3) := by decide +kernel
theorem dX7_looksAt_87 : decode cX7_looksAt 87 = .ok (.iload_n 1, 1) := by decide +kernel
theorem dX7_looksAt_88 : decode cX7_looksAt 88 = .ok (.bipush 8, 2) := by decide +kernel
theorem dX7_looksAt_90 : decode cX7_looksAt 90 = .ok (.invokestatic 163, 3) := by decide +kernel
theorem dX7_looksAt_93 : decode cX7_looksAt 93 = .ok (.iaload, 1) := by decide +kernel
theorem dX7_looksAt_94 : decode cX7_looksAt 94 = .ok (.ifCond .le 7, 3) := by decide +kernel
theorem dX7_looksAt_97 : decode cX7_looksAt 97 = .ok (.iconst 4, 1) := by decide +kernel
theorem dX7_looksAt_98 : decode cX7_looksAt 98 = .ok (.goto 4, 3) := by decide +kernel
theorem dX7_looksAt_101 : decode cX7_looksAt 101 = .ok (.iconst 3, 1) := by decide +kernel
theorem dX7_looksAt_102 : decode cX7_looksAt 102 = .ok (.invokevirtual 233, 3) := by decide +kernel
theorem dX7_looksAt_105 : decode cX7_looksAt 105 = .ok (.return_, 1) := by decide +kernel
theorem dX7_instances_0 : decode cX7_instances 0 = .ok (.iconst 0, 1) := by decide +kernel
theorem dX7_instances_1 : decode cX7_instances 1 = .ok (.istore_n 1, 1) := by decide +kernel
theorem dX7_instances_2 : decode cX7_instances 2 = .ok (.iconst 0, 1) := by decide +kernel
theorem dX7_instances_3 : decode cX7_instances 3 = .ok (.istore_n 2, 1) := by decide +kernel
theorem dX7_instances_4 : decode cX7_instances 4 = .ok (.iload_n 2, 1) := by decide +kernel
theorem dX7_instances_5 : decode cX7_instances 5 = .ok (.bipush 6, 2) := by decide +kernel
theorem dX7_instances_7 : decode cX7_instances 7 = .ok (.if_icmp .ge 22, 3) := by decide +kernel
theorem dX7_instances_10 : decode cX7_instances 10 = .ok (.iload_n 1, 1) := by decide +kernel
theorem dX7_instances_11 : decode cX7_instances 11 = .ok (.aload_n 0, 1) := by decide +kernel
theorem dX7_instances_12 : decode cX7_instances 12 = .ok (.getfield 22, 3) := by decide +kernel
theorem dX7_instances_15 : decode cX7_instances 15 = .ok (.iload_n 2, 1) := by decide +kernel
theorem dX7_instances_16 : decode cX7_instances 16 = .ok (.iconst 0, 1) := by decide +kernel
theorem dX7_instances_17 : decode cX7_instances 17 = .ok (.invokestatic 163, 3) := by decide +kernel
theorem dX7_instances_20 : decode cX7_instances 20 = .ok (.iaload, 1) := by decide +kernel
theorem dX7_instances_21 : decode cX7_instances 21 = .ok (.iadd, 1) := by decide +kernel
theorem dX7_instances_22 : decode cX7_instances 22 = .ok (.istore_n 1, 1) := by decide +kernel
theorem dX7_instances_23 : decode cX7_instances 23 = .ok (.iinc 2 1, 3) := by decide +kernel
theorem dX7_instances_26 : decode cX7_instances 26 = .ok (.goto (-22), 3) := by decide +kernel
theorem dX7_instances_29 : decode cX7_instances 29 = .ok (.iload_n 1, 1) := by decide +kernel
theorem dX7_instances_30 : decode cX7_instances 30 = .ok (.ireturn, 1) := by decide +kernel
theorem dX7_start_0 : decode cX7_start 0 = .ok (.iload_n 1, 1) := by decide +kernel
theorem dX7_start_1 : decode cX7_start 1 = .ok (.invokestatic 138, 3) := by decide +kernel
theorem dX7_start_4 : decode cX7_start 4 = .ok (.ifCond .ne 5, 3) := by decide +kernel
theorem dX7_start_7 : decode cX7_start 7 = .ok (.iconst (-1), 1) := by decide +kernel
theorem dX7_start_8 : decode cX7_start 8 = .ok (.ireturn, 1) := by decide +kernel
theorem dX7_start_9 : decode cX7_start 9 = .ok (.aload_n 0, 1) := by decide +kernel
theorem dX7_start_10 : decode cX7_start 10 = .ok (.getfield 22, 3) := by decide +kernel
theorem dX7_start_13 : decode cX7_start 13 = .ok (.bipush 17, 2) := by decide +kernel
theorem dX7_start_15 : decode cX7_start 15 = .ok (.iload_n 1, 1) := by decide +kernel
theorem dX7_start_16 : decode cX7_start 16 = .ok (.iadd, 1) := by decide +kernel
theorem dX7_start_17 : decode cX7_start 17 = .ok (.iaload, 1) := by decide +kernel
theorem dX7_start_18 : decode cX7_start 18 = .ok (.ifCond .ne 6, 3) := by decide +kernel
theorem dX7_start_21 : decode cX7_start 21 = .ok (.bipush (-3), 2) := by decide +kernel
theorem dX7_start_23 : decode cX7_start 23 = .ok (.ireturn, 1) := by decide +kernel
theorem dX7_start_24 : decode cX7_start 24 = .ok (.aload_n 0, 1) := by decide +kernel
theorem dX7_start_25 : decode cX7_start 25 = .ok (.invokevirtual 236, 3) := by decide +kernel
theorem dX7_start_28 : decode cX7_start 28 = .ok (.bipush 6, 2) := by decide +kernel
theorem dX7_start_30 : decode cX7_start 30 = .ok (.if_icmp .ne 6, 3) := by decide +kernel
theorem dX7_start_33 : decode cX7_start 33 = .ok (.bipush (-4), 2) := by decide +kernel
theorem dX7_start_35 : decode cX7_start 35 = .ok (.ireturn, 1) := by decide +kernel
theorem dX7_start_36 : decode cX7_start 36 = .ok (.iconst 0, 1) := by decide +kernel
theorem dX7_start_37 : decode cX7_start 37 = .ok (.istore_n 2, 1) := by decide +kernel
theorem dX7_start_38 : decode cX7_start 38 = .ok (.aload_n 0, 1) := by decide +kernel
theorem dX7_start_39 : decode cX7_start 39 = .ok (.getfield 22, 3) := by decide +kernel
theorem dX7_start_42 : decode cX7_start 42 = .ok (.iload_n 2, 1) := by decide +kernel
theorem dX7_start_43 : decode cX7_start 43 = .ok (.iconst 0, 1) := by decide +kernel
theorem dX7_start_44 : decode cX7_start 44 = .ok (.invokestatic 163, 3) := by decide +kernel
theorem dX7_start_47 : decode cX7_start 47 = .ok (.iaload, 1) := by decide +kernel
theorem dX7_start_48 : decode cX7_start 48 = .ok (.iconst 1, 1) := by decide +kernel
theorem dX7_start_49 : decode cX7_start 49 = .ok (.if_icmp .ne 9, 3) := by decide +kernel
theorem dX7_start_52 : decode cX7_start 52 = .ok (.iinc 2 1, 3) := by decide +kernel
theorem dX7_start_55 : decode cX7_start 55 = .ok (.goto (-17), 3) := by decide +kernel
theorem dX7_start_58 : decode cX7_start 58 = .ok (.iconst 0, 1) := by decide +kernel
theorem dX7_start_59 : decode cX7_start 59 = .ok (.istore_n 3, 1) := by decide +kernel
theorem dX7_start_60 : decode cX7_start 60 = .ok (.iload_n 3, 1) := by decide +kernel
theorem dX7_start_61 : decode cX7_start 61 = .ok (.sipush 1262, 3) := by decide +kernel
theorem dX7_start_64 : decode cX7_start 64 = .ok (.if_icmp .ge 20, 3) := by decide +kernel
theorem dX7_start_67 : decode cX7_start 67 = .ok (.aload_n 0, 1) := by decide +kernel
theorem dX7_start_68 : decode cX7_start 68 = .ok (.getfield 22, 3) := by decide +kernel
theorem dX7_start_71 : decode cX7_start 71 = .ok (.iload_n 2, 1) := by decide +kernel
theorem dX7_start_72 : decode cX7_start 72 = .ok (.iload_n 3, 1) := by decide +kernel
theorem dX7_start_73 : decode cX7_start 73 = .ok (.invokestatic 163, 3) := by decide +kernel
theorem dX7_start_76 : decode cX7_start 76 = .ok (.iconst 0, 1) := by decide +kernel
theorem dX7_start_77 : decode cX7_start 77 = .ok (.iastore, 1) := by decide +kernel
theorem dX7_start_78 : decode cX7_start 78 = .ok (.iinc 3 1, 3) := by decide +kernel
theorem dX7_start_81 : decode cX7_start 81 = .ok (.goto (-21), 3) := by decide +kernel
theorem dX7_start_84 : decode cX7_start 84 = .ok (.aload_n 0, 1) := by decide +kernel
theorem dX7_start_85 : decode cX7_start 85 = .ok (.getfield 22, 3) := by decide +kernel
theorem dX7_start_88 : decode cX7_start 88 = .ok (.iload_n 2, 1) := by decide +kernel
theorem dX7_start_89 : decode cX7_start 89 = .ok (.iconst 0, 1) := by decide +kernel
theorem dX7_start_90 : decode cX7_start 90 = .ok (.invokestatic 163, 3) := by decide +kernel
theorem dX7_start_93 : decode cX7_start 93 = .ok (.iconst 1, 1) := by decide +kernel
theorem dX7_start_94 : decode cX7_start 94 = .ok (.iastore, 1) := by decide +kernel
theorem dX7_start_95 : decode cX7_start 95 = .ok (.aload_n 0, 1) := by decide +kernel
theorem dX7_start_96 : decode cX7_start 96 = .ok (.getfield 22, 3) := by decide +kernel
theorem dX7_start_99 : decode cX7_start 99 = .ok (.iload_n 2, 1) := by decide +kernel
theorem dX7_start_100 : decode cX7_start 100 = .ok (.iconst 2, 1) := by decide +kernel
theorem dX7_start_101 : decode cX7_start 101 = .ok (.invokestatic 163, 3) := by decide +kernel
theorem dX7_start_104 : decode cX7_start 104 = .ok (.iload_n 1, 1) := by decide +kernel
theorem dX7_start_105 : decode cX7_start 105 = .ok (.iastore, 1) := by decide +kernel
theorem dX7_start_106 : decode cX7_start 106 = .ok (.aload_n 0, 1) := by decide +kernel
theorem dX7_start_107 : decode cX7_start 107 = .ok (.getfield 22, 3) := by decide +kernel
theorem dX7_start_110 : decode cX7_start 110 = .ok (.iload_n 2, 1) := by decide +kernel
theorem dX7_start_111 : decode cX7_start 111 = .ok (.iconst 3, 1) := by decide +kernel
theorem dX7_start_112 : decode cX7_start 112 = .ok (.invokestatic 163, 3) := by decide +kernel
theorem dX7_start_115 : decode cX7_start 115 = .ok (.aload_n 0, 1) := by decide +kernel
theorem dX7_start_116 : decode cX7_start 116 = .ok (.getfield 22, 3) := by decide +kernel
theorem dX7_start_119 : decode cX7_start 119 = .ok (.bipush 17, 2) := by decide +kernel
theorem dX7_start_121 : decode cX7_start 121 = .ok (.iload_n 1, 1) := by decide +kernel
theorem dX7_start_122 : decode cX7_start 122 = .ok (.iadd, 1) := by decide +kernel
theorem dX7_start_123 : decode cX7_start 123 = .ok (.iaload, 1) := by decide +kernel
theorem dX7_start_124 : decode cX7_start 124 = .ok (.iconst 1, 1) := by decide +kernel
theorem dX7_start_125 : decode cX7_start 125 = .ok (.isub, 1) := by decide +kernel
theorem dX7_start_126 : decode cX7_start 126 = .ok (.iastore, 1) := by decide +kernel
theorem dX7_start_127 : decode cX7_start 127 = .ok (.aload_n 0, 1) := by decide +kernel
theorem dX7_start_128 : decode cX7_start 128 = .ok (.getfield 22, 3) := by decide +kernel
theorem dX7_start_131 : decode cX7_start 131 = .ok (.iload_n 2, 1) := by decide +kernel
theorem dX7_start_132 : decode cX7_start 132 = .ok (.iconst 4, 1) := by decide +kernel
theorem dX7_start_133 : decode cX7_start 133 = .ok (.invokestatic 163, 3) := by decide +kernel
theorem dX7_start_136 : decode cX7_start 136 = .ok (.aload_n 0, 1) := by decide +kernel
theorem dX7_start_137 : decode cX7_start 137 = .ok (.getfield 22, 3) := by decide +kernel
theorem dX7_start_140 : decode cX7_start 140 = .ok (.iconst 0, 1) := by decide +kernel
theorem dX7_start_141 : decode cX7_start 141 = .ok (.iaload, 1) := by decide +kernel
theorem dX7_start_142 : decode cX7_start 142 = .ok (.iastore, 1) := by decide +kernel
theorem dX7_start_143 : decode cX7_start 143 = .ok (.aload_n 0, 1) := by decide +kernel
theorem dX7_start_144 : decode cX7_start 144 = .ok (.getfield 22, 3) := by decide +kernel
theorem dX7_start_147 : decode cX7_start 147 = .ok (.iload_n 2, 1) := by decide +kernel
theorem dX7_start_148 : decode cX7_start 148 = .ok (.iconst 5, 1) := by decide +kernel
theorem dX7_start_149 : decode cX7_start 149 = .ok (.invokestatic 163, 3) := by decide +kernel
theorem dX7_start_152 : decode cX7_start 152 = .ok (.bipush (-5), 2) := by decide +kernel
theorem dX7_start_154 : decode cX7_start 154 = .ok (.iastore, 1) := by decide +kernel
theorem dX7_start_155 : decode cX7_start 155 = .ok (.iconst 0, 1) := by decide +kernel
theorem dX7_start_156 : decode cX7_start 156 = .ok (.istore_n 3, 1) := by decide +kernel
theorem dX7_start_157 : decode cX7_start 157 = .ok (.iload_n 3, 1) := by decide +kernel
theorem dX7_start_158 : decode cX7_start 158 = .ok (.bipush 64, 2) := by decide +kernel
theorem dX7_start_160 : decode cX7_start 160 = .ok (.if_icmp .ge 22, 3) := by decide +kernel
theorem dX7_start_163 : decode cX7_start 163 = .ok (.aload_n 0, 1) := by decide +kernel
theorem dX7_start_164 : decode cX7_start 164 = .ok (.getfield 22, 3) := by decide +kernel
theorem dX7_start_167 : decode cX7_start 167 = .ok (.iload_n 2, 1) := by decide +kernel
theorem dX7_start_168 : decode cX7_start 168 = .ok (.iload_n 3, 1) := by decide +kernel
theorem dX7_start_169 : decode cX7_start 169 = .ok (.bipush 7, 2) := by decide +kernel
theorem dX7_start_171 : decode cX7_start 171 = .ok (.invokestatic 169, 3) := by decide +kernel
theorem dX7_start_174 : decode cX7_start 174 = .ok (.iconst (-1), 1) := by decide +kernel
theorem dX7_start_175 : decode cX7_start 175 = .ok (.iastore, 1) := by decide +kernel
theorem dX7_start_176 : decode cX7_start 176 = .ok (.iinc 3 1, 3) := by decide +kernel
theorem dX7_start_179 : decode cX7_start 179 = .ok (.goto (-22), 3) := by decide +kernel
theorem dX7_start_182 : decode cX7_start 182 = .ok (.aload_n 0, 1) := by decide +kernel
theorem dX7_start_183 : decode cX7_start 183 = .ok (.iload_n 2, 1) := by decide +kernel
theorem dX7_start_184 : decode cX7_start 184 = .ok (.invokevirtual 239, 3) := by decide +kernel
theorem dX7_start_187 : decode cX7_start 187 = .ok (.iload_n 2, 1) := by decide +kernel
theorem dX7_start_188 : decode cX7_start 188 = .ok (.ireturn, 1) := by decide +kernel
theorem dX7_signal_0 : decode cX7_signal 0 = .ok (.aload_n 0, 1) := by decide +kernel
theorem dX7_signal_1 : decode cX7_signal 1 = .ok (.iload_n 1, 1) := by decide +kernel
theorem dX7_signal_2 : decode cX7_signal 2 = .ok (.invokevirtual 243, 3) := by decide +kernel
theorem dX7_signal_5 : decode cX7_signal 5 = .ok (.ifCond .eq 10, 3) := by decide +kernel
theorem dX7_signal_8 : decode cX7_signal 8 = .ok (.iload_n 2, 1) := by decide +kernel
theorem dX7_signal_9 : decode cX7_signal 9 = .ok (.invokestatic 160, 3) := by decide +kernel
theorem dX7_signal_12 : decode cX7_signal 12 = .ok (.ifCond .ne 5, 3) := by decide +kernel
theorem dX7_signal_15 : decode cX7_signal 15 = .ok (.iconst (-1), 1) := by decide +kernel
theorem dX7_signal_16 : decode cX7_signal 16 = .ok (.ireturn, 1) := by decide +kernel
theorem dX7_signal_17 : decode cX7_signal 17 = .ok (.aload_n 0, 1) := by decide +kernel
theorem dX7_signal_18 : decode cX7_signal 18 = .ok (.getfield 22, 3) := by decide +kernel
theorem dX7_signal_21 : decode cX7_signal 21 = .ok (.iload_n 1, 1) := by decide +kernel
theorem dX7_signal_22 : decode cX7_signal 22 = .ok (.iconst 1, 1) := by decide +kernel
theorem dX7_signal_23 : decode cX7_signal 23 = .ok (.invokestatic 163, 3) := by decide +kernel
theorem dX7_signal_26 : decode cX7_signal 26 = .ok (.iaload, 1) := by decide +kernel
theorem dX7_signal_27 : decode cX7_signal 27 = .ok (.ifCond .eq 6, 3) := by decide +kernel
theorem dX7_signal_30 : decode cX7_signal 30 = .ok (.bipush (-3), 2) := by decide +kernel
theorem dX7_signal_32 : decode cX7_signal 32 = .ok (.ireturn, 1) := by decide +kernel
theorem dX7_signal_33 : decode cX7_signal 33 = .ok (.aload_n 0, 1) := by decide +kernel
theorem dX7_signal_34 : decode cX7_signal 34 = .ok (.getfield 22, 3) := by decide +kernel
theorem dX7_signal_37 : decode cX7_signal 37 = .ok (.iload_n 1, 1) := by decide +kernel
theorem dX7_signal_38 : decode cX7_signal 38 = .ok (.bipush 14, 2) := by decide +kernel
theorem dX7_signal_40 : decode cX7_signal 40 = .ok (.iload_n 2, 1) := by decide +kernel
theorem dX7_signal_41 : decode cX7_signal 41 = .ok (.iadd, 1) := by decide +kernel
theorem dX7_signal_42 : decode cX7_signal 42 = .ok (.invokestatic 163, 3) := by decide +kernel
theorem dX7_signal_45 : decode cX7_signal 45 = .ok (.iaload, 1) := by decide +kernel
theorem dX7_signal_46 : decode cX7_signal 46 = .ok (.bipush 9, 2) := by decide +kernel
theorem dX7_signal_48 : decode cX7_signal 48 = .ok (.if_icmp .ne 6, 3) := by decide +kernel
theorem dX7_signal_51 : decode cX7_signal 51 = .ok (.bipush (-4), 2) := by decide +kernel
theorem dX7_signal_53 : decode cX7_signal 53 = .ok (.ireturn, 1) := by decide +kernel
theorem dX7_signal_54 : decode cX7_signal 54 = .ok (.aload_n 0, 1) := by decide +kernel
theorem dX7_signal_55 : decode cX7_signal 55 = .ok (.getfield 22, 3) := by decide +kernel
theorem dX7_signal_58 : decode cX7_signal 58 = .ok (.iload_n 1, 1) := by decide +kernel
theorem dX7_signal_59 : decode cX7_signal 59 = .ok (.bipush 14, 2) := by decide +kernel
theorem dX7_signal_61 : decode cX7_signal 61 = .ok (.iload_n 2, 1) := by decide +kernel
theorem dX7_signal_62 : decode cX7_signal 62 = .ok (.iadd, 1) := by decide +kernel
theorem dX7_signal_63 : decode cX7_signal 63 = .ok (.invokestatic 163, 3) := by decide +kernel
theorem dX7_signal_66 : decode cX7_signal 66 = .ok (.dup2, 1) := by decide +kernel
theorem dX7_signal_67 : decode cX7_signal 67 = .ok (.iaload, 1) := by decide +kernel
theorem dX7_signal_68 : decode cX7_signal 68 = .ok (.iconst 1, 1) := by decide +kernel
theorem dX7_signal_69 : decode cX7_signal 69 = .ok (.iadd, 1) := by decide +kernel
theorem dX7_signal_70 : decode cX7_signal 70 = .ok (.iastore, 1) := by decide +kernel
theorem dX7_signal_71 : decode cX7_signal 71 = .ok (.aload_n 0, 1) := by decide +kernel
theorem dX7_signal_72 : decode cX7_signal 72 = .ok (.getfield 22, 3) := by decide +kernel
theorem dX7_signal_75 : decode cX7_signal 75 = .ok (.iload_n 1, 1) := by decide +kernel
theorem dX7_signal_76 : decode cX7_signal 76 = .ok (.bipush 14, 2) := by decide +kernel
theorem dX7_signal_78 : decode cX7_signal 78 = .ok (.iload_n 2, 1) := by decide +kernel
theorem dX7_signal_79 : decode cX7_signal 79 = .ok (.iadd, 1) := by decide +kernel
theorem dX7_signal_80 : decode cX7_signal 80 = .ok (.invokestatic 163, 3) := by decide +kernel
theorem dX7_signal_83 : decode cX7_signal 83 = .ok (.iaload, 1) := by decide +kernel
theorem dX7_signal_84 : decode cX7_signal 84 = .ok (.ireturn, 1) := by decide +kernel
theorem dX7_abort_0 : decode cX7_abort 0 = .ok (.aload_n 0, 1) := by decide +kernel
theorem dX7_abort_1 : decode cX7_abort 1 = .ok (.iload_n 1, 1) := by decide +kernel
theorem dX7_abort_2 : decode cX7_abort 2 = .ok (.invokevirtual 243, 3) := by decide +kernel
theorem dX7_abort_5 : decode cX7_abort 5 = .ok (.ifCond .ne 5, 3) := by decide +kernel
theorem dX7_abort_8 : decode cX7_abort 8 = .ok (.iconst (-1), 1) := by decide +kernel
theorem dX7_abort_9 : decode cX7_abort 9 = .ok (.ireturn, 1) := by decide +kernel
theorem dX7_abort_10 : decode cX7_abort 10 = .ok (.aload_n 0, 1) := by decide +kernel
theorem dX7_abort_11 : decode cX7_abort 11 = .ok (.getfield 22, 3) := by decide +kernel
theorem dX7_abort_14 : decode cX7_abort 14 = .ok (.iload_n 1, 1) := by decide +kernel
theorem dX7_abort_15 : decode cX7_abort 15 = .ok (.iconst 1, 1) := by decide +kernel
theorem dX7_abort_16 : decode cX7_abort 16 = .ok (.invokestatic 163, 3) := by decide +kernel
theorem dX7_abort_19 : decode cX7_abort 19 = .ok (.iaload, 1) := by decide +kernel
theorem dX7_abort_20 : decode cX7_abort 20 = .ok (.ifCond .eq 6, 3) := by decide +kernel
theorem dX7_abort_23 : decode cX7_abort 23 = .ok (.bipush (-3), 2) := by decide +kernel
theorem dX7_abort_25 : decode cX7_abort 25 = .ok (.ireturn, 1) := by decide +kernel
theorem dX7_abort_26 : decode cX7_abort 26 = .ok (.aload_n 0, 1) := by decide +kernel
theorem dX7_abort_27 : decode cX7_abort 27 = .ok (.iload_n 1, 1) := by decide +kernel
theorem dX7_abort_28 : decode cX7_abort 28 = .ok (.iconst 0, 1) := by decide +kernel
theorem dX7_abort_29 : decode cX7_abort 29 = .ok (.invokevirtual 208, 3) := by decide +kernel
theorem dX7_abort_32 : decode cX7_abort 32 = .ok (.aload_n 0, 1) := by decide +kernel
theorem dX7_abort_33 : decode cX7_abort 33 = .ok (.iload_n 1, 1) := by decide +kernel
theorem dX7_abort_34 : decode cX7_abort 34 = .ok (.iconst 2, 1) := by decide +kernel
theorem dX7_abort_35 : decode cX7_abort 35 = .ok (.invokevirtual 233, 3) := by decide +kernel
theorem dX7_abort_38 : decode cX7_abort 38 = .ok (.aload_n 0, 1) := by decide +kernel
theorem dX7_abort_39 : decode cX7_abort 39 = .ok (.iload_n 1, 1) := by decide +kernel
theorem dX7_abort_40 : decode cX7_abort 40 = .ok (.invokevirtual 239, 3) := by decide +kernel
theorem dX7_abort_43 : decode cX7_abort 43 = .ok (.aload_n 0, 1) := by decide +kernel
theorem dX7_abort_44 : decode cX7_abort 44 = .ok (.getfield 22, 3) := by decide +kernel
theorem dX7_abort_47 : decode cX7_abort 47 = .ok (.iload_n 1, 1) := by decide +kernel
theorem dX7_abort_48 : decode cX7_abort 48 = .ok (.iconst 1, 1) := by decide +kernel
theorem dX7_abort_49 : decode cX7_abort 49 = .ok (.invokestatic 163, 3) := by decide +kernel
theorem dX7_abort_52 : decode cX7_abort 52 = .ok (.iaload, 1) := by decide +kernel
theorem dX7_abort_53 : decode cX7_abort 53 = .ok (.ireturn, 1) := by decide +kernel
theorem dX7_remove_0 : decode cX7_remove 0 = .ok (.aload_n 0, 1) := by decide +kernel
theorem dX7_remove_1 : decode cX7_remove 1 = .ok (.iload_n 1, 1) := by decide +kernel
theorem dX7_remove_2 : decode cX7_remove 2 = .ok (.invokevirtual 243, 3) := by decide +kernel
theorem dX7_remove_5 : decode cX7_remove 5 = .ok (.ifCond .ne 5, 3) := by decide +kernel
theorem dX7_remove_8 : decode cX7_remove 8 = .ok (.iconst (-1), 1) := by decide +kernel
theorem dX7_remove_9 : decode cX7_remove 9 = .ok (.ireturn, 1) := by decide +kernel
theorem dX7_remove_10 : decode cX7_remove 10 = .ok (.aload_n 0, 1) := by decide +kernel
theorem dX7_remove_11 : decode cX7_remove 11 = .ok (.getfield 22, 3) := by decide +kernel
theorem dX7_remove_14 : decode cX7_remove 14 = .ok (.iload_n 1, 1) := by decide +kernel
theorem dX7_remove_15 : decode cX7_remove 15 = .ok (.iconst 1, 1) := by decide +kernel
theorem dX7_remove_16 : decode cX7_remove 16 = .ok (.invokestatic 163, 3) := by decide +kernel
theorem dX7_remove_19 : decode cX7_remove 19 = .ok (.iaload, 1) := by decide +kernel
theorem dX7_remove_20 : decode cX7_remove 20 = .ok (.istore_n 2, 1) := by decide +kernel
theorem dX7_remove_21 : decode cX7_remove 21 = .ok (.iload_n 2, 1) := by decide +kernel
theorem dX7_remove_22 : decode cX7_remove 22 = .ok (.ifCond .eq 8, 3) := by decide +kernel
theorem dX7_remove_25 : decode cX7_remove 25 = .ok (.iload_n 2, 1) := by decide +kernel
theorem dX7_remove_26 : decode cX7_remove 26 = .ok (.iconst 2, 1) := by decide +kernel
theorem dX7_remove_27 : decode cX7_remove 27 = .ok (.if_icmp .ne 6, 3) := by decide +kernel
theorem dX7_remove_30 : decode cX7_remove 30 = .ok (.bipush (-3), 2) := by decide +kernel
theorem dX7_remove_32 : decode cX7_remove 32 = .ok (.ireturn, 1) := by decide +kernel
theorem dX7_remove_33 : decode cX7_remove 33 = .ok (.aload_n 0, 1) := by decide +kernel
theorem dX7_remove_34 : decode cX7_remove 34 = .ok (.getfield 22, 3) := by decide +kernel
theorem dX7_remove_37 : decode cX7_remove 37 = .ok (.iload_n 1, 1) := by decide +kernel
theorem dX7_remove_38 : decode cX7_remove 38 = .ok (.iconst 0, 1) := by decide +kernel
theorem dX7_remove_39 : decode cX7_remove 39 = .ok (.invokestatic 163, 3) := by decide +kernel
theorem dX7_remove_42 : decode cX7_remove 42 = .ok (.iconst 0, 1) := by decide +kernel
theorem dX7_remove_43 : decode cX7_remove 43 = .ok (.iastore, 1) := by decide +kernel
theorem dX7_remove_44 : decode cX7_remove 44 = .ok (.iload_n 2, 1) := by decide +kernel
theorem dX7_remove_45 : decode cX7_remove 45 = .ok (.ireturn, 1) := by decide +kernel
theorem dX7_passes_0 : decode cX7_passes 0 = .ok (.aload_n 0, 1) := by decide +kernel
theorem dX7_passes_1 : decode cX7_passes 1 = .ok (.getfield 22, 3) := by decide +kernel
theorem dX7_passes_4 : decode cX7_passes 4 = .ok (.iconst 0, 1) := by decide +kernel
theorem dX7_passes_5 : decode cX7_passes 5 = .ok (.dup2, 1) := by decide +kernel
theorem dX7_passes_6 : decode cX7_passes 6 = .ok (.iaload, 1) := by decide +kernel
theorem dX7_passes_7 : decode cX7_passes 7 = .ok (.iconst 1, 1) := by decide +kernel
theorem dX7_passes_8 : decode cX7_passes 8 = .ok (.iadd, 1) := by decide +kernel
theorem dX7_passes_9 : decode cX7_passes 9 = .ok (.iastore, 1) := by decide +kernel
theorem dX7_passes_10 : decode cX7_passes 10 = .ok (.iconst 0, 1) := by decide +kernel
theorem dX7_passes_11 : decode cX7_passes 11 = .ok (.istore_n 1, 1) := by decide +kernel
theorem dX7_passes_12 : decode cX7_passes 12 = .ok (.iload_n 1, 1) := by decide +kernel
theorem dX7_passes_13 : decode cX7_passes 13 = .ok (.bipush 6, 2) := by decide +kernel
theorem dX7_passes_15 : decode cX7_passes 15 = .ok (.if_icmp .ge 28, 3) := by decide +kernel
theorem dX7_passes_18 : decode cX7_passes 18 = .ok (.aload_n 0, 1) := by decide +kernel
theorem dX7_passes_19 : decode cX7_passes 19 = .ok (.getfield 22, 3) := by decide +kernel
theorem dX7_passes_22 : decode cX7_passes 22 = .ok (.iload_n 1, 1) := by decide +kernel
theorem dX7_passes_23 : decode cX7_passes 23 = .ok (.iconst 0, 1) := by decide +kernel
theorem dX7_passes_24 : decode cX7_passes 24 = .ok (.invokestatic 163, 3) := by decide +kernel
theorem dX7_passes_27 : decode cX7_passes 27 = .ok (.iaload, 1) := by decide +kernel
theorem dX7_passes_28 : decode cX7_passes 28 = .ok (.iconst 1, 1) := by decide +kernel
theorem dX7_passes_29 : decode cX7_passes 29 = .ok (.if_icmp .ne 8, 3) := by decide +kernel
theorem dX7_passes_32 : decode cX7_passes 32 = .ok (.aload_n 0, 1) := by decide +kernel
theorem dX7_passes_33 : decode cX7_passes 33 = .ok (.iload_n 1, 1) := by decide +kernel
theorem dX7_passes_34 : decode cX7_passes 34 = .ok (.invokevirtual 239, 3) := by decide +kernel
theorem dX7_passes_37 : decode cX7_passes 37 = .ok (.iinc 1 1, 3) := by decide +kernel
theorem dX7_passes_40 : decode cX7_passes 40 = .ok (.goto (-28), 3) := by decide +kernel
theorem dX7_passes_43 : decode cX7_passes 43 = .ok (.return_, 1) := by decide +kernel
theorem dX7_pass_0 : decode cX7_pass 0 = .ok (.iload_n 1, 1) := by decide +kernel
theorem dX7_pass_1 : decode cX7_pass 1 = .ok (.iconst 1, 1) := by decide +kernel
theorem dX7_pass_2 : decode cX7_pass 2 = .ok (.sipush 200, 3) := by decide +kernel
theorem dX7_pass_5 : decode cX7_pass 5 = .ok (.invokestatic 38, 3) := by decide +kernel
theorem dX7_pass_8 : decode cX7_pass 8 = .ok (.ifCond .ne 6, 3) := by decide +kernel
theorem dX7_pass_11 : decode cX7_pass 11 = .ok (.bipush (-2), 2) := by decide +kernel
theorem dX7_pass_13 : decode cX7_pass 13 = .ok (.ireturn, 1) := by decide +kernel
theorem dX7_pass_14 : decode cX7_pass 14 = .ok (.aload_n 0, 1) := by decide +kernel
theorem dX7_pass_15 : decode cX7_pass 15 = .ok (.getfield 22, 3) := by decide +kernel
theorem dX7_pass_18 : decode cX7_pass 18 = .ok (.iconst 0, 1) := by decide +kernel
theorem dX7_pass_19 : decode cX7_pass 19 = .ok (.iaload, 1) := by decide +kernel
theorem dX7_pass_20 : decode cX7_pass 20 = .ok (.iload_n 1, 1) := by decide +kernel
theorem dX7_pass_21 : decode cX7_pass 21 = .ok (.iadd, 1) := by decide +kernel
theorem dX7_pass_22 : decode cX7_pass 22 = .ok (.ldc 246, 2) := by decide +kernel
theorem dX7_pass_24 : decode cX7_pass 24 = .ok (.if_icmp .le 6, 3) := by decide +kernel
theorem dX7_pass_27 : decode cX7_pass 27 = .ok (.bipush (-4), 2) := by decide +kernel
theorem dX7_pass_29 : decode cX7_pass 29 = .ok (.ireturn, 1) := by decide +kernel
theorem dX7_pass_30 : decode cX7_pass 30 = .ok (.iconst 0, 1) := by decide +kernel
theorem dX7_pass_31 : decode cX7_pass 31 = .ok (.istore_n 2, 1) := by decide +kernel
theorem dX7_pass_32 : decode cX7_pass 32 = .ok (.iload_n 2, 1) := by decide +kernel
theorem dX7_pass_33 : decode cX7_pass 33 = .ok (.iload_n 1, 1) := by decide +kernel
theorem dX7_pass_34 : decode cX7_pass 34 = .ok (.if_icmp .ge 13, 3) := by decide +kernel
theorem dX7_pass_37 : decode cX7_pass 37 = .ok (.aload_n 0, 1) := by decide +kernel
theorem dX7_pass_38 : decode cX7_pass 38 = .ok (.invokevirtual 247, 3) := by decide +kernel
theorem dX7_pass_41 : decode cX7_pass 41 = .ok (.iinc 2 1, 3) := by decide +kernel
theorem dX7_pass_44 : decode cX7_pass 44 = .ok (.goto (-12), 3) := by decide +kernel
theorem dX7_pass_47 : decode cX7_pass 47 = .ok (.aload_n 0, 1) := by decide +kernel
theorem dX7_pass_48 : decode cX7_pass 48 = .ok (.getfield 22, 3) := by decide +kernel
theorem dX7_pass_51 : decode cX7_pass 51 = .ok (.iconst 0, 1) := by decide +kernel
theorem dX7_pass_52 : decode cX7_pass 52 = .ok (.iaload, 1) := by decide +kernel
theorem dX7_pass_53 : decode cX7_pass 53 = .ok (.ireturn, 1) := by decide +kernel
theorem dX7_instance_0 : decode cX7_instance 0 = .ok (.aload_n 0, 1) := by decide +kernel
theorem dX7_instance_1 : decode cX7_instance 1 = .ok (.iload_n 1, 1) := by decide +kernel
theorem dX7_instance_2 : decode cX7_instance 2 = .ok (.invokevirtual 243, 3) := by decide +kernel
theorem dX7_instance_5 : decode cX7_instance 5 = .ok (.ifCond .ne 5, 3) := by decide +kernel
theorem dX7_instance_8 : decode cX7_instance 8 = .ok (.iconst (-1), 1) := by decide +kernel
theorem dX7_instance_9 : decode cX7_instance 9 = .ok (.ireturn, 1) := by decide +kernel
theorem dX7_instance_10 : decode cX7_instance 10 = .ok (.iload_n 2, 1) := by decide +kernel
theorem dX7_instance_11 : decode cX7_instance 11 = .ok (.bipush 10, 2) := by decide +kernel
theorem dX7_instance_13 : decode cX7_instance 13 = .ok (.bipush 13, 2) := by decide +kernel
theorem dX7_instance_15 : decode cX7_instance 15 = .ok (.invokestatic 38, 3) := by decide +kernel
theorem dX7_instance_18 : decode cX7_instance 18 = .ok (.ifCond .eq 20, 3) := by decide +kernel
theorem dX7_instance_21 : decode cX7_instance 21 = .ok (.aload_n 0, 1) := by decide +kernel
theorem dX7_instance_22 : decode cX7_instance 22 = .ok (.getfield 22, 3) := by decide +kernel
theorem dX7_instance_25 : decode cX7_instance 25 = .ok (.iload_n 1, 1) := by decide +kernel
theorem dX7_instance_26 : decode cX7_instance 26 = .ok (.bipush 10, 2) := by decide +kernel
theorem dX7_instance_28 : decode cX7_instance 28 = .ok (.iload_n 2, 1) := by decide +kernel
theorem dX7_instance_29 : decode cX7_instance 29 = .ok (.iadd, 1) := by decide +kernel
theorem dX7_instance_30 : decode cX7_instance 30 = .ok (.bipush 10, 2) := by decide +kernel
theorem dX7_instance_32 : decode cX7_instance 32 = .ok (.isub, 1) := by decide +kernel
theorem dX7_instance_33 : decode cX7_instance 33 = .ok (.invokestatic 163, 3) := by decide +kernel
theorem dX7_instance_36 : decode cX7_instance 36 = .ok (.iaload, 1) := by decide +kernel
theorem dX7_instance_37 : decode cX7_instance 37 = .ok (.ireturn, 1) := by decide +kernel
theorem dX7_instance_38 : decode cX7_instance 38 = .ok (.iload_n 2, 1) := by decide +kernel
theorem dX7_instance_39 : decode cX7_instance 39 = .ok (.bipush 20, 2) := by decide +kernel
theorem dX7_instance_41 : decode cX7_instance 41 = .ok (.bipush 27, 2) := by decide +kernel
theorem dX7_instance_43 : decode cX7_instance 43 = .ok (.invokestatic 38, 3) := by decide +kernel
theorem dX7_instance_46 : decode cX7_instance 46 = .ok (.ifCond .eq 20, 3) := by decide +kernel
theorem dX7_instance_49 : decode cX7_instance 49 = .ok (.aload_n 0, 1) := by decide +kernel
theorem dX7_instance_50 : decode cX7_instance 50 = .ok (.getfield 22, 3) := by decide +kernel
theorem dX7_instance_53 : decode cX7_instance 53 = .ok (.iload_n 1, 1) := by decide +kernel
theorem dX7_instance_54 : decode cX7_instance 54 = .ok (.bipush 14, 2) := by decide +kernel
theorem dX7_instance_56 : decode cX7_instance 56 = .ok (.iload_n 2, 1) := by decide +kernel
theorem dX7_instance_57 : decode cX7_instance 57 = .ok (.iadd, 1) := by decide +kernel
theorem dX7_instance_58 : decode cX7_instance 58 = .ok (.bipush 20, 2) := by decide +kernel
theorem dX7_instance_60 : decode cX7_instance 60 = .ok (.isub, 1) := by decide +kernel
theorem dX7_instance_61 : decode cX7_instance 61 = .ok (.invokestatic 163, 3) := by decide +kernel
theorem dX7_instance_64 : decode cX7_instance 64 = .ok (.iaload, 1) := by decide +kernel
theorem dX7_instance_65 : decode cX7_instance 65 = .ok (.ireturn, 1) := by decide +kernel
theorem dX7_instance_66 : decode cX7_instance 66 = .ok (.iload_n 2, 1) := by decide +kernel
theorem dX7_instance_67 : decode cX7_instance 67 = .ok (.iconst 0, 1) := by decide +kernel
theorem dX7_instance_68 : decode cX7_instance 68 = .ok (.bipush 8, 2) := by decide +kernel
theorem dX7_instance_70 : decode cX7_instance 70 = .ok (.invokestatic 38, 3) := by decide +kernel
theorem dX7_instance_73 : decode cX7_instance 73 = .ok (.ifCond .eq 18, 3) := by decide +kernel
theorem dX7_instance_76 : decode cX7_instance 76 = .ok (.aload_n 0, 1) := by decide +kernel
theorem dX7_instance_77 : decode cX7_instance 77 = .ok (.getfield 22, 3) := by decide +kernel
theorem dX7_instance_80 : decode cX7_instance 80 = .ok (.iload_n 1, 1) := by decide +kernel
theorem dX7_instance_81 : decode cX7_instance 81 = .ok (.iconst 1, 1) := by decide +kernel
theorem dX7_instance_82 : decode cX7_instance 82 = .ok (.iload_n 2, 1) := by decide +kernel
theorem dX7_instance_83 : decode cX7_instance 83 = .ok (.iadd, 1) := by decide +kernel
theorem dX7_instance_84 : decode cX7_instance 84 = .ok (.invokestatic 163, 3) := by decide +kernel
theorem dX7_instance_87 : decode cX7_instance 87 = .ok (.iaload, 1) := by decide +kernel
theorem dX7_instance_88 : decode cX7_instance 88 = .ok (.goto 4, 3) := by decide +kernel
theorem dX7_instance_91 : decode cX7_instance 91 = .ok (.iconst (-1), 1) := by decide +kernel
theorem dX7_instance_92 : decode cX7_instance 92 = .ok (.ireturn, 1) := by decide +kernel
theorem dX7_keptEntries_0 : decode cX7_keptEntries 0 = .ok (.sipush 200, 3) := by decide +kernel
theorem dX7_keptEntries_3 : decode cX7_keptEntries 3 = .ok (.aload_n 0, 1) := by decide +kernel
theorem dX7_keptEntries_4 : decode cX7_keptEntries 4 = .ok (.getfield 22, 3) := by decide +kernel
theorem dX7_keptEntries_7 : decode cX7_keptEntries 7 = .ok (.iload_n 1, 1) := by decide +kernel
theorem dX7_keptEntries_8 : decode cX7_keptEntries 8 = .ok (.bipush 9, 2) := by decide +kernel
theorem dX7_keptEntries_10 : decode cX7_keptEntries 10 = .ok (.invokestatic 163, 3) := by decide +kernel
theorem dX7_keptEntries_13 : decode cX7_keptEntries 13 = .ok (.iaload, 1) := by decide +kernel
theorem dX7_keptEntries_14 : decode cX7_keptEntries 14 = .ok (.invokestatic 250, 3) := by decide +kernel
theorem dX7_keptEntries_17 : decode cX7_keptEntries 17 = .ok (.ireturn, 1) := by decide +kernel
theorem dX7_entry_0 : decode cX7_entry 0 = .ok (.aload_n 0, 1) := by decide +kernel
theorem dX7_entry_1 : decode cX7_entry 1 = .ok (.iload_n 1, 1) := by decide +kernel
theorem dX7_entry_2 : decode cX7_entry 2 = .ok (.invokevirtual 243, 3) := by decide +kernel
theorem dX7_entry_5 : decode cX7_entry 5 = .ok (.ifCond .eq 47, 3) := by decide +kernel
theorem dX7_entry_8 : decode cX7_entry 8 = .ok (.iload_n 2, 1) := by decide +kernel
theorem dX7_entry_9 : decode cX7_entry 9 = .ok (.iconst 0, 1) := by decide +kernel
theorem dX7_entry_10 : decode cX7_entry 10 = .ok (.aload_n 0, 1) := by decide +kernel
theorem dX7_entry_11 : decode cX7_entry 11 = .ok (.iload_n 1, 1) := by decide +kernel
theorem dX7_entry_12 : decode cX7_entry 12 = .ok (.invokevirtual 253, 3) := by decide +kernel
theorem dX7_entry_15 : decode cX7_entry 15 = .ok (.iconst 1, 1) := by decide +kernel
theorem dX7_entry_16 : decode cX7_entry 16 = .ok (.isub, 1) := by decide +kernel
theorem dX7_entry_17 : decode cX7_entry 17 = .ok (.invokestatic 38, 3) := by decide +kernel
theorem dX7_entry_20 : decode cX7_entry 20 = .ok (.ifCond .eq 32, 3) := by decide +kernel
theorem dX7_entry_23 : decode cX7_entry 23 = .ok (.iload_n 3, 1) := by decide +kernel
theorem dX7_entry_24 : decode cX7_entry 24 = .ok (.iconst 0, 1) := by decide +kernel
theorem dX7_entry_25 : decode cX7_entry 25 = .ok (.iconst 2, 1) := by decide +kernel
theorem dX7_entry_26 : decode cX7_entry 26 = .ok (.invokestatic 38, 3) := by decide +kernel
theorem dX7_entry_29 : decode cX7_entry 29 = .ok (.ifCond .eq 23, 3) := by decide +kernel
theorem dX7_entry_32 : decode cX7_entry 32 = .ok (.aload_n 0, 1) := by decide +kernel
theorem dX7_entry_33 : decode cX7_entry 33 = .ok (.getfield 22, 3) := by decide +kernel
theorem dX7_entry_36 : decode cX7_entry 36 = .ok (.iload_n 1, 1) := by decide +kernel
theorem dX7_entry_37 : decode cX7_entry 37 = .ok (.bipush 22, 2) := by decide +kernel
theorem dX7_entry_39 : decode cX7_entry 39 = .ok (.iconst 3, 1) := by decide +kernel
theorem dX7_entry_40 : decode cX7_entry 40 = .ok (.iload_n 2, 1) := by decide +kernel
theorem dX7_entry_41 : decode cX7_entry 41 = .ok (.imul, 1) := by decide +kernel
theorem dX7_entry_42 : decode cX7_entry 42 = .ok (.iadd, 1) := by decide +kernel
theorem dX7_entry_43 : decode cX7_entry 43 = .ok (.iload_n 3, 1) := by decide +kernel
theorem dX7_entry_44 : decode cX7_entry 44 = .ok (.iadd, 1) := by decide +kernel
theorem dX7_entry_45 : decode cX7_entry 45 = .ok (.invokestatic 163, 3) := by decide +kernel
theorem dX7_entry_48 : decode cX7_entry 48 = .ok (.iaload, 1) := by decide +kernel
theorem dX7_entry_49 : decode cX7_entry 49 = .ok (.goto 4, 3) := by decide +kernel
theorem dX7_entry_52 : decode cX7_entry 52 = .ok (.iconst (-1), 1) := by decide +kernel
theorem dX7_entry_53 : decode cX7_entry 53 = .ok (.ireturn, 1) := by decide +kernel
theorem dX7_runs_0 : decode cX7_runs 0 = .ok (.aload_n 0, 1) := by decide +kernel
theorem dX7_runs_1 : decode cX7_runs 1 = .ok (.iload_n 1, 1) := by decide +kernel
theorem dX7_runs_2 : decode cX7_runs 2 = .ok (.iload_n 2, 1) := by decide +kernel
theorem dX7_runs_3 : decode cX7_runs 3 = .ok (.iconst 0, 1) := by decide +kernel
theorem dX7_runs_4 : decode cX7_runs 4 = .ok (.invokevirtual 171, 3) := by decide +kernel
theorem dX7_runs_7 : decode cX7_runs 7 = .ok (.iconst 1, 1) := by decide +kernel
theorem dX7_runs_8 : decode cX7_runs 8 = .ok (.iconst 3, 1) := by decide +kernel
theorem dX7_runs_9 : decode cX7_runs 9 = .ok (.invokestatic 38, 3) := by decide +kernel
theorem dX7_runs_12 : decode cX7_runs 12 = .ok (.ifCond .eq 22, 3) := by decide +kernel
theorem dX7_runs_15 : decode cX7_runs 15 = .ok (.aload_n 0, 1) := by decide +kernel
theorem dX7_runs_16 : decode cX7_runs 16 = .ok (.getfield 22, 3) := by decide +kernel
theorem dX7_runs_19 : decode cX7_runs 19 = .ok (.iload_n 1, 1) := by decide +kernel
theorem dX7_runs_20 : decode cX7_runs 20 = .ok (.iload_n 2, 1) := by decide +kernel
theorem dX7_runs_21 : decode cX7_runs 21 = .ok (.iconst 0, 1) := by decide +kernel
theorem dX7_runs_22 : decode cX7_runs 22 = .ok (.invokestatic 169, 3) := by decide +kernel
theorem dX7_runs_25 : decode cX7_runs 25 = .ok (.iaload, 1) := by decide +kernel
theorem dX7_runs_26 : decode cX7_runs 26 = .ok (.iconst 1, 1) := by decide +kernel
theorem dX7_runs_27 : decode cX7_runs 27 = .ok (.if_icmp .ne 7, 3) := by decide +kernel
theorem dX7_runs_30 : decode cX7_runs 30 = .ok (.iconst 1, 1) := by decide +kernel
theorem dX7_runs_31 : decode cX7_runs 31 = .ok (.goto 4, 3) := by decide +kernel
theorem dX7_runs_34 : decode cX7_runs 34 = .ok (.iconst 0, 1) := by decide +kernel
theorem dX7_runs_35 : decode cX7_runs 35 = .ok (.ireturn, 1) := by decide +kernel
theorem dX7_running_0 : decode cX7_running 0 = .ok (.aload_n 0, 1) := by decide +kernel
theorem dX7_running_1 : decode cX7_running 1 = .ok (.iload_n 1, 1) := by decide +kernel
theorem dX7_running_2 : decode cX7_running 2 = .ok (.invokevirtual 243, 3) := by decide +kernel
theorem dX7_running_5 : decode cX7_running 5 = .ok (.ifCond .ne 5, 3) := by decide +kernel
theorem dX7_running_8 : decode cX7_running 8 = .ok (.iconst (-1), 1) := by decide +kernel
theorem dX7_running_9 : decode cX7_running 9 = .ok (.ireturn, 1) := by decide +kernel
theorem dX7_running_10 : decode cX7_running 10 = .ok (.iconst 0, 1) := by decide +kernel
theorem dX7_running_11 : decode cX7_running 11 = .ok (.istore_n 3, 1) := by decide +kernel
theorem dX7_running_12 : decode cX7_running 12 = .ok (.iconst 0, 1) := by decide +kernel
theorem dX7_running_13 : decode cX7_running 13 = .ok (.istore 4, 2) := by decide +kernel
theorem dX7_running_15 : decode cX7_running 15 = .ok (.iload 4, 2) := by decide +kernel
theorem dX7_running_17 : decode cX7_running 17 = .ok (.aload_n 0, 1) := by decide +kernel
theorem dX7_running_18 : decode cX7_running 18 = .ok (.getfield 16, 3) := by decide +kernel
theorem dX7_running_21 : decode cX7_running 21 = .ok (.iconst 4, 1) := by decide +kernel
theorem dX7_running_22 : decode cX7_running 22 = .ok (.aload_n 0, 1) := by decide +kernel
theorem dX7_running_23 : decode cX7_running 23 = .ok (.iload_n 1, 1) := by decide +kernel
theorem dX7_running_24 : decode cX7_running 24 = .ok (.invokevirtual 166, 3) := by decide +kernel
theorem dX7_running_27 : decode cX7_running 27 = .ok (.imul, 1) := by decide +kernel
theorem dX7_running_28 : decode cX7_running 28 = .ok (.iaload, 1) := by decide +kernel
theorem dX7_running_29 : decode cX7_running 29 = .ok (.if_icmp .ge 37, 3) := by decide +kernel
theorem dX7_running_32 : decode cX7_running 32 = .ok (.aload_n 0, 1) := by decide +kernel
theorem dX7_running_33 : decode cX7_running 33 = .ok (.iload_n 1, 1) := by decide +kernel
theorem dX7_running_34 : decode cX7_running 34 = .ok (.iload 4, 2) := by decide +kernel
theorem dX7_running_36 : decode cX7_running 36 = .ok (.invokevirtual 256, 3) := by decide +kernel
theorem dX7_running_39 : decode cX7_running 39 = .ok (.ifCond .eq 21, 3) := by decide +kernel
theorem dX7_running_42 : decode cX7_running 42 = .ok (.iload_n 3, 1) := by decide +kernel
theorem dX7_running_43 : decode cX7_running 43 = .ok (.iload_n 2, 1) := by decide +kernel
theorem dX7_running_44 : decode cX7_running 44 = .ok (.if_icmp .ne 13, 3) := by decide +kernel
theorem dX7_running_47 : decode cX7_running 47 = .ok (.aload_n 0, 1) := by decide +kernel
theorem dX7_running_48 : decode cX7_running 48 = .ok (.iload_n 1, 1) := by decide +kernel
theorem dX7_running_49 : decode cX7_running 49 = .ok (.iload 4, 2) := by decide +kernel
theorem dX7_running_51 : decode cX7_running 51 = .ok (.bipush 7, 2) := by decide +kernel
theorem dX7_running_53 : decode cX7_running 53 = .ok (.invokevirtual 171, 3) := by decide +kernel
theorem dX7_running_56 : decode cX7_running 56 = .ok (.ireturn, 1) := by decide +kernel
theorem dX7_running_57 : decode cX7_running 57 = .ok (.iinc 3 1, 3) := by decide +kernel
theorem dX7_running_60 : decode cX7_running 60 = .ok (.iinc 4 1, 3) := by decide +kernel
theorem dX7_running_63 : decode cX7_running 63 = .ok (.goto (-48), 3) := by decide +kernel
theorem dX7_running_66 : decode cX7_running 66 = .ok (.iload_n 2, 1) := by decide +kernel
theorem dX7_running_67 : decode cX7_running 67 = .ok (.iconst (-1), 1) := by decide +kernel
theorem dX7_running_68 : decode cX7_running 68 = .ok (.if_icmp .ne 7, 3) := by decide +kernel
theorem dX7_running_71 : decode cX7_running 71 = .ok (.iload_n 3, 1) := by decide +kernel
theorem dX7_running_72 : decode cX7_running 72 = .ok (.goto 4, 3) := by decide +kernel
theorem dX7_running_75 : decode cX7_running 75 = .ok (.iconst (-1), 1) := by decide +kernel
theorem dX7_running_76 : decode cX7_running 76 = .ok (.ireturn, 1) := by decide +kernel
theorem dX7_dueAt_0 : decode cX7_dueAt 0 = .ok (.aload_n 0, 1) := by decide +kernel
theorem dX7_dueAt_1 : decode cX7_dueAt 1 = .ok (.getfield 22, 3) := by decide +kernel
theorem dX7_dueAt_4 : decode cX7_dueAt 4 = .ok (.iload_n 1, 1) := by decide +kernel
theorem dX7_dueAt_5 : decode cX7_dueAt 5 = .ok (.iload_n 2, 1) := by decide +kernel
theorem dX7_dueAt_6 : decode cX7_dueAt 6 = .ok (.iconst 1, 1) := by decide +kernel
theorem dX7_dueAt_7 : decode cX7_dueAt 7 = .ok (.invokestatic 169, 3) := by decide +kernel
theorem dX7_dueAt_10 : decode cX7_dueAt 10 = .ok (.iaload, 1) := by decide +kernel
theorem dX7_dueAt_11 : decode cX7_dueAt 11 = .ok (.istore_n 3, 1) := by decide +kernel
theorem dX7_dueAt_12 : decode cX7_dueAt 12 = .ok (.aload_n 0, 1) := by decide +kernel
theorem dX7_dueAt_13 : decode cX7_dueAt 13 = .ok (.getfield 22, 3) := by decide +kernel
theorem dX7_dueAt_16 : decode cX7_dueAt 16 = .ok (.iload_n 1, 1) := by decide +kernel
theorem dX7_dueAt_17 : decode cX7_dueAt 17 = .ok (.iload_n 2, 1) := by decide +kernel
theorem dX7_dueAt_18 : decode cX7_dueAt 18 = .ok (.bipush 7, 2) := by decide +kernel
theorem dX7_dueAt_20 : decode cX7_dueAt 20 = .ok (.invokestatic 169, 3) := by decide +kernel
theorem dX7_dueAt_23 : decode cX7_dueAt 23 = .ok (.iaload, 1) := by decide +kernel
theorem dX7_dueAt_24 : decode cX7_dueAt 24 = .ok (.ifCond .lt 16, 3) := by decide +kernel
theorem dX7_dueAt_27 : decode cX7_dueAt 27 = .ok (.aload_n 0, 1) := by decide +kernel
theorem dX7_dueAt_28 : decode cX7_dueAt 28 = .ok (.getfield 22, 3) := by decide +kernel
theorem dX7_dueAt_31 : decode cX7_dueAt 31 = .ok (.iload_n 1, 1) := by decide +kernel
theorem dX7_dueAt_32 : decode cX7_dueAt 32 = .ok (.iload_n 2, 1) := by decide +kernel
theorem dX7_dueAt_33 : decode cX7_dueAt 33 = .ok (.bipush 9, 2) := by decide +kernel
theorem dX7_dueAt_35 : decode cX7_dueAt 35 = .ok (.invokestatic 169, 3) := by decide +kernel
theorem dX7_dueAt_38 : decode cX7_dueAt 38 = .ok (.iaload, 1) := by decide +kernel
theorem dX7_dueAt_39 : decode cX7_dueAt 39 = .ok (.ireturn, 1) := by decide +kernel
theorem dX7_dueAt_40 : decode cX7_dueAt 40 = .ok (.aload_n 0, 1) := by decide +kernel
theorem dX7_dueAt_41 : decode cX7_dueAt 41 = .ok (.iload_n 1, 1) := by decide +kernel
theorem dX7_dueAt_42 : decode cX7_dueAt 42 = .ok (.iload_n 2, 1) := by decide +kernel
theorem dX7_dueAt_43 : decode cX7_dueAt 43 = .ok (.invokevirtual 256, 3) := by decide +kernel
theorem dX7_dueAt_46 : decode cX7_dueAt 46 = .ok (.ifCond .ne 5, 3) := by decide +kernel
theorem dX7_dueAt_49 : decode cX7_dueAt 49 = .ok (.iconst (-1), 1) := by decide +kernel
theorem dX7_dueAt_50 : decode cX7_dueAt 50 = .ok (.ireturn, 1) := by decide +kernel
theorem dX7_dueAt_51 : decode cX7_dueAt 51 = .ok (.aload_n 0, 1) := by decide +kernel
theorem dX7_dueAt_52 : decode cX7_dueAt 52 = .ok (.iload_n 1, 1) := by decide +kernel
theorem dX7_dueAt_53 : decode cX7_dueAt 53 = .ok (.iload_n 2, 1) := by decide +kernel
theorem dX7_dueAt_54 : decode cX7_dueAt 54 = .ok (.iconst 0, 1) := by decide +kernel
theorem dX7_dueAt_55 : decode cX7_dueAt 55 = .ok (.invokevirtual 171, 3) := by decide +kernel
theorem dX7_dueAt_58 : decode cX7_dueAt 58 = .ok (.lookupswitch 76 #[(1, 26), (2, 66)], 26) := by decide +kernel
theorem dX7_dueAt_84 : decode cX7_dueAt 84 = .ok (.aload_n 0, 1) := by decide +kernel
theorem dX7_dueAt_85 : decode cX7_dueAt 85 = .ok (.getfield 22, 3) := by decide +kernel
theorem dX7_dueAt_88 : decode cX7_dueAt 88 = .ok (.iload_n 1, 1) := by decide +kernel
theorem dX7_dueAt_89 : decode cX7_dueAt 89 = .ok (.iload_n 2, 1) := by decide +kernel
theorem dX7_dueAt_90 : decode cX7_dueAt 90 = .ok (.iconst 3, 1) := by decide +kernel
theorem dX7_dueAt_91 : decode cX7_dueAt 91 = .ok (.invokestatic 169, 3) := by decide +kernel
theorem dX7_dueAt_94 : decode cX7_dueAt 94 = .ok (.iaload, 1) := by decide +kernel
theorem dX7_dueAt_95 : decode cX7_dueAt 95 = .ok (.ifCond .lt 17, 3) := by decide +kernel
theorem dX7_dueAt_98 : decode cX7_dueAt 98 = .ok (.aload_n 0, 1) := by decide +kernel
theorem dX7_dueAt_99 : decode cX7_dueAt 99 = .ok (.getfield 22, 3) := by decide +kernel
theorem dX7_dueAt_102 : decode cX7_dueAt 102 = .ok (.iload_n 1, 1) := by decide +kernel
theorem dX7_dueAt_103 : decode cX7_dueAt 103 = .ok (.iload_n 2, 1) := by decide +kernel
theorem dX7_dueAt_104 : decode cX7_dueAt 104 = .ok (.iconst 3, 1) := by decide +kernel
theorem dX7_dueAt_105 : decode cX7_dueAt 105 = .ok (.invokestatic 169, 3) := by decide +kernel
theorem dX7_dueAt_108 : decode cX7_dueAt 108 = .ok (.iaload, 1) := by decide +kernel
theorem dX7_dueAt_109 : decode cX7_dueAt 109 = .ok (.goto 14, 3) := by decide +kernel
theorem dX7_dueAt_112 : decode cX7_dueAt 112 = .ok (.aload_n 0, 1) := by decide +kernel
theorem dX7_dueAt_113 : decode cX7_dueAt 113 = .ok (.getfield 22, 3) := by decide +kernel
theorem dX7_dueAt_116 : decode cX7_dueAt 116 = .ok (.iload_n 1, 1) := by decide +kernel
theorem dX7_dueAt_117 : decode cX7_dueAt 117 = .ok (.iload_n 2, 1) := by decide +kernel
theorem dX7_dueAt_118 : decode cX7_dueAt 118 = .ok (.iconst 4, 1) := by decide +kernel
theorem dX7_dueAt_119 : decode cX7_dueAt 119 = .ok (.invokestatic 169, 3) := by decide +kernel
theorem dX7_dueAt_122 : decode cX7_dueAt 122 = .ok (.iaload, 1) := by decide +kernel
theorem dX7_dueAt_123 : decode cX7_dueAt 123 = .ok (.ireturn, 1) := by decide +kernel
theorem dX7_dueAt_124 : decode cX7_dueAt 124 = .ok (.iload_n 3, 1) := by decide +kernel
theorem dX7_dueAt_125 : decode cX7_dueAt 125 = .ok (.aload_n 0, 1) := by decide +kernel
theorem dX7_dueAt_126 : decode cX7_dueAt 126 = .ok (.iload_n 1, 1) := by decide +kernel
theorem dX7_dueAt_127 : decode cX7_dueAt 127 = .ok (.iload_n 2, 1) := by decide +kernel
theorem dX7_dueAt_128 : decode cX7_dueAt 128 = .ok (.iconst 1, 1) := by decide +kernel
theorem dX7_dueAt_129 : decode cX7_dueAt 129 = .ok (.invokevirtual 171, 3) := by decide +kernel
theorem dX7_dueAt_132 : decode cX7_dueAt 132 = .ok (.iadd, 1) := by decide +kernel
theorem dX7_dueAt_133 : decode cX7_dueAt 133 = .ok (.ireturn, 1) := by decide +kernel
theorem dX7_dueAt_134 : decode cX7_dueAt 134 = .ok (.aload_n 0, 1) := by decide +kernel
theorem dX7_dueAt_135 : decode cX7_dueAt 135 = .ok (.iload_n 1, 1) := by decide +kernel
theorem dX7_dueAt_136 : decode cX7_dueAt 136 = .ok (.iload_n 2, 1) := by decide +kernel
theorem dX7_dueAt_137 : decode cX7_dueAt 137 = .ok (.iconst 2, 1) := by decide +kernel
theorem dX7_dueAt_138 : decode cX7_dueAt 138 = .ok (.invokevirtual 171, 3) := by decide +kernel
theorem dX7_dueAt_141 : decode cX7_dueAt 141 = .ok (.ifCond .ge 7, 3) := by decide +kernel
theorem dX7_dueAt_144 : decode cX7_dueAt 144 = .ok (.iconst (-1), 1) := by decide +kernel
theorem dX7_dueAt_145 : decode cX7_dueAt 145 = .ok (.goto 12, 3) := by decide +kernel
theorem dX7_dueAt_148 : decode cX7_dueAt 148 = .ok (.iload_n 3, 1) := by decide +kernel
theorem dX7_dueAt_149 : decode cX7_dueAt 149 = .ok (.aload_n 0, 1) := by decide +kernel
theorem dX7_dueAt_150 : decode cX7_dueAt 150 = .ok (.iload_n 1, 1) := by decide +kernel
theorem dX7_dueAt_151 : decode cX7_dueAt 151 = .ok (.iload_n 2, 1) := by decide +kernel
theorem dX7_dueAt_152 : decode cX7_dueAt 152 = .ok (.iconst 2, 1) := by decide +kernel
theorem dX7_dueAt_153 : decode cX7_dueAt 153 = .ok (.invokevirtual 171, 3) := by decide +kernel
theorem dX7_dueAt_156 : decode cX7_dueAt 156 = .ok (.iadd, 1) := by decide +kernel
theorem dX7_dueAt_157 : decode cX7_dueAt 157 = .ok (.ireturn, 1) := by decide +kernel
theorem dX7_due_0 : decode cX7_due 0 = .ok (.aload_n 0, 1) := by decide +kernel
theorem dX7_due_1 : decode cX7_due 1 = .ok (.iload_n 1, 1) := by decide +kernel
theorem dX7_due_2 : decode cX7_due 2 = .ok (.invokevirtual 243, 3) := by decide +kernel
theorem dX7_due_5 : decode cX7_due 5 = .ok (.ifCond .ne 5, 3) := by decide +kernel
theorem dX7_due_8 : decode cX7_due 8 = .ok (.iconst (-1), 1) := by decide +kernel
theorem dX7_due_9 : decode cX7_due 9 = .ok (.ireturn, 1) := by decide +kernel
theorem dX7_due_10 : decode cX7_due 10 = .ok (.bipush (-5), 2) := by decide +kernel
theorem dX7_due_12 : decode cX7_due 12 = .ok (.istore_n 2, 1) := by decide +kernel
theorem dX7_due_13 : decode cX7_due 13 = .ok (.iconst 0, 1) := by decide +kernel
theorem dX7_due_14 : decode cX7_due 14 = .ok (.istore_n 3, 1) := by decide +kernel
theorem dX7_due_15 : decode cX7_due 15 = .ok (.iload_n 3, 1) := by decide +kernel
theorem dX7_due_16 : decode cX7_due 16 = .ok (.aload_n 0, 1) := by decide +kernel
theorem dX7_due_17 : decode cX7_due 17 = .ok (.getfield 16, 3) := by decide +kernel
theorem dX7_due_20 : decode cX7_due 20 = .ok (.iconst 4, 1) := by decide +kernel
theorem dX7_due_21 : decode cX7_due 21 = .ok (.aload_n 0, 1) := by decide +kernel
theorem dX7_due_22 : decode cX7_due 22 = .ok (.iload_n 1, 1) := by decide +kernel
theorem dX7_due_23 : decode cX7_due 23 = .ok (.invokevirtual 166, 3) := by decide +kernel
theorem dX7_due_26 : decode cX7_due 26 = .ok (.imul, 1) := by decide +kernel
theorem dX7_due_27 : decode cX7_due 27 = .ok (.iaload, 1) := by decide +kernel
theorem dX7_due_28 : decode cX7_due 28 = .ok (.if_icmp .ge 41, 3) := by decide +kernel
theorem dX7_due_31 : decode cX7_due 31 = .ok (.aload_n 0, 1) := by decide +kernel
theorem dX7_due_32 : decode cX7_due 32 = .ok (.iload_n 1, 1) := by decide +kernel
theorem dX7_due_33 : decode cX7_due 33 = .ok (.iload_n 3, 1) := by decide +kernel
theorem dX7_due_34 : decode cX7_due 34 = .ok (.invokevirtual 259, 3) := by decide +kernel
theorem dX7_due_37 : decode cX7_due 37 = .ok (.istore 4, 2) := by decide +kernel
theorem dX7_due_39 : decode cX7_due 39 = .ok (.iload 4, 2) := by decide +kernel
theorem dX7_due_41 : decode cX7_due 41 = .ok (.aload_n 0, 1) := by decide +kernel
theorem dX7_due_42 : decode cX7_due 42 = .ok (.getfield 22, 3) := by decide +kernel
theorem dX7_due_45 : decode cX7_due 45 = .ok (.iconst 0, 1) := by decide +kernel
theorem dX7_due_46 : decode cX7_due 46 = .ok (.iaload, 1) := by decide +kernel
theorem dX7_due_47 : decode cX7_due 47 = .ok (.if_icmp .le 16, 3) := by decide +kernel
theorem dX7_due_50 : decode cX7_due 50 = .ok (.iload_n 2, 1) := by decide +kernel
theorem dX7_due_51 : decode cX7_due 51 = .ok (.ifCond .lt 9, 3) := by decide +kernel
theorem dX7_due_54 : decode cX7_due 54 = .ok (.iload 4, 2) := by decide +kernel
theorem dX7_due_56 : decode cX7_due 56 = .ok (.iload_n 2, 1) := by decide +kernel
theorem dX7_due_57 : decode cX7_due 57 = .ok (.if_icmp .ge 6, 3) := by decide +kernel
theorem dX7_due_60 : decode cX7_due 60 = .ok (.iload 4, 2) := by decide +kernel
theorem dX7_due_62 : decode cX7_due 62 = .ok (.istore_n 2, 1) := by decide +kernel
theorem dX7_due_63 : decode cX7_due 63 = .ok (.iinc 3 1, 3) := by decide +kernel
theorem dX7_due_66 : decode cX7_due 66 = .ok (.goto (-51), 3) := by decide +kernel
theorem dX7_due_69 : decode cX7_due 69 = .ok (.iload_n 2, 1) := by decide +kernel
theorem dX7_due_70 : decode cX7_due 70 = .ok (.ireturn, 1) := by decide +kernel
theorem dX7_copies_0 : decode cX7_copies 0 = .ok (.iconst 0, 1) := by decide +kernel
theorem dX7_copies_1 : decode cX7_copies 1 = .ok (.istore_n 3, 1) := by decide +kernel
theorem dX7_copies_2 : decode cX7_copies 2 = .ok (.iload_n 3, 1) := by decide +kernel
theorem dX7_copies_3 : decode cX7_copies 3 = .ok (.iload_n 2, 1) := by decide +kernel
theorem dX7_copies_4 : decode cX7_copies 4 = .ok (.if_icmp .ge 15, 3) := by decide +kernel
theorem dX7_copies_7 : decode cX7_copies 7 = .ok (.aload_n 1, 1) := by decide +kernel
theorem dX7_copies_8 : decode cX7_copies 8 = .ok (.iload_n 3, 1) := by decide +kernel
theorem dX7_copies_9 : decode cX7_copies 9 = .ok (.aload_n 0, 1) := by decide +kernel
theorem dX7_copies_10 : decode cX7_copies 10 = .ok (.iload_n 3, 1) := by decide +kernel
theorem dX7_copies_11 : decode cX7_copies 11 = .ok (.iaload, 1) := by decide +kernel
theorem dX7_copies_12 : decode cX7_copies 12 = .ok (.iastore, 1) := by decide +kernel
theorem dX7_copies_13 : decode cX7_copies 13 = .ok (.iinc 3 1, 3) := by decide +kernel
theorem dX7_copies_16 : decode cX7_copies 16 = .ok (.goto (-14), 3) := by decide +kernel
theorem dX7_copies_19 : decode cX7_copies 19 = .ok (.return_, 1) := by decide +kernel
theorem dX7_ahead_0 : decode cX7_ahead 0 = .ok (.aload_n 0, 1) := by decide +kernel
theorem dX7_ahead_1 : decode cX7_ahead 1 = .ok (.iload_n 1, 1) := by decide +kernel
theorem dX7_ahead_2 : decode cX7_ahead 2 = .ok (.invokevirtual 243, 3) := by decide +kernel
theorem dX7_ahead_5 : decode cX7_ahead 5 = .ok (.ifCond .ne 5, 3) := by decide +kernel
theorem dX7_ahead_8 : decode cX7_ahead 8 = .ok (.iconst (-1), 1) := by decide +kernel
theorem dX7_ahead_9 : decode cX7_ahead 9 = .ok (.ireturn, 1) := by decide +kernel
theorem dX7_ahead_10 : decode cX7_ahead 10 = .ok (.iload_n 2, 1) := by decide +kernel
theorem dX7_ahead_11 : decode cX7_ahead 11 = .ok (.iconst 1, 1) := by decide +kernel
theorem dX7_ahead_12 : decode cX7_ahead 12 = .ok (.sipush 200, 3) := by decide +kernel
theorem dX7_ahead_15 : decode cX7_ahead 15 = .ok (.invokestatic 38, 3) := by decide +kernel
theorem dX7_ahead_18 : decode cX7_ahead 18 = .ok (.ifCond .ne 6, 3) := by decide +kernel
theorem dX7_ahead_21 : decode cX7_ahead 21 = .ok (.bipush (-2), 2) := by decide +kernel
theorem dX7_ahead_23 : decode cX7_ahead 23 = .ok (.ireturn, 1) := by decide +kernel
theorem dX7_ahead_24 : decode cX7_ahead 24 = .ok (.aload_n 0, 1) := by decide +kernel
theorem dX7_ahead_25 : decode cX7_ahead 25 = .ok (.getfield 22, 3) := by decide +kernel
theorem dX7_ahead_28 : decode cX7_ahead 28 = .ok (.aload_n 0, 1) := by decide +kernel
theorem dX7_ahead_29 : decode cX7_ahead 29 = .ok (.getfield 28, 3) := by decide +kernel
theorem dX7_ahead_32 : decode cX7_ahead 32 = .ok (.sipush 7593, 3) := by decide +kernel
theorem dX7_ahead_35 : decode cX7_ahead 35 = .ok (.invokestatic 262, 3) := by decide +kernel
theorem dX7_ahead_38 : decode cX7_ahead 38 = .ok (.iconst 0, 1) := by decide +kernel
theorem dX7_ahead_39 : decode cX7_ahead 39 = .ok (.istore_n 3, 1) := by decide +kernel
theorem dX7_ahead_40 : decode cX7_ahead 40 = .ok (.iload_n 3, 1) := by decide +kernel
theorem dX7_ahead_41 : decode cX7_ahead 41 = .ok (.iload_n 2, 1) := by decide +kernel
theorem dX7_ahead_42 : decode cX7_ahead 42 = .ok (.if_icmp .ge 13, 3) := by decide +kernel
theorem dX7_ahead_45 : decode cX7_ahead 45 = .ok (.aload_n 0, 1) := by decide +kernel
theorem dX7_ahead_46 : decode cX7_ahead 46 = .ok (.invokevirtual 247, 3) := by decide +kernel
theorem dX7_ahead_49 : decode cX7_ahead 49 = .ok (.iinc 3 1, 3) := by decide +kernel
theorem dX7_ahead_52 : decode cX7_ahead 52 = .ok (.goto (-12), 3) := by decide +kernel
theorem dX7_ahead_55 : decode cX7_ahead 55 = .ok (.aload_n 0, 1) := by decide +kernel
theorem dX7_ahead_56 : decode cX7_ahead 56 = .ok (.getfield 22, 3) := by decide +kernel
theorem dX7_ahead_59 : decode cX7_ahead 59 = .ok (.iload_n 1, 1) := by decide +kernel
theorem dX7_ahead_60 : decode cX7_ahead 60 = .ok (.iconst 1, 1) := by decide +kernel
theorem dX7_ahead_61 : decode cX7_ahead 61 = .ok (.invokestatic 163, 3) := by decide +kernel
theorem dX7_ahead_64 : decode cX7_ahead 64 = .ok (.iaload, 1) := by decide +kernel
theorem dX7_ahead_65 : decode cX7_ahead 65 = .ok (.istore_n 3, 1) := by decide +kernel
theorem dX7_ahead_66 : decode cX7_ahead 66 = .ok (.aload_n 0, 1) := by decide +kernel
theorem dX7_ahead_67 : decode cX7_ahead 67 = .ok (.getfield 28, 3) := by decide +kernel
theorem dX7_ahead_70 : decode cX7_ahead 70 = .ok (.aload_n 0, 1) := by decide +kernel
theorem dX7_ahead_71 : decode cX7_ahead 71 = .ok (.getfield 22, 3) := by decide +kernel
theorem dX7_ahead_74 : decode cX7_ahead 74 = .ok (.sipush 7593, 3) := by decide +kernel
theorem dX7_ahead_77 : decode cX7_ahead 77 = .ok (.invokestatic 262, 3) := by decide +kernel
theorem dX7_ahead_80 : decode cX7_ahead 80 = .ok (.iload_n 3, 1) := by decide +kernel
theorem dX7_ahead_81 : decode cX7_ahead 81 = .ok (.ireturn, 1) := by decide +kernel
theorem dX7_entriesOf_0 : decode cX7_entriesOf 0 = .ok (.iconst 0, 1) := by decide +kernel
theorem dX7_entriesOf_1 : decode cX7_entriesOf 1 = .ok (.istore_n 3, 1) := by decide +kernel
theorem dX7_entriesOf_2 : decode cX7_entriesOf 2 = .ok (.iconst 0, 1) := by decide +kernel
theorem dX7_entriesOf_3 : decode cX7_entriesOf 3 = .ok (.istore 4, 2) := by decide +kernel
theorem dX7_entriesOf_5 : decode cX7_entriesOf 5 = .ok (.iload 4, 2) := by decide +kernel
theorem dX7_entriesOf_7 : decode cX7_entriesOf 7 = .ok (.aload_n 0, 1) := by decide +kernel
theorem dX7_entriesOf_8 : decode cX7_entriesOf 8 = .ok (.iload_n 1, 1) := by decide +kernel
theorem dX7_entriesOf_9 : decode cX7_entriesOf 9 = .ok (.invokevirtual 253, 3) := by decide +kernel
theorem dX7_entriesOf_12 : decode cX7_entriesOf 12 = .ok (.if_icmp .ge 39, 3) := by decide +kernel
theorem dX7_entriesOf_15 : decode cX7_entriesOf 15 = .ok (.iload_n 3, 1) := by decide +kernel
theorem dX7_entriesOf_16 : decode cX7_entriesOf 16 = .ok (.aload_n 0, 1) := by decide +kernel
theorem dX7_entriesOf_17 : decode cX7_entriesOf 17 = .ok (.getfield 22, 3) := by decide +kernel
theorem dX7_entriesOf_20 : decode cX7_entriesOf 20 = .ok (.iload_n 1, 1) := by decide +kernel
theorem dX7_entriesOf_21 : decode cX7_entriesOf 21 = .ok (.bipush 22, 2) := by decide +kernel
theorem dX7_entriesOf_23 : decode cX7_entriesOf 23 = .ok (.iconst 3, 1) := by decide +kernel
theorem dX7_entriesOf_24 : decode cX7_entriesOf 24 = .ok (.iload 4, 2) := by decide +kernel
theorem dX7_entriesOf_26 : decode cX7_entriesOf 26 = .ok (.imul, 1) := by decide +kernel
theorem dX7_entriesOf_27 : decode cX7_entriesOf 27 = .ok (.iadd, 1) := by decide +kernel
theorem dX7_entriesOf_28 : decode cX7_entriesOf 28 = .ok (.iconst 1, 1) := by decide +kernel
theorem dX7_entriesOf_29 : decode cX7_entriesOf 29 = .ok (.iadd, 1) := by decide +kernel
theorem dX7_entriesOf_30 : decode cX7_entriesOf 30 = .ok (.invokestatic 163, 3) := by decide +kernel
theorem dX7_entriesOf_33 : decode cX7_entriesOf 33 = .ok (.iaload, 1) := by decide +kernel
theorem dX7_entriesOf_34 : decode cX7_entriesOf 34 = .ok (.iload_n 2, 1) := by decide +kernel
theorem dX7_entriesOf_35 : decode cX7_entriesOf 35 = .ok (.if_icmp .ne 7, 3) := by decide +kernel
theorem dX7_entriesOf_38 : decode cX7_entriesOf 38 = .ok (.iconst 1, 1) := by decide +kernel
theorem dX7_entriesOf_39 : decode cX7_entriesOf 39 = .ok (.goto 4, 3) := by decide +kernel
theorem dX7_entriesOf_42 : decode cX7_entriesOf 42 = .ok (.iconst 0, 1) := by decide +kernel
theorem dX7_entriesOf_43 : decode cX7_entriesOf 43 = .ok (.iadd, 1) := by decide +kernel
theorem dX7_entriesOf_44 : decode cX7_entriesOf 44 = .ok (.istore_n 3, 1) := by decide +kernel
theorem dX7_entriesOf_45 : decode cX7_entriesOf 45 = .ok (.iinc 4 1, 3) := by decide +kernel
theorem dX7_entriesOf_48 : decode cX7_entriesOf 48 = .ok (.goto (-43), 3) := by decide +kernel
theorem dX7_entriesOf_51 : decode cX7_entriesOf 51 = .ok (.iload_n 3, 1) := by decide +kernel
theorem dX7_entriesOf_52 : decode cX7_entriesOf 52 = .ok (.ireturn, 1) := by decide +kernel
theorem dX7_replayed_0 : decode cX7_replayed 0 = .ok (.aload_n 0, 1) := by decide +kernel
theorem dX7_replayed_1 : decode cX7_replayed 1 = .ok (.iload_n 1, 1) := by decide +kernel
theorem dX7_replayed_2 : decode cX7_replayed 2 = .ok (.invokevirtual 243, 3) := by decide +kernel
theorem dX7_replayed_5 : decode cX7_replayed 5 = .ok (.ifCond .eq 12, 3) := by decide +kernel
theorem dX7_replayed_8 : decode cX7_replayed 8 = .ok (.iload_n 2, 1) := by decide +kernel
theorem dX7_replayed_9 : decode cX7_replayed 9 = .ok (.iconst 0, 1) := by decide +kernel
theorem dX7_replayed_10 : decode cX7_replayed 10 = .ok (.iconst 5, 1) := by decide +kernel
theorem dX7_replayed_11 : decode cX7_replayed 11 = .ok (.invokestatic 38, 3) := by decide +kernel
theorem dX7_replayed_14 : decode cX7_replayed 14 = .ok (.ifCond .ne 5, 3) := by decide +kernel
theorem dX7_replayed_17 : decode cX7_replayed 17 = .ok (.iconst (-1), 1) := by decide +kernel
theorem dX7_replayed_18 : decode cX7_replayed 18 = .ok (.ireturn, 1) := by decide +kernel
theorem dX7_replayed_19 : decode cX7_replayed 19 = .ok (.iconst 0, 1) := by decide +kernel
theorem dX7_replayed_20 : decode cX7_replayed 20 = .ok (.istore_n 3, 1) := by decide +kernel
theorem dX7_replayed_21 : decode cX7_replayed 21 = .ok (.iconst 0, 1) := by decide +kernel
theorem dX7_replayed_22 : decode cX7_replayed 22 = .ok (.istore 4, 2) := by decide +kernel
theorem dX7_replayed_24 : decode cX7_replayed 24 = .ok (.iload 4, 2) := by decide +kernel
theorem dX7_replayed_26 : decode cX7_replayed 26 = .ok (.aload_n 0, 1) := by decide +kernel
theorem dX7_replayed_27 : decode cX7_replayed 27 = .ok (.iload_n 1, 1) := by decide +kernel
theorem dX7_replayed_28 : decode cX7_replayed 28 = .ok (.invokevirtual 253, 3) := by decide +kernel
theorem dX7_replayed_31 : decode cX7_replayed 31 = .ok (.if_icmp .ge 55, 3) := by decide +kernel
theorem dX7_replayed_34 : decode cX7_replayed 34 = .ok (.aload_n 0, 1) := by decide +kernel
theorem dX7_replayed_35 : decode cX7_replayed 35 = .ok (.getfield 22, 3) := by decide +kernel
theorem dX7_replayed_38 : decode cX7_replayed 38 = .ok (.iload_n 1, 1) := by decide +kernel
theorem dX7_replayed_39 : decode cX7_replayed 39 = .ok (.bipush 22, 2) := by decide +kernel
theorem dX7_replayed_41 : decode cX7_replayed 41 = .ok (.iconst 3, 1) := by decide +kernel
theorem dX7_replayed_42 : decode cX7_replayed 42 = .ok (.iload 4, 2) := by decide +kernel
theorem dX7_replayed_44 : decode cX7_replayed 44 = .ok (.imul, 1) := by decide +kernel
theorem dX7_replayed_45 : decode cX7_replayed 45 = .ok (.iadd, 1) := by decide +kernel
theorem dX7_replayed_46 : decode cX7_replayed 46 = .ok (.iconst 1, 1) := by decide +kernel
theorem dX7_replayed_47 : decode cX7_replayed 47 = .ok (.iadd, 1) := by decide +kernel
theorem dX7_replayed_48 : decode cX7_replayed 48 = .ok (.invokestatic 163, 3) := by decide +kernel
theorem dX7_replayed_51 : decode cX7_replayed 51 = .ok (.iaload, 1) := by decide +kernel
theorem dX7_replayed_52 : decode cX7_replayed 52 = .ok (.bipush 11, 2) := by decide +kernel
theorem dX7_replayed_54 : decode cX7_replayed 54 = .ok (.if_icmp .ne 24, 3) := by decide +kernel
theorem dX7_replayed_57 : decode cX7_replayed 57 = .ok (.aload_n 0, 1) := by decide +kernel
theorem dX7_replayed_58 : decode cX7_replayed 58 = .ok (.getfield 22, 3) := by decide +kernel
theorem dX7_replayed_61 : decode cX7_replayed 61 = .ok (.iload_n 1, 1) := by decide +kernel
theorem dX7_replayed_62 : decode cX7_replayed 62 = .ok (.bipush 22, 2) := by decide +kernel
theorem dX7_replayed_64 : decode cX7_replayed 64 = .ok (.iconst 3, 1) := by decide +kernel
theorem dX7_replayed_65 : decode cX7_replayed 65 = .ok (.iload 4, 2) := by decide +kernel
theorem dX7_replayed_67 : decode cX7_replayed 67 = .ok (.imul, 1) := by decide +kernel
theorem dX7_replayed_68 : decode cX7_replayed 68 = .ok (.iadd, 1) := by decide +kernel
theorem dX7_replayed_69 : decode cX7_replayed 69 = .ok (.iconst 2, 1) := by decide +kernel
theorem dX7_replayed_70 : decode cX7_replayed 70 = .ok (.iadd, 1) := by decide +kernel
theorem dX7_replayed_71 : decode cX7_replayed 71 = .ok (.invokestatic 163, 3) := by decide +kernel
theorem dX7_replayed_74 : decode cX7_replayed 74 = .ok (.iaload, 1) := by decide +kernel
theorem dX7_replayed_75 : decode cX7_replayed 75 = .ok (.goto 4, 3) := by decide +kernel
theorem dX7_replayed_78 : decode cX7_replayed 78 = .ok (.iload_n 3, 1) := by decide +kernel
theorem dX7_replayed_79 : decode cX7_replayed 79 = .ok (.istore_n 3, 1) := by decide +kernel
theorem dX7_replayed_80 : decode cX7_replayed 80 = .ok (.iinc 4 1, 3) := by decide +kernel
theorem dX7_replayed_83 : decode cX7_replayed 83 = .ok (.goto (-59), 3) := by decide +kernel
theorem dX7_replayed_86 : decode cX7_replayed 86 = .ok (.iload_n 2, 1) := by decide +kernel
theorem dX7_replayed_87 : decode cX7_replayed 87 = .ok (.tableswitch 72 0 4 #[33, 35, 42, 50, 58], 33) := by decide +kernel
theorem dX7_replayed_120 : decode cX7_replayed 120 = .ok (.iload_n 3, 1) := by decide +kernel
theorem dX7_replayed_121 : decode cX7_replayed 121 = .ok (.ireturn, 1) := by decide +kernel
theorem dX7_replayed_122 : decode cX7_replayed 122 = .ok (.aload_n 0, 1) := by decide +kernel
theorem dX7_replayed_123 : decode cX7_replayed 123 = .ok (.iload_n 1, 1) := by decide +kernel
theorem dX7_replayed_124 : decode cX7_replayed 124 = .ok (.iconst 2, 1) := by decide +kernel
theorem dX7_replayed_125 : decode cX7_replayed 125 = .ok (.invokevirtual 266, 3) := by decide +kernel
theorem dX7_replayed_128 : decode cX7_replayed 128 = .ok (.ireturn, 1) := by decide +kernel
theorem dX7_replayed_129 : decode cX7_replayed 129 = .ok (.aload_n 0, 1) := by decide +kernel
theorem dX7_replayed_130 : decode cX7_replayed 130 = .ok (.iload_n 1, 1) := by decide +kernel
theorem dX7_replayed_131 : decode cX7_replayed 131 = .ok (.bipush 6, 2) := by decide +kernel
theorem dX7_replayed_133 : decode cX7_replayed 133 = .ok (.invokevirtual 266, 3) := by decide +kernel
theorem dX7_replayed_136 : decode cX7_replayed 136 = .ok (.ireturn, 1) := by decide +kernel
theorem dX7_replayed_137 : decode cX7_replayed 137 = .ok (.aload_n 0, 1) := by decide +kernel
theorem dX7_replayed_138 : decode cX7_replayed 138 = .ok (.iload_n 1, 1) := by decide +kernel
theorem dX7_replayed_139 : decode cX7_replayed 139 = .ok (.bipush 7, 2) := by decide +kernel
theorem dX7_replayed_141 : decode cX7_replayed 141 = .ok (.invokevirtual 266, 3) := by decide +kernel
theorem dX7_replayed_144 : decode cX7_replayed 144 = .ok (.ireturn, 1) := by decide +kernel
theorem dX7_replayed_145 : decode cX7_replayed 145 = .ok (.aload_n 0, 1) := by decide +kernel
theorem dX7_replayed_146 : decode cX7_replayed 146 = .ok (.iload_n 1, 1) := by decide +kernel
theorem dX7_replayed_147 : decode cX7_replayed 147 = .ok (.iconst 0, 1) := by decide +kernel
theorem dX7_replayed_148 : decode cX7_replayed 148 = .ok (.invokevirtual 266, 3) := by decide +kernel
theorem dX7_replayed_151 : decode cX7_replayed 151 = .ok (.aload_n 0, 1) := by decide +kernel
theorem dX7_replayed_152 : decode cX7_replayed 152 = .ok (.iload_n 1, 1) := by decide +kernel
theorem dX7_replayed_153 : decode cX7_replayed 153 = .ok (.iconst 5, 1) := by decide +kernel
theorem dX7_replayed_154 : decode cX7_replayed 154 = .ok (.invokevirtual 266, 3) := by decide +kernel
theorem dX7_replayed_157 : decode cX7_replayed 157 = .ok (.iadd, 1) := by decide +kernel
theorem dX7_replayed_158 : decode cX7_replayed 158 = .ok (.ireturn, 1) := by decide +kernel
theorem dX7_replayed_159 : decode cX7_replayed 159 = .ok (.aload_n 0, 1) := by decide +kernel
theorem dX7_replayed_160 : decode cX7_replayed 160 = .ok (.iload_n 1, 1) := by decide +kernel
theorem dX7_replayed_161 : decode cX7_replayed 161 = .ok (.iconst 1, 1) := by decide +kernel
theorem dX7_replayed_162 : decode cX7_replayed 162 = .ok (.invokevirtual 266, 3) := by decide +kernel
theorem dX7_replayed_165 : decode cX7_replayed 165 = .ok (.ireturn, 1) := by decide +kernel
theorem dX7_instancesOf_0 : decode cX7_instancesOf 0 = .ok (.iconst 0, 1) := by decide +kernel
theorem dX7_instancesOf_1 : decode cX7_instancesOf 1 = .ok (.istore_n 3, 1) := by decide +kernel
theorem dX7_instancesOf_2 : decode cX7_instancesOf 2 = .ok (.iconst 0, 1) := by decide +kernel
theorem dX7_instancesOf_3 : decode cX7_instancesOf 3 = .ok (.istore 4, 2) := by decide +kernel
theorem dX7_instancesOf_5 : decode cX7_instancesOf 5 = .ok (.iload 4, 2) := by decide +kernel
theorem dX7_instancesOf_7 : decode cX7_instancesOf 7 = .ok (.bipush 6, 2) := by decide +kernel
theorem dX7_instancesOf_9 : decode cX7_instancesOf 9 = .ok (.if_icmp .ge 60, 3) := by decide +kernel
theorem dX7_instancesOf_12 : decode cX7_instancesOf 12 = .ok (.iload_n 3, 1) := by decide +kernel
theorem dX7_instancesOf_13 : decode cX7_instancesOf 13 = .ok (.aload_n 0, 1) := by decide +kernel
theorem dX7_instancesOf_14 : decode cX7_instancesOf 14 = .ok (.iload 4, 2) := by decide +kernel
theorem dX7_instancesOf_16 : decode cX7_instancesOf 16 = .ok (.invokevirtual 243, 3) := by decide +kernel
theorem dX7_instancesOf_19 : decode cX7_instancesOf 19 = .ok (.ifCond .eq 41, 3) := by decide +kernel
theorem dX7_instancesOf_22 : decode cX7_instancesOf 22 = .ok (.aload_n 0, 1) := by decide +kernel
theorem dX7_instancesOf_23 : decode cX7_instancesOf 23 = .ok (.getfield 22, 3) := by decide +kernel
theorem dX7_instancesOf_26 : decode cX7_instancesOf 26 = .ok (.iload 4, 2) := by decide +kernel
theorem dX7_instancesOf_28 : decode cX7_instancesOf 28 = .ok (.iconst 2, 1) := by decide +kernel
theorem dX7_instancesOf_29 : decode cX7_instancesOf 29 = .ok (.invokestatic 163, 3) := by decide +kernel
theorem dX7_instancesOf_32 : decode cX7_instancesOf 32 = .ok (.iaload, 1) := by decide +kernel
theorem dX7_instancesOf_33 : decode cX7_instancesOf 33 = .ok (.iload_n 1, 1) := by decide +kernel
theorem dX7_instancesOf_34 : decode cX7_instancesOf 34 = .ok (.if_icmp .ne 26, 3) := by decide +kernel
theorem dX7_instancesOf_37 : decode cX7_instancesOf 37 = .ok (.iload_n 2, 1) := by decide +kernel
theorem dX7_instancesOf_38 : decode cX7_instancesOf 38 = .ok (.ifCond .lt 18, 3) := by decide +kernel
theorem dX7_instancesOf_41 : decode cX7_instancesOf 41 = .ok (.aload_n 0, 1) := by decide +kernel
theorem dX7_instancesOf_42 : decode cX7_instancesOf 42 = .ok (.getfield 22, 3) := by decide +kernel
theorem dX7_instancesOf_45 : decode cX7_instancesOf 45 = .ok (.iload 4, 2) := by decide +kernel
theorem dX7_instancesOf_47 : decode cX7_instancesOf 47 = .ok (.iconst 1, 1) := by decide +kernel
theorem dX7_instancesOf_48 : decode cX7_instancesOf 48 = .ok (.invokestatic 163, 3) := by decide +kernel
theorem dX7_instancesOf_51 : decode cX7_instancesOf 51 = .ok (.iaload, 1) := by decide +kernel
theorem dX7_instancesOf_52 : decode cX7_instancesOf 52 = .ok (.iload_n 2, 1) := by decide +kernel
theorem dX7_instancesOf_53 : decode cX7_instancesOf 53 = .ok (.if_icmp .ne 7, 3) := by decide +kernel
theorem dX7_instancesOf_56 : decode cX7_instancesOf 56 = .ok (.iconst 1, 1) := by decide +kernel
theorem dX7_instancesOf_57 : decode cX7_instancesOf 57 = .ok (.goto 4, 3) := by decide +kernel
theorem dX7_instancesOf_60 : decode cX7_instancesOf 60 = .ok (.iconst 0, 1) := by decide +kernel
theorem dX7_instancesOf_61 : decode cX7_instancesOf 61 = .ok (.iadd, 1) := by decide +kernel
theorem dX7_instancesOf_62 : decode cX7_instancesOf 62 = .ok (.istore_n 3, 1) := by decide +kernel
theorem dX7_instancesOf_63 : decode cX7_instancesOf 63 = .ok (.iinc 4 1, 3) := by decide +kernel
theorem dX7_instancesOf_66 : decode cX7_instancesOf 66 = .ok (.goto (-61), 3) := by decide +kernel
theorem dX7_instancesOf_69 : decode cX7_instancesOf 69 = .ok (.iload_n 3, 1) := by decide +kernel
theorem dX7_instancesOf_70 : decode cX7_instancesOf 70 = .ok (.ireturn, 1) := by decide +kernel
theorem dX7_statistic_0 : decode cX7_statistic 0 = .ok (.iload_n 1, 1) := by decide +kernel
theorem dX7_statistic_1 : decode cX7_statistic 1 = .ok (.invokestatic 138, 3) := by decide +kernel
theorem dX7_statistic_4 : decode cX7_statistic 4 = .ok (.ifCond .eq 13, 3) := by decide +kernel
theorem dX7_statistic_7 : decode cX7_statistic 7 = .ok (.iload_n 2, 1) := by decide +kernel
theorem dX7_statistic_8 : decode cX7_statistic 8 = .ok (.iconst 0, 1) := by decide +kernel
theorem dX7_statistic_9 : decode cX7_statistic 9 = .ok (.bipush 7, 2) := by decide +kernel
theorem dX7_statistic_11 : decode cX7_statistic 11 = .ok (.invokestatic 38, 3) := by decide +kernel
theorem dX7_statistic_14 : decode cX7_statistic 14 = .ok (.ifCond .ne 5, 3) := by decide +kernel
theorem dX7_statistic_17 : decode cX7_statistic 17 = .ok (.iconst (-1), 1) := by decide +kernel
theorem dX7_statistic_18 : decode cX7_statistic 18 = .ok (.ireturn, 1) := by decide +kernel
theorem dX7_statistic_19 : decode cX7_statistic 19 = .ok (.iload_n 2, 1) := by decide +kernel
theorem dX7_statistic_20 : decode cX7_statistic 20 = .ok (.bipush 6, 2) := by decide +kernel
theorem dX7_statistic_22 : decode cX7_statistic 22 = .ok (.if_icmp .ge 19, 3) := by decide +kernel
theorem dX7_statistic_25 : decode cX7_statistic 25 = .ok (.aload_n 0, 1) := by decide +kernel
theorem dX7_statistic_26 : decode cX7_statistic 26 = .ok (.iload_n 1, 1) := by decide +kernel
theorem dX7_statistic_27 : decode cX7_statistic 27 = .ok (.iload_n 2, 1) := by decide +kernel
theorem dX7_statistic_28 : decode cX7_statistic 28 = .ok (.iconst 5, 1) := by decide +kernel
theorem dX7_statistic_29 : decode cX7_statistic 29 = .ok (.if_icmp .ge 7, 3) := by decide +kernel
theorem dX7_statistic_32 : decode cX7_statistic 32 = .ok (.iload_n 2, 1) := by decide +kernel
theorem dX7_statistic_33 : decode cX7_statistic 33 = .ok (.goto 4, 3) := by decide +kernel
theorem dX7_statistic_36 : decode cX7_statistic 36 = .ok (.iconst (-1), 1) := by decide +kernel
theorem dX7_statistic_37 : decode cX7_statistic 37 = .ok (.invokevirtual 269, 3) := by decide +kernel
theorem dX7_statistic_40 : decode cX7_statistic 40 = .ok (.ireturn, 1) := by decide +kernel
theorem dX7_statistic_41 : decode cX7_statistic 41 = .ok (.aload_n 0, 1) := by decide +kernel
theorem dX7_statistic_42 : decode cX7_statistic 42 = .ok (.iload_n 1, 1) := by decide +kernel
theorem dX7_statistic_43 : decode cX7_statistic 43 = .ok (.iconst 1, 1) := by decide +kernel
theorem dX7_statistic_44 : decode cX7_statistic 44 = .ok (.invokevirtual 269, 3) := by decide +kernel
theorem dX7_statistic_47 : decode cX7_statistic 47 = .ok (.aload_n 0, 1) := by decide +kernel
theorem dX7_statistic_48 : decode cX7_statistic 48 = .ok (.iload_n 1, 1) := by decide +kernel
theorem dX7_statistic_49 : decode cX7_statistic 49 = .ok (.iconst 3, 1) := by decide +kernel
theorem dX7_statistic_50 : decode cX7_statistic 50 = .ok (.invokevirtual 269, 3) := by decide +kernel
theorem dX7_statistic_53 : decode cX7_statistic 53 = .ok (.iadd, 1) := by decide +kernel
theorem dX7_statistic_54 : decode cX7_statistic 54 = .ok (.aload_n 0, 1) := by decide +kernel
theorem dX7_statistic_55 : decode cX7_statistic 55 = .ok (.iload_n 1, 1) := by decide +kernel
theorem dX7_statistic_56 : decode cX7_statistic 56 = .ok (.iconst 4, 1) := by decide +kernel
theorem dX7_statistic_57 : decode cX7_statistic 57 = .ok (.invokevirtual 269, 3) := by decide +kernel
theorem dX7_statistic_60 : decode cX7_statistic 60 = .ok (.iadd, 1) := by decide +kernel
theorem dX7_statistic_61 : decode cX7_statistic 61 = .ok (.istore_n 3, 1) := by decide +kernel
theorem dX7_statistic_62 : decode cX7_statistic 62 = .ok (.iload_n 3, 1) := by decide +kernel
theorem dX7_statistic_63 : decode cX7_statistic 63 = .ok (.ifCond .ne 6, 3) := by decide +kernel
theorem dX7_statistic_66 : decode cX7_statistic 66 = .ok (.bipush (-5), 2) := by decide +kernel
theorem dX7_statistic_68 : decode cX7_statistic 68 = .ok (.ireturn, 1) := by decide +kernel
theorem dX7_statistic_69 : decode cX7_statistic 69 = .ok (.iconst 0, 1) := by decide +kernel
theorem dX7_statistic_70 : decode cX7_statistic 70 = .ok (.istore 4, 2) := by decide +kernel
theorem dX7_statistic_72 : decode cX7_statistic 72 = .ok (.iconst 0, 1) := by decide +kernel
theorem dX7_statistic_73 : decode cX7_statistic 73 = .ok (.istore 5, 2) := by decide +kernel
theorem dX7_statistic_75 : decode cX7_statistic 75 = .ok (.iload 5, 2) := by decide +kernel
theorem dX7_statistic_77 : decode cX7_statistic 77 = .ok (.bipush 6, 2) := by decide +kernel
theorem dX7_statistic_79 : decode cX7_statistic 79 = .ok (.if_icmp .ge 91, 3) := by decide +kernel
theorem dX7_statistic_82 : decode cX7_statistic 82 = .ok (.aload_n 0, 1) := by decide +kernel
theorem dX7_statistic_83 : decode cX7_statistic 83 = .ok (.iload 5, 2) := by decide +kernel
theorem dX7_statistic_85 : decode cX7_statistic 85 = .ok (.invokevirtual 243, 3) := by decide +kernel
theorem dX7_statistic_88 : decode cX7_statistic 88 = .ok (.ifCond .eq 36, 3) := by decide +kernel
theorem dX7_statistic_91 : decode cX7_statistic 91 = .ok (.aload_n 0, 1) := by decide +kernel
theorem dX7_statistic_92 : decode cX7_statistic 92 = .ok (.getfield 22, 3) := by decide +kernel
theorem dX7_statistic_95 : decode cX7_statistic 95 = .ok (.iload 5, 2) := by decide +kernel
theorem dX7_statistic_97 : decode cX7_statistic 97 = .ok (.iconst 2, 1) := by decide +kernel
theorem dX7_statistic_98 : decode cX7_statistic 98 = .ok (.invokestatic 163, 3) := by decide +kernel
theorem dX7_statistic_101 : decode cX7_statistic 101 = .ok (.iaload, 1) := by decide +kernel
theorem dX7_statistic_102 : decode cX7_statistic 102 = .ok (.iload_n 1, 1) := by decide +kernel
theorem dX7_statistic_103 : decode cX7_statistic 103 = .ok (.if_icmp .ne 21, 3) := by decide +kernel
theorem dX7_statistic_106 : decode cX7_statistic 106 = .ok (.aload_n 0, 1) := by decide +kernel
theorem dX7_statistic_107 : decode cX7_statistic 107 = .ok (.getfield 22, 3) := by decide +kernel
theorem dX7_statistic_110 : decode cX7_statistic 110 = .ok (.iload 5, 2) := by decide +kernel
theorem dX7_statistic_112 : decode cX7_statistic 112 = .ok (.iconst 5, 1) := by decide +kernel
theorem dX7_statistic_113 : decode cX7_statistic 113 = .ok (.invokestatic 163, 3) := by decide +kernel
theorem dX7_statistic_116 : decode cX7_statistic 116 = .ok (.iaload, 1) := by decide +kernel
theorem dX7_statistic_117 : decode cX7_statistic 117 = .ok (.ifCond .lt 7, 3) := by decide +kernel
theorem dX7_statistic_120 : decode cX7_statistic 120 = .ok (.iconst 1, 1) := by decide +kernel
theorem dX7_statistic_121 : decode cX7_statistic 121 = .ok (.goto 4, 3) := by decide +kernel
theorem dX7_statistic_124 : decode cX7_statistic 124 = .ok (.iconst 0, 1) := by decide +kernel
theorem dX7_statistic_125 : decode cX7_statistic 125 = .ok (.istore 6, 2) := by decide +kernel
theorem dX7_statistic_127 : decode cX7_statistic 127 = .ok (.iload 4, 2) := by decide +kernel
theorem dX7_statistic_129 : decode cX7_statistic 129 = .ok (.iload 6, 2) := by decide +kernel
theorem dX7_statistic_131 : decode cX7_statistic 131 = .ok (.ifCond .eq 29, 3) := by decide +kernel
theorem dX7_statistic_134 : decode cX7_statistic 134 = .ok (.aload_n 0, 1) := by decide +kernel
theorem dX7_statistic_135 : decode cX7_statistic 135 = .ok (.getfield 22, 3) := by decide +kernel
theorem dX7_statistic_138 : decode cX7_statistic 138 = .ok (.iload 5, 2) := by decide +kernel
theorem dX7_statistic_140 : decode cX7_statistic 140 = .ok (.iconst 5, 1) := by decide +kernel
theorem dX7_statistic_141 : decode cX7_statistic 141 = .ok (.invokestatic 163, 3) := by decide +kernel
theorem dX7_statistic_144 : decode cX7_statistic 144 = .ok (.iaload, 1) := by decide +kernel
theorem dX7_statistic_145 : decode cX7_statistic 145 = .ok (.aload_n 0, 1) := by decide +kernel
theorem dX7_statistic_146 : decode cX7_statistic 146 = .ok (.getfield 22, 3) := by decide +kernel
theorem dX7_statistic_149 : decode cX7_statistic 149 = .ok (.iload 5, 2) := by decide +kernel
theorem dX7_statistic_151 : decode cX7_statistic 151 = .ok (.iconst 4, 1) := by decide +kernel
theorem dX7_statistic_152 : decode cX7_statistic 152 = .ok (.invokestatic 163, 3) := by decide +kernel
theorem dX7_statistic_155 : decode cX7_statistic 155 = .ok (.iaload, 1) := by decide +kernel
theorem dX7_statistic_156 : decode cX7_statistic 156 = .ok (.isub, 1) := by decide +kernel
theorem dX7_statistic_157 : decode cX7_statistic 157 = .ok (.goto 4, 3) := by decide +kernel
theorem dX7_statistic_160 : decode cX7_statistic 160 = .ok (.iconst 0, 1) := by decide +kernel
theorem dX7_statistic_161 : decode cX7_statistic 161 = .ok (.iadd, 1) := by decide +kernel
theorem dX7_statistic_162 : decode cX7_statistic 162 = .ok (.istore 4, 2) := by decide +kernel
theorem dX7_statistic_164 : decode cX7_statistic 164 = .ok (.iinc 5 1, 3) := by decide +kernel
theorem dX7_statistic_167 : decode cX7_statistic 167 = .ok (.goto (-92), 3) := by decide +kernel
theorem dX7_statistic_170 : decode cX7_statistic 170 = .ok (.iload_n 2, 1) := by decide +kernel
theorem dX7_statistic_171 : decode cX7_statistic 171 = .ok (.bipush 6, 2) := by decide +kernel
theorem dX7_statistic_173 : decode cX7_statistic 173 = .ok (.if_icmp .ne 8, 3) := by decide +kernel
theorem dX7_statistic_176 : decode cX7_statistic 176 = .ok (.iload 4, 2) := by decide +kernel
theorem dX7_statistic_178 : decode cX7_statistic 178 = .ok (.goto 9, 3) := by decide +kernel
theorem dX7_statistic_181 : decode cX7_statistic 181 = .ok (.aload_n 0, 1) := by decide +kernel
theorem dX7_statistic_182 : decode cX7_statistic 182 = .ok (.iload_n 1, 1) := by decide +kernel
theorem dX7_statistic_183 : decode cX7_statistic 183 = .ok (.iconst 1, 1) := by decide +kernel
theorem dX7_statistic_184 : decode cX7_statistic 184 = .ok (.invokevirtual 269, 3) := by decide +kernel
theorem dX7_statistic_187 : decode cX7_statistic 187 = .ok (.i2f, 1) := by decide +kernel
theorem dX7_statistic_188 : decode cX7_statistic 188 = .ok (.iload_n 3, 1) := by decide +kernel
theorem dX7_statistic_189 : decode cX7_statistic 189 = .ok (.i2f, 1) := by decide +kernel
theorem dX7_statistic_190 : decode cX7_statistic 190 = .ok (.fdiv, 1) := by decide +kernel
theorem dX7_statistic_191 : decode cX7_statistic 191 = .ok (.invokestatic 272, 3) := by decide +kernel
theorem dX7_statistic_194 : decode cX7_statistic 194 = .ok (.ireturn, 1) := by decide +kernel
theorem dX7_image_0 : decode cX7_image 0 = .ok (.aload_n 0, 1) := by decide +kernel
theorem dX7_image_1 : decode cX7_image 1 = .ok (.getfield 22, 3) := by decide +kernel
theorem dX7_image_4 : decode cX7_image 4 = .ok (.aload_n 0, 1) := by decide +kernel
theorem dX7_image_5 : decode cX7_image 5 = .ok (.getfield 25, 3) := by decide +kernel
theorem dX7_image_8 : decode cX7_image 8 = .ok (.sipush 7593, 3) := by decide +kernel
theorem dX7_image_11 : decode cX7_image 11 = .ok (.invokestatic 262, 3) := by decide +kernel
theorem dX7_image_14 : decode cX7_image 14 = .ok (.aload_n 0, 1) := by decide +kernel
theorem dX7_image_15 : decode cX7_image 15 = .ok (.getfield 9, 3) := by decide +kernel
theorem dX7_image_18 : decode cX7_image 18 = .ok (.aload_n 0, 1) := by decide +kernel
theorem dX7_image_19 : decode cX7_image 19 = .ok (.getfield 13, 3) := by decide +kernel
theorem dX7_image_22 : decode cX7_image 22 = .ok (.sipush 9792, 3) := by decide +kernel
theorem dX7_image_25 : decode cX7_image 25 = .ok (.invokestatic 262, 3) := by decide +kernel
theorem dX7_image_28 : decode cX7_image 28 = .ok (.aload_n 0, 1) := by decide +kernel
theorem dX7_image_29 : decode cX7_image 29 = .ok (.getfield 16, 3) := by decide +kernel
theorem dX7_image_32 : decode cX7_image 32 = .ok (.aload_n 0, 1) := by decide +kernel
theorem dX7_image_33 : decode cX7_image 33 = .ok (.getfield 19, 3) := by decide +kernel
theorem dX7_image_36 : decode cX7_image 36 = .ok (.bipush 68, 2) := by decide +kernel
theorem dX7_image_38 : decode cX7_image 38 = .ok (.invokestatic 262, 3) := by decide +kernel
theorem dX7_image_41 : decode cX7_image 41 = .ok (.aload_n 0, 1) := by decide +kernel
theorem dX7_image_42 : decode cX7_image 42 = .ok (.aload_n 0, 1) := by decide +kernel
theorem dX7_image_43 : decode cX7_image 43 = .ok (.getfield 34, 3) := by decide +kernel
theorem dX7_image_46 : decode cX7_image 46 = .ok (.putfield 278, 3) := by decide +kernel
theorem dX7_image_49 : decode cX7_image 49 = .ok (.aload_n 0, 1) := by decide +kernel
theorem dX7_image_50 : decode cX7_image 50 = .ok (.aload_n 0, 1) := by decide +kernel
theorem dX7_image_51 : decode cX7_image 51 = .ok (.getfield 141, 3) := by decide +kernel
theorem dX7_image_54 : decode cX7_image 54 = .ok (.putfield 281, 3) := by decide +kernel
theorem dX7_image_57 : decode cX7_image 57 = .ok (.aload_n 0, 1) := by decide +kernel
theorem dX7_image_58 : decode cX7_image 58 = .ok (.iconst 1, 1) := by decide +kernel
theorem dX7_image_59 : decode cX7_image 59 = .ok (.putfield 284, 3) := by decide +kernel
theorem dX7_image_62 : decode cX7_image 62 = .ok (.aload_n 0, 1) := by decide +kernel
theorem dX7_image_63 : decode cX7_image 63 = .ok (.invokevirtual 236, 3) := by decide +kernel
theorem dX7_image_66 : decode cX7_image 66 = .ok (.ireturn, 1) := by decide +kernel
theorem dX7_undo_0 : decode cX7_undo 0 = .ok (.aload_n 0, 1) := by decide +kernel
theorem dX7_undo_1 : decode cX7_undo 1 = .ok (.getfield 284, 3) := by decide +kernel
theorem dX7_undo_4 : decode cX7_undo 4 = .ok (.ifCond .ne 6, 3) := by decide +kernel
theorem dX7_undo_7 : decode cX7_undo 7 = .ok (.bipush (-3), 2) := by decide +kernel
theorem dX7_undo_9 : decode cX7_undo 9 = .ok (.ireturn, 1) := by decide +kernel
theorem dX7_undo_10 : decode cX7_undo 10 = .ok (.aload_n 0, 1) := by decide +kernel
theorem dX7_undo_11 : decode cX7_undo 11 = .ok (.getfield 25, 3) := by decide +kernel
theorem dX7_undo_14 : decode cX7_undo 14 = .ok (.aload_n 0, 1) := by decide +kernel
theorem dX7_undo_15 : decode cX7_undo 15 = .ok (.getfield 22, 3) := by decide +kernel
theorem dX7_undo_18 : decode cX7_undo 18 = .ok (.sipush 7593, 3) := by decide +kernel
theorem dX7_undo_21 : decode cX7_undo 21 = .ok (.invokestatic 262, 3) := by decide +kernel
theorem dX7_undo_24 : decode cX7_undo 24 = .ok (.aload_n 0, 1) := by decide +kernel
theorem dX7_undo_25 : decode cX7_undo 25 = .ok (.getfield 13, 3) := by decide +kernel
theorem dX7_undo_28 : decode cX7_undo 28 = .ok (.aload_n 0, 1) := by decide +kernel
theorem dX7_undo_29 : decode cX7_undo 29 = .ok (.getfield 9, 3) := by decide +kernel
theorem dX7_undo_32 : decode cX7_undo 32 = .ok (.sipush 9792, 3) := by decide +kernel
theorem dX7_undo_35 : decode cX7_undo 35 = .ok (.invokestatic 262, 3) := by decide +kernel
theorem dX7_undo_38 : decode cX7_undo 38 = .ok (.aload_n 0, 1) := by decide +kernel
theorem dX7_undo_39 : decode cX7_undo 39 = .ok (.getfield 19, 3) := by decide +kernel
theorem dX7_undo_42 : decode cX7_undo 42 = .ok (.aload_n 0, 1) := by decide +kernel
theorem dX7_undo_43 : decode cX7_undo 43 = .ok (.getfield 16, 3) := by decide +kernel
theorem dX7_undo_46 : decode cX7_undo 46 = .ok (.bipush 68, 2) := by decide +kernel
theorem dX7_undo_48 : decode cX7_undo 48 = .ok (.invokestatic 262, 3) := by decide +kernel
theorem dX7_undo_51 : decode cX7_undo 51 = .ok (.aload_n 0, 1) := by decide +kernel
theorem dX7_undo_52 : decode cX7_undo 52 = .ok (.aload_n 0, 1) := by decide +kernel
theorem dX7_undo_53 : decode cX7_undo 53 = .ok (.getfield 278, 3) := by decide +kernel
theorem dX7_undo_56 : decode cX7_undo 56 = .ok (.putfield 34, 3) := by decide +kernel
theorem dX7_undo_59 : decode cX7_undo 59 = .ok (.aload_n 0, 1) := by decide +kernel
theorem dX7_undo_60 : decode cX7_undo 60 = .ok (.aload_n 0, 1) := by decide +kernel
theorem dX7_undo_61 : decode cX7_undo 61 = .ok (.getfield 281, 3) := by decide +kernel
theorem dX7_undo_64 : decode cX7_undo 64 = .ok (.putfield 141, 3) := by decide +kernel
theorem dX7_undo_67 : decode cX7_undo 67 = .ok (.aload_n 0, 1) := by decide +kernel
theorem dX7_undo_68 : decode cX7_undo 68 = .ok (.invokevirtual 236, 3) := by decide +kernel
theorem dX7_undo_71 : decode cX7_undo 71 = .ok (.ireturn, 1) := by decide +kernel
theorem dX7_withStatus_0 : decode cX7_withStatus 0 = .ok (.iconst 0, 1) := by decide +kernel
theorem dX7_withStatus_1 : decode cX7_withStatus 1 = .ok (.istore_n 2, 1) := by decide +kernel
theorem dX7_withStatus_2 : decode cX7_withStatus 2 = .ok (.iconst 0, 1) := by decide +kernel
theorem dX7_withStatus_3 : decode cX7_withStatus 3 = .ok (.istore_n 3, 1) := by decide +kernel
theorem dX7_withStatus_4 : decode cX7_withStatus 4 = .ok (.iload_n 3, 1) := by decide +kernel
theorem dX7_withStatus_5 : decode cX7_withStatus 5 = .ok (.iconst 4, 1) := by decide +kernel
theorem dX7_withStatus_6 : decode cX7_withStatus 6 = .ok (.if_icmp .ge 18, 3) := by decide +kernel
theorem dX7_withStatus_9 : decode cX7_withStatus 9 = .ok (.iload_n 2, 1) := by decide +kernel
theorem dX7_withStatus_10 : decode cX7_withStatus 10 = .ok (.aload_n 0, 1) := by decide +kernel
theorem dX7_withStatus_11 : decode cX7_withStatus 11 = .ok (.iload_n 3, 1) := by decide +kernel
theorem dX7_withStatus_12 : decode cX7_withStatus 12 = .ok (.iload_n 1, 1) := by decide +kernel
theorem dX7_withStatus_13 : decode cX7_withStatus 13 = .ok (.invokevirtual 269, 3) := by decide +kernel
theorem dX7_withStatus_16 : decode cX7_withStatus 16 = .ok (.iadd, 1) := by decide +kernel
theorem dX7_withStatus_17 : decode cX7_withStatus 17 = .ok (.istore_n 2, 1) := by decide +kernel
theorem dX7_withStatus_18 : decode cX7_withStatus 18 = .ok (.iinc 3 1, 3) := by decide +kernel
theorem dX7_withStatus_21 : decode cX7_withStatus 21 = .ok (.goto (-17), 3) := by decide +kernel
theorem dX7_withStatus_24 : decode cX7_withStatus 24 = .ok (.iload_n 2, 1) := by decide +kernel
theorem dX7_withStatus_25 : decode cX7_withStatus 25 = .ok (.ireturn, 1) := by decide +kernel
theorem dX7_versions_0 : decode cX7_versions 0 = .ok (.iconst 0, 1) := by decide +kernel
theorem dX7_versions_1 : decode cX7_versions 1 = .ok (.istore_n 1, 1) := by decide +kernel
theorem dX7_versions_2 : decode cX7_versions 2 = .ok (.iconst 0, 1) := by decide +kernel
theorem dX7_versions_3 : decode cX7_versions 3 = .ok (.istore_n 2, 1) := by decide +kernel
theorem dX7_versions_4 : decode cX7_versions 4 = .ok (.iload_n 2, 1) := by decide +kernel
theorem dX7_versions_5 : decode cX7_versions 5 = .ok (.iconst 4, 1) := by decide +kernel
theorem dX7_versions_6 : decode cX7_versions 6 = .ok (.if_icmp .ge 21, 3) := by decide +kernel
theorem dX7_versions_9 : decode cX7_versions 9 = .ok (.iload_n 1, 1) := by decide +kernel
theorem dX7_versions_10 : decode cX7_versions 10 = .ok (.aload_n 0, 1) := by decide +kernel
theorem dX7_versions_11 : decode cX7_versions 11 = .ok (.getfield 22, 3) := by decide +kernel
theorem dX7_versions_14 : decode cX7_versions 14 = .ok (.bipush 17, 2) := by decide +kernel
theorem dX7_versions_16 : decode cX7_versions 16 = .ok (.iload_n 2, 1) := by decide +kernel
theorem dX7_versions_17 : decode cX7_versions 17 = .ok (.iadd, 1) := by decide +kernel
theorem dX7_versions_18 : decode cX7_versions 18 = .ok (.iaload, 1) := by decide +kernel
theorem dX7_versions_19 : decode cX7_versions 19 = .ok (.iadd, 1) := by decide +kernel
theorem dX7_versions_20 : decode cX7_versions 20 = .ok (.istore_n 1, 1) := by decide +kernel
theorem dX7_versions_21 : decode cX7_versions 21 = .ok (.iinc 2 1, 3) := by decide +kernel
theorem dX7_versions_24 : decode cX7_versions 24 = .ok (.goto (-20), 3) := by decide +kernel
theorem dX7_versions_27 : decode cX7_versions 27 = .ok (.iload_n 1, 1) := by decide +kernel
theorem dX7_versions_28 : decode cX7_versions 28 = .ok (.ireturn, 1) := by decide +kernel
theorem dX7_count_0 : decode cX7_count 0 = .ok (.iload_n 1, 1) := by decide +kernel
theorem dX7_count_1 : decode cX7_count 1 = .ok (.bipush 10, 2) := by decide +kernel
theorem dX7_count_3 : decode cX7_count 3 = .ok (.bipush 17, 2) := by decide +kernel
theorem dX7_count_5 : decode cX7_count 5 = .ok (.invokestatic 38, 3) := by decide +kernel
theorem dX7_count_8 : decode cX7_count 8 = .ok (.ifCond .eq 15, 3) := by decide +kernel
theorem dX7_count_11 : decode cX7_count 11 = .ok (.aload_n 0, 1) := by decide +kernel
theorem dX7_count_12 : decode cX7_count 12 = .ok (.getfield 22, 3) := by decide +kernel
theorem dX7_count_15 : decode cX7_count 15 = .ok (.iconst 1, 1) := by decide +kernel
theorem dX7_count_16 : decode cX7_count 16 = .ok (.iload_n 1, 1) := by decide +kernel
theorem dX7_count_17 : decode cX7_count 17 = .ok (.iadd, 1) := by decide +kernel
theorem dX7_count_18 : decode cX7_count 18 = .ok (.bipush 10, 2) := by decide +kernel
theorem dX7_count_20 : decode cX7_count 20 = .ok (.isub, 1) := by decide +kernel
theorem dX7_count_21 : decode cX7_count 21 = .ok (.iaload, 1) := by decide +kernel
theorem dX7_count_22 : decode cX7_count 22 = .ok (.ireturn, 1) := by decide +kernel
theorem dX7_count_23 : decode cX7_count 23 = .ok (.iload_n 1, 1) := by decide +kernel
theorem dX7_count_24 : decode cX7_count 24 = .ok (.bipush 20, 2) := by decide +kernel
theorem dX7_count_26 : decode cX7_count 26 = .ok (.bipush 27, 2) := by decide +kernel
theorem dX7_count_28 : decode cX7_count 28 = .ok (.invokestatic 38, 3) := by decide +kernel
theorem dX7_count_31 : decode cX7_count 31 = .ok (.ifCond .eq 16, 3) := by decide +kernel
theorem dX7_count_34 : decode cX7_count 34 = .ok (.aload_n 0, 1) := by decide +kernel
theorem dX7_count_35 : decode cX7_count 35 = .ok (.getfield 22, 3) := by decide +kernel
theorem dX7_count_38 : decode cX7_count 38 = .ok (.bipush 9, 2) := by decide +kernel
theorem dX7_count_40 : decode cX7_count 40 = .ok (.iload_n 1, 1) := by decide +kernel
theorem dX7_count_41 : decode cX7_count 41 = .ok (.iadd, 1) := by decide +kernel
theorem dX7_count_42 : decode cX7_count 42 = .ok (.bipush 20, 2) := by decide +kernel
theorem dX7_count_44 : decode cX7_count 44 = .ok (.isub, 1) := by decide +kernel
theorem dX7_count_45 : decode cX7_count 45 = .ok (.iaload, 1) := by decide +kernel
theorem dX7_count_46 : decode cX7_count 46 = .ok (.ireturn, 1) := by decide +kernel
theorem dX7_count_47 : decode cX7_count 47 = .ok (.iload_n 1, 1) := by decide +kernel
theorem dX7_count_48 : decode cX7_count 48 = .ok (.tableswitch 74 0 5 #[40, 47, 52, 58, 64, 69], 40) := by decide +kernel
theorem dX7_count_88 : decode cX7_count 88 = .ok (.aload_n 0, 1) := by decide +kernel
theorem dX7_count_89 : decode cX7_count 89 = .ok (.getfield 22, 3) := by decide +kernel
theorem dX7_count_92 : decode cX7_count 92 = .ok (.iconst 0, 1) := by decide +kernel
theorem dX7_count_93 : decode cX7_count 93 = .ok (.iaload, 1) := by decide +kernel
theorem dX7_count_94 : decode cX7_count 94 = .ok (.ireturn, 1) := by decide +kernel
theorem dX7_count_95 : decode cX7_count 95 = .ok (.aload_n 0, 1) := by decide +kernel
theorem dX7_count_96 : decode cX7_count 96 = .ok (.invokevirtual 236, 3) := by decide +kernel
theorem dX7_count_99 : decode cX7_count 99 = .ok (.ireturn, 1) := by decide +kernel
theorem dX7_count_100 : decode cX7_count 100 = .ok (.aload_n 0, 1) := by decide +kernel
theorem dX7_count_101 : decode cX7_count 101 = .ok (.iconst 0, 1) := by decide +kernel
theorem dX7_count_102 : decode cX7_count 102 = .ok (.invokevirtual 288, 3) := by decide +kernel
theorem dX7_count_105 : decode cX7_count 105 = .ok (.ireturn, 1) := by decide +kernel
theorem dX7_count_106 : decode cX7_count 106 = .ok (.aload_n 0, 1) := by decide +kernel
theorem dX7_count_107 : decode cX7_count 107 = .ok (.iconst 2, 1) := by decide +kernel
theorem dX7_count_108 : decode cX7_count 108 = .ok (.invokevirtual 288, 3) := by decide +kernel
theorem dX7_count_111 : decode cX7_count 111 = .ok (.ireturn, 1) := by decide +kernel
theorem dX7_count_112 : decode cX7_count 112 = .ok (.aload_n 0, 1) := by decide +kernel
theorem dX7_count_113 : decode cX7_count 113 = .ok (.getfield 42, 3) := by decide +kernel
theorem dX7_count_116 : decode cX7_count 116 = .ok (.ireturn, 1) := by decide +kernel
theorem dX7_count_117 : decode cX7_count 117 = .ok (.aload_n 0, 1) := by decide +kernel
theorem dX7_count_118 : decode cX7_count 118 = .ok (.invokevirtual 291, 3) := by decide +kernel
theorem dX7_count_121 : decode cX7_count 121 = .ok (.ireturn, 1) := by decide +kernel
theorem dX7_count_122 : decode cX7_count 122 = .ok (.iconst (-1), 1) := by decide +kernel
theorem dX7_count_123 : decode cX7_count 123 = .ok (.ireturn, 1) := by decide +kernel
