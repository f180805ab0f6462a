/-! the class: worlds -/
theorem dX5_init_0 : decode cX5_init 0 = .ok (.aload_n 0, 1) := by decide +kernel
theorem dX5_init_1 : decode cX5_init 1 = .ok (.invokespecial 3, 3) := by decide +kernel
theorem dX5_init_4 : decode cX5_init 4 = .ok (.aload_n 0, 1) := by decide +kernel
theorem dX5_init_5 : decode cX5_init 5 = .ok (.bipush 6, 2) := by decide +kernel
theorem dX5_init_7 : decode cX5_init 7 = .ok (.anewarray 9, 3) := by decide +kernel
theorem dX5_init_10 : decode cX5_init 10 = .ok (.putfield 11, 3) := by decide +kernel
theorem dX5_init_13 : decode cX5_init 13 = .ok (.aload_n 0, 1) := by decide +kernel
theorem dX5_init_14 : decode cX5_init 14 = .ok (.iconst 4, 1) := by decide +kernel
theorem dX5_init_15 : decode cX5_init 15 = .ok (.newarray .int, 2) := by decide +kernel
theorem dX5_init_17 : decode cX5_init 17 = .ok (.putfield 17, 3) := by decide +kernel
theorem dX5_init_20 : decode cX5_init 20 = .ok (.aload_n 0, 1) := by decide +kernel
theorem dX5_init_21 : decode cX5_init 21 = .ok (.iconst 0, 1) := by decide +kernel
theorem dX5_init_22 : decode cX5_init 22 = .ok (.putfield 21, 3) := by decide +kernel
theorem dX5_init_25 : decode cX5_init 25 = .ok (.aload_n 0, 1) := by decide +kernel
theorem dX5_init_26 : decode cX5_init 26 = .ok (.aload_n 1, 1) := by decide +kernel
theorem dX5_init_27 : decode cX5_init 27 = .ok (.putfield 25, 3) := by decide +kernel
theorem dX5_init_30 : decode cX5_init 30 = .ok (.iconst 0, 1) := by decide +kernel
theorem dX5_init_31 : decode cX5_init 31 = .ok (.istore 4, 2) := by decide +kernel
theorem dX5_init_33 : decode cX5_init 33 = .ok (.iload 4, 2) := by decide +kernel
theorem dX5_init_35 : decode cX5_init 35 = .ok (.bipush 6, 2) := by decide +kernel
theorem dX5_init_37 : decode cX5_init 37 = .ok (.if_icmp .ge 26, 3) := by decide +kernel
theorem dX5_init_40 : decode cX5_init 40 = .ok (.aload_n 0, 1) := by decide +kernel
theorem dX5_init_41 : decode cX5_init 41 = .ok (.getfield 11, 3) := by decide +kernel
theorem dX5_init_44 : decode cX5_init 44 = .ok (.iload 4, 2) := by decide +kernel
theorem dX5_init_46 : decode cX5_init 46 = .ok (.new 9, 3) := by decide +kernel
theorem dX5_init_49 : decode cX5_init 49 = .ok (.dup, 1) := by decide +kernel
theorem dX5_init_50 : decode cX5_init 50 = .ok (.aload_n 1, 1) := by decide +kernel
theorem dX5_init_51 : decode cX5_init 51 = .ok (.aload_n 2, 1) := by decide +kernel
theorem dX5_init_52 : decode cX5_init 52 = .ok (.iload_n 3, 1) := by decide +kernel
theorem dX5_init_53 : decode cX5_init 53 = .ok (.invokespecial 29, 3) := by decide +kernel
theorem dX5_init_56 : decode cX5_init 56 = .ok (.aastore, 1) := by decide +kernel
theorem dX5_init_57 : decode cX5_init 57 = .ok (.iinc 4 1, 3) := by decide +kernel
theorem dX5_init_60 : decode cX5_init 60 = .ok (.goto (-27), 3) := by decide +kernel
theorem dX5_init_63 : decode cX5_init 63 = .ok (.return_, 1) := by decide +kernel
theorem dX5_copy_0 : decode cX5_copy 0 = .ok (.aload_n 0, 1) := by decide +kernel
theorem dX5_copy_1 : decode cX5_copy 1 = .ok (.getfield 25, 3) := by decide +kernel
theorem dX5_copy_4 : decode cX5_copy 4 = .ok (.aload_n 1, 1) := by decide +kernel
theorem dX5_copy_5 : decode cX5_copy 5 = .ok (.getfield 25, 3) := by decide +kernel
theorem dX5_copy_8 : decode cX5_copy 8 = .ok (.invokevirtual 32, 3) := by decide +kernel
theorem dX5_copy_11 : decode cX5_copy 11 = .ok (.aload_n 1, 1) := by decide +kernel
theorem dX5_copy_12 : decode cX5_copy 12 = .ok (.getfield 17, 3) := by decide +kernel
theorem dX5_copy_15 : decode cX5_copy 15 = .ok (.aload_n 0, 1) := by decide +kernel
theorem dX5_copy_16 : decode cX5_copy 16 = .ok (.getfield 17, 3) := by decide +kernel
theorem dX5_copy_19 : decode cX5_copy 19 = .ok (.invokestatic 38, 3) := by decide +kernel
theorem dX5_copy_22 : decode cX5_copy 22 = .ok (.aload_n 0, 1) := by decide +kernel
theorem dX5_copy_23 : decode cX5_copy 23 = .ok (.aload_n 1, 1) := by decide +kernel
theorem dX5_copy_24 : decode cX5_copy 24 = .ok (.getfield 21, 3) := by decide +kernel
theorem dX5_copy_27 : decode cX5_copy 27 = .ok (.putfield 21, 3) := by decide +kernel
theorem dX5_copy_30 : decode cX5_copy 30 = .ok (.aload_n 0, 1) := by decide +kernel
theorem dX5_copy_31 : decode cX5_copy 31 = .ok (.aload_n 1, 1) := by decide +kernel
theorem dX5_copy_32 : decode cX5_copy 32 = .ok (.getfield 42, 3) := by decide +kernel
theorem dX5_copy_35 : decode cX5_copy 35 = .ok (.putfield 42, 3) := by decide +kernel
theorem dX5_copy_38 : decode cX5_copy 38 = .ok (.iconst 0, 1) := by decide +kernel
theorem dX5_copy_39 : decode cX5_copy 39 = .ok (.istore_n 2, 1) := by decide +kernel
theorem dX5_copy_40 : decode cX5_copy 40 = .ok (.iload_n 2, 1) := by decide +kernel
theorem dX5_copy_41 : decode cX5_copy 41 = .ok (.bipush 6, 2) := by decide +kernel
theorem dX5_copy_43 : decode cX5_copy 43 = .ok (.if_icmp .ge 24, 3) := by decide +kernel
theorem dX5_copy_46 : decode cX5_copy 46 = .ok (.aload_n 0, 1) := by decide +kernel
theorem dX5_copy_47 : decode cX5_copy 47 = .ok (.getfield 11, 3) := by decide +kernel
theorem dX5_copy_50 : decode cX5_copy 50 = .ok (.iload_n 2, 1) := by decide +kernel
theorem dX5_copy_51 : decode cX5_copy 51 = .ok (.aaload, 1) := by decide +kernel
theorem dX5_copy_52 : decode cX5_copy 52 = .ok (.aload_n 1, 1) := by decide +kernel
theorem dX5_copy_53 : decode cX5_copy 53 = .ok (.getfield 11, 3) := by decide +kernel
theorem dX5_copy_56 : decode cX5_copy 56 = .ok (.iload_n 2, 1) := by decide +kernel
theorem dX5_copy_57 : decode cX5_copy 57 = .ok (.aaload, 1) := by decide +kernel
theorem dX5_copy_58 : decode cX5_copy 58 = .ok (.invokevirtual 45, 3) := by decide +kernel
theorem dX5_copy_61 : decode cX5_copy 61 = .ok (.iinc 2 1, 3) := by decide +kernel
theorem dX5_copy_64 : decode cX5_copy 64 = .ok (.goto (-24), 3) := by decide +kernel
theorem dX5_copy_67 : decode cX5_copy 67 = .ok (.return_, 1) := by decide +kernel
theorem dX5_letPass_0 : decode cX5_letPass 0 = .ok (.iconst 0, 1) := by decide +kernel
theorem dX5_letPass_1 : decode cX5_letPass 1 = .ok (.istore_n 2, 1) := by decide +kernel
theorem dX5_letPass_2 : decode cX5_letPass 2 = .ok (.iload_n 2, 1) := by decide +kernel
theorem dX5_letPass_3 : decode cX5_letPass 3 = .ok (.iload_n 1, 1) := by decide +kernel
theorem dX5_letPass_4 : decode cX5_letPass 4 = .ok (.if_icmp .ge 45, 3) := by decide +kernel
theorem dX5_letPass_7 : decode cX5_letPass 7 = .ok (.aload_n 0, 1) := by decide +kernel
theorem dX5_letPass_8 : decode cX5_letPass 8 = .ok (.getfield 25, 3) := by decide +kernel
theorem dX5_letPass_11 : decode cX5_letPass 11 = .ok (.dup, 1) := by decide +kernel
theorem dX5_letPass_12 : decode cX5_letPass 12 = .ok (.getfield 48, 3) := by decide +kernel
theorem dX5_letPass_15 : decode cX5_letPass 15 = .ok (.iconst 1, 1) := by decide +kernel
theorem dX5_letPass_16 : decode cX5_letPass 16 = .ok (.iadd, 1) := by decide +kernel
theorem dX5_letPass_17 : decode cX5_letPass 17 = .ok (.putfield 48, 3) := by decide +kernel
theorem dX5_letPass_20 : decode cX5_letPass 20 = .ok (.iconst 0, 1) := by decide +kernel
theorem dX5_letPass_21 : decode cX5_letPass 21 = .ok (.istore_n 3, 1) := by decide +kernel
theorem dX5_letPass_22 : decode cX5_letPass 22 = .ok (.iload_n 3, 1) := by decide +kernel
theorem dX5_letPass_23 : decode cX5_letPass 23 = .ok (.bipush 6, 2) := by decide +kernel
theorem dX5_letPass_25 : decode cX5_letPass 25 = .ok (.if_icmp .ge 18, 3) := by decide +kernel
theorem dX5_letPass_28 : decode cX5_letPass 28 = .ok (.aload_n 0, 1) := by decide +kernel
theorem dX5_letPass_29 : decode cX5_letPass 29 = .ok (.getfield 11, 3) := by decide +kernel
theorem dX5_letPass_32 : decode cX5_letPass 32 = .ok (.iload_n 3, 1) := by decide +kernel
theorem dX5_letPass_33 : decode cX5_letPass 33 = .ok (.aaload, 1) := by decide +kernel
theorem dX5_letPass_34 : decode cX5_letPass 34 = .ok (.invokevirtual 51, 3) := by decide +kernel
theorem dX5_letPass_37 : decode cX5_letPass 37 = .ok (.iinc 3 1, 3) := by decide +kernel
theorem dX5_letPass_40 : decode cX5_letPass 40 = .ok (.goto (-18), 3) := by decide +kernel
theorem dX5_letPass_43 : decode cX5_letPass 43 = .ok (.iinc 2 1, 3) := by decide +kernel
theorem dX5_letPass_46 : decode cX5_letPass 46 = .ok (.goto (-44), 3) := by decide +kernel
theorem dX5_letPass_49 : decode cX5_letPass 49 = .ok (.return_, 1) := by decide +kernel
theorem dX5_lowestFree_0 : decode cX5_lowestFree 0 = .ok (.iconst 0, 1) := by decide +kernel
theorem dX5_lowestFree_1 : decode cX5_lowestFree 1 = .ok (.istore_n 1, 1) := by decide +kernel
theorem dX5_lowestFree_2 : decode cX5_lowestFree 2 = .ok (.iload_n 1, 1) := by decide +kernel
theorem dX5_lowestFree_3 : decode cX5_lowestFree 3 = .ok (.bipush 6, 2) := by decide +kernel
theorem dX5_lowestFree_5 : decode cX5_lowestFree 5 = .ok (.if_icmp .ge 24, 3) := by decide +kernel
theorem dX5_lowestFree_8 : decode cX5_lowestFree 8 = .ok (.aload_n 0, 1) := by decide +kernel
theorem dX5_lowestFree_9 : decode cX5_lowestFree 9 = .ok (.getfield 11, 3) := by decide +kernel
theorem dX5_lowestFree_12 : decode cX5_lowestFree 12 = .ok (.iload_n 1, 1) := by decide +kernel
theorem dX5_lowestFree_13 : decode cX5_lowestFree 13 = .ok (.aaload, 1) := by decide +kernel
theorem dX5_lowestFree_14 : decode cX5_lowestFree 14 = .ok (.getfield 54, 3) := by decide +kernel
theorem dX5_lowestFree_17 : decode cX5_lowestFree 17 = .ok (.iconst (-1), 1) := by decide +kernel
theorem dX5_lowestFree_18 : decode cX5_lowestFree 18 = .ok (.if_icmp .ne 5, 3) := by decide +kernel
theorem dX5_lowestFree_21 : decode cX5_lowestFree 21 = .ok (.iload_n 1, 1) := by decide +kernel
theorem dX5_lowestFree_22 : decode cX5_lowestFree 22 = .ok (.ireturn, 1) := by decide +kernel
theorem dX5_lowestFree_23 : decode cX5_lowestFree 23 = .ok (.iinc 1 1, 3) := by decide +kernel
theorem dX5_lowestFree_26 : decode cX5_lowestFree 26 = .ok (.goto (-24), 3) := by decide +kernel
theorem dX5_lowestFree_29 : decode cX5_lowestFree 29 = .ok (.iconst (-1), 1) := by decide +kernel
theorem dX5_lowestFree_30 : decode cX5_lowestFree 30 = .ok (.ireturn, 1) := by decide +kernel
theorem dX5_allDefined_0 : decode cX5_allDefined 0 = .ok (.iconst 0, 1) := by decide +kernel
theorem dX5_allDefined_1 : decode cX5_allDefined 1 = .ok (.istore_n 1, 1) := by decide +kernel
theorem dX5_allDefined_2 : decode cX5_allDefined 2 = .ok (.iconst 0, 1) := by decide +kernel
theorem dX5_allDefined_3 : decode cX5_allDefined 3 = .ok (.istore_n 2, 1) := by decide +kernel
theorem dX5_allDefined_4 : decode cX5_allDefined 4 = .ok (.iload_n 2, 1) := by decide +kernel
theorem dX5_allDefined_5 : decode cX5_allDefined 5 = .ok (.iconst 4, 1) := by decide +kernel
theorem dX5_allDefined_6 : decode cX5_allDefined 6 = .ok (.if_icmp .ge 18, 3) := by decide +kernel
theorem dX5_allDefined_9 : decode cX5_allDefined 9 = .ok (.iload_n 1, 1) := by decide +kernel
theorem dX5_allDefined_10 : decode cX5_allDefined 10 = .ok (.aload_n 0, 1) := by decide +kernel
theorem dX5_allDefined_11 : decode cX5_allDefined 11 = .ok (.getfield 17, 3) := by decide +kernel
theorem dX5_allDefined_14 : decode cX5_allDefined 14 = .ok (.iload_n 2, 1) := by decide +kernel
theorem dX5_allDefined_15 : decode cX5_allDefined 15 = .ok (.iaload, 1) := by decide +kernel
theorem dX5_allDefined_16 : decode cX5_allDefined 16 = .ok (.iadd, 1) := by decide +kernel
theorem dX5_allDefined_17 : decode cX5_allDefined 17 = .ok (.istore_n 1, 1) := by decide +kernel
theorem dX5_allDefined_18 : decode cX5_allDefined 18 = .ok (.iinc 2 1, 3) := by decide +kernel
theorem dX5_allDefined_21 : decode cX5_allDefined 21 = .ok (.goto (-17), 3) := by decide +kernel
theorem dX5_allDefined_24 : decode cX5_allDefined 24 = .ok (.iload_n 1, 1) := by decide +kernel
theorem dX5_allDefined_25 : decode cX5_allDefined 25 = .ok (.ireturn, 1) := by decide +kernel
theorem dX5_instancesOf_0 : decode cX5_instancesOf 0 = .ok (.iconst 0, 1) := by decide +kernel
theorem dX5_instancesOf_1 : decode cX5_instancesOf 1 = .ok (.istore_n 3, 1) := by decide +kernel
theorem dX5_instancesOf_2 : decode cX5_instancesOf 2 = .ok (.iconst 0, 1) := by decide +kernel
theorem dX5_instancesOf_3 : decode cX5_instancesOf 3 = .ok (.istore 4, 2) := by decide +kernel
theorem dX5_instancesOf_5 : decode cX5_instancesOf 5 = .ok (.iload 4, 2) := by decide +kernel
theorem dX5_instancesOf_7 : decode cX5_instancesOf 7 = .ok (.bipush 6, 2) := by decide +kernel
theorem dX5_instancesOf_9 : decode cX5_instancesOf 9 = .ok (.if_icmp .ge 43, 3) := by decide +kernel
theorem dX5_instancesOf_12 : decode cX5_instancesOf 12 = .ok (.aload_n 0, 1) := by decide +kernel
theorem dX5_instancesOf_13 : decode cX5_instancesOf 13 = .ok (.getfield 11, 3) := by decide +kernel
theorem dX5_instancesOf_16 : decode cX5_instancesOf 16 = .ok (.iload 4, 2) := by decide +kernel
theorem dX5_instancesOf_18 : decode cX5_instancesOf 18 = .ok (.aaload, 1) := by decide +kernel
theorem dX5_instancesOf_19 : decode cX5_instancesOf 19 = .ok (.getfield 54, 3) := by decide +kernel
theorem dX5_instancesOf_22 : decode cX5_instancesOf 22 = .ok (.iload_n 2, 1) := by decide +kernel
theorem dX5_instancesOf_23 : decode cX5_instancesOf 23 = .ok (.if_icmp .ne 23, 3) := by decide +kernel
theorem dX5_instancesOf_26 : decode cX5_instancesOf 26 = .ok (.aload_n 0, 1) := by decide +kernel
theorem dX5_instancesOf_27 : decode cX5_instancesOf 27 = .ok (.getfield 11, 3) := by decide +kernel
theorem dX5_instancesOf_30 : decode cX5_instancesOf 30 = .ok (.iload 4, 2) := by decide +kernel
theorem dX5_instancesOf_32 : decode cX5_instancesOf 32 = .ok (.aaload, 1) := by decide +kernel
theorem dX5_instancesOf_33 : decode cX5_instancesOf 33 = .ok (.getfield 57, 3) := by decide +kernel
theorem dX5_instancesOf_36 : decode cX5_instancesOf 36 = .ok (.getfield 61, 3) := by decide +kernel
theorem dX5_instancesOf_39 : decode cX5_instancesOf 39 = .ok (.iload_n 1, 1) := by decide +kernel
theorem dX5_instancesOf_40 : decode cX5_instancesOf 40 = .ok (.if_icmp .ne 6, 3) := by decide +kernel
theorem dX5_instancesOf_43 : decode cX5_instancesOf 43 = .ok (.iinc 3 1, 3) := by decide +kernel
theorem dX5_instancesOf_46 : decode cX5_instancesOf 46 = .ok (.iinc 4 1, 3) := by decide +kernel
theorem dX5_instancesOf_49 : decode cX5_instancesOf 49 = .ok (.goto (-44), 3) := by decide +kernel
theorem dX5_instancesOf_52 : decode cX5_instancesOf 52 = .ok (.iload_n 3, 1) := by decide +kernel
theorem dX5_instancesOf_53 : decode cX5_instancesOf 53 = .ok (.ireturn, 1) := by decide +kernel
theorem dX5_instancesWith_0 : decode cX5_instancesWith 0 = .ok (.iconst 0, 1) := by decide +kernel
theorem dX5_instancesWith_1 : decode cX5_instancesWith 1 = .ok (.istore_n 2, 1) := by decide +kernel
theorem dX5_instancesWith_2 : decode cX5_instancesWith 2 = .ok (.iconst 0, 1) := by decide +kernel
theorem dX5_instancesWith_3 : decode cX5_instancesWith 3 = .ok (.istore_n 3, 1) := by decide +kernel
theorem dX5_instancesWith_4 : decode cX5_instancesWith 4 = .ok (.iload_n 3, 1) := by decide +kernel
theorem dX5_instancesWith_5 : decode cX5_instancesWith 5 = .ok (.iconst 4, 1) := by decide +kernel
theorem dX5_instancesWith_6 : decode cX5_instancesWith 6 = .ok (.if_icmp .ge 18, 3) := by decide +kernel
theorem dX5_instancesWith_9 : decode cX5_instancesWith 9 = .ok (.iload_n 2, 1) := by decide +kernel
theorem dX5_instancesWith_10 : decode cX5_instancesWith 10 = .ok (.aload_n 0, 1) := by decide +kernel
theorem dX5_instancesWith_11 : decode cX5_instancesWith 11 = .ok (.iload_n 3, 1) := by decide +kernel
theorem dX5_instancesWith_12 : decode cX5_instancesWith 12 = .ok (.iload_n 1, 1) := by decide +kernel
theorem dX5_instancesWith_13 : decode cX5_instancesWith 13 = .ok (.invokevirtual 66, 3) := by decide +kernel
theorem dX5_instancesWith_16 : decode cX5_instancesWith 16 = .ok (.iadd, 1) := by decide +kernel
theorem dX5_instancesWith_17 : decode cX5_instancesWith 17 = .ok (.istore_n 2, 1) := by decide +kernel
theorem dX5_instancesWith_18 : decode cX5_instancesWith 18 = .ok (.iinc 3 1, 3) := by decide +kernel
theorem dX5_instancesWith_21 : decode cX5_instancesWith 21 = .ok (.goto (-17), 3) := by decide +kernel
theorem dX5_instancesWith_24 : decode cX5_instancesWith 24 = .ok (.iload_n 2, 1) := by decide +kernel
theorem dX5_instancesWith_25 : decode cX5_instancesWith 25 = .ok (.ireturn, 1) := by decide +kernel
theorem dX5_startedOf_0 : decode cX5_startedOf 0 = .ok (.aload_n 0, 1) := by decide +kernel
theorem dX5_startedOf_1 : decode cX5_startedOf 1 = .ok (.iload_n 1, 1) := by decide +kernel
theorem dX5_startedOf_2 : decode cX5_startedOf 2 = .ok (.invokevirtual 70, 3) := by decide +kernel
theorem dX5_startedOf_5 : decode cX5_startedOf 5 = .ok (.aload_n 0, 1) := by decide +kernel
theorem dX5_startedOf_6 : decode cX5_startedOf 6 = .ok (.iload_n 1, 1) := by decide +kernel
theorem dX5_startedOf_7 : decode cX5_startedOf 7 = .ok (.iconst 0, 1) := by decide +kernel
theorem dX5_startedOf_8 : decode cX5_startedOf 8 = .ok (.invokevirtual 66, 3) := by decide +kernel
theorem dX5_startedOf_11 : decode cX5_startedOf 11 = .ok (.iadd, 1) := by decide +kernel
theorem dX5_startedOf_12 : decode cX5_startedOf 12 = .ok (.aload_n 0, 1) := by decide +kernel
theorem dX5_startedOf_13 : decode cX5_startedOf 13 = .ok (.iload_n 1, 1) := by decide +kernel
theorem dX5_startedOf_14 : decode cX5_startedOf 14 = .ok (.iconst 2, 1) := by decide +kernel
theorem dX5_startedOf_15 : decode cX5_startedOf 15 = .ok (.invokevirtual 66, 3) := by decide +kernel
theorem dX5_startedOf_18 : decode cX5_startedOf 18 = .ok (.iadd, 1) := by decide +kernel
theorem dX5_startedOf_19 : decode cX5_startedOf 19 = .ok (.ireturn, 1) := by decide +kernel
theorem dX5_started_0 : decode cX5_started 0 = .ok (.bipush 6, 2) := by decide +kernel
theorem dX5_started_2 : decode cX5_started 2 = .ok (.aload_n 0, 1) := by decide +kernel
theorem dX5_started_3 : decode cX5_started 3 = .ok (.iconst (-1), 1) := by decide +kernel
theorem dX5_started_4 : decode cX5_started 4 = .ok (.invokevirtual 74, 3) := by decide +kernel
theorem dX5_started_7 : decode cX5_started 7 = .ok (.isub, 1) := by decide +kernel
theorem dX5_started_8 : decode cX5_started 8 = .ok (.ireturn, 1) := by decide +kernel
theorem dX5_endedOf_0 : decode cX5_endedOf 0 = .ok (.aload_n 0, 1) := by decide +kernel
theorem dX5_endedOf_1 : decode cX5_endedOf 1 = .ok (.iload_n 1, 1) := by decide +kernel
theorem dX5_endedOf_2 : decode cX5_endedOf 2 = .ok (.iconst 3, 1) := by decide +kernel
theorem dX5_endedOf_3 : decode cX5_endedOf 3 = .ok (.invokevirtual 66, 3) := by decide +kernel
theorem dX5_endedOf_6 : decode cX5_endedOf 6 = .ok (.aload_n 0, 1) := by decide +kernel
theorem dX5_endedOf_7 : decode cX5_endedOf 7 = .ok (.iload_n 1, 1) := by decide +kernel
theorem dX5_endedOf_8 : decode cX5_endedOf 8 = .ok (.iconst 4, 1) := by decide +kernel
theorem dX5_endedOf_9 : decode cX5_endedOf 9 = .ok (.invokevirtual 66, 3) := by decide +kernel
theorem dX5_endedOf_12 : decode cX5_endedOf 12 = .ok (.iadd, 1) := by decide +kernel
theorem dX5_endedOf_13 : decode cX5_endedOf 13 = .ok (.istore_n 2, 1) := by decide +kernel
theorem dX5_endedOf_14 : decode cX5_endedOf 14 = .ok (.aload_n 0, 1) := by decide +kernel
theorem dX5_endedOf_15 : decode cX5_endedOf 15 = .ok (.iload_n 1, 1) := by decide +kernel
theorem dX5_endedOf_16 : decode cX5_endedOf 16 = .ok (.iconst 1, 1) := by decide +kernel
theorem dX5_endedOf_17 : decode cX5_endedOf 17 = .ok (.invokevirtual 66, 3) := by decide +kernel
theorem dX5_endedOf_20 : decode cX5_endedOf 20 = .ok (.iload_n 2, 1) := by decide +kernel
theorem dX5_endedOf_21 : decode cX5_endedOf 21 = .ok (.iadd, 1) := by decide +kernel
theorem dX5_endedOf_22 : decode cX5_endedOf 22 = .ok (.ireturn, 1) := by decide +kernel
theorem dX5_minutesOf_0 : decode cX5_minutesOf 0 = .ok (.iconst 0, 1) := by decide +kernel
theorem dX5_minutesOf_1 : decode cX5_minutesOf 1 = .ok (.istore_n 2, 1) := by decide +kernel
theorem dX5_minutesOf_2 : decode cX5_minutesOf 2 = .ok (.iconst 0, 1) := by decide +kernel
theorem dX5_minutesOf_3 : decode cX5_minutesOf 3 = .ok (.istore_n 3, 1) := by decide +kernel
theorem dX5_minutesOf_4 : decode cX5_minutesOf 4 = .ok (.iload_n 3, 1) := by decide +kernel
theorem dX5_minutesOf_5 : decode cX5_minutesOf 5 = .ok (.bipush 6, 2) := by decide +kernel
theorem dX5_minutesOf_7 : decode cX5_minutesOf 7 = .ok (.if_icmp .ge 59, 3) := by decide +kernel
theorem dX5_minutesOf_10 : decode cX5_minutesOf 10 = .ok (.aload_n 0, 1) := by decide +kernel
theorem dX5_minutesOf_11 : decode cX5_minutesOf 11 = .ok (.getfield 11, 3) := by decide +kernel
theorem dX5_minutesOf_14 : decode cX5_minutesOf 14 = .ok (.iload_n 3, 1) := by decide +kernel
theorem dX5_minutesOf_15 : decode cX5_minutesOf 15 = .ok (.aaload, 1) := by decide +kernel
theorem dX5_minutesOf_16 : decode cX5_minutesOf 16 = .ok (.invokevirtual 77, 3) := by decide +kernel
theorem dX5_minutesOf_19 : decode cX5_minutesOf 19 = .ok (.ifCond .eq 41, 3) := by decide +kernel
theorem dX5_minutesOf_22 : decode cX5_minutesOf 22 = .ok (.aload_n 0, 1) := by decide +kernel
theorem dX5_minutesOf_23 : decode cX5_minutesOf 23 = .ok (.getfield 11, 3) := by decide +kernel
theorem dX5_minutesOf_26 : decode cX5_minutesOf 26 = .ok (.iload_n 3, 1) := by decide +kernel
theorem dX5_minutesOf_27 : decode cX5_minutesOf 27 = .ok (.aaload, 1) := by decide +kernel
theorem dX5_minutesOf_28 : decode cX5_minutesOf 28 = .ok (.getfield 57, 3) := by decide +kernel
theorem dX5_minutesOf_31 : decode cX5_minutesOf 31 = .ok (.getfield 61, 3) := by decide +kernel
theorem dX5_minutesOf_34 : decode cX5_minutesOf 34 = .ok (.iload_n 1, 1) := by decide +kernel
theorem dX5_minutesOf_35 : decode cX5_minutesOf 35 = .ok (.if_icmp .ne 25, 3) := by decide +kernel
theorem dX5_minutesOf_38 : decode cX5_minutesOf 38 = .ok (.iload_n 2, 1) := by decide +kernel
theorem dX5_minutesOf_39 : decode cX5_minutesOf 39 = .ok (.aload_n 0, 1) := by decide +kernel
theorem dX5_minutesOf_40 : decode cX5_minutesOf 40 = .ok (.getfield 11, 3) := by decide +kernel
theorem dX5_minutesOf_43 : decode cX5_minutesOf 43 = .ok (.iload_n 3, 1) := by decide +kernel
theorem dX5_minutesOf_44 : decode cX5_minutesOf 44 = .ok (.aaload, 1) := by decide +kernel
theorem dX5_minutesOf_45 : decode cX5_minutesOf 45 = .ok (.getfield 81, 3) := by decide +kernel
theorem dX5_minutesOf_48 : decode cX5_minutesOf 48 = .ok (.aload_n 0, 1) := by decide +kernel
theorem dX5_minutesOf_49 : decode cX5_minutesOf 49 = .ok (.getfield 11, 3) := by decide +kernel
theorem dX5_minutesOf_52 : decode cX5_minutesOf 52 = .ok (.iload_n 3, 1) := by decide +kernel
theorem dX5_minutesOf_53 : decode cX5_minutesOf 53 = .ok (.aaload, 1) := by decide +kernel
theorem dX5_minutesOf_54 : decode cX5_minutesOf 54 = .ok (.getfield 84, 3) := by decide +kernel
theorem dX5_minutesOf_57 : decode cX5_minutesOf 57 = .ok (.isub, 1) := by decide +kernel
theorem dX5_minutesOf_58 : decode cX5_minutesOf 58 = .ok (.iadd, 1) := by decide +kernel
theorem dX5_minutesOf_59 : decode cX5_minutesOf 59 = .ok (.istore_n 2, 1) := by decide +kernel
theorem dX5_minutesOf_60 : decode cX5_minutesOf 60 = .ok (.iinc 3 1, 3) := by decide +kernel
theorem dX5_minutesOf_63 : decode cX5_minutesOf 63 = .ok (.goto (-59), 3) := by decide +kernel
theorem dX5_minutesOf_66 : decode cX5_minutesOf 66 = .ok (.iload_n 2, 1) := by decide +kernel
theorem dX5_minutesOf_67 : decode cX5_minutesOf 67 = .ok (.ireturn, 1) := by decide +kernel
theorem lk_X5_51 : LkV RX5 51 yX2_look cX2_look 1 none 0 := ⟨ws_in (List.mem_of_getElem? (i := 696) (by decide +kernel)) rfl, mm_X2_look⟩
theorem mm_X5_instancesOf : Cond.instanceMethod yX5_instancesOf ∈ WS ∧ Cond.selects (yX5_instancesOf).cls yX5_instancesOf yX5_instancesOf ∈ WS ∧ Cond.initialized (yX5_instancesOf).cls ∈ WS ∧ Cond.code yX5_instancesOf cX5_instancesOf 5 (some .int) ∈ WS ∧ ((yX5_instancesOf).cls ≠ "java/lang/invoke/MethodHandle" ∧ (yX5_instancesOf).cls ≠ "java/lang/invoke/VarHandle") ∧ (parseMethodDescriptor (yX5_instancesOf).desc).map (fun d => d.parameters.length) = some 2 ∧ 5 ≤ 20 := ⟨ws_in (List.mem_of_getElem? (i := 802) (by decide +kernel)) rfl, ws_in (List.mem_of_getElem? (i := 803) (by decide +kernel)) rfl, ws_in (List.mem_of_getElem? (i := 104) (by decide +kernel)) rfl, ws_in (List.mem_of_getElem? (i := 804) (by decide +kernel)) rfl, ⟨by decide +kernel, by decide +kernel⟩, by decide +kernel, by decide⟩
theorem lk_X5_66 : LkV RX5 66 yX5_instancesOf cX5_instancesOf 5 (some .int) 2 := ⟨ws_in (List.mem_of_getElem? (i := 813) (by decide +kernel)) rfl, mm_X5_instancesOf⟩
theorem mm_X5_endedOf : Cond.instanceMethod yX5_endedOf ∈ WS ∧ Cond.selects (yX5_endedOf).cls yX5_endedOf yX5_endedOf ∈ WS ∧ Cond.initialized (yX5_endedOf).cls ∈ WS ∧ Cond.code yX5_endedOf cX5_endedOf 3 (some .int) ∈ WS ∧ ((yX5_endedOf).cls ≠ "java/lang/invoke/MethodHandle" ∧ (yX5_endedOf).cls ≠ "java/lang/invoke/VarHandle") ∧ (parseMethodDescriptor (yX5_endedOf).desc).map (fun d => d.parameters.length) = some 1 ∧ 3 ≤ 20 := ⟨ws_in (List.mem_of_getElem? (i := 810) (by decide +kernel)) rfl, ws_in (List.mem_of_getElem? (i := 811) (by decide +kernel)) rfl, ws_in (List.mem_of_getElem? (i := 104) (by decide +kernel)) rfl, ws_in (List.mem_of_getElem? (i := 812) (by decide +kernel)) rfl, ⟨by decide +kernel, by decide +kernel⟩, by decide +kernel, by decide⟩
theorem lk_X5_70 : LkV RX5 70 yX5_endedOf cX5_endedOf 3 (some .int) 1 := ⟨ws_in (List.mem_of_getElem? (i := 809) (by decide +kernel)) rfl, mm_X5_endedOf⟩
theorem mm_X5_instancesWith : Cond.instanceMethod yX5_instancesWith ∈ WS ∧ Cond.selects (yX5_instancesWith).cls yX5_instancesWith yX5_instancesWith ∈ WS ∧ Cond.initialized (yX5_instancesWith).cls ∈ WS ∧ Cond.code yX5_instancesWith cX5_instancesWith 4 (some .int) ∈ WS ∧ ((yX5_instancesWith).cls ≠ "java/lang/invoke/MethodHandle" ∧ (yX5_instancesWith).cls ≠ "java/lang/invoke/VarHandle") ∧ (parseMethodDescriptor (yX5_instancesWith).desc).map (fun d => d.parameters.length) = some 1 ∧ 4 ≤ 20 := ⟨ws_in (List.mem_of_getElem? (i := 833) (by decide +kernel)) rfl, ws_in (List.mem_of_getElem? (i := 834) (by decide +kernel)) rfl, ws_in (List.mem_of_getElem? (i := 104) (by decide +kernel)) rfl, ws_in (List.mem_of_getElem? (i := 835) (by decide +kernel)) rfl, ⟨by decide +kernel, by decide +kernel⟩, by decide +kernel, by decide⟩
theorem lk_X5_74 : LkV RX5 74 yX5_instancesWith cX5_instancesWith 4 (some .int) 1 := ⟨ws_in (List.mem_of_getElem? (i := 832) (by decide +kernel)) rfl, mm_X5_instancesWith⟩
theorem lk_X5_77 : LkV RX5 77 yX2_hasEnded cX2_hasEnded 1 (some .boolean) 0 := ⟨ws_in (List.mem_of_getElem? (i := 819) (by decide +kernel)) rfl, mm_X2_hasEnded⟩
set_option maxRecDepth 100000 in
theorem wsin_X5 : ∀ w ∈ u_ws RX5 TX5 5, w ∈ WS := fun w hw => have h := goodIn_of (big := lw_tbl) (u_ws RX5 TX5 5) (by decide +kernel); ws_in (h w hw).1 (List.all_eq_true.mp (by decide +kernel : (u_ws RX5 TX5 5).all goodWord = true) w hw)
theorem f_X5_11 : FL RX5 11 5 1 := ⟨RX5, TX5, 5, rfl, by decide, wsin_X5, ws_in (List.mem_of_getElem? (i := 360) (by decide +kernel)) rfl⟩
theorem f_X5_17 : FL RX5 17 5 2 := ⟨RX5, TX5, 5, rfl, by decide, wsin_X5, ws_in (List.mem_of_getElem? (i := 362) (by decide +kernel)) rfl⟩
theorem f_X5_25 : FL RX5 25 5 0 := ⟨RX5, TX5, 5, rfl, by decide, wsin_X5, ws_in (List.mem_of_getElem? (i := 358) (by decide +kernel)) rfl⟩
theorem f_X5_48 : FL RX5 48 0 2 := ⟨RX0, TX0, 3, rfl, by decide, wsin_X0, ws_in (List.mem_of_getElem? (i := 246) (by decide +kernel)) rfl⟩
theorem f_X5_54 : FL RX5 54 2 3 := ⟨RX2, TX2, 18, rfl, by decide, wsin_X2, ws_in (List.mem_of_getElem? (i := 296) (by decide +kernel)) rfl⟩
theorem f_X5_57 : FL RX5 57 2 2 := ⟨RX2, TX2, 18, rfl, by decide, wsin_X2, ws_in (List.mem_of_getElem? (i := 293) (by decide +kernel)) rfl⟩
theorem f_X5_61 : FL RX5 61 4 0 := ⟨RX4, TX4, 16, rfl, by decide, wsin_X4, ws_in (List.mem_of_getElem? (i := 157) (by decide +kernel)) rfl⟩
theorem f_X5_81 : FL RX5 81 2 5 := ⟨RX2, TX2, 18, rfl, by decide, wsin_X2, ws_in (List.mem_of_getElem? (i := 302) (by decide +kernel)) rfl⟩
theorem f_X5_84 : FL RX5 84 2 4 := ⟨RX2, TX2, 18, rfl, by decide, wsin_X2, ws_in (List.mem_of_getElem? (i := 299) (by decide +kernel)) rfl⟩
theorem fp_X5_48 : FLp RX5 48 0 2 .int := ⟨RX0, TX0, 3, tyX0, rfl, by decide, wsin_X0, ws_in (List.mem_of_getElem? (i := 246) (by decide +kernel)) rfl, tyX0_ok, nmX0, rfl, rfl⟩
def wo_letPass_22 (N : Nat) (D : Nat) (rl : Nat) (pl : Nat → Nat) (vs : Fam) (K2 : Int32 → Int32 → Mem → Fam → Fam → Option (Mem × Fam × Fam)) : Nat → Int32 → Int32 → Int32 → Mem → Fam → Fam → Option (Mem × Fam × Fam)
  | 0, _, _, _, _, _, _ => none
  | n + 1, y1, y2, y3, e, I, H =>
    if y3 < 6 then
      ((rx 6 y3).bind fun j33 =>
      gd (pl j33 < 17) <|
      (in_look N D rl (vs (pl j33)) (I j33) (H j33) e).bind fun (o34, h34, e34) =>
      wo_letPass_22 N D rl pl vs K2 n y1 y2 (y3 + 1) e34 (upF I j33 o34) (upF H j33 h34))
    else
      (K2 y1 (y2 + 1) e I H)
set_option maxHeartbeats 400000 in
set_option maxRecDepth 100000 in
theorem w_wo_letPass_22 {l : Launch} {E : Ev} {ad : Ad3} {va : Nat → Nat → Nat} {A : Nat → Prop} {d : Nat} {N : Nat} {D : Nat} {rl : Nat} {w : Mem} {pl : Nat → Nat} {vs : Fam} {K2 : Int32 → Int32 → Mem → Fam → Fam → Option (Mem × Fam × Fam)} (hd : 3 * D + 10 ≤ d) (hK2 : ∀ (y1 : Int32) (y2 : Int32) (e : Mem) (I : Fam) (H : Fam), Bd l E A RX5 cX5_letPass 4 none d (fun q : Mem × Fam × Fam => (none, hWV E ad va rl w q.1 q.2.1 q.2.2 pl vs)) 2 [(0, .ref (ad 0 0 0)), (1, .int y1), (2, .int y2)] [] (hWV E ad va rl w e I H pl vs) (K2 y1 y2 e I H)) (n : Nat) : ∀ (y1 : Int32) (y2 : Int32) (y3 : Int32) (e : Mem) (I : Fam) (H : Fam), Bd l E A RX5 cX5_letPass 4 none d (fun q : Mem × Fam × Fam => (none, hWV E ad va rl w q.1 q.2.1 q.2.2 pl vs)) 22 [(0, .ref (ad 0 0 0)), (1, .int y1), (2, .int y2), (3, .int y3)] [] (hWV E ad va rl w e I H pl vs) (wo_letPass_22 N D rl pl vs K2 n y1 y2 y3 e I H) := by
  induction n with
  | zero => intro y1 y2 y3 e I H; exact b_none
  | succ n ih =>
    intro y1 y2 y3 e I H
    rw [wo_letPass_22]
    refine b_iload_n (n := 23) 3 dX5_letPass_22 rfl rfl rfl ?_
    refine b_bipush (n := 25) (v := 6) dX5_letPass_23 rfl (by decide) ?_
    refine b_cmp_ge (n := 28) (tgt := 43) dX5_letPass_25 (by decide) rfl (fun h25 => ?_) (fun h25 => ?_)
    · refine b_aload_n (n := 29) 0 dX5_letPass_28 rfl rfl rfl ?_
      refine b_get (n := 32) (v := .ref (ad 0 0 4)) 0 f_X5_11 dX5_letPass_29 rfl hWV_o0 rfl ?_
      refine b_iload_n (n := 33) 3 dX5_letPass_32 rfl rfl rfl ?_
      refine b_aald (n := 34) 4 2 dX5_letPass_33 rfl rfl hWV_r4 (fun _ => rfl) (fun j33 hj33 => ?_)
      refine b_gd (fun h34 => ?_)
      refine bVwv (n := 37) (hh := (fun s : Mem × Mem × Mem => hI E (adI ad va j33 (pl j33)) rl s.1 s.2.1 s.2.2 ((vs (pl j33))))) (As := []) (rest := []) (fun s : Mem × Mem × Mem => hWV E ad va rl w s.2.2 (upF I j33 s.1) (upF H j33 s.2.1) pl vs) (6 + 12 * j33) (plA j33 ++ plB (pl j33)) lk_X5_51 (c_in_look (ad := adI ad va j33 (pl j33)) (Nat.le_refl _)) (by omega) (hWV_sub hj33 h34) (plN hj33) (fun _ => rfl) (fun _ => hWV_patch hj33 h34) (hWV_io _ hj33) rfl rfl rfl (Nat.le_of_ble_eq_true rfl) dX5_letPass_34 rfl ?_
      rintro ⟨o34, h34, e34⟩
      try dsimp only
      refine b_iinc (n := 40) (L' := [(3, .int (y3 + 1)), (0, .ref (ad 0 0 0)), (1, .int y1), (2, .int y2)]) 3 1 dX5_letPass_37 rfl rfl (by decide) (Nat.le_of_ble_eq_true rfl) rfl ?_
      refine b_goto (n := 22) dX5_letPass_40 (by decide) ?_
      refine Bd.sub (L' := [(0, .ref (ad 0 0 0)), (1, .int y1), (2, .int y2), (3, .int (y3 + 1))]) [1, 2, 3, 0] rfl ?_
      exact ih _ _ _ _ _ _
    · refine b_iinc (n := 46) (L' := [(2, .int (y2 + 1)), (0, .ref (ad 0 0 0)), (1, .int y1), (3, .int y3)]) 2 1 dX5_letPass_43 rfl rfl (by decide) (Nat.le_of_ble_eq_true rfl) rfl ?_
      refine b_goto (n := 2) dX5_letPass_46 (by decide) ?_
      refine Bd.sub (L' := [(0, .ref (ad 0 0 0)), (1, .int y1), (2, .int (y2 + 1))]) [1, 2, 0] rfl ?_
      exact hK2 _ _ _ _ _
def wo_letPass_2 (N : Nat) (D : Nat) (rl : Nat) (pl : Nat → Nat) (vs : Fam)  : Nat → Int32 → Int32 → Mem → Fam → Fam → Option (Mem × Fam × Fam)
  | 0, _, _, _, _, _ => none
  | n + 1, y1, y2, e, I, H =>
    if y2 < y1 then
      (wo_letPass_22 N D rl pl vs (wo_letPass_2 N D rl pl vs n) N y1 y2 0 (up e 1 2 ((e 1 2) + 1)) I H)
    else
      (some (e, I, H))
set_option maxHeartbeats 400000 in
set_option maxRecDepth 100000 in
theorem w_wo_letPass_2 {l : Launch} {E : Ev} {ad : Ad3} {va : Nat → Nat → Nat} {A : Nat → Prop} {d : Nat} {N : Nat} {D : Nat} {rl : Nat} {w : Mem} {pl : Nat → Nat} {vs : Fam}  (hd : 3 * D + 10 ≤ d)  (n : Nat) : ∀ (y1 : Int32) (y2 : Int32) (e : Mem) (I : Fam) (H : Fam), Bd l E A RX5 cX5_letPass 4 none d (fun q : Mem × Fam × Fam => (none, hWV E ad va rl w q.1 q.2.1 q.2.2 pl vs)) 2 [(0, .ref (ad 0 0 0)), (1, .int y1), (2, .int y2)] [] (hWV E ad va rl w e I H pl vs) (wo_letPass_2 N D rl pl vs n y1 y2 e I H) := by
  induction n with
  | zero => intro y1 y2 e I H; exact b_none
  | succ n ih =>
    intro y1 y2 e I H
    rw [wo_letPass_2]
    refine b_iload_n (n := 3) 2 dX5_letPass_2 rfl rfl rfl ?_
    refine b_iload_n (n := 4) 1 dX5_letPass_3 rfl rfl rfl ?_
    refine b_cmp_ge (n := 7) (tgt := 49) dX5_letPass_4 (by decide) rfl (fun h4 => ?_) (fun h4 => ?_)
    · refine b_aload_n (n := 8) 0 dX5_letPass_7 rfl rfl rfl ?_
      refine b_get (n := 11) (v := .ref (ad 0 0 1)) 0 f_X5_25 dX5_letPass_8 rfl hWV_o0 rfl ?_
      refine b_dup (n := 12) dX5_letPass_11 rfl rfl ?_
      refine b_get (n := 15) (v := .int (e 1 2)) 1 f_X5_48 dX5_letPass_12 rfl hWV_o1 rfl ?_
      refine b_iconst (n := 16) (v := 1) dX5_letPass_15 rfl (by decide) ?_
      refine b_iadd (n := 17) dX5_letPass_16 rfl ?_
      refine b_put (n := 20) (ws' := hWV E ad va rl w (up e 1 2 ((e 1 2) + 1)) I H pl vs) 1 fp_X5_48 dX5_letPass_17 rfl hWV_o1 rfl rfl (Nat.le_of_ble_eq_true rfl) hWV_p1_2 ?_
      refine b_iconst (n := 21) (v := 0) dX5_letPass_20 rfl (by decide) ?_
      refine b_istore_n (n := 22) (L' := [(3, .int 0), (0, .ref (ad 0 0 0)), (1, .int y1), (2, .int y2)]) dX5_letPass_21 rfl rfl (Nat.le_of_ble_eq_true rfl) rfl ?_
      refine Bd.sub (L' := [(0, .ref (ad 0 0 0)), (1, .int y1), (2, .int y2), (3, .int 0)]) [1, 2, 3, 0] rfl ?_
      exact w_wo_letPass_22 hd (fun a0 a1 a2 a3 a4 => ih a0 a1 a2 a3 a4) _ _ _ _ _ _ _
    · exact b_vret dX5_letPass_49 rfl rfl
def wo_letPass (N : Nat) (D : Nat) (rl : Nat) (pl : Nat → Nat) (vs : Fam) (x1 : Int32) (e : Mem) (I : Fam) (H : Fam) : Option (Mem × Fam × Fam) :=
  wo_letPass_2 N D rl pl vs N x1 0 e I H
set_option maxHeartbeats 400000 in
set_option maxRecDepth 100000 in
theorem c_wo_letPass {l : Launch} {E : Ev} {ad : Ad3} {va : Nat → Nat → Nat} {d : Nat} {N : Nat} {D : Nat} {rl : Nat} {w : Mem} {pl : Nat → Nat} {vs : Fam} {x1 : Int32} {e : Mem} {I : Fam} {H : Fam} (hd : 3 * D + 10 ≤ d) : Ct l yX5_letPass cX5_letPass 4 none d E (hWV E ad va rl w e I H pl vs) [.ref (ad 0 0 0), .int x1] (fun q : Mem × Fam × Fam => (none, hWV E ad va rl w q.1 q.2.1 q.2.2 pl vs)) (wo_letPass N D rl pl vs x1 e I H) := by
  refine Ct.of2 (own := RX5) (L := [(0, .ref (ad 0 0 0)), (1, .int x1)]) rfl (by decide +kernel) (Nat.le_of_ble_eq_true rfl) rfl ?_
  unfold wo_letPass
  refine b_iconst (n := 1) (v := 0) dX5_letPass_0 rfl (by decide) ?_
  refine b_istore_n (n := 2) (L' := [(2, .int 0), (0, .ref (ad 0 0 0)), (1, .int x1)]) dX5_letPass_1 rfl rfl (Nat.le_of_ble_eq_true rfl) rfl ?_
  refine Bd.sub (L' := [(0, .ref (ad 0 0 0)), (1, .int x1), (2, .int 0)]) [1, 2, 0] rfl ?_
  exact w_wo_letPass_2 hd _ _ _ _ _ _
def wo_lowestFree_2 (N : Nat) (I : Fam)  : Nat → Int32 → Option (Int32)
  | 0, _ => none
  | n + 1, y1 =>
    if y1 < 6 then
      ((rx 6 y1).bind fun j13 =>
      if I j13 0 3 = (-1) then
        (some y1)
      else
        (wo_lowestFree_2 N I n (y1 + 1)))
    else
      (some ((-1)))
set_option maxHeartbeats 400000 in
set_option maxRecDepth 100000 in
theorem w_wo_lowestFree_2 {l : Launch} {E : Ev} {ad : Ad3} {va : Nat → Nat → Nat} {A : Nat → Prop} {d : Nat} {N : Nat} {rl : Nat} {w : Mem} {e : Mem} {I : Fam} {H : Fam} {pl : Nat → Nat} {vs : Fam}  (hd : 1 ≤ d)  (n : Nat) : ∀ (y1 : Int32), Bd l E A RX5 cX5_lowestFree 2 (some .int) d (fun v : Int32 => (some (.int v), hWV E ad va rl w e I H pl vs)) 2 [(0, .ref (ad 0 0 0)), (1, .int y1)] [] (hWV E ad va rl w e I H pl vs) (wo_lowestFree_2 N I n y1) := by
  induction n with
  | zero => intro y1; exact b_none
  | succ n ih =>
    intro y1
    rw [wo_lowestFree_2]
    refine b_iload_n (n := 3) 1 dX5_lowestFree_2 rfl rfl rfl ?_
    refine b_bipush (n := 5) (v := 6) dX5_lowestFree_3 rfl (by decide) ?_
    refine b_cmp_ge (n := 8) (tgt := 29) dX5_lowestFree_5 (by decide) rfl (fun h5 => ?_) (fun h5 => ?_)
    · refine b_aload_n (n := 9) 0 dX5_lowestFree_8 rfl rfl rfl ?_
      refine b_get (n := 12) (v := .ref (ad 0 0 4)) 0 f_X5_11 dX5_lowestFree_9 rfl hWV_o0 rfl ?_
      refine b_iload_n (n := 13) 1 dX5_lowestFree_12 rfl rfl rfl ?_
      refine b_aald (n := 14) 4 2 dX5_lowestFree_13 rfl rfl hWV_r4 (fun _ => rfl) (fun j13 hj13 => ?_)
      refine b_get (n := 17) (v := .int (I j13 0 3)) (6 + 12 * j13) f_X5_54 dX5_lowestFree_14 rfl (hWV_io _ hj13) rfl ?_
      refine b_iconst (n := 18) (v := -1) dX5_lowestFree_17 rfl (by decide) ?_
      refine b_cmp_ne (n := 21) (tgt := 23) dX5_lowestFree_18 (by decide) rfl (fun h18 => ?_) (fun h18 => ?_)
      · refine b_iload_n (n := 22) 1 dX5_lowestFree_21 rfl rfl rfl ?_
        exact b_iret dX5_lowestFree_22 rfl rfl
      · refine b_iinc (n := 26) (L' := [(1, .int (y1 + 1)), (0, .ref (ad 0 0 0))]) 1 1 dX5_lowestFree_23 rfl rfl (by decide) (Nat.le_of_ble_eq_true rfl) rfl ?_
        refine b_goto (n := 2) dX5_lowestFree_26 (by decide) ?_
        refine Bd.sub (L' := [(0, .ref (ad 0 0 0)), (1, .int (y1 + 1))]) [1, 0] rfl ?_
        exact ih _
    · refine b_iconst (n := 30) (v := -1) dX5_lowestFree_29 rfl (by decide) ?_
      exact b_iret dX5_lowestFree_30 rfl rfl
def wo_lowestFree (N : Nat) (I : Fam)   : Option (Int32) :=
  wo_lowestFree_2 N I N 0
set_option maxHeartbeats 400000 in
set_option maxRecDepth 100000 in
theorem c_wo_lowestFree {l : Launch} {E : Ev} {ad : Ad3} {va : Nat → Nat → Nat} {d : Nat} {N : Nat} {rl : Nat} {w : Mem} {e : Mem} {I : Fam} {H : Fam} {pl : Nat → Nat} {vs : Fam}   (hd : 1 ≤ d) : Ct l yX5_lowestFree cX5_lowestFree 2 (some .int) d E (hWV E ad va rl w e I H pl vs) [.ref (ad 0 0 0)] (fun v : Int32 => (some (.int v), hWV E ad va rl w e I H pl vs)) (wo_lowestFree N I) := by
  refine Ct.of2 (own := RX5) (L := [(0, .ref (ad 0 0 0))]) rfl (by decide +kernel) (Nat.le_of_ble_eq_true rfl) rfl ?_
  unfold wo_lowestFree
  refine b_iconst (n := 1) (v := 0) dX5_lowestFree_0 rfl (by decide) ?_
  refine b_istore_n (n := 2) (L' := [(1, .int 0), (0, .ref (ad 0 0 0))]) dX5_lowestFree_1 rfl rfl (Nat.le_of_ble_eq_true rfl) rfl ?_
  refine Bd.sub (L' := [(0, .ref (ad 0 0 0)), (1, .int 0)]) [1, 0] rfl ?_
  exact w_wo_lowestFree_2 hd _ _
def wo_allDefined_4 (N : Nat) (w : Mem)  : Nat → Int32 → Int32 → Option (Int32)
  | 0, _, _ => none
  | n + 1, y1, y2 =>
    if y2 < 4 then
      ((rd 4 (w 5) y2).bind fun v15 =>
      wo_allDefined_4 N w n (y1 + v15) (y2 + 1))
    else
      (some y1)
set_option maxHeartbeats 400000 in
set_option maxRecDepth 100000 in
theorem w_wo_allDefined_4 {l : Launch} {E : Ev} {ad : Ad3} {va : Nat → Nat → Nat} {A : Nat → Prop} {d : Nat} {N : Nat} {rl : Nat} {w : Mem} {e : Mem} {I : Fam} {H : Fam} {pl : Nat → Nat} {vs : Fam}  (hd : 1 ≤ d)  (n : Nat) : ∀ (y1 : Int32) (y2 : Int32), Bd l E A RX5 cX5_allDefined 3 (some .int) d (fun v : Int32 => (some (.int v), hWV E ad va rl w e I H pl vs)) 4 [(0, .ref (ad 0 0 0)), (1, .int y1), (2, .int y2)] [] (hWV E ad va rl w e I H pl vs) (wo_allDefined_4 N w n y1 y2) := by
  induction n with
  | zero => intro y1 y2; exact b_none
  | succ n ih =>
    intro y1 y2
    rw [wo_allDefined_4]
    refine b_iload_n (n := 5) 2 dX5_allDefined_4 rfl rfl rfl ?_
    refine b_iconst (n := 6) (v := 4) dX5_allDefined_5 rfl (by decide) ?_
    refine b_cmp_ge (n := 9) (tgt := 24) dX5_allDefined_6 (by decide) rfl (fun h6 => ?_) (fun h6 => ?_)
    · refine b_iload_n (n := 10) 1 dX5_allDefined_9 rfl rfl rfl ?_
      refine b_aload_n (n := 11) 0 dX5_allDefined_10 rfl rfl rfl ?_
      refine b_get (n := 14) (v := .ref (ad 0 0 5)) 0 f_X5_17 dX5_allDefined_11 rfl hWV_o0 rfl ?_
      refine b_iload_n (n := 15) 2 dX5_allDefined_14 rfl rfl rfl ?_
      refine b_iald (n := 16) 5 dX5_allDefined_15 rfl hWV_a5 (fun v15 => ?_)
      refine b_iadd (n := 17) dX5_allDefined_16 rfl ?_
      refine b_istore_n (n := 18) (L' := [(1, .int (y1 + v15)), (0, .ref (ad 0 0 0)), (2, .int y2)]) dX5_allDefined_17 rfl rfl (Nat.le_of_ble_eq_true rfl) rfl ?_
      refine b_iinc (n := 21) (L' := [(2, .int (y2 + 1)), (1, .int (y1 + v15)), (0, .ref (ad 0 0 0))]) 2 1 dX5_allDefined_18 rfl rfl (by decide) (Nat.le_of_ble_eq_true rfl) rfl ?_
      refine b_goto (n := 4) dX5_allDefined_21 (by decide) ?_
      refine Bd.sub (L' := [(0, .ref (ad 0 0 0)), (1, .int (y1 + v15)), (2, .int (y2 + 1))]) [2, 1, 0] rfl ?_
      exact ih _ _
    · refine b_iload_n (n := 25) 1 dX5_allDefined_24 rfl rfl rfl ?_
      exact b_iret dX5_allDefined_25 rfl rfl
def wo_allDefined (N : Nat) (w : Mem)   : Option (Int32) :=
  wo_allDefined_4 N w N 0 0
set_option maxHeartbeats 400000 in
set_option maxRecDepth 100000 in
theorem c_wo_allDefined {l : Launch} {E : Ev} {ad : Ad3} {va : Nat → Nat → Nat} {d : Nat} {N : Nat} {rl : Nat} {w : Mem} {e : Mem} {I : Fam} {H : Fam} {pl : Nat → Nat} {vs : Fam}   (hd : 1 ≤ d) : Ct l yX5_allDefined cX5_allDefined 3 (some .int) d E (hWV E ad va rl w e I H pl vs) [.ref (ad 0 0 0)] (fun v : Int32 => (some (.int v), hWV E ad va rl w e I H pl vs)) (wo_allDefined N w) := by
  refine Ct.of2 (own := RX5) (L := [(0, .ref (ad 0 0 0))]) rfl (by decide +kernel) (Nat.le_of_ble_eq_true rfl) rfl ?_
  unfold wo_allDefined
  refine b_iconst (n := 1) (v := 0) dX5_allDefined_0 rfl (by decide) ?_
  refine b_istore_n (n := 2) (L' := [(1, .int 0), (0, .ref (ad 0 0 0))]) dX5_allDefined_1 rfl rfl (Nat.le_of_ble_eq_true rfl) rfl ?_
  refine b_iconst (n := 3) (v := 0) dX5_allDefined_2 rfl (by decide) ?_
  refine b_istore_n (n := 4) (L' := [(2, .int 0), (1, .int 0), (0, .ref (ad 0 0 0))]) dX5_allDefined_3 rfl rfl (Nat.le_of_ble_eq_true rfl) rfl ?_
  refine Bd.sub (L' := [(0, .ref (ad 0 0 0)), (1, .int 0), (2, .int 0)]) [2, 1, 0] rfl ?_
  exact w_wo_allDefined_4 hd _ _ _
def wo_instancesOf_5 (N : Nat) (pl : Nat → Nat) (vs : Fam) (I : Fam)  : Nat → Int32 → Int32 → Int32 → Int32 → Option (Int32)
  | 0, _, _, _, _ => none
  | n + 1, y1, y2, y3, y4 =>
    if y4 < 6 then
      ((rx 6 y4).bind fun j18 =>
      if I j18 0 3 = y2 then
        ((rx 6 y4).bind fun j32 =>
        gd (pl j32 < 17) <|
        if vs (pl j32) 6 0 = y1 then
          (wo_instancesOf_5 N pl vs I n y1 y2 (y3 + 1) (y4 + 1))
        else
          (wo_instancesOf_5 N pl vs I n y1 y2 y3 (y4 + 1)))
      else
        (wo_instancesOf_5 N pl vs I n y1 y2 y3 (y4 + 1)))
    else
      (some y3)
set_option maxHeartbeats 400000 in
set_option maxRecDepth 100000 in
theorem w_wo_instancesOf_5 {l : Launch} {E : Ev} {ad : Ad3} {va : Nat → Nat → Nat} {A : Nat → Prop} {d : Nat} {N : Nat} {rl : Nat} {w : Mem} {e : Mem} {I : Fam} {H : Fam} {pl : Nat → Nat} {vs : Fam}  (hd : 1 ≤ d)  (n : Nat) : ∀ (y1 : Int32) (y2 : Int32) (y3 : Int32) (y4 : Int32), Bd l E A RX5 cX5_instancesOf 5 (some .int) d (fun v : Int32 => (some (.int v), hWV E ad va rl w e I H pl vs)) 5 [(0, .ref (ad 0 0 0)), (1, .int y1), (2, .int y2), (3, .int y3), (4, .int y4)] [] (hWV E ad va rl w e I H pl vs) (wo_instancesOf_5 N pl vs I n y1 y2 y3 y4) := by
  induction n with
  | zero => intro y1 y2 y3 y4; exact b_none
  | succ n ih =>
    intro y1 y2 y3 y4
    rw [wo_instancesOf_5]
    refine b_iload (n := 7) 4 dX5_instancesOf_5 rfl rfl ?_
    refine b_bipush (n := 9) (v := 6) dX5_instancesOf_7 rfl (by decide) ?_
    refine b_cmp_ge (n := 12) (tgt := 52) dX5_instancesOf_9 (by decide) rfl (fun h9 => ?_) (fun h9 => ?_)
    · refine b_aload_n (n := 13) 0 dX5_instancesOf_12 rfl rfl rfl ?_
      refine b_get (n := 16) (v := .ref (ad 0 0 4)) 0 f_X5_11 dX5_instancesOf_13 rfl hWV_o0 rfl ?_
      refine b_iload (n := 18) 4 dX5_instancesOf_16 rfl rfl ?_
      refine b_aald (n := 19) 4 2 dX5_instancesOf_18 rfl rfl hWV_r4 (fun _ => rfl) (fun j18 hj18 => ?_)
      refine b_get (n := 22) (v := .int (I j18 0 3)) (6 + 12 * j18) f_X5_54 dX5_instancesOf_19 rfl (hWV_io _ hj18) rfl ?_
      refine b_iload_n (n := 23) 2 dX5_instancesOf_22 rfl rfl rfl ?_
      refine b_cmp_ne (n := 26) (tgt := 46) dX5_instancesOf_23 (by decide) rfl (fun h23 => ?_) (fun h23 => ?_)
      · refine b_aload_n (n := 27) 0 dX5_instancesOf_26 rfl rfl rfl ?_
        refine b_get (n := 30) (v := .ref (ad 0 0 4)) 0 f_X5_11 dX5_instancesOf_27 rfl hWV_o0 rfl ?_
        refine b_iload (n := 32) 4 dX5_instancesOf_30 rfl rfl ?_
        refine b_aald (n := 33) 4 2 dX5_instancesOf_32 rfl rfl hWV_r4 (fun _ => rfl) (fun j32 hj32 => ?_)
        refine b_gd (fun h33 => ?_)
        refine b_get (n := 36) (v := .ref (va (pl j32) 0)) (6 + 12 * j32) f_X5_57 dX5_instancesOf_33 rfl (hWV_io _ hj32) rfl ?_
        refine b_get (n := 39) (v := .int (vs (pl j32) 6 0)) (78 + 10 * (pl j32)) f_X5_61 dX5_instancesOf_36 rfl (hWV_vo _ h33) rfl ?_
        refine b_iload_n (n := 40) 1 dX5_instancesOf_39 rfl rfl rfl ?_
        refine b_cmp_ne (n := 43) (tgt := 46) dX5_instancesOf_40 (by decide) rfl (fun h40 => ?_) (fun h40 => ?_)
        · refine b_iinc (n := 46) (L' := [(3, .int (y3 + 1)), (0, .ref (ad 0 0 0)), (1, .int y1), (2, .int y2), (4, .int y4)]) 3 1 dX5_instancesOf_43 rfl rfl (by decide) (Nat.le_of_ble_eq_true rfl) rfl ?_
          refine b_iinc (n := 49) (L' := [(4, .int (y4 + 1)), (3, .int (y3 + 1)), (0, .ref (ad 0 0 0)), (1, .int y1), (2, .int y2)]) 4 1 dX5_instancesOf_46 rfl rfl (by decide) (Nat.le_of_ble_eq_true rfl) rfl ?_
          refine b_goto (n := 5) dX5_instancesOf_49 (by decide) ?_
          refine Bd.sub (L' := [(0, .ref (ad 0 0 0)), (1, .int y1), (2, .int y2), (3, .int (y3 + 1)), (4, .int (y4 + 1))]) [2, 3, 4, 1, 0] rfl ?_
          exact ih _ _ _ _
        · refine b_iinc (n := 49) (L' := [(4, .int (y4 + 1)), (0, .ref (ad 0 0 0)), (1, .int y1), (2, .int y2), (3, .int y3)]) 4 1 dX5_instancesOf_46 rfl rfl (by decide) (Nat.le_of_ble_eq_true rfl) rfl ?_
          refine b_goto (n := 5) dX5_instancesOf_49 (by decide) ?_
          refine Bd.sub (L' := [(0, .ref (ad 0 0 0)), (1, .int y1), (2, .int y2), (3, .int y3), (4, .int (y4 + 1))]) [1, 2, 3, 4, 0] rfl ?_
          exact ih _ _ _ _
      · refine b_iinc (n := 49) (L' := [(4, .int (y4 + 1)), (0, .ref (ad 0 0 0)), (1, .int y1), (2, .int y2), (3, .int y3)]) 4 1 dX5_instancesOf_46 rfl rfl (by decide) (Nat.le_of_ble_eq_true rfl) rfl ?_
        refine b_goto (n := 5) dX5_instancesOf_49 (by decide) ?_
        refine Bd.sub (L' := [(0, .ref (ad 0 0 0)), (1, .int y1), (2, .int y2), (3, .int y3), (4, .int (y4 + 1))]) [1, 2, 3, 4, 0] rfl ?_
        exact ih _ _ _ _
    · refine b_iload_n (n := 53) 3 dX5_instancesOf_52 rfl rfl rfl ?_
      exact b_iret dX5_instancesOf_53 rfl rfl
def wo_instancesOf (N : Nat) (pl : Nat → Nat) (vs : Fam) (I : Fam) (x1 : Int32) (x2 : Int32)  : Option (Int32) :=
  wo_instancesOf_5 N pl vs I N x1 x2 0 0
set_option maxHeartbeats 400000 in
set_option maxRecDepth 100000 in
theorem c_wo_instancesOf {l : Launch} {E : Ev} {ad : Ad3} {va : Nat → Nat → Nat} {d : Nat} {N : Nat} {rl : Nat} {w : Mem} {e : Mem} {I : Fam} {H : Fam} {pl : Nat → Nat} {vs : Fam} {x1 : Int32} {x2 : Int32}  (hd : 1 ≤ d) : Ct l yX5_instancesOf cX5_instancesOf 5 (some .int) d E (hWV E ad va rl w e I H pl vs) [.ref (ad 0 0 0), .int x1, .int x2] (fun v : Int32 => (some (.int v), hWV E ad va rl w e I H pl vs)) (wo_instancesOf N pl vs I x1 x2) := by
  refine Ct.of2 (own := RX5) (L := [(0, .ref (ad 0 0 0)), (1, .int x1), (2, .int x2)]) rfl (by decide +kernel) (Nat.le_of_ble_eq_true rfl) rfl ?_
  unfold wo_instancesOf
  refine b_iconst (n := 1) (v := 0) dX5_instancesOf_0 rfl (by decide) ?_
  refine b_istore_n (n := 2) (L' := [(3, .int 0), (0, .ref (ad 0 0 0)), (1, .int x1), (2, .int x2)]) dX5_instancesOf_1 rfl rfl (Nat.le_of_ble_eq_true rfl) rfl ?_
  refine b_iconst (n := 3) (v := 0) dX5_instancesOf_2 rfl (by decide) ?_
  refine b_istore (n := 5) (L' := [(4, .int 0), (3, .int 0), (0, .ref (ad 0 0 0)), (1, .int x1), (2, .int x2)]) dX5_instancesOf_3 rfl (Nat.le_of_ble_eq_true rfl) rfl ?_
  refine Bd.sub (L' := [(0, .ref (ad 0 0 0)), (1, .int x1), (2, .int x2), (3, .int 0), (4, .int 0)]) [2, 3, 4, 1, 0] rfl ?_
  exact w_wo_instancesOf_5 hd _ _ _ _ _
def wo_instancesWith_4 (N : Nat) (pl : Nat → Nat) (vs : Fam) (I : Fam)  : Nat → Int32 → Int32 → Int32 → Option (Int32)
  | 0, _, _, _ => none
  | n + 1, y1, y2, y3 =>
    if y3 < 4 then
      ((wo_instancesOf N pl vs I y3 y1).bind fun k13 =>
      wo_instancesWith_4 N pl vs I n y1 (y2 + k13) (y3 + 1))
    else
      (some y2)
set_option maxHeartbeats 400000 in
set_option maxRecDepth 100000 in
theorem w_wo_instancesWith_4 {l : Launch} {E : Ev} {ad : Ad3} {va : Nat → Nat → Nat} {A : Nat → Prop} {d : Nat} {N : Nat} {rl : Nat} {w : Mem} {e : Mem} {I : Fam} {H : Fam} {pl : Nat → Nat} {vs : Fam}  (hd : 2 ≤ d)  (n : Nat) : ∀ (y1 : Int32) (y2 : Int32) (y3 : Int32), Bd l E A RX5 cX5_instancesWith 4 (some .int) d (fun v : Int32 => (some (.int v), hWV E ad va rl w e I H pl vs)) 4 [(0, .ref (ad 0 0 0)), (1, .int y1), (2, .int y2), (3, .int y3)] [] (hWV E ad va rl w e I H pl vs) (wo_instancesWith_4 N pl vs I n y1 y2 y3) := by
  induction n with
  | zero => intro y1 y2 y3; exact b_none
  | succ n ih =>
    intro y1 y2 y3
    rw [wo_instancesWith_4]
    refine b_iload_n (n := 5) 3 dX5_instancesWith_4 rfl rfl rfl ?_
    refine b_iconst (n := 6) (v := 4) dX5_instancesWith_5 rfl (by decide) ?_
    refine b_cmp_ge (n := 9) (tgt := 24) dX5_instancesWith_6 (by decide) rfl (fun h6 => ?_) (fun h6 => ?_)
    · refine b_iload_n (n := 10) 2 dX5_instancesWith_9 rfl rfl rfl ?_
      refine b_aload_n (n := 11) 0 dX5_instancesWith_10 rfl rfl rfl ?_
      refine b_iload_n (n := 12) 3 dX5_instancesWith_11 rfl rfl rfl ?_
      refine b_iload_n (n := 13) 1 dX5_instancesWith_12 rfl rfl rfl ?_
      refine bV0i (n := 16) (As := [.int y3, .int y1]) (rest := [.int y2]) 0 lk_X5_66 (c_wo_instancesOf (Nat.le_refl _)) (by omega) rfl rfl rfl rfl (Nat.le_of_ble_eq_true rfl) dX5_instancesWith_13 rfl (fun k13 => ?_)
      refine b_iadd (n := 17) dX5_instancesWith_16 rfl ?_
      refine b_istore_n (n := 18) (L' := [(2, .int (y2 + k13)), (0, .ref (ad 0 0 0)), (1, .int y1), (3, .int y3)]) dX5_instancesWith_17 rfl rfl (Nat.le_of_ble_eq_true rfl) rfl ?_
      refine b_iinc (n := 21) (L' := [(3, .int (y3 + 1)), (2, .int (y2 + k13)), (0, .ref (ad 0 0 0)), (1, .int y1)]) 3 1 dX5_instancesWith_18 rfl rfl (by decide) (Nat.le_of_ble_eq_true rfl) rfl ?_
      refine b_goto (n := 4) dX5_instancesWith_21 (by decide) ?_
      refine Bd.sub (L' := [(0, .ref (ad 0 0 0)), (1, .int y1), (2, .int (y2 + k13)), (3, .int (y3 + 1))]) [2, 3, 1, 0] rfl ?_
      exact ih _ _ _
    · refine b_iload_n (n := 25) 2 dX5_instancesWith_24 rfl rfl rfl ?_
      exact b_iret dX5_instancesWith_25 rfl rfl
def wo_instancesWith (N : Nat) (pl : Nat → Nat) (vs : Fam) (I : Fam) (x1 : Int32)  : Option (Int32) :=
  wo_instancesWith_4 N pl vs I N x1 0 0
set_option maxHeartbeats 400000 in
set_option maxRecDepth 100000 in
theorem c_wo_instancesWith {l : Launch} {E : Ev} {ad : Ad3} {va : Nat → Nat → Nat} {d : Nat} {N : Nat} {rl : Nat} {w : Mem} {e : Mem} {I : Fam} {H : Fam} {pl : Nat → Nat} {vs : Fam} {x1 : Int32}  (hd : 2 ≤ d) : Ct l yX5_instancesWith cX5_instancesWith 4 (some .int) d E (hWV E ad va rl w e I H pl vs) [.ref (ad 0 0 0), .int x1] (fun v : Int32 => (some (.int v), hWV E ad va rl w e I H pl vs)) (wo_instancesWith N pl vs I x1) := by
  refine Ct.of2 (own := RX5) (L := [(0, .ref (ad 0 0 0)), (1, .int x1)]) rfl (by decide +kernel) (Nat.le_of_ble_eq_true rfl) rfl ?_
  unfold wo_instancesWith
  refine b_iconst (n := 1) (v := 0) dX5_instancesWith_0 rfl (by decide) ?_
  refine b_istore_n (n := 2) (L' := [(2, .int 0), (0, .ref (ad 0 0 0)), (1, .int x1)]) dX5_instancesWith_1 rfl rfl (Nat.le_of_ble_eq_true rfl) rfl ?_
  refine b_iconst (n := 3) (v := 0) dX5_instancesWith_2 rfl (by decide) ?_
  refine b_istore_n (n := 4) (L' := [(3, .int 0), (2, .int 0), (0, .ref (ad 0 0 0)), (1, .int x1)]) dX5_instancesWith_3 rfl rfl (Nat.le_of_ble_eq_true rfl) rfl ?_
  refine Bd.sub (L' := [(0, .ref (ad 0 0 0)), (1, .int x1), (2, .int 0), (3, .int 0)]) [2, 3, 1, 0] rfl ?_
  exact w_wo_instancesWith_4 hd _ _ _ _
def wo_endedOf (N : Nat) (pl : Nat → Nat) (vs : Fam) (I : Fam) (x1 : Int32)  : Option (Int32) :=
  (wo_instancesOf N pl vs I x1 3).bind fun k3 =>
  (wo_instancesOf N pl vs I x1 4).bind fun k9 =>
  (wo_instancesOf N pl vs I x1 1).bind fun k17 =>
  some (k17 + (k3 + k9))
set_option maxHeartbeats 400000 in
set_option maxRecDepth 100000 in
theorem c_wo_endedOf {l : Launch} {E : Ev} {ad : Ad3} {va : Nat → Nat → Nat} {d : Nat} {N : Nat} {rl : Nat} {w : Mem} {e : Mem} {I : Fam} {H : Fam} {pl : Nat → Nat} {vs : Fam} {x1 : Int32}  (hd : 2 ≤ d) : Ct l yX5_endedOf cX5_endedOf 3 (some .int) d E (hWV E ad va rl w e I H pl vs) [.ref (ad 0 0 0), .int x1] (fun v : Int32 => (some (.int v), hWV E ad va rl w e I H pl vs)) (wo_endedOf N pl vs I x1) := by
  refine Ct.of2 (own := RX5) (L := [(0, .ref (ad 0 0 0)), (1, .int x1)]) rfl (by decide +kernel) (Nat.le_of_ble_eq_true rfl) rfl ?_
  unfold wo_endedOf
  refine b_aload_n (n := 1) 0 dX5_endedOf_0 rfl rfl rfl ?_
  refine b_iload_n (n := 2) 1 dX5_endedOf_1 rfl rfl rfl ?_
  refine b_iconst (n := 3) (v := 3) dX5_endedOf_2 rfl (by decide) ?_
  refine bV0i (n := 6) (As := [.int x1, .int 3]) (rest := []) 0 lk_X5_66 (c_wo_instancesOf (Nat.le_refl _)) (by omega) rfl rfl rfl rfl (Nat.le_of_ble_eq_true rfl) dX5_endedOf_3 rfl (fun k3 => ?_)
  refine b_aload_n (n := 7) 0 dX5_endedOf_6 rfl rfl rfl ?_
  refine b_iload_n (n := 8) 1 dX5_endedOf_7 rfl rfl rfl ?_
  refine b_iconst (n := 9) (v := 4) dX5_endedOf_8 rfl (by decide) ?_
  refine bV0i (n := 12) (As := [.int x1, .int 4]) (rest := [.int k3]) 0 lk_X5_66 (c_wo_instancesOf (Nat.le_refl _)) (by omega) rfl rfl rfl rfl (Nat.le_of_ble_eq_true rfl) dX5_endedOf_9 rfl (fun k9 => ?_)
  refine b_iadd (n := 13) dX5_endedOf_12 rfl ?_
  refine b_istore_n (n := 14) (L' := [(2, .int (k3 + k9)), (0, .ref (ad 0 0 0)), (1, .int x1)]) dX5_endedOf_13 rfl rfl (Nat.le_of_ble_eq_true rfl) rfl ?_
  refine b_aload_n (n := 15) 1 dX5_endedOf_14 rfl rfl rfl ?_
  refine b_iload_n (n := 16) 2 dX5_endedOf_15 rfl rfl rfl ?_
  refine b_iconst (n := 17) (v := 1) dX5_endedOf_16 rfl (by decide) ?_
  refine bV0i (n := 20) (As := [.int x1, .int 1]) (rest := []) 0 lk_X5_66 (c_wo_instancesOf (Nat.le_refl _)) (by omega) rfl rfl rfl rfl (Nat.le_of_ble_eq_true rfl) dX5_endedOf_17 rfl (fun k17 => ?_)
  refine b_iload_n (n := 21) 0 dX5_endedOf_20 rfl rfl rfl ?_
  refine b_iadd (n := 22) dX5_endedOf_21 rfl ?_
  exact b_iret dX5_endedOf_22 rfl rfl
def wo_startedOf (N : Nat) (pl : Nat → Nat) (vs : Fam) (I : Fam) (x1 : Int32)  : Option (Int32) :=
  (wo_endedOf N pl vs I x1).bind fun k2 =>
  (wo_instancesOf N pl vs I x1 0).bind fun k8 =>
  (wo_instancesOf N pl vs I x1 2).bind fun k15 =>
  some ((k2 + k8) + k15)
set_option maxHeartbeats 400000 in
set_option maxRecDepth 100000 in
theorem c_wo_startedOf {l : Launch} {E : Ev} {ad : Ad3} {va : Nat → Nat → Nat} {d : Nat} {N : Nat} {rl : Nat} {w : Mem} {e : Mem} {I : Fam} {H : Fam} {pl : Nat → Nat} {vs : Fam} {x1 : Int32}  (hd : 3 ≤ d) : Ct l yX5_startedOf cX5_startedOf 2 (some .int) d E (hWV E ad va rl w e I H pl vs) [.ref (ad 0 0 0), .int x1] (fun v : Int32 => (some (.int v), hWV E ad va rl w e I H pl vs)) (wo_startedOf N pl vs I x1) := by
  refine Ct.of2 (own := RX5) (L := [(0, .ref (ad 0 0 0)), (1, .int x1)]) rfl (by decide +kernel) (Nat.le_of_ble_eq_true rfl) rfl ?_
  unfold wo_startedOf
  refine b_aload_n (n := 1) 0 dX5_startedOf_0 rfl rfl rfl ?_
  refine b_iload_n (n := 2) 1 dX5_startedOf_1 rfl rfl rfl ?_
  refine bV0i (n := 5) (As := [.int x1]) (rest := []) 0 lk_X5_70 (c_wo_endedOf (Nat.le_refl _)) (by omega) rfl rfl rfl rfl (Nat.le_of_ble_eq_true rfl) dX5_startedOf_2 rfl (fun k2 => ?_)
  refine b_aload_n (n := 6) 0 dX5_startedOf_5 rfl rfl rfl ?_
  refine b_iload_n (n := 7) 1 dX5_startedOf_6 rfl rfl rfl ?_
  refine b_iconst (n := 8) (v := 0) dX5_startedOf_7 rfl (by decide) ?_
  refine bV0i (n := 11) (As := [.int x1, .int 0]) (rest := [.int k2]) 0 lk_X5_66 (c_wo_instancesOf (Nat.le_refl _)) (by omega) rfl rfl rfl rfl (Nat.le_of_ble_eq_true rfl) dX5_startedOf_8 rfl (fun k8 => ?_)
  refine b_iadd (n := 12) dX5_startedOf_11 rfl ?_
  refine b_aload_n (n := 13) 0 dX5_startedOf_12 rfl rfl rfl ?_
  refine b_iload_n (n := 14) 1 dX5_startedOf_13 rfl rfl rfl ?_
  refine b_iconst (n := 15) (v := 2) dX5_startedOf_14 rfl (by decide) ?_
  refine bV0i (n := 18) (As := [.int x1, .int 2]) (rest := [.int (k2 + k8)]) 0 lk_X5_66 (c_wo_instancesOf (Nat.le_refl _)) (by omega) rfl rfl rfl rfl (Nat.le_of_ble_eq_true rfl) dX5_startedOf_15 rfl (fun k15 => ?_)
  refine b_iadd (n := 19) dX5_startedOf_18 rfl ?_
  exact b_iret dX5_startedOf_19 rfl rfl
def wo_started (N : Nat) (pl : Nat → Nat) (vs : Fam) (I : Fam)   : Option (Int32) :=
  (wo_instancesWith N pl vs I ((-1))).bind fun k4 =>
  some (6 - k4)
set_option maxHeartbeats 400000 in
set_option maxRecDepth 100000 in
theorem c_wo_started {l : Launch} {E : Ev} {ad : Ad3} {va : Nat → Nat → Nat} {d : Nat} {N : Nat} {rl : Nat} {w : Mem} {e : Mem} {I : Fam} {H : Fam} {pl : Nat → Nat} {vs : Fam}   (hd : 3 ≤ d) : Ct l yX5_started cX5_started 1 (some .int) d E (hWV E ad va rl w e I H pl vs) [.ref (ad 0 0 0)] (fun v : Int32 => (some (.int v), hWV E ad va rl w e I H pl vs)) (wo_started N pl vs I) := by
  refine Ct.of2 (own := RX5) (L := [(0, .ref (ad 0 0 0))]) rfl (by decide +kernel) (Nat.le_of_ble_eq_true rfl) rfl ?_
  unfold wo_started
  refine b_bipush (n := 2) (v := 6) dX5_started_0 rfl (by decide) ?_
  refine b_aload_n (n := 3) 0 dX5_started_2 rfl rfl rfl ?_
  refine b_iconst (n := 4) (v := -1) dX5_started_3 rfl (by decide) ?_
  refine bV0i (n := 7) (As := [.int ((-1))]) (rest := [.int 6]) 0 lk_X5_74 (c_wo_instancesWith (Nat.le_refl _)) (by omega) rfl rfl rfl rfl (Nat.le_of_ble_eq_true rfl) dX5_started_4 rfl (fun k4 => ?_)
  refine b_isub (n := 8) dX5_started_7 rfl ?_
  exact b_iret dX5_started_8 rfl rfl
def wo_minutesOf_4 (N : Nat) (pl : Nat → Nat) (vs : Fam) (I : Fam)  : Nat → Int32 → Int32 → Int32 → Option (Int32)
  | 0, _, _, _ => none
  | n + 1, y1, y2, y3 =>
    if y3 < 6 then
      ((rx 6 y3).bind fun j15 =>
      gd (pl j15 < 17) <|
      (in_hasEnded (I j15)).bind fun k16 =>
      if k16 = true then
        ((rx 6 y3).bind fun j27 =>
        gd (pl j27 < 17) <|
        if vs (pl j27) 6 0 = y1 then
          ((rx 6 y3).bind fun j44 =>
          (rx 6 y3).bind fun j53 =>
          wo_minutesOf_4 N pl vs I n y1 (y2 + ((I j44 0 5) - (I j53 0 4))) (y3 + 1))
        else
          (wo_minutesOf_4 N pl vs I n y1 y2 (y3 + 1)))
      else
        (wo_minutesOf_4 N pl vs I n y1 y2 (y3 + 1)))
    else
      (some y2)
set_option maxHeartbeats 400000 in
set_option maxRecDepth 100000 in
theorem w_wo_minutesOf_4 {l : Launch} {E : Ev} {ad : Ad3} {va : Nat → Nat → Nat} {A : Nat → Prop} {d : Nat} {N : Nat} {rl : Nat} {w : Mem} {e : Mem} {I : Fam} {H : Fam} {pl : Nat → Nat} {vs : Fam}  (hd : 2 ≤ d)  (n : Nat) : ∀ (y1 : Int32) (y2 : Int32) (y3 : Int32), Bd l E A RX5 cX5_minutesOf 4 (some .int) d (fun v : Int32 => (some (.int v), hWV E ad va rl w e I H pl vs)) 4 [(0, .ref (ad 0 0 0)), (1, .int y1), (2, .int y2), (3, .int y3)] [] (hWV E ad va rl w e I H pl vs) (wo_minutesOf_4 N pl vs I n y1 y2 y3) := by
  induction n with
  | zero => intro y1 y2 y3; exact b_none
  | succ n ih =>
    intro y1 y2 y3
    rw [wo_minutesOf_4]
    refine b_iload_n (n := 5) 3 dX5_minutesOf_4 rfl rfl rfl ?_
    refine b_bipush (n := 7) (v := 6) dX5_minutesOf_5 rfl (by decide) ?_
    refine b_cmp_ge (n := 10) (tgt := 66) dX5_minutesOf_7 (by decide) rfl (fun h7 => ?_) (fun h7 => ?_)
    · refine b_aload_n (n := 11) 0 dX5_minutesOf_10 rfl rfl rfl ?_
      refine b_get (n := 14) (v := .ref (ad 0 0 4)) 0 f_X5_11 dX5_minutesOf_11 rfl hWV_o0 rfl ?_
      refine b_iload_n (n := 15) 3 dX5_minutesOf_14 rfl rfl rfl ?_
      refine b_aald (n := 16) 4 2 dX5_minutesOf_15 rfl rfl hWV_r4 (fun _ => rfl) (fun j15 hj15 => ?_)
      refine b_gd (fun h16 => ?_)
      refine bVb (n := 19) (As := []) (rest := []) (6 + 12 * j15) (plA j15 ++ plB (pl j15)) lk_X5_77 (c_in_hasEnded (ad := adI ad va j15 (pl j15)) (Nat.le_refl _)) (by omega) (hWV_sub hj15 h16) (plN hj15) (hWV_io _ hj15) rfl rfl rfl (Nat.le_of_ble_eq_true rfl) dX5_minutesOf_16 rfl (fun k16 => ?_)
      refine b_bz (n := 22) (tgt := 60) dX5_minutesOf_19 (by decide) rfl (fun h19 => ?_) (fun h19 => ?_)
      · refine b_aload_n (n := 23) 0 dX5_minutesOf_22 rfl rfl rfl ?_
        refine b_get (n := 26) (v := .ref (ad 0 0 4)) 0 f_X5_11 dX5_minutesOf_23 rfl hWV_o0 rfl ?_
        refine b_iload_n (n := 27) 3 dX5_minutesOf_26 rfl rfl rfl ?_
        refine b_aald (n := 28) 4 2 dX5_minutesOf_27 rfl rfl hWV_r4 (fun _ => rfl) (fun j27 hj27 => ?_)
        refine b_gd (fun h28 => ?_)
        refine b_get (n := 31) (v := .ref (va (pl j27) 0)) (6 + 12 * j27) f_X5_57 dX5_minutesOf_28 rfl (hWV_io _ hj27) rfl ?_
        refine b_get (n := 34) (v := .int (vs (pl j27) 6 0)) (78 + 10 * (pl j27)) f_X5_61 dX5_minutesOf_31 rfl (hWV_vo _ h28) rfl ?_
        refine b_iload_n (n := 35) 1 dX5_minutesOf_34 rfl rfl rfl ?_
        refine b_cmp_ne (n := 38) (tgt := 60) dX5_minutesOf_35 (by decide) rfl (fun h35 => ?_) (fun h35 => ?_)
        · refine b_iload_n (n := 39) 2 dX5_minutesOf_38 rfl rfl rfl ?_
          refine b_aload_n (n := 40) 0 dX5_minutesOf_39 rfl rfl rfl ?_
          refine b_get (n := 43) (v := .ref (ad 0 0 4)) 0 f_X5_11 dX5_minutesOf_40 rfl hWV_o0 rfl ?_
          refine b_iload_n (n := 44) 3 dX5_minutesOf_43 rfl rfl rfl ?_
          refine b_aald (n := 45) 4 2 dX5_minutesOf_44 rfl rfl hWV_r4 (fun _ => rfl) (fun j44 hj44 => ?_)
          refine b_get (n := 48) (v := .int (I j44 0 5)) (6 + 12 * j44) f_X5_81 dX5_minutesOf_45 rfl (hWV_io _ hj44) rfl ?_
          refine b_aload_n (n := 49) 0 dX5_minutesOf_48 rfl rfl rfl ?_
          refine b_get (n := 52) (v := .ref (ad 0 0 4)) 0 f_X5_11 dX5_minutesOf_49 rfl hWV_o0 rfl ?_
          refine b_iload_n (n := 53) 3 dX5_minutesOf_52 rfl rfl rfl ?_
          refine b_aald (n := 54) 4 2 dX5_minutesOf_53 rfl rfl hWV_r4 (fun _ => rfl) (fun j53 hj53 => ?_)
          refine b_get (n := 57) (v := .int (I j53 0 4)) (6 + 12 * j53) f_X5_84 dX5_minutesOf_54 rfl (hWV_io _ hj53) rfl ?_
          refine b_isub (n := 58) dX5_minutesOf_57 rfl ?_
          refine b_iadd (n := 59) dX5_minutesOf_58 rfl ?_
          refine b_istore_n (n := 60) (L' := [(2, .int (y2 + ((I j44 0 5) - (I j53 0 4)))), (0, .ref (ad 0 0 0)), (1, .int y1), (3, .int y3)]) dX5_minutesOf_59 rfl rfl (Nat.le_of_ble_eq_true rfl) rfl ?_
          refine b_iinc (n := 63) (L' := [(3, .int (y3 + 1)), (2, .int (y2 + ((I j44 0 5) - (I j53 0 4)))), (0, .ref (ad 0 0 0)), (1, .int y1)]) 3 1 dX5_minutesOf_60 rfl rfl (by decide) (Nat.le_of_ble_eq_true rfl) rfl ?_
          refine b_goto (n := 4) dX5_minutesOf_63 (by decide) ?_
          refine Bd.sub (L' := [(0, .ref (ad 0 0 0)), (1, .int y1), (2, .int (y2 + ((I j44 0 5) - (I j53 0 4)))), (3, .int (y3 + 1))]) [2, 3, 1, 0] rfl ?_
          exact ih _ _ _
        · refine b_iinc (n := 63) (L' := [(3, .int (y3 + 1)), (0, .ref (ad 0 0 0)), (1, .int y1), (2, .int y2)]) 3 1 dX5_minutesOf_60 rfl rfl (by decide) (Nat.le_of_ble_eq_true rfl) rfl ?_
          refine b_goto (n := 4) dX5_minutesOf_63 (by decide) ?_
          refine Bd.sub (L' := [(0, .ref (ad 0 0 0)), (1, .int y1), (2, .int y2), (3, .int (y3 + 1))]) [1, 2, 3, 0] rfl ?_
          exact ih _ _ _
      · refine b_iinc (n := 63) (L' := [(3, .int (y3 + 1)), (0, .ref (ad 0 0 0)), (1, .int y1), (2, .int y2)]) 3 1 dX5_minutesOf_60 rfl rfl (by decide) (Nat.le_of_ble_eq_true rfl) rfl ?_
        refine b_goto (n := 4) dX5_minutesOf_63 (by decide) ?_
        refine Bd.sub (L' := [(0, .ref (ad 0 0 0)), (1, .int y1), (2, .int y2), (3, .int (y3 + 1))]) [1, 2, 3, 0] rfl ?_
        exact ih _ _ _
    · refine b_iload_n (n := 67) 2 dX5_minutesOf_66 rfl rfl rfl ?_
      exact b_iret dX5_minutesOf_67 rfl rfl
def wo_minutesOf (N : Nat) (pl : Nat → Nat) (vs : Fam) (I : Fam) (x1 : Int32)  : Option (Int32) :=
  wo_minutesOf_4 N pl vs I N x1 0 0
set_option maxHeartbeats 400000 in
set_option maxRecDepth 100000 in
theorem c_wo_minutesOf {l : Launch} {E : Ev} {ad : Ad3} {va : Nat → Nat → Nat} {d : Nat} {N : Nat} {rl : Nat} {w : Mem} {e : Mem} {I : Fam} {H : Fam} {pl : Nat → Nat} {vs : Fam} {x1 : Int32}  (hd : 2 ≤ d) : Ct l yX5_minutesOf cX5_minutesOf 4 (some .int) d E (hWV E ad va rl w e I H pl vs) [.ref (ad 0 0 0), .int x1] (fun v : Int32 => (some (.int v), hWV E ad va rl w e I H pl vs)) (wo_minutesOf N pl vs I x1) := by
  refine Ct.of2 (own := RX5) (L := [(0, .ref (ad 0 0 0)), (1, .int x1)]) rfl (by decide +kernel) (Nat.le_of_ble_eq_true rfl) rfl ?_
  unfold wo_minutesOf
  refine b_iconst (n := 1) (v := 0) dX5_minutesOf_0 rfl (by decide) ?_
  refine b_istore_n (n := 2) (L' := [(2, .int 0), (0, .ref (ad 0 0 0)), (1, .int x1)]) dX5_minutesOf_1 rfl rfl (Nat.le_of_ble_eq_true rfl) rfl ?_
  refine b_iconst (n := 3) (v := 0) dX5_minutesOf_2 rfl (by decide) ?_
  refine b_istore_n (n := 4) (L' := [(3, .int 0), (2, .int 0), (0, .ref (ad 0 0 0)), (1, .int x1)]) dX5_minutesOf_3 rfl rfl (Nat.le_of_ble_eq_true rfl) rfl ?_
  refine Bd.sub (L' := [(0, .ref (ad 0 0 0)), (1, .int x1), (2, .int 0), (3, .int 0)]) [2, 3, 1, 0] rfl ?_
  exact w_wo_minutesOf_4 hd _ _ _ _
