theorem qd0_0 : (decode cX0_init 0 = .ok (.aload_n 0, 1)) ∧ (decode cX0_init 1 = .ok (.invokespecial 3, 3)) ∧ (decode cX0_init 4 = .ok (.aload_n 0, 1)) ∧ (decode cX0_init 5 = .ok (.new 9, 3)) ∧ (decode cX0_init 8 = .ok (.dup, 1)) ∧ (decode cX0_init 9 = .ok (.invokespecial 11, 3)) ∧ (decode cX0_init 12 = .ok (.putfield 12, 3)) ∧ (decode cX0_init 15 = .ok (.aload_n 0, 1)) ∧ (decode cX0_init 16 = .ok (.new 18, 3)) ∧ (decode cX0_init 19 = .ok (.dup, 1)) ∧ (decode cX0_init 20 = .ok (.invokespecial 20, 3)) ∧ (decode cX0_init 23 = .ok (.putfield 21, 3)) := by decide +kernel
theorem dX0_init_0 : decode cX0_init 0 = .ok (.aload_n 0, 1) := qd0_0.1
theorem dX0_init_1 : decode cX0_init 1 = .ok (.invokespecial 3, 3) := qd0_0.2.1
theorem dX0_init_4 : decode cX0_init 4 = .ok (.aload_n 0, 1) := qd0_0.2.2.1
theorem dX0_init_5 : decode cX0_init 5 = .ok (.new 9, 3) := qd0_0.2.2.2.1
theorem dX0_init_8 : decode cX0_init 8 = .ok (.dup, 1) := qd0_0.2.2.2.2.1
theorem dX0_init_9 : decode cX0_init 9 = .ok (.invokespecial 11, 3) := qd0_0.2.2.2.2.2.1
theorem dX0_init_12 : decode cX0_init 12 = .ok (.putfield 12, 3) := qd0_0.2.2.2.2.2.2.1
theorem dX0_init_15 : decode cX0_init 15 = .ok (.aload_n 0, 1) := qd0_0.2.2.2.2.2.2.2.1
theorem dX0_init_16 : decode cX0_init 16 = .ok (.new 18, 3) := qd0_0.2.2.2.2.2.2.2.2.1
theorem dX0_init_19 : decode cX0_init 19 = .ok (.dup, 1) := qd0_0.2.2.2.2.2.2.2.2.2.1
theorem dX0_init_20 : decode cX0_init 20 = .ok (.invokespecial 20, 3) := qd0_0.2.2.2.2.2.2.2.2.2.2.1
theorem dX0_init_23 : decode cX0_init 23 = .ok (.putfield 21, 3) := qd0_0.2.2.2.2.2.2.2.2.2.2.2
theorem qd0_1 : (decode cX0_init 26 = .ok (.aload_n 0, 1)) ∧ (decode cX0_init 27 = .ok (.bipush 6, 2)) ∧ (decode cX0_init 29 = .ok (.newarray .int, 2)) ∧ (decode cX0_init 31 = .ok (.putfield 25, 3)) ∧ (decode cX0_init 34 = .ok (.aload_n 0, 1)) ∧ (decode cX0_init 35 = .ok (.new 18, 3)) ∧ (decode cX0_init 38 = .ok (.dup, 1)) ∧ (decode cX0_init 39 = .ok (.invokespecial 20, 3)) ∧ (decode cX0_init 42 = .ok (.putfield 29, 3)) ∧ (decode cX0_init 45 = .ok (.return_, 1)) := by decide +kernel
theorem dX0_init_26 : decode cX0_init 26 = .ok (.aload_n 0, 1) := qd0_1.1
theorem dX0_init_27 : decode cX0_init 27 = .ok (.bipush 6, 2) := qd0_1.2.1
theorem dX0_init_29 : decode cX0_init 29 = .ok (.newarray .int, 2) := qd0_1.2.2.1
theorem dX0_init_31 : decode cX0_init 31 = .ok (.putfield 25, 3) := qd0_1.2.2.2.1
theorem dX0_init_34 : decode cX0_init 34 = .ok (.aload_n 0, 1) := qd0_1.2.2.2.2.1
theorem dX0_init_35 : decode cX0_init 35 = .ok (.new 18, 3) := qd0_1.2.2.2.2.2.1
theorem dX0_init_38 : decode cX0_init 38 = .ok (.dup, 1) := qd0_1.2.2.2.2.2.2.1
theorem dX0_init_39 : decode cX0_init 39 = .ok (.invokespecial 20, 3) := qd0_1.2.2.2.2.2.2.2.1
theorem dX0_init_42 : decode cX0_init 42 = .ok (.putfield 29, 3) := qd0_1.2.2.2.2.2.2.2.2.1
theorem dX0_init_45 : decode cX0_init 45 = .ok (.return_, 1) := qd0_1.2.2.2.2.2.2.2.2.2
theorem qd0_2 : (decode cX0_freeWith 0 = .ok (.iload_n 2, 1)) ∧ (decode cX0_freeWith 1 = .ok (.aload_n 1, 1)) ∧ (decode cX0_freeWith 2 = .ok (.invokevirtual 32, 3)) ∧ (decode cX0_freeWith 5 = .ok (.iconst (-1), 1)) ∧ (decode cX0_freeWith 6 = .ok (.ixor, 1)) ∧ (decode cX0_freeWith 7 = .ok (.iand, 1)) ∧ (decode cX0_freeWith 8 = .ok (.istore_n 3, 1)) ∧ (decode cX0_freeWith 9 = .ok (.aload_n 1, 1)) ∧ (decode cX0_freeWith 10 = .ok (.iload_n 3, 1)) ∧ (decode cX0_freeWith 11 = .ok (.invokevirtual 36, 3)) ∧ (decode cX0_freeWith 14 = .ok (.istore 4, 2)) ∧ (decode cX0_freeWith 16 = .ok (.iload 4, 2)) := by decide +kernel
theorem dX0_freeWith_0 : decode cX0_freeWith 0 = .ok (.iload_n 2, 1) := qd0_2.1
theorem dX0_freeWith_1 : decode cX0_freeWith 1 = .ok (.aload_n 1, 1) := qd0_2.2.1
theorem dX0_freeWith_2 : decode cX0_freeWith 2 = .ok (.invokevirtual 32, 3) := qd0_2.2.2.1
theorem dX0_freeWith_5 : decode cX0_freeWith 5 = .ok (.iconst (-1), 1) := qd0_2.2.2.2.1
theorem dX0_freeWith_6 : decode cX0_freeWith 6 = .ok (.ixor, 1) := qd0_2.2.2.2.2.1
theorem dX0_freeWith_7 : decode cX0_freeWith 7 = .ok (.iand, 1) := qd0_2.2.2.2.2.2.1
theorem dX0_freeWith_8 : decode cX0_freeWith 8 = .ok (.istore_n 3, 1) := qd0_2.2.2.2.2.2.2.1
theorem dX0_freeWith_9 : decode cX0_freeWith 9 = .ok (.aload_n 1, 1) := qd0_2.2.2.2.2.2.2.2.1
theorem dX0_freeWith_10 : decode cX0_freeWith 10 = .ok (.iload_n 3, 1) := qd0_2.2.2.2.2.2.2.2.2.1
theorem dX0_freeWith_11 : decode cX0_freeWith 11 = .ok (.invokevirtual 36, 3) := qd0_2.2.2.2.2.2.2.2.2.2.1
theorem dX0_freeWith_14 : decode cX0_freeWith 14 = .ok (.istore 4, 2) := qd0_2.2.2.2.2.2.2.2.2.2.2.1
theorem dX0_freeWith_16 : decode cX0_freeWith 16 = .ok (.iload 4, 2) := qd0_2.2.2.2.2.2.2.2.2.2.2.2
theorem qd0_3 : (decode cX0_freeWith 18 = .ok (.iconst (-1), 1)) ∧ (decode cX0_freeWith 19 = .ok (.if_icmp .eq 6, 3)) ∧ (decode cX0_freeWith 22 = .ok (.iload 4, 2)) ∧ (decode cX0_freeWith 24 = .ok (.ireturn, 1)) ∧ (decode cX0_freeWith 25 = .ok (.aload_n 1, 1)) ∧ (decode cX0_freeWith 26 = .ok (.astore 5, 2)) ∧ (decode cX0_freeWith 28 = .ok (.iload_n 3, 1)) ∧ (decode cX0_freeWith 29 = .ok (.ifCond .eq 15, 3)) ∧ (decode cX0_freeWith 32 = .ok (.aload_n 0, 1)) ∧ (decode cX0_freeWith 33 = .ok (.getfield 29, 3)) ∧ (decode cX0_freeWith 36 = .ok (.astore 5, 2)) ∧ (decode cX0_freeWith 38 = .ok (.aload 5, 2)) := by decide +kernel
theorem dX0_freeWith_18 : decode cX0_freeWith 18 = .ok (.iconst (-1), 1) := qd0_3.1
theorem dX0_freeWith_19 : decode cX0_freeWith 19 = .ok (.if_icmp .eq 6, 3) := qd0_3.2.1
theorem dX0_freeWith_22 : decode cX0_freeWith 22 = .ok (.iload 4, 2) := qd0_3.2.2.1
theorem dX0_freeWith_24 : decode cX0_freeWith 24 = .ok (.ireturn, 1) := qd0_3.2.2.2.1
theorem dX0_freeWith_25 : decode cX0_freeWith 25 = .ok (.aload_n 1, 1) := qd0_3.2.2.2.2.1
theorem dX0_freeWith_26 : decode cX0_freeWith 26 = .ok (.astore 5, 2) := qd0_3.2.2.2.2.2.1
theorem dX0_freeWith_28 : decode cX0_freeWith 28 = .ok (.iload_n 3, 1) := qd0_3.2.2.2.2.2.2.1
theorem dX0_freeWith_29 : decode cX0_freeWith 29 = .ok (.ifCond .eq 15, 3) := qd0_3.2.2.2.2.2.2.2.1
theorem dX0_freeWith_32 : decode cX0_freeWith 32 = .ok (.aload_n 0, 1) := qd0_3.2.2.2.2.2.2.2.2.1
theorem dX0_freeWith_33 : decode cX0_freeWith 33 = .ok (.getfield 29, 3) := qd0_3.2.2.2.2.2.2.2.2.2.1
theorem dX0_freeWith_36 : decode cX0_freeWith 36 = .ok (.astore 5, 2) := qd0_3.2.2.2.2.2.2.2.2.2.2.1
theorem dX0_freeWith_38 : decode cX0_freeWith 38 = .ok (.aload 5, 2) := qd0_3.2.2.2.2.2.2.2.2.2.2.2
theorem qd0_4 : (decode cX0_freeWith 40 = .ok (.aload_n 1, 1)) ∧ (decode cX0_freeWith 41 = .ok (.invokevirtual 40, 3)) ∧ (decode cX0_freeWith 44 = .ok (.iconst 0, 1)) ∧ (decode cX0_freeWith 45 = .ok (.istore 6, 2)) ∧ (decode cX0_freeWith 47 = .ok (.iload 6, 2)) ∧ (decode cX0_freeWith 49 = .ok (.aload_n 1, 1)) ∧ (decode cX0_freeWith 50 = .ok (.getfield 44, 3)) ∧ (decode cX0_freeWith 53 = .ok (.if_icmp .ge 25, 3)) ∧ (decode cX0_freeWith 56 = .ok (.iload_n 3, 1)) ∧ (decode cX0_freeWith 57 = .ok (.iload 6, 2)) ∧ (decode cX0_freeWith 59 = .ok (.ishr, 1)) ∧ (decode cX0_freeWith 60 = .ok (.iconst 1, 1)) := by decide +kernel
theorem dX0_freeWith_40 : decode cX0_freeWith 40 = .ok (.aload_n 1, 1) := qd0_4.1
theorem dX0_freeWith_41 : decode cX0_freeWith 41 = .ok (.invokevirtual 40, 3) := qd0_4.2.1
theorem dX0_freeWith_44 : decode cX0_freeWith 44 = .ok (.iconst 0, 1) := qd0_4.2.2.1
theorem dX0_freeWith_45 : decode cX0_freeWith 45 = .ok (.istore 6, 2) := qd0_4.2.2.2.1
theorem dX0_freeWith_47 : decode cX0_freeWith 47 = .ok (.iload 6, 2) := qd0_4.2.2.2.2.1
theorem dX0_freeWith_49 : decode cX0_freeWith 49 = .ok (.aload_n 1, 1) := qd0_4.2.2.2.2.2.1
theorem dX0_freeWith_50 : decode cX0_freeWith 50 = .ok (.getfield 44, 3) := qd0_4.2.2.2.2.2.2.1
theorem dX0_freeWith_53 : decode cX0_freeWith 53 = .ok (.if_icmp .ge 25, 3) := qd0_4.2.2.2.2.2.2.2.1
theorem dX0_freeWith_56 : decode cX0_freeWith 56 = .ok (.iload_n 3, 1) := qd0_4.2.2.2.2.2.2.2.2.1
theorem dX0_freeWith_57 : decode cX0_freeWith 57 = .ok (.iload 6, 2) := qd0_4.2.2.2.2.2.2.2.2.2.1
theorem dX0_freeWith_59 : decode cX0_freeWith 59 = .ok (.ishr, 1) := qd0_4.2.2.2.2.2.2.2.2.2.2.1
theorem dX0_freeWith_60 : decode cX0_freeWith 60 = .ok (.iconst 1, 1) := qd0_4.2.2.2.2.2.2.2.2.2.2.2
theorem qd0_5 : (decode cX0_freeWith 61 = .ok (.iand, 1)) ∧ (decode cX0_freeWith 62 = .ok (.ifCond .eq 10, 3)) ∧ (decode cX0_freeWith 65 = .ok (.aload 5, 2)) ∧ (decode cX0_freeWith 67 = .ok (.iload 6, 2)) ∧ (decode cX0_freeWith 69 = .ok (.invokevirtual 48, 3)) ∧ (decode cX0_freeWith 72 = .ok (.iinc 6 1, 3)) ∧ (decode cX0_freeWith 75 = .ok (.goto (-28), 3)) ∧ (decode cX0_freeWith 78 = .ok (.aload_n 0, 1)) ∧ (decode cX0_freeWith 79 = .ok (.getfield 12, 3)) ∧ (decode cX0_freeWith 82 = .ok (.aload 5, 2)) ∧ (decode cX0_freeWith 84 = .ok (.aload 5, 2)) ∧ (decode cX0_freeWith 86 = .ok (.invokevirtual 52, 3)) := by decide +kernel
theorem dX0_freeWith_61 : decode cX0_freeWith 61 = .ok (.iand, 1) := qd0_5.1
theorem dX0_freeWith_62 : decode cX0_freeWith 62 = .ok (.ifCond .eq 10, 3) := qd0_5.2.1
theorem dX0_freeWith_65 : decode cX0_freeWith 65 = .ok (.aload 5, 2) := qd0_5.2.2.1
theorem dX0_freeWith_67 : decode cX0_freeWith 67 = .ok (.iload 6, 2) := qd0_5.2.2.2.1
theorem dX0_freeWith_69 : decode cX0_freeWith 69 = .ok (.invokevirtual 48, 3) := qd0_5.2.2.2.2.1
theorem dX0_freeWith_72 : decode cX0_freeWith 72 = .ok (.iinc 6 1, 3) := qd0_5.2.2.2.2.2.1
theorem dX0_freeWith_75 : decode cX0_freeWith 75 = .ok (.goto (-28), 3) := qd0_5.2.2.2.2.2.2.1
theorem dX0_freeWith_78 : decode cX0_freeWith 78 = .ok (.aload_n 0, 1) := qd0_5.2.2.2.2.2.2.2.1
theorem dX0_freeWith_79 : decode cX0_freeWith 79 = .ok (.getfield 12, 3) := qd0_5.2.2.2.2.2.2.2.2.1
theorem dX0_freeWith_82 : decode cX0_freeWith 82 = .ok (.aload 5, 2) := qd0_5.2.2.2.2.2.2.2.2.2.1
theorem dX0_freeWith_84 : decode cX0_freeWith 84 = .ok (.aload 5, 2) := qd0_5.2.2.2.2.2.2.2.2.2.2.1
theorem dX0_freeWith_86 : decode cX0_freeWith 86 = .ok (.invokevirtual 52, 3) := qd0_5.2.2.2.2.2.2.2.2.2.2.2
theorem qd0_6 : (decode cX0_freeWith 89 = .ok (.invokevirtual 55, 3)) ∧ (decode cX0_freeWith 92 = .ok (.istore 6, 2)) ∧ (decode cX0_freeWith 94 = .ok (.aload_n 1, 1)) ∧ (decode cX0_freeWith 95 = .ok (.iload_n 3, 1)) ∧ (decode cX0_freeWith 96 = .ok (.iload 6, 2)) ∧ (decode cX0_freeWith 98 = .ok (.invokevirtual 59, 3)) ∧ (decode cX0_freeWith 101 = .ok (.iload 6, 2)) ∧ (decode cX0_freeWith 103 = .ok (.ireturn, 1)) := by decide +kernel
theorem dX0_freeWith_89 : decode cX0_freeWith 89 = .ok (.invokevirtual 55, 3) := qd0_6.1
theorem dX0_freeWith_92 : decode cX0_freeWith 92 = .ok (.istore 6, 2) := qd0_6.2.1
theorem dX0_freeWith_94 : decode cX0_freeWith 94 = .ok (.aload_n 1, 1) := qd0_6.2.2.1
theorem dX0_freeWith_95 : decode cX0_freeWith 95 = .ok (.iload_n 3, 1) := qd0_6.2.2.2.1
theorem dX0_freeWith_96 : decode cX0_freeWith 96 = .ok (.iload 6, 2) := qd0_6.2.2.2.2.1
theorem dX0_freeWith_98 : decode cX0_freeWith 98 = .ok (.invokevirtual 59, 3) := qd0_6.2.2.2.2.2.1
theorem dX0_freeWith_101 : decode cX0_freeWith 101 = .ok (.iload 6, 2) := qd0_6.2.2.2.2.2.2.1
theorem dX0_freeWith_103 : decode cX0_freeWith 103 = .ok (.ireturn, 1) := qd0_6.2.2.2.2.2.2.2
theorem qd0_7 : (decode cX0_totalOf 0 = .ok (.aload_n 1, 1)) ∧ (decode cX0_totalOf 1 = .ok (.getfield 63, 3)) ∧ (decode cX0_totalOf 4 = .ok (.aload_n 0, 1)) ∧ (decode cX0_totalOf 5 = .ok (.aload_n 1, 1)) ∧ (decode cX0_totalOf 6 = .ok (.iload_n 2, 1)) ∧ (decode cX0_totalOf 7 = .ok (.invokevirtual 66, 3)) ∧ (decode cX0_totalOf 10 = .ok (.imul, 1)) ∧ (decode cX0_totalOf 11 = .ok (.istore_n 3, 1)) ∧ (decode cX0_totalOf 12 = .ok (.iconst 0, 1)) ∧ (decode cX0_totalOf 13 = .ok (.istore 4, 2)) ∧ (decode cX0_totalOf 15 = .ok (.iload 4, 2)) ∧ (decode cX0_totalOf 17 = .ok (.aload_n 1, 1)) := by decide +kernel
theorem dX0_totalOf_0 : decode cX0_totalOf 0 = .ok (.aload_n 1, 1) := qd0_7.1
theorem dX0_totalOf_1 : decode cX0_totalOf 1 = .ok (.getfield 63, 3) := qd0_7.2.1
theorem dX0_totalOf_4 : decode cX0_totalOf 4 = .ok (.aload_n 0, 1) := qd0_7.2.2.1
theorem dX0_totalOf_5 : decode cX0_totalOf 5 = .ok (.aload_n 1, 1) := qd0_7.2.2.2.1
theorem dX0_totalOf_6 : decode cX0_totalOf 6 = .ok (.iload_n 2, 1) := qd0_7.2.2.2.2.1
theorem dX0_totalOf_7 : decode cX0_totalOf 7 = .ok (.invokevirtual 66, 3) := qd0_7.2.2.2.2.2.1
theorem dX0_totalOf_10 : decode cX0_totalOf 10 = .ok (.imul, 1) := qd0_7.2.2.2.2.2.2.1
theorem dX0_totalOf_11 : decode cX0_totalOf 11 = .ok (.istore_n 3, 1) := qd0_7.2.2.2.2.2.2.2.1
theorem dX0_totalOf_12 : decode cX0_totalOf 12 = .ok (.iconst 0, 1) := qd0_7.2.2.2.2.2.2.2.2.1
theorem dX0_totalOf_13 : decode cX0_totalOf 13 = .ok (.istore 4, 2) := qd0_7.2.2.2.2.2.2.2.2.2.1
theorem dX0_totalOf_15 : decode cX0_totalOf 15 = .ok (.iload 4, 2) := qd0_7.2.2.2.2.2.2.2.2.2.2.1
theorem dX0_totalOf_17 : decode cX0_totalOf 17 = .ok (.aload_n 1, 1) := qd0_7.2.2.2.2.2.2.2.2.2.2.2
theorem qd0_8 : (decode cX0_totalOf 18 = .ok (.getfield 44, 3)) ∧ (decode cX0_totalOf 21 = .ok (.if_icmp .ge 37, 3)) ∧ (decode cX0_totalOf 24 = .ok (.iload_n 2, 1)) ∧ (decode cX0_totalOf 25 = .ok (.iload 4, 2)) ∧ (decode cX0_totalOf 27 = .ok (.ishr, 1)) ∧ (decode cX0_totalOf 28 = .ok (.iconst 1, 1)) ∧ (decode cX0_totalOf 29 = .ok (.iand, 1)) ∧ (decode cX0_totalOf 30 = .ok (.ifCond .eq 22, 3)) ∧ (decode cX0_totalOf 33 = .ok (.aload_n 1, 1)) ∧ (decode cX0_totalOf 34 = .ok (.iload 4, 2)) ∧ (decode cX0_totalOf 36 = .ok (.invokevirtual 69, 3)) ∧ (decode cX0_totalOf 39 = .ok (.ifCond .ne 13, 3)) := by decide +kernel
theorem dX0_totalOf_18 : decode cX0_totalOf 18 = .ok (.getfield 44, 3) := qd0_8.1
theorem dX0_totalOf_21 : decode cX0_totalOf 21 = .ok (.if_icmp .ge 37, 3) := qd0_8.2.1
theorem dX0_totalOf_24 : decode cX0_totalOf 24 = .ok (.iload_n 2, 1) := qd0_8.2.2.1
theorem dX0_totalOf_25 : decode cX0_totalOf 25 = .ok (.iload 4, 2) := qd0_8.2.2.2.1
theorem dX0_totalOf_27 : decode cX0_totalOf 27 = .ok (.ishr, 1) := qd0_8.2.2.2.2.1
theorem dX0_totalOf_28 : decode cX0_totalOf 28 = .ok (.iconst 1, 1) := qd0_8.2.2.2.2.2.1
theorem dX0_totalOf_29 : decode cX0_totalOf 29 = .ok (.iand, 1) := qd0_8.2.2.2.2.2.2.1
theorem dX0_totalOf_30 : decode cX0_totalOf 30 = .ok (.ifCond .eq 22, 3) := qd0_8.2.2.2.2.2.2.2.1
theorem dX0_totalOf_33 : decode cX0_totalOf 33 = .ok (.aload_n 1, 1) := qd0_8.2.2.2.2.2.2.2.2.1
theorem dX0_totalOf_34 : decode cX0_totalOf 34 = .ok (.iload 4, 2) := qd0_8.2.2.2.2.2.2.2.2.2.1
theorem dX0_totalOf_36 : decode cX0_totalOf 36 = .ok (.invokevirtual 69, 3) := qd0_8.2.2.2.2.2.2.2.2.2.2.1
theorem dX0_totalOf_39 : decode cX0_totalOf 39 = .ok (.ifCond .ne 13, 3) := qd0_8.2.2.2.2.2.2.2.2.2.2.2
theorem qd0_9 : (decode cX0_totalOf 42 = .ok (.iload_n 3, 1)) ∧ (decode cX0_totalOf 43 = .ok (.aload_n 1, 1)) ∧ (decode cX0_totalOf 44 = .ok (.iload 4, 2)) ∧ (decode cX0_totalOf 46 = .ok (.iconst 3, 1)) ∧ (decode cX0_totalOf 47 = .ok (.invokevirtual 73, 3)) ∧ (decode cX0_totalOf 50 = .ok (.iadd, 1)) ∧ (decode cX0_totalOf 51 = .ok (.istore_n 3, 1)) ∧ (decode cX0_totalOf 52 = .ok (.iinc 4 1, 3)) ∧ (decode cX0_totalOf 55 = .ok (.goto (-40), 3)) ∧ (decode cX0_totalOf 58 = .ok (.iload_n 3, 1)) ∧ (decode cX0_totalOf 59 = .ok (.ireturn, 1)) := by decide +kernel
theorem dX0_totalOf_42 : decode cX0_totalOf 42 = .ok (.iload_n 3, 1) := qd0_9.1
theorem dX0_totalOf_43 : decode cX0_totalOf 43 = .ok (.aload_n 1, 1) := qd0_9.2.1
theorem dX0_totalOf_44 : decode cX0_totalOf 44 = .ok (.iload 4, 2) := qd0_9.2.2.1
theorem dX0_totalOf_46 : decode cX0_totalOf 46 = .ok (.iconst 3, 1) := qd0_9.2.2.2.1
theorem dX0_totalOf_47 : decode cX0_totalOf 47 = .ok (.invokevirtual 73, 3) := qd0_9.2.2.2.2.1
theorem dX0_totalOf_50 : decode cX0_totalOf 50 = .ok (.iadd, 1) := qd0_9.2.2.2.2.2.1
theorem dX0_totalOf_51 : decode cX0_totalOf 51 = .ok (.istore_n 3, 1) := qd0_9.2.2.2.2.2.2.1
theorem dX0_totalOf_52 : decode cX0_totalOf 52 = .ok (.iinc 4 1, 3) := qd0_9.2.2.2.2.2.2.2.1
theorem dX0_totalOf_55 : decode cX0_totalOf 55 = .ok (.goto (-40), 3) := qd0_9.2.2.2.2.2.2.2.2.1
theorem dX0_totalOf_58 : decode cX0_totalOf 58 = .ok (.iload_n 3, 1) := qd0_9.2.2.2.2.2.2.2.2.2.1
theorem dX0_totalOf_59 : decode cX0_totalOf 59 = .ok (.ireturn, 1) := qd0_9.2.2.2.2.2.2.2.2.2.2
theorem qd0_10 : (decode cX0_bestOf 0 = .ok (.iconst 0, 1)) ∧ (decode cX0_bestOf 1 = .ok (.istore_n 2, 1)) ∧ (decode cX0_bestOf 2 = .ok (.aload_n 0, 1)) ∧ (decode cX0_bestOf 3 = .ok (.aload_n 1, 1)) ∧ (decode cX0_bestOf 4 = .ok (.iconst 0, 1)) ∧ (decode cX0_bestOf 5 = .ok (.invokevirtual 77, 3)) ∧ (decode cX0_bestOf 8 = .ok (.istore_n 3, 1)) ∧ (decode cX0_bestOf 9 = .ok (.aload_n 1, 1)) ∧ (decode cX0_bestOf 10 = .ok (.invokevirtual 32, 3)) ∧ (decode cX0_bestOf 13 = .ok (.istore 4, 2)) ∧ (decode cX0_bestOf 15 = .ok (.iconst 1, 1)) ∧ (decode cX0_bestOf 16 = .ok (.istore 5, 2)) := by decide +kernel
theorem dX0_bestOf_0 : decode cX0_bestOf 0 = .ok (.iconst 0, 1) := qd0_10.1
theorem dX0_bestOf_1 : decode cX0_bestOf 1 = .ok (.istore_n 2, 1) := qd0_10.2.1
theorem dX0_bestOf_2 : decode cX0_bestOf 2 = .ok (.aload_n 0, 1) := qd0_10.2.2.1
theorem dX0_bestOf_3 : decode cX0_bestOf 3 = .ok (.aload_n 1, 1) := qd0_10.2.2.2.1
theorem dX0_bestOf_4 : decode cX0_bestOf 4 = .ok (.iconst 0, 1) := qd0_10.2.2.2.2.1
theorem dX0_bestOf_5 : decode cX0_bestOf 5 = .ok (.invokevirtual 77, 3) := qd0_10.2.2.2.2.2.1
theorem dX0_bestOf_8 : decode cX0_bestOf 8 = .ok (.istore_n 3, 1) := qd0_10.2.2.2.2.2.2.1
theorem dX0_bestOf_9 : decode cX0_bestOf 9 = .ok (.aload_n 1, 1) := qd0_10.2.2.2.2.2.2.2.1
theorem dX0_bestOf_10 : decode cX0_bestOf 10 = .ok (.invokevirtual 32, 3) := qd0_10.2.2.2.2.2.2.2.2.1
theorem dX0_bestOf_13 : decode cX0_bestOf 13 = .ok (.istore 4, 2) := qd0_10.2.2.2.2.2.2.2.2.2.1
theorem dX0_bestOf_15 : decode cX0_bestOf 15 = .ok (.iconst 1, 1) := qd0_10.2.2.2.2.2.2.2.2.2.2.1
theorem dX0_bestOf_16 : decode cX0_bestOf 16 = .ok (.istore 5, 2) := qd0_10.2.2.2.2.2.2.2.2.2.2.2
theorem qd0_11 : (decode cX0_bestOf 18 = .ok (.iload 5, 2)) ∧ (decode cX0_bestOf 20 = .ok (.iconst 1, 1)) ∧ (decode cX0_bestOf 21 = .ok (.aload_n 1, 1)) ∧ (decode cX0_bestOf 22 = .ok (.getfield 44, 3)) ∧ (decode cX0_bestOf 25 = .ok (.ishl, 1)) ∧ (decode cX0_bestOf 26 = .ok (.if_icmp .ge 38, 3)) ∧ (decode cX0_bestOf 29 = .ok (.iload 5, 2)) ∧ (decode cX0_bestOf 31 = .ok (.iload 4, 2)) ∧ (decode cX0_bestOf 33 = .ok (.iand, 1)) ∧ (decode cX0_bestOf 34 = .ok (.ifCond .ne 24, 3)) ∧ (decode cX0_bestOf 37 = .ok (.aload_n 0, 1)) ∧ (decode cX0_bestOf 38 = .ok (.aload_n 1, 1)) := by decide +kernel
theorem dX0_bestOf_18 : decode cX0_bestOf 18 = .ok (.iload 5, 2) := qd0_11.1
theorem dX0_bestOf_20 : decode cX0_bestOf 20 = .ok (.iconst 1, 1) := qd0_11.2.1
theorem dX0_bestOf_21 : decode cX0_bestOf 21 = .ok (.aload_n 1, 1) := qd0_11.2.2.1
theorem dX0_bestOf_22 : decode cX0_bestOf 22 = .ok (.getfield 44, 3) := qd0_11.2.2.2.1
theorem dX0_bestOf_25 : decode cX0_bestOf 25 = .ok (.ishl, 1) := qd0_11.2.2.2.2.1
theorem dX0_bestOf_26 : decode cX0_bestOf 26 = .ok (.if_icmp .ge 38, 3) := qd0_11.2.2.2.2.2.1
theorem dX0_bestOf_29 : decode cX0_bestOf 29 = .ok (.iload 5, 2) := qd0_11.2.2.2.2.2.2.1
theorem dX0_bestOf_31 : decode cX0_bestOf 31 = .ok (.iload 4, 2) := qd0_11.2.2.2.2.2.2.2.1
theorem dX0_bestOf_33 : decode cX0_bestOf 33 = .ok (.iand, 1) := qd0_11.2.2.2.2.2.2.2.2.1
theorem dX0_bestOf_34 : decode cX0_bestOf 34 = .ok (.ifCond .ne 24, 3) := qd0_11.2.2.2.2.2.2.2.2.2.1
theorem dX0_bestOf_37 : decode cX0_bestOf 37 = .ok (.aload_n 0, 1) := qd0_11.2.2.2.2.2.2.2.2.2.2.1
theorem dX0_bestOf_38 : decode cX0_bestOf 38 = .ok (.aload_n 1, 1) := qd0_11.2.2.2.2.2.2.2.2.2.2.2
theorem qd0_12 : (decode cX0_bestOf 39 = .ok (.iload 5, 2)) ∧ (decode cX0_bestOf 41 = .ok (.invokevirtual 77, 3)) ∧ (decode cX0_bestOf 44 = .ok (.istore 6, 2)) ∧ (decode cX0_bestOf 46 = .ok (.iload 6, 2)) ∧ (decode cX0_bestOf 48 = .ok (.iload_n 3, 1)) ∧ (decode cX0_bestOf 49 = .ok (.if_icmp .ge 9, 3)) ∧ (decode cX0_bestOf 52 = .ok (.iload 6, 2)) ∧ (decode cX0_bestOf 54 = .ok (.istore_n 3, 1)) ∧ (decode cX0_bestOf 55 = .ok (.iload 5, 2)) ∧ (decode cX0_bestOf 57 = .ok (.istore_n 2, 1)) ∧ (decode cX0_bestOf 58 = .ok (.iinc 5 1, 3)) ∧ (decode cX0_bestOf 61 = .ok (.goto (-43), 3)) := by decide +kernel
theorem dX0_bestOf_39 : decode cX0_bestOf 39 = .ok (.iload 5, 2) := qd0_12.1
theorem dX0_bestOf_41 : decode cX0_bestOf 41 = .ok (.invokevirtual 77, 3) := qd0_12.2.1
theorem dX0_bestOf_44 : decode cX0_bestOf 44 = .ok (.istore 6, 2) := qd0_12.2.2.1
theorem dX0_bestOf_46 : decode cX0_bestOf 46 = .ok (.iload 6, 2) := qd0_12.2.2.2.1
theorem dX0_bestOf_48 : decode cX0_bestOf 48 = .ok (.iload_n 3, 1) := qd0_12.2.2.2.2.1
theorem dX0_bestOf_49 : decode cX0_bestOf 49 = .ok (.if_icmp .ge 9, 3) := qd0_12.2.2.2.2.2.1
theorem dX0_bestOf_52 : decode cX0_bestOf 52 = .ok (.iload 6, 2) := qd0_12.2.2.2.2.2.2.1
theorem dX0_bestOf_54 : decode cX0_bestOf 54 = .ok (.istore_n 3, 1) := qd0_12.2.2.2.2.2.2.2.1
theorem dX0_bestOf_55 : decode cX0_bestOf 55 = .ok (.iload 5, 2) := qd0_12.2.2.2.2.2.2.2.2.1
theorem dX0_bestOf_57 : decode cX0_bestOf 57 = .ok (.istore_n 2, 1) := qd0_12.2.2.2.2.2.2.2.2.2.1
theorem dX0_bestOf_58 : decode cX0_bestOf 58 = .ok (.iinc 5 1, 3) := qd0_12.2.2.2.2.2.2.2.2.2.2.1
theorem dX0_bestOf_61 : decode cX0_bestOf 61 = .ok (.goto (-43), 3) := qd0_12.2.2.2.2.2.2.2.2.2.2.2
theorem qd0_13 : (decode cX0_bestOf 64 = .ok (.iload_n 2, 1)) ∧ (decode cX0_bestOf 65 = .ok (.ireturn, 1)) := by decide +kernel
theorem dX0_bestOf_64 : decode cX0_bestOf 64 = .ok (.iload_n 2, 1) := qd0_13.1
theorem dX0_bestOf_65 : decode cX0_bestOf 65 = .ok (.ireturn, 1) := qd0_13.2
theorem qd0_14 : (decode cX0_worthIn 0 = .ok (.iload_n 3, 1)) ∧ (decode cX0_worthIn 1 = .ok (.aload_n 0, 1)) ∧ (decode cX0_worthIn 2 = .ok (.aload_n 1, 1)) ∧ (decode cX0_worthIn 3 = .ok (.iconst 0, 1)) ∧ (decode cX0_worthIn 4 = .ok (.invokevirtual 66, 3)) ∧ (decode cX0_worthIn 7 = .ok (.aload_n 0, 1)) ∧ (decode cX0_worthIn 8 = .ok (.aload_n 1, 1)) ∧ (decode cX0_worthIn 9 = .ok (.iconst 1, 1)) ∧ (decode cX0_worthIn 10 = .ok (.iload_n 2, 1)) ∧ (decode cX0_worthIn 11 = .ok (.ishl, 1)) ∧ (decode cX0_worthIn 12 = .ok (.invokevirtual 66, 3)) ∧ (decode cX0_worthIn 15 = .ok (.isub, 1)) := by decide +kernel
theorem dX0_worthIn_0 : decode cX0_worthIn 0 = .ok (.iload_n 3, 1) := qd0_14.1
theorem dX0_worthIn_1 : decode cX0_worthIn 1 = .ok (.aload_n 0, 1) := qd0_14.2.1
theorem dX0_worthIn_2 : decode cX0_worthIn 2 = .ok (.aload_n 1, 1) := qd0_14.2.2.1
theorem dX0_worthIn_3 : decode cX0_worthIn 3 = .ok (.iconst 0, 1) := qd0_14.2.2.2.1
theorem dX0_worthIn_4 : decode cX0_worthIn 4 = .ok (.invokevirtual 66, 3) := qd0_14.2.2.2.2.1
theorem dX0_worthIn_7 : decode cX0_worthIn 7 = .ok (.aload_n 0, 1) := qd0_14.2.2.2.2.2.1
theorem dX0_worthIn_8 : decode cX0_worthIn 8 = .ok (.aload_n 1, 1) := qd0_14.2.2.2.2.2.2.1
theorem dX0_worthIn_9 : decode cX0_worthIn 9 = .ok (.iconst 1, 1) := qd0_14.2.2.2.2.2.2.2.1
theorem dX0_worthIn_10 : decode cX0_worthIn 10 = .ok (.iload_n 2, 1) := qd0_14.2.2.2.2.2.2.2.2.1
theorem dX0_worthIn_11 : decode cX0_worthIn 11 = .ok (.ishl, 1) := qd0_14.2.2.2.2.2.2.2.2.2.1
theorem dX0_worthIn_12 : decode cX0_worthIn 12 = .ok (.invokevirtual 66, 3) := qd0_14.2.2.2.2.2.2.2.2.2.2.1
theorem dX0_worthIn_15 : decode cX0_worthIn 15 = .ok (.isub, 1) := qd0_14.2.2.2.2.2.2.2.2.2.2.2
theorem qd0_15 : (decode cX0_worthIn 16 = .ok (.imul, 1)) ∧ (decode cX0_worthIn 17 = .ok (.aload_n 1, 1)) ∧ (decode cX0_worthIn 18 = .ok (.iload_n 2, 1)) ∧ (decode cX0_worthIn 19 = .ok (.iconst 3, 1)) ∧ (decode cX0_worthIn 20 = .ok (.invokevirtual 73, 3)) ∧ (decode cX0_worthIn 23 = .ok (.isub, 1)) ∧ (decode cX0_worthIn 24 = .ok (.ireturn, 1)) := by decide +kernel
theorem dX0_worthIn_16 : decode cX0_worthIn 16 = .ok (.imul, 1) := qd0_15.1
theorem dX0_worthIn_17 : decode cX0_worthIn 17 = .ok (.aload_n 1, 1) := qd0_15.2.1
theorem dX0_worthIn_18 : decode cX0_worthIn 18 = .ok (.iload_n 2, 1) := qd0_15.2.2.1
theorem dX0_worthIn_19 : decode cX0_worthIn 19 = .ok (.iconst 3, 1) := qd0_15.2.2.2.1
theorem dX0_worthIn_20 : decode cX0_worthIn 20 = .ok (.invokevirtual 73, 3) := qd0_15.2.2.2.2.1
theorem dX0_worthIn_23 : decode cX0_worthIn 23 = .ok (.isub, 1) := qd0_15.2.2.2.2.2.1
theorem dX0_worthIn_24 : decode cX0_worthIn 24 = .ok (.ireturn, 1) := qd0_15.2.2.2.2.2.2
theorem qd0_16 : (decode cX0_firstOf 0 = .ok (.iconst (-1), 1)) ∧ (decode cX0_firstOf 1 = .ok (.istore_n 2, 1)) ∧ (decode cX0_firstOf 2 = .ok (.iconst 0, 1)) ∧ (decode cX0_firstOf 3 = .ok (.istore_n 3, 1)) ∧ (decode cX0_firstOf 4 = .ok (.iconst 0, 1)) ∧ (decode cX0_firstOf 5 = .ok (.istore 4, 2)) ∧ (decode cX0_firstOf 7 = .ok (.iload 4, 2)) ∧ (decode cX0_firstOf 9 = .ok (.aload_n 1, 1)) ∧ (decode cX0_firstOf 10 = .ok (.getfield 44, 3)) ∧ (decode cX0_firstOf 13 = .ok (.if_icmp .ge 43, 3)) ∧ (decode cX0_firstOf 16 = .ok (.aload_n 1, 1)) ∧ (decode cX0_firstOf 17 = .ok (.iload 4, 2)) := by decide +kernel
theorem dX0_firstOf_0 : decode cX0_firstOf 0 = .ok (.iconst (-1), 1) := qd0_16.1
theorem dX0_firstOf_1 : decode cX0_firstOf 1 = .ok (.istore_n 2, 1) := qd0_16.2.1
theorem dX0_firstOf_2 : decode cX0_firstOf 2 = .ok (.iconst 0, 1) := qd0_16.2.2.1
theorem dX0_firstOf_3 : decode cX0_firstOf 3 = .ok (.istore_n 3, 1) := qd0_16.2.2.2.1
theorem dX0_firstOf_4 : decode cX0_firstOf 4 = .ok (.iconst 0, 1) := qd0_16.2.2.2.2.1
theorem dX0_firstOf_5 : decode cX0_firstOf 5 = .ok (.istore 4, 2) := qd0_16.2.2.2.2.2.1
theorem dX0_firstOf_7 : decode cX0_firstOf 7 = .ok (.iload 4, 2) := qd0_16.2.2.2.2.2.2.1
theorem dX0_firstOf_9 : decode cX0_firstOf 9 = .ok (.aload_n 1, 1) := qd0_16.2.2.2.2.2.2.2.1
theorem dX0_firstOf_10 : decode cX0_firstOf 10 = .ok (.getfield 44, 3) := qd0_16.2.2.2.2.2.2.2.2.1
theorem dX0_firstOf_13 : decode cX0_firstOf 13 = .ok (.if_icmp .ge 43, 3) := qd0_16.2.2.2.2.2.2.2.2.2.1
theorem dX0_firstOf_16 : decode cX0_firstOf 16 = .ok (.aload_n 1, 1) := qd0_16.2.2.2.2.2.2.2.2.2.2.1
theorem dX0_firstOf_17 : decode cX0_firstOf 17 = .ok (.iload 4, 2) := qd0_16.2.2.2.2.2.2.2.2.2.2.2
theorem qd0_17 : (decode cX0_firstOf 19 = .ok (.invokevirtual 69, 3)) ∧ (decode cX0_firstOf 22 = .ok (.ifCond .ne 28, 3)) ∧ (decode cX0_firstOf 25 = .ok (.aload_n 0, 1)) ∧ (decode cX0_firstOf 26 = .ok (.aload_n 1, 1)) ∧ (decode cX0_firstOf 27 = .ok (.iload 4, 2)) ∧ (decode cX0_firstOf 29 = .ok (.aload_n 1, 1)) ∧ (decode cX0_firstOf 30 = .ok (.getfield 63, 3)) ∧ (decode cX0_firstOf 33 = .ok (.invokevirtual 80, 3)) ∧ (decode cX0_firstOf 36 = .ok (.istore 5, 2)) ∧ (decode cX0_firstOf 38 = .ok (.iload 5, 2)) ∧ (decode cX0_firstOf 40 = .ok (.iload_n 3, 1)) ∧ (decode cX0_firstOf 41 = .ok (.if_icmp .le 9, 3)) := by decide +kernel
theorem dX0_firstOf_19 : decode cX0_firstOf 19 = .ok (.invokevirtual 69, 3) := qd0_17.1
theorem dX0_firstOf_22 : decode cX0_firstOf 22 = .ok (.ifCond .ne 28, 3) := qd0_17.2.1
theorem dX0_firstOf_25 : decode cX0_firstOf 25 = .ok (.aload_n 0, 1) := qd0_17.2.2.1
theorem dX0_firstOf_26 : decode cX0_firstOf 26 = .ok (.aload_n 1, 1) := qd0_17.2.2.2.1
theorem dX0_firstOf_27 : decode cX0_firstOf 27 = .ok (.iload 4, 2) := qd0_17.2.2.2.2.1
theorem dX0_firstOf_29 : decode cX0_firstOf 29 = .ok (.aload_n 1, 1) := qd0_17.2.2.2.2.2.1
theorem dX0_firstOf_30 : decode cX0_firstOf 30 = .ok (.getfield 63, 3) := qd0_17.2.2.2.2.2.2.1
theorem dX0_firstOf_33 : decode cX0_firstOf 33 = .ok (.invokevirtual 80, 3) := qd0_17.2.2.2.2.2.2.2.1
theorem dX0_firstOf_36 : decode cX0_firstOf 36 = .ok (.istore 5, 2) := qd0_17.2.2.2.2.2.2.2.2.1
theorem dX0_firstOf_38 : decode cX0_firstOf 38 = .ok (.iload 5, 2) := qd0_17.2.2.2.2.2.2.2.2.2.1
theorem dX0_firstOf_40 : decode cX0_firstOf 40 = .ok (.iload_n 3, 1) := qd0_17.2.2.2.2.2.2.2.2.2.2.1
theorem dX0_firstOf_41 : decode cX0_firstOf 41 = .ok (.if_icmp .le 9, 3) := qd0_17.2.2.2.2.2.2.2.2.2.2.2
theorem qd0_18 : (decode cX0_firstOf 44 = .ok (.iload 5, 2)) ∧ (decode cX0_firstOf 46 = .ok (.istore_n 3, 1)) ∧ (decode cX0_firstOf 47 = .ok (.iload 4, 2)) ∧ (decode cX0_firstOf 49 = .ok (.istore_n 2, 1)) ∧ (decode cX0_firstOf 50 = .ok (.iinc 4 1, 3)) ∧ (decode cX0_firstOf 53 = .ok (.goto (-46), 3)) ∧ (decode cX0_firstOf 56 = .ok (.iload_n 2, 1)) ∧ (decode cX0_firstOf 57 = .ok (.ireturn, 1)) := by decide +kernel
theorem dX0_firstOf_44 : decode cX0_firstOf 44 = .ok (.iload 5, 2) := qd0_18.1
theorem dX0_firstOf_46 : decode cX0_firstOf 46 = .ok (.istore_n 3, 1) := qd0_18.2.1
theorem dX0_firstOf_47 : decode cX0_firstOf 47 = .ok (.iload 4, 2) := qd0_18.2.2.1
theorem dX0_firstOf_49 : decode cX0_firstOf 49 = .ok (.istore_n 2, 1) := qd0_18.2.2.2.1
theorem dX0_firstOf_50 : decode cX0_firstOf 50 = .ok (.iinc 4 1, 3) := qd0_18.2.2.2.2.1
theorem dX0_firstOf_53 : decode cX0_firstOf 53 = .ok (.goto (-46), 3) := qd0_18.2.2.2.2.2.1
theorem dX0_firstOf_56 : decode cX0_firstOf 56 = .ok (.iload_n 2, 1) := qd0_18.2.2.2.2.2.2.1
theorem dX0_firstOf_57 : decode cX0_firstOf 57 = .ok (.ireturn, 1) := qd0_18.2.2.2.2.2.2.2
theorem qd0_19 : (decode cX0_greedyOf 0 = .ok (.aload_n 0, 1)) ∧ (decode cX0_greedyOf 1 = .ok (.getfield 21, 3)) ∧ (decode cX0_greedyOf 4 = .ok (.aload_n 1, 1)) ∧ (decode cX0_greedyOf 5 = .ok (.invokevirtual 40, 3)) ∧ (decode cX0_greedyOf 8 = .ok (.iconst 0, 1)) ∧ (decode cX0_greedyOf 9 = .ok (.istore_n 2, 1)) ∧ (decode cX0_greedyOf 10 = .ok (.aload_n 0, 1)) ∧ (decode cX0_greedyOf 11 = .ok (.aload_n 0, 1)) ∧ (decode cX0_greedyOf 12 = .ok (.getfield 21, 3)) ∧ (decode cX0_greedyOf 15 = .ok (.invokevirtual 84, 3)) ∧ (decode cX0_greedyOf 18 = .ok (.istore_n 3, 1)) ∧ (decode cX0_greedyOf 19 = .ok (.iconst 0, 1)) := by decide +kernel
theorem dX0_greedyOf_0 : decode cX0_greedyOf 0 = .ok (.aload_n 0, 1) := qd0_19.1
theorem dX0_greedyOf_1 : decode cX0_greedyOf 1 = .ok (.getfield 21, 3) := qd0_19.2.1
theorem dX0_greedyOf_4 : decode cX0_greedyOf 4 = .ok (.aload_n 1, 1) := qd0_19.2.2.1
theorem dX0_greedyOf_5 : decode cX0_greedyOf 5 = .ok (.invokevirtual 40, 3) := qd0_19.2.2.2.1
theorem dX0_greedyOf_8 : decode cX0_greedyOf 8 = .ok (.iconst 0, 1) := qd0_19.2.2.2.2.1
theorem dX0_greedyOf_9 : decode cX0_greedyOf 9 = .ok (.istore_n 2, 1) := qd0_19.2.2.2.2.2.1
theorem dX0_greedyOf_10 : decode cX0_greedyOf 10 = .ok (.aload_n 0, 1) := qd0_19.2.2.2.2.2.2.1
theorem dX0_greedyOf_11 : decode cX0_greedyOf 11 = .ok (.aload_n 0, 1) := qd0_19.2.2.2.2.2.2.2.1
theorem dX0_greedyOf_12 : decode cX0_greedyOf 12 = .ok (.getfield 21, 3) := qd0_19.2.2.2.2.2.2.2.2.1
theorem dX0_greedyOf_15 : decode cX0_greedyOf 15 = .ok (.invokevirtual 84, 3) := qd0_19.2.2.2.2.2.2.2.2.2.1
theorem dX0_greedyOf_18 : decode cX0_greedyOf 18 = .ok (.istore_n 3, 1) := qd0_19.2.2.2.2.2.2.2.2.2.2.1
theorem dX0_greedyOf_19 : decode cX0_greedyOf 19 = .ok (.iconst 0, 1) := qd0_19.2.2.2.2.2.2.2.2.2.2.2
theorem qd0_20 : (decode cX0_greedyOf 20 = .ok (.istore 4, 2)) ∧ (decode cX0_greedyOf 22 = .ok (.iload 4, 2)) ∧ (decode cX0_greedyOf 24 = .ok (.bipush 7, 2)) ∧ (decode cX0_greedyOf 26 = .ok (.if_icmp .ge 37, 3)) ∧ (decode cX0_greedyOf 29 = .ok (.iload_n 3, 1)) ∧ (decode cX0_greedyOf 30 = .ok (.iconst (-1), 1)) ∧ (decode cX0_greedyOf 31 = .ok (.if_icmp .eq 32, 3)) ∧ (decode cX0_greedyOf 34 = .ok (.iload_n 2, 1)) ∧ (decode cX0_greedyOf 35 = .ok (.iconst 1, 1)) ∧ (decode cX0_greedyOf 36 = .ok (.iload_n 3, 1)) ∧ (decode cX0_greedyOf 37 = .ok (.ishl, 1)) ∧ (decode cX0_greedyOf 38 = .ok (.ior, 1)) := by decide +kernel
theorem dX0_greedyOf_20 : decode cX0_greedyOf 20 = .ok (.istore 4, 2) := qd0_20.1
theorem dX0_greedyOf_22 : decode cX0_greedyOf 22 = .ok (.iload 4, 2) := qd0_20.2.1
theorem dX0_greedyOf_24 : decode cX0_greedyOf 24 = .ok (.bipush 7, 2) := qd0_20.2.2.1
theorem dX0_greedyOf_26 : decode cX0_greedyOf 26 = .ok (.if_icmp .ge 37, 3) := qd0_20.2.2.2.1
theorem dX0_greedyOf_29 : decode cX0_greedyOf 29 = .ok (.iload_n 3, 1) := qd0_20.2.2.2.2.1
theorem dX0_greedyOf_30 : decode cX0_greedyOf 30 = .ok (.iconst (-1), 1) := qd0_20.2.2.2.2.2.1
theorem dX0_greedyOf_31 : decode cX0_greedyOf 31 = .ok (.if_icmp .eq 32, 3) := qd0_20.2.2.2.2.2.2.1
theorem dX0_greedyOf_34 : decode cX0_greedyOf 34 = .ok (.iload_n 2, 1) := qd0_20.2.2.2.2.2.2.2.1
theorem dX0_greedyOf_35 : decode cX0_greedyOf 35 = .ok (.iconst 1, 1) := qd0_20.2.2.2.2.2.2.2.2.1
theorem dX0_greedyOf_36 : decode cX0_greedyOf 36 = .ok (.iload_n 3, 1) := qd0_20.2.2.2.2.2.2.2.2.2.1
theorem dX0_greedyOf_37 : decode cX0_greedyOf 37 = .ok (.ishl, 1) := qd0_20.2.2.2.2.2.2.2.2.2.2.1
theorem dX0_greedyOf_38 : decode cX0_greedyOf 38 = .ok (.ior, 1) := qd0_20.2.2.2.2.2.2.2.2.2.2.2
theorem qd0_21 : (decode cX0_greedyOf 39 = .ok (.istore_n 2, 1)) ∧ (decode cX0_greedyOf 40 = .ok (.aload_n 0, 1)) ∧ (decode cX0_greedyOf 41 = .ok (.getfield 21, 3)) ∧ (decode cX0_greedyOf 44 = .ok (.iload_n 3, 1)) ∧ (decode cX0_greedyOf 45 = .ok (.invokevirtual 88, 3)) ∧ (decode cX0_greedyOf 48 = .ok (.aload_n 0, 1)) ∧ (decode cX0_greedyOf 49 = .ok (.aload_n 0, 1)) ∧ (decode cX0_greedyOf 50 = .ok (.getfield 21, 3)) ∧ (decode cX0_greedyOf 53 = .ok (.invokevirtual 84, 3)) ∧ (decode cX0_greedyOf 56 = .ok (.istore_n 3, 1)) ∧ (decode cX0_greedyOf 57 = .ok (.iinc 4 1, 3)) ∧ (decode cX0_greedyOf 60 = .ok (.goto (-38), 3)) := by decide +kernel
theorem dX0_greedyOf_39 : decode cX0_greedyOf 39 = .ok (.istore_n 2, 1) := qd0_21.1
theorem dX0_greedyOf_40 : decode cX0_greedyOf 40 = .ok (.aload_n 0, 1) := qd0_21.2.1
theorem dX0_greedyOf_41 : decode cX0_greedyOf 41 = .ok (.getfield 21, 3) := qd0_21.2.2.1
theorem dX0_greedyOf_44 : decode cX0_greedyOf 44 = .ok (.iload_n 3, 1) := qd0_21.2.2.2.1
theorem dX0_greedyOf_45 : decode cX0_greedyOf 45 = .ok (.invokevirtual 88, 3) := qd0_21.2.2.2.2.1
theorem dX0_greedyOf_48 : decode cX0_greedyOf 48 = .ok (.aload_n 0, 1) := qd0_21.2.2.2.2.2.1
theorem dX0_greedyOf_49 : decode cX0_greedyOf 49 = .ok (.aload_n 0, 1) := qd0_21.2.2.2.2.2.2.1
theorem dX0_greedyOf_50 : decode cX0_greedyOf 50 = .ok (.getfield 21, 3) := qd0_21.2.2.2.2.2.2.2.1
theorem dX0_greedyOf_53 : decode cX0_greedyOf 53 = .ok (.invokevirtual 84, 3) := qd0_21.2.2.2.2.2.2.2.2.1
theorem dX0_greedyOf_56 : decode cX0_greedyOf 56 = .ok (.istore_n 3, 1) := qd0_21.2.2.2.2.2.2.2.2.2.1
theorem dX0_greedyOf_57 : decode cX0_greedyOf 57 = .ok (.iinc 4 1, 3) := qd0_21.2.2.2.2.2.2.2.2.2.2.1
theorem dX0_greedyOf_60 : decode cX0_greedyOf 60 = .ok (.goto (-38), 3) := qd0_21.2.2.2.2.2.2.2.2.2.2.2
theorem qd0_22 : (decode cX0_greedyOf 63 = .ok (.iload_n 2, 1)) ∧ (decode cX0_greedyOf 64 = .ok (.ireturn, 1)) := by decide +kernel
theorem dX0_greedyOf_63 : decode cX0_greedyOf 63 = .ok (.iload_n 2, 1) := qd0_22.1
theorem dX0_greedyOf_64 : decode cX0_greedyOf 64 = .ok (.ireturn, 1) := qd0_22.2
theorem qd0_23 : (decode cX0_neverOf 0 = .ok (.iconst 0, 1)) ∧ (decode cX0_neverOf 1 = .ok (.istore_n 2, 1)) ∧ (decode cX0_neverOf 2 = .ok (.iconst 0, 1)) ∧ (decode cX0_neverOf 3 = .ok (.istore_n 3, 1)) ∧ (decode cX0_neverOf 4 = .ok (.iload_n 3, 1)) ∧ (decode cX0_neverOf 5 = .ok (.aload_n 1, 1)) ∧ (decode cX0_neverOf 6 = .ok (.getfield 44, 3)) ∧ (decode cX0_neverOf 9 = .ok (.if_icmp .ge 32, 3)) ∧ (decode cX0_neverOf 12 = .ok (.aload_n 1, 1)) ∧ (decode cX0_neverOf 13 = .ok (.iload_n 3, 1)) ∧ (decode cX0_neverOf 14 = .ok (.invokevirtual 69, 3)) ∧ (decode cX0_neverOf 17 = .ok (.ifCond .ne 18, 3)) := by decide +kernel
theorem dX0_neverOf_0 : decode cX0_neverOf 0 = .ok (.iconst 0, 1) := qd0_23.1
theorem dX0_neverOf_1 : decode cX0_neverOf 1 = .ok (.istore_n 2, 1) := qd0_23.2.1
theorem dX0_neverOf_2 : decode cX0_neverOf 2 = .ok (.iconst 0, 1) := qd0_23.2.2.1
theorem dX0_neverOf_3 : decode cX0_neverOf 3 = .ok (.istore_n 3, 1) := qd0_23.2.2.2.1
theorem dX0_neverOf_4 : decode cX0_neverOf 4 = .ok (.iload_n 3, 1) := qd0_23.2.2.2.2.1
theorem dX0_neverOf_5 : decode cX0_neverOf 5 = .ok (.aload_n 1, 1) := qd0_23.2.2.2.2.2.1
theorem dX0_neverOf_6 : decode cX0_neverOf 6 = .ok (.getfield 44, 3) := qd0_23.2.2.2.2.2.2.1
theorem dX0_neverOf_9 : decode cX0_neverOf 9 = .ok (.if_icmp .ge 32, 3) := qd0_23.2.2.2.2.2.2.2.1
theorem dX0_neverOf_12 : decode cX0_neverOf 12 = .ok (.aload_n 1, 1) := qd0_23.2.2.2.2.2.2.2.2.1
theorem dX0_neverOf_13 : decode cX0_neverOf 13 = .ok (.iload_n 3, 1) := qd0_23.2.2.2.2.2.2.2.2.2.1
theorem dX0_neverOf_14 : decode cX0_neverOf 14 = .ok (.invokevirtual 69, 3) := qd0_23.2.2.2.2.2.2.2.2.2.2.1
theorem dX0_neverOf_17 : decode cX0_neverOf 17 = .ok (.ifCond .ne 18, 3) := qd0_23.2.2.2.2.2.2.2.2.2.2.2
theorem qd0_24 : (decode cX0_neverOf 20 = .ok (.aload_n 0, 1)) ∧ (decode cX0_neverOf 21 = .ok (.aload_n 1, 1)) ∧ (decode cX0_neverOf 22 = .ok (.iload_n 3, 1)) ∧ (decode cX0_neverOf 23 = .ok (.invokevirtual 91, 3)) ∧ (decode cX0_neverOf 26 = .ok (.ifCond .eq 9, 3)) ∧ (decode cX0_neverOf 29 = .ok (.iload_n 2, 1)) ∧ (decode cX0_neverOf 30 = .ok (.iconst 1, 1)) ∧ (decode cX0_neverOf 31 = .ok (.iload_n 3, 1)) ∧ (decode cX0_neverOf 32 = .ok (.ishl, 1)) ∧ (decode cX0_neverOf 33 = .ok (.ior, 1)) ∧ (decode cX0_neverOf 34 = .ok (.istore_n 2, 1)) ∧ (decode cX0_neverOf 35 = .ok (.iinc 3 1, 3)) := by decide +kernel
theorem dX0_neverOf_20 : decode cX0_neverOf 20 = .ok (.aload_n 0, 1) := qd0_24.1
theorem dX0_neverOf_21 : decode cX0_neverOf 21 = .ok (.aload_n 1, 1) := qd0_24.2.1
theorem dX0_neverOf_22 : decode cX0_neverOf 22 = .ok (.iload_n 3, 1) := qd0_24.2.2.1
theorem dX0_neverOf_23 : decode cX0_neverOf 23 = .ok (.invokevirtual 91, 3) := qd0_24.2.2.2.1
theorem dX0_neverOf_26 : decode cX0_neverOf 26 = .ok (.ifCond .eq 9, 3) := qd0_24.2.2.2.2.1
theorem dX0_neverOf_29 : decode cX0_neverOf 29 = .ok (.iload_n 2, 1) := qd0_24.2.2.2.2.2.1
theorem dX0_neverOf_30 : decode cX0_neverOf 30 = .ok (.iconst 1, 1) := qd0_24.2.2.2.2.2.2.1
theorem dX0_neverOf_31 : decode cX0_neverOf 31 = .ok (.iload_n 3, 1) := qd0_24.2.2.2.2.2.2.2.1
theorem dX0_neverOf_32 : decode cX0_neverOf 32 = .ok (.ishl, 1) := qd0_24.2.2.2.2.2.2.2.2.1
theorem dX0_neverOf_33 : decode cX0_neverOf 33 = .ok (.ior, 1) := qd0_24.2.2.2.2.2.2.2.2.2.1
theorem dX0_neverOf_34 : decode cX0_neverOf 34 = .ok (.istore_n 2, 1) := qd0_24.2.2.2.2.2.2.2.2.2.2.1
theorem dX0_neverOf_35 : decode cX0_neverOf 35 = .ok (.iinc 3 1, 3) := qd0_24.2.2.2.2.2.2.2.2.2.2.2
theorem qd0_25 : (decode cX0_neverOf 38 = .ok (.goto (-34), 3)) ∧ (decode cX0_neverOf 41 = .ok (.iload_n 2, 1)) ∧ (decode cX0_neverOf 42 = .ok (.ireturn, 1)) := by decide +kernel
theorem dX0_neverOf_38 : decode cX0_neverOf 38 = .ok (.goto (-34), 3) := qd0_25.1
theorem dX0_neverOf_41 : decode cX0_neverOf 41 = .ok (.iload_n 2, 1) := qd0_25.2.1
theorem dX0_neverOf_42 : decode cX0_neverOf 42 = .ok (.ireturn, 1) := qd0_25.2.2
theorem qd0_26 : (decode cX0_alwaysCostsMore 0 = .ok (.aload_n 1, 1)) ∧ (decode cX0_alwaysCostsMore 1 = .ok (.invokevirtual 32, 3)) ∧ (decode cX0_alwaysCostsMore 4 = .ok (.iconst 1, 1)) ∧ (decode cX0_alwaysCostsMore 5 = .ok (.iload_n 2, 1)) ∧ (decode cX0_alwaysCostsMore 6 = .ok (.ishl, 1)) ∧ (decode cX0_alwaysCostsMore 7 = .ok (.ior, 1)) ∧ (decode cX0_alwaysCostsMore 8 = .ok (.istore_n 3, 1)) ∧ (decode cX0_alwaysCostsMore 9 = .ok (.iconst 0, 1)) ∧ (decode cX0_alwaysCostsMore 10 = .ok (.istore 4, 2)) ∧ (decode cX0_alwaysCostsMore 12 = .ok (.iload 4, 2)) ∧ (decode cX0_alwaysCostsMore 14 = .ok (.iconst 1, 1)) ∧ (decode cX0_alwaysCostsMore 15 = .ok (.aload_n 1, 1)) := by decide +kernel
theorem dX0_alwaysCostsMore_0 : decode cX0_alwaysCostsMore 0 = .ok (.aload_n 1, 1) := qd0_26.1
theorem dX0_alwaysCostsMore_1 : decode cX0_alwaysCostsMore 1 = .ok (.invokevirtual 32, 3) := qd0_26.2.1
theorem dX0_alwaysCostsMore_4 : decode cX0_alwaysCostsMore 4 = .ok (.iconst 1, 1) := qd0_26.2.2.1
theorem dX0_alwaysCostsMore_5 : decode cX0_alwaysCostsMore 5 = .ok (.iload_n 2, 1) := qd0_26.2.2.2.1
theorem dX0_alwaysCostsMore_6 : decode cX0_alwaysCostsMore 6 = .ok (.ishl, 1) := qd0_26.2.2.2.2.1
theorem dX0_alwaysCostsMore_7 : decode cX0_alwaysCostsMore 7 = .ok (.ior, 1) := qd0_26.2.2.2.2.2.1
theorem dX0_alwaysCostsMore_8 : decode cX0_alwaysCostsMore 8 = .ok (.istore_n 3, 1) := qd0_26.2.2.2.2.2.2.1
theorem dX0_alwaysCostsMore_9 : decode cX0_alwaysCostsMore 9 = .ok (.iconst 0, 1) := qd0_26.2.2.2.2.2.2.2.1
theorem dX0_alwaysCostsMore_10 : decode cX0_alwaysCostsMore 10 = .ok (.istore 4, 2) := qd0_26.2.2.2.2.2.2.2.2.1
theorem dX0_alwaysCostsMore_12 : decode cX0_alwaysCostsMore 12 = .ok (.iload 4, 2) := qd0_26.2.2.2.2.2.2.2.2.2.1
theorem dX0_alwaysCostsMore_14 : decode cX0_alwaysCostsMore 14 = .ok (.iconst 1, 1) := qd0_26.2.2.2.2.2.2.2.2.2.2.1
theorem dX0_alwaysCostsMore_15 : decode cX0_alwaysCostsMore 15 = .ok (.aload_n 1, 1) := qd0_26.2.2.2.2.2.2.2.2.2.2.2
theorem qd0_27 : (decode cX0_alwaysCostsMore 16 = .ok (.getfield 44, 3)) ∧ (decode cX0_alwaysCostsMore 19 = .ok (.ishl, 1)) ∧ (decode cX0_alwaysCostsMore 20 = .ok (.if_icmp .ge 39, 3)) ∧ (decode cX0_alwaysCostsMore 23 = .ok (.iload 4, 2)) ∧ (decode cX0_alwaysCostsMore 25 = .ok (.iload_n 3, 1)) ∧ (decode cX0_alwaysCostsMore 26 = .ok (.iand, 1)) ∧ (decode cX0_alwaysCostsMore 27 = .ok (.ifCond .ne 26, 3)) ∧ (decode cX0_alwaysCostsMore 30 = .ok (.aload_n 0, 1)) ∧ (decode cX0_alwaysCostsMore 31 = .ok (.aload_n 1, 1)) ∧ (decode cX0_alwaysCostsMore 32 = .ok (.iload 4, 2)) ∧ (decode cX0_alwaysCostsMore 34 = .ok (.iconst 1, 1)) ∧ (decode cX0_alwaysCostsMore 35 = .ok (.iload_n 2, 1)) := by decide +kernel
theorem dX0_alwaysCostsMore_16 : decode cX0_alwaysCostsMore 16 = .ok (.getfield 44, 3) := qd0_27.1
theorem dX0_alwaysCostsMore_19 : decode cX0_alwaysCostsMore 19 = .ok (.ishl, 1) := qd0_27.2.1
theorem dX0_alwaysCostsMore_20 : decode cX0_alwaysCostsMore 20 = .ok (.if_icmp .ge 39, 3) := qd0_27.2.2.1
theorem dX0_alwaysCostsMore_23 : decode cX0_alwaysCostsMore 23 = .ok (.iload 4, 2) := qd0_27.2.2.2.1
theorem dX0_alwaysCostsMore_25 : decode cX0_alwaysCostsMore 25 = .ok (.iload_n 3, 1) := qd0_27.2.2.2.2.1
theorem dX0_alwaysCostsMore_26 : decode cX0_alwaysCostsMore 26 = .ok (.iand, 1) := qd0_27.2.2.2.2.2.1
theorem dX0_alwaysCostsMore_27 : decode cX0_alwaysCostsMore 27 = .ok (.ifCond .ne 26, 3) := qd0_27.2.2.2.2.2.2.1
theorem dX0_alwaysCostsMore_30 : decode cX0_alwaysCostsMore 30 = .ok (.aload_n 0, 1) := qd0_27.2.2.2.2.2.2.2.1
theorem dX0_alwaysCostsMore_31 : decode cX0_alwaysCostsMore 31 = .ok (.aload_n 1, 1) := qd0_27.2.2.2.2.2.2.2.2.1
theorem dX0_alwaysCostsMore_32 : decode cX0_alwaysCostsMore 32 = .ok (.iload 4, 2) := qd0_27.2.2.2.2.2.2.2.2.2.1
theorem dX0_alwaysCostsMore_34 : decode cX0_alwaysCostsMore 34 = .ok (.iconst 1, 1) := qd0_27.2.2.2.2.2.2.2.2.2.2.1
theorem dX0_alwaysCostsMore_35 : decode cX0_alwaysCostsMore 35 = .ok (.iload_n 2, 1) := qd0_27.2.2.2.2.2.2.2.2.2.2.2
theorem qd0_28 : (decode cX0_alwaysCostsMore 36 = .ok (.ishl, 1)) ∧ (decode cX0_alwaysCostsMore 37 = .ok (.ior, 1)) ∧ (decode cX0_alwaysCostsMore 38 = .ok (.invokevirtual 77, 3)) ∧ (decode cX0_alwaysCostsMore 41 = .ok (.aload_n 0, 1)) ∧ (decode cX0_alwaysCostsMore 42 = .ok (.aload_n 1, 1)) ∧ (decode cX0_alwaysCostsMore 43 = .ok (.iload 4, 2)) ∧ (decode cX0_alwaysCostsMore 45 = .ok (.invokevirtual 77, 3)) ∧ (decode cX0_alwaysCostsMore 48 = .ok (.if_icmp .gt 5, 3)) ∧ (decode cX0_alwaysCostsMore 51 = .ok (.iconst 0, 1)) ∧ (decode cX0_alwaysCostsMore 52 = .ok (.ireturn, 1)) ∧ (decode cX0_alwaysCostsMore 53 = .ok (.iinc 4 1, 3)) ∧ (decode cX0_alwaysCostsMore 56 = .ok (.goto (-44), 3)) := by decide +kernel
theorem dX0_alwaysCostsMore_36 : decode cX0_alwaysCostsMore 36 = .ok (.ishl, 1) := qd0_28.1
theorem dX0_alwaysCostsMore_37 : decode cX0_alwaysCostsMore 37 = .ok (.ior, 1) := qd0_28.2.1
theorem dX0_alwaysCostsMore_38 : decode cX0_alwaysCostsMore 38 = .ok (.invokevirtual 77, 3) := qd0_28.2.2.1
theorem dX0_alwaysCostsMore_41 : decode cX0_alwaysCostsMore 41 = .ok (.aload_n 0, 1) := qd0_28.2.2.2.1
theorem dX0_alwaysCostsMore_42 : decode cX0_alwaysCostsMore 42 = .ok (.aload_n 1, 1) := qd0_28.2.2.2.2.1
theorem dX0_alwaysCostsMore_43 : decode cX0_alwaysCostsMore 43 = .ok (.iload 4, 2) := qd0_28.2.2.2.2.2.1
theorem dX0_alwaysCostsMore_45 : decode cX0_alwaysCostsMore 45 = .ok (.invokevirtual 77, 3) := qd0_28.2.2.2.2.2.2.1
theorem dX0_alwaysCostsMore_48 : decode cX0_alwaysCostsMore 48 = .ok (.if_icmp .gt 5, 3) := qd0_28.2.2.2.2.2.2.2.1
theorem dX0_alwaysCostsMore_51 : decode cX0_alwaysCostsMore 51 = .ok (.iconst 0, 1) := qd0_28.2.2.2.2.2.2.2.2.1
theorem dX0_alwaysCostsMore_52 : decode cX0_alwaysCostsMore 52 = .ok (.ireturn, 1) := qd0_28.2.2.2.2.2.2.2.2.2.1
theorem dX0_alwaysCostsMore_53 : decode cX0_alwaysCostsMore 53 = .ok (.iinc 4 1, 3) := qd0_28.2.2.2.2.2.2.2.2.2.2.1
theorem dX0_alwaysCostsMore_56 : decode cX0_alwaysCostsMore 56 = .ok (.goto (-44), 3) := qd0_28.2.2.2.2.2.2.2.2.2.2.2
theorem qd0_29 : (decode cX0_alwaysCostsMore 59 = .ok (.iconst 1, 1)) ∧ (decode cX0_alwaysCostsMore 60 = .ok (.ireturn, 1)) := by decide +kernel
theorem dX0_alwaysCostsMore_59 : decode cX0_alwaysCostsMore 59 = .ok (.iconst 1, 1) := qd0_29.1
theorem dX0_alwaysCostsMore_60 : decode cX0_alwaysCostsMore 60 = .ok (.ireturn, 1) := qd0_29.2
theorem qd0_30 : (decode cX0_costOfWidth 0 = .ok (.aload_n 0, 1)) ∧ (decode cX0_costOfWidth 1 = .ok (.getfield 29, 3)) ∧ (decode cX0_costOfWidth 4 = .ok (.aload_n 1, 1)) ∧ (decode cX0_costOfWidth 5 = .ok (.invokevirtual 40, 3)) ∧ (decode cX0_costOfWidth 8 = .ok (.iconst 0, 1)) ∧ (decode cX0_costOfWidth 9 = .ok (.istore 4, 2)) ∧ (decode cX0_costOfWidth 11 = .ok (.iconst 0, 1)) ∧ (decode cX0_costOfWidth 12 = .ok (.istore 5, 2)) ∧ (decode cX0_costOfWidth 14 = .ok (.iload 5, 2)) ∧ (decode cX0_costOfWidth 16 = .ok (.aload_n 1, 1)) ∧ (decode cX0_costOfWidth 17 = .ok (.getfield 95, 3)) ∧ (decode cX0_costOfWidth 20 = .ok (.if_icmp .ge 60, 3)) := by decide +kernel
theorem dX0_costOfWidth_0 : decode cX0_costOfWidth 0 = .ok (.aload_n 0, 1) := qd0_30.1
theorem dX0_costOfWidth_1 : decode cX0_costOfWidth 1 = .ok (.getfield 29, 3) := qd0_30.2.1
theorem dX0_costOfWidth_4 : decode cX0_costOfWidth 4 = .ok (.aload_n 1, 1) := qd0_30.2.2.1
theorem dX0_costOfWidth_5 : decode cX0_costOfWidth 5 = .ok (.invokevirtual 40, 3) := qd0_30.2.2.2.1
theorem dX0_costOfWidth_8 : decode cX0_costOfWidth 8 = .ok (.iconst 0, 1) := qd0_30.2.2.2.2.1
theorem dX0_costOfWidth_9 : decode cX0_costOfWidth 9 = .ok (.istore 4, 2) := qd0_30.2.2.2.2.2.1
theorem dX0_costOfWidth_11 : decode cX0_costOfWidth 11 = .ok (.iconst 0, 1) := qd0_30.2.2.2.2.2.2.1
theorem dX0_costOfWidth_12 : decode cX0_costOfWidth 12 = .ok (.istore 5, 2) := qd0_30.2.2.2.2.2.2.2.1
theorem dX0_costOfWidth_14 : decode cX0_costOfWidth 14 = .ok (.iload 5, 2) := qd0_30.2.2.2.2.2.2.2.2.1
theorem dX0_costOfWidth_16 : decode cX0_costOfWidth 16 = .ok (.aload_n 1, 1) := qd0_30.2.2.2.2.2.2.2.2.2.1
theorem dX0_costOfWidth_17 : decode cX0_costOfWidth 17 = .ok (.getfield 95, 3) := qd0_30.2.2.2.2.2.2.2.2.2.2.1
theorem dX0_costOfWidth_20 : decode cX0_costOfWidth 20 = .ok (.if_icmp .ge 60, 3) := qd0_30.2.2.2.2.2.2.2.2.2.2.2
theorem qd0_31 : (decode cX0_costOfWidth 23 = .ok (.aload_n 1, 1)) ∧ (decode cX0_costOfWidth 24 = .ok (.iload 5, 2)) ∧ (decode cX0_costOfWidth 26 = .ok (.bipush 6, 2)) ∧ (decode cX0_costOfWidth 28 = .ok (.invokevirtual 98, 3)) ∧ (decode cX0_costOfWidth 31 = .ok (.ifCond .ne 43, 3)) ∧ (decode cX0_costOfWidth 34 = .ok (.aload_n 1, 1)) ∧ (decode cX0_costOfWidth 35 = .ok (.iload 5, 2)) ∧ (decode cX0_costOfWidth 37 = .ok (.iconst 2, 1)) ∧ (decode cX0_costOfWidth 38 = .ok (.invokevirtual 98, 3)) ∧ (decode cX0_costOfWidth 41 = .ok (.iload_n 2, 1)) ∧ (decode cX0_costOfWidth 42 = .ok (.ishr, 1)) ∧ (decode cX0_costOfWidth 43 = .ok (.iconst 1, 1)) := by decide +kernel
theorem dX0_costOfWidth_23 : decode cX0_costOfWidth 23 = .ok (.aload_n 1, 1) := qd0_31.1
theorem dX0_costOfWidth_24 : decode cX0_costOfWidth 24 = .ok (.iload 5, 2) := qd0_31.2.1
theorem dX0_costOfWidth_26 : decode cX0_costOfWidth 26 = .ok (.bipush 6, 2) := qd0_31.2.2.1
theorem dX0_costOfWidth_28 : decode cX0_costOfWidth 28 = .ok (.invokevirtual 98, 3) := qd0_31.2.2.2.1
theorem dX0_costOfWidth_31 : decode cX0_costOfWidth 31 = .ok (.ifCond .ne 43, 3) := qd0_31.2.2.2.2.1
theorem dX0_costOfWidth_34 : decode cX0_costOfWidth 34 = .ok (.aload_n 1, 1) := qd0_31.2.2.2.2.2.1
theorem dX0_costOfWidth_35 : decode cX0_costOfWidth 35 = .ok (.iload 5, 2) := qd0_31.2.2.2.2.2.2.1
theorem dX0_costOfWidth_37 : decode cX0_costOfWidth 37 = .ok (.iconst 2, 1) := qd0_31.2.2.2.2.2.2.2.1
theorem dX0_costOfWidth_38 : decode cX0_costOfWidth 38 = .ok (.invokevirtual 98, 3) := qd0_31.2.2.2.2.2.2.2.2.1
theorem dX0_costOfWidth_41 : decode cX0_costOfWidth 41 = .ok (.iload_n 2, 1) := qd0_31.2.2.2.2.2.2.2.2.2.1
theorem dX0_costOfWidth_42 : decode cX0_costOfWidth 42 = .ok (.ishr, 1) := qd0_31.2.2.2.2.2.2.2.2.2.2.1
theorem dX0_costOfWidth_43 : decode cX0_costOfWidth 43 = .ok (.iconst 1, 1) := qd0_31.2.2.2.2.2.2.2.2.2.2.2
theorem qd0_32 : (decode cX0_costOfWidth 44 = .ok (.iand, 1)) ∧ (decode cX0_costOfWidth 45 = .ok (.ifCond .ne 17, 3)) ∧ (decode cX0_costOfWidth 48 = .ok (.iload 4, 2)) ∧ (decode cX0_costOfWidth 50 = .ok (.iload_n 3, 1)) ∧ (decode cX0_costOfWidth 51 = .ok (.aload_n 1, 1)) ∧ (decode cX0_costOfWidth 52 = .ok (.iload 5, 2)) ∧ (decode cX0_costOfWidth 54 = .ok (.iconst 3, 1)) ∧ (decode cX0_costOfWidth 55 = .ok (.invokevirtual 98, 3)) ∧ (decode cX0_costOfWidth 58 = .ok (.imul, 1)) ∧ (decode cX0_costOfWidth 59 = .ok (.iadd, 1)) ∧ (decode cX0_costOfWidth 60 = .ok (.istore 4, 2)) ∧ (decode cX0_costOfWidth 62 = .ok (.aload_n 0, 1)) := by decide +kernel
theorem dX0_costOfWidth_44 : decode cX0_costOfWidth 44 = .ok (.iand, 1) := qd0_32.1
theorem dX0_costOfWidth_45 : decode cX0_costOfWidth 45 = .ok (.ifCond .ne 17, 3) := qd0_32.2.1
theorem dX0_costOfWidth_48 : decode cX0_costOfWidth 48 = .ok (.iload 4, 2) := qd0_32.2.2.1
theorem dX0_costOfWidth_50 : decode cX0_costOfWidth 50 = .ok (.iload_n 3, 1) := qd0_32.2.2.2.1
theorem dX0_costOfWidth_51 : decode cX0_costOfWidth 51 = .ok (.aload_n 1, 1) := qd0_32.2.2.2.2.1
theorem dX0_costOfWidth_52 : decode cX0_costOfWidth 52 = .ok (.iload 5, 2) := qd0_32.2.2.2.2.2.1
theorem dX0_costOfWidth_54 : decode cX0_costOfWidth 54 = .ok (.iconst 3, 1) := qd0_32.2.2.2.2.2.2.1
theorem dX0_costOfWidth_55 : decode cX0_costOfWidth 55 = .ok (.invokevirtual 98, 3) := qd0_32.2.2.2.2.2.2.2.1
theorem dX0_costOfWidth_58 : decode cX0_costOfWidth 58 = .ok (.imul, 1) := qd0_32.2.2.2.2.2.2.2.2.1
theorem dX0_costOfWidth_59 : decode cX0_costOfWidth 59 = .ok (.iadd, 1) := qd0_32.2.2.2.2.2.2.2.2.2.1
theorem dX0_costOfWidth_60 : decode cX0_costOfWidth 60 = .ok (.istore 4, 2) := qd0_32.2.2.2.2.2.2.2.2.2.2.1
theorem dX0_costOfWidth_62 : decode cX0_costOfWidth 62 = .ok (.aload_n 0, 1) := qd0_32.2.2.2.2.2.2.2.2.2.2.2
theorem qd0_33 : (decode cX0_costOfWidth 63 = .ok (.getfield 29, 3)) ∧ (decode cX0_costOfWidth 66 = .ok (.iload 5, 2)) ∧ (decode cX0_costOfWidth 68 = .ok (.iconst 1, 1)) ∧ (decode cX0_costOfWidth 69 = .ok (.iload_n 2, 1)) ∧ (decode cX0_costOfWidth 70 = .ok (.ishl, 1)) ∧ (decode cX0_costOfWidth 71 = .ok (.invokevirtual 101, 3)) ∧ (decode cX0_costOfWidth 74 = .ok (.iinc 5 1, 3)) ∧ (decode cX0_costOfWidth 77 = .ok (.goto (-63), 3)) ∧ (decode cX0_costOfWidth 80 = .ok (.iload 4, 2)) ∧ (decode cX0_costOfWidth 82 = .ok (.aload_n 1, 1)) ∧ (decode cX0_costOfWidth 83 = .ok (.getfield 63, 3)) ∧ (decode cX0_costOfWidth 86 = .ok (.aload_n 0, 1)) := by decide +kernel
theorem dX0_costOfWidth_63 : decode cX0_costOfWidth 63 = .ok (.getfield 29, 3) := qd0_33.1
theorem dX0_costOfWidth_66 : decode cX0_costOfWidth 66 = .ok (.iload 5, 2) := qd0_33.2.1
theorem dX0_costOfWidth_68 : decode cX0_costOfWidth 68 = .ok (.iconst 1, 1) := qd0_33.2.2.1
theorem dX0_costOfWidth_69 : decode cX0_costOfWidth 69 = .ok (.iload_n 2, 1) := qd0_33.2.2.2.1
theorem dX0_costOfWidth_70 : decode cX0_costOfWidth 70 = .ok (.ishl, 1) := qd0_33.2.2.2.2.1
theorem dX0_costOfWidth_71 : decode cX0_costOfWidth 71 = .ok (.invokevirtual 101, 3) := qd0_33.2.2.2.2.2.1
theorem dX0_costOfWidth_74 : decode cX0_costOfWidth 74 = .ok (.iinc 5 1, 3) := qd0_33.2.2.2.2.2.2.1
theorem dX0_costOfWidth_77 : decode cX0_costOfWidth 77 = .ok (.goto (-63), 3) := qd0_33.2.2.2.2.2.2.2.1
theorem dX0_costOfWidth_80 : decode cX0_costOfWidth 80 = .ok (.iload 4, 2) := qd0_33.2.2.2.2.2.2.2.2.1
theorem dX0_costOfWidth_82 : decode cX0_costOfWidth 82 = .ok (.aload_n 1, 1) := qd0_33.2.2.2.2.2.2.2.2.2.1
theorem dX0_costOfWidth_83 : decode cX0_costOfWidth 83 = .ok (.getfield 63, 3) := qd0_33.2.2.2.2.2.2.2.2.2.2.1
theorem dX0_costOfWidth_86 : decode cX0_costOfWidth 86 = .ok (.aload_n 0, 1) := qd0_33.2.2.2.2.2.2.2.2.2.2.2
theorem qd0_34 : (decode cX0_costOfWidth 87 = .ok (.getfield 12, 3)) ∧ (decode cX0_costOfWidth 90 = .ok (.aload_n 0, 1)) ∧ (decode cX0_costOfWidth 91 = .ok (.getfield 29, 3)) ∧ (decode cX0_costOfWidth 94 = .ok (.aload_n 0, 1)) ∧ (decode cX0_costOfWidth 95 = .ok (.getfield 29, 3)) ∧ (decode cX0_costOfWidth 98 = .ok (.invokevirtual 52, 3)) ∧ (decode cX0_costOfWidth 101 = .ok (.invokevirtual 55, 3)) ∧ (decode cX0_costOfWidth 104 = .ok (.imul, 1)) ∧ (decode cX0_costOfWidth 105 = .ok (.iadd, 1)) ∧ (decode cX0_costOfWidth 106 = .ok (.ireturn, 1)) := by decide +kernel
theorem dX0_costOfWidth_87 : decode cX0_costOfWidth 87 = .ok (.getfield 12, 3) := qd0_34.1
theorem dX0_costOfWidth_90 : decode cX0_costOfWidth 90 = .ok (.aload_n 0, 1) := qd0_34.2.1
theorem dX0_costOfWidth_91 : decode cX0_costOfWidth 91 = .ok (.getfield 29, 3) := qd0_34.2.2.1
theorem dX0_costOfWidth_94 : decode cX0_costOfWidth 94 = .ok (.aload_n 0, 1) := qd0_34.2.2.2.1
theorem dX0_costOfWidth_95 : decode cX0_costOfWidth 95 = .ok (.getfield 29, 3) := qd0_34.2.2.2.2.1
theorem dX0_costOfWidth_98 : decode cX0_costOfWidth 98 = .ok (.invokevirtual 52, 3) := qd0_34.2.2.2.2.2.1
theorem dX0_costOfWidth_101 : decode cX0_costOfWidth 101 = .ok (.invokevirtual 55, 3) := qd0_34.2.2.2.2.2.2.1
theorem dX0_costOfWidth_104 : decode cX0_costOfWidth 104 = .ok (.imul, 1) := qd0_34.2.2.2.2.2.2.2.1
theorem dX0_costOfWidth_105 : decode cX0_costOfWidth 105 = .ok (.iadd, 1) := qd0_34.2.2.2.2.2.2.2.2.1
theorem dX0_costOfWidth_106 : decode cX0_costOfWidth 106 = .ok (.ireturn, 1) := qd0_34.2.2.2.2.2.2.2.2.2
theorem qd0_35 : (decode cX0_gainBy 0 = .ok (.aload_n 0, 1)) ∧ (decode cX0_gainBy 1 = .ok (.getfield 29, 3)) ∧ (decode cX0_gainBy 4 = .ok (.aload_n 1, 1)) ∧ (decode cX0_gainBy 5 = .ok (.invokevirtual 40, 3)) ∧ (decode cX0_gainBy 8 = .ok (.aload_n 0, 1)) ∧ (decode cX0_gainBy 9 = .ok (.getfield 29, 3)) ∧ (decode cX0_gainBy 12 = .ok (.iload_n 2, 1)) ∧ (decode cX0_gainBy 13 = .ok (.invokevirtual 48, 3)) ∧ (decode cX0_gainBy 16 = .ok (.aload_n 0, 1)) ∧ (decode cX0_gainBy 17 = .ok (.getfield 12, 3)) ∧ (decode cX0_gainBy 20 = .ok (.aload_n 0, 1)) ∧ (decode cX0_gainBy 21 = .ok (.getfield 29, 3)) := by decide +kernel
theorem dX0_gainBy_0 : decode cX0_gainBy 0 = .ok (.aload_n 0, 1) := qd0_35.1
theorem dX0_gainBy_1 : decode cX0_gainBy 1 = .ok (.getfield 29, 3) := qd0_35.2.1
theorem dX0_gainBy_4 : decode cX0_gainBy 4 = .ok (.aload_n 1, 1) := qd0_35.2.2.1
theorem dX0_gainBy_5 : decode cX0_gainBy 5 = .ok (.invokevirtual 40, 3) := qd0_35.2.2.2.1
theorem dX0_gainBy_8 : decode cX0_gainBy 8 = .ok (.aload_n 0, 1) := qd0_35.2.2.2.2.1
theorem dX0_gainBy_9 : decode cX0_gainBy 9 = .ok (.getfield 29, 3) := qd0_35.2.2.2.2.2.1
theorem dX0_gainBy_12 : decode cX0_gainBy 12 = .ok (.iload_n 2, 1) := qd0_35.2.2.2.2.2.2.1
theorem dX0_gainBy_13 : decode cX0_gainBy 13 = .ok (.invokevirtual 48, 3) := qd0_35.2.2.2.2.2.2.2.1
theorem dX0_gainBy_16 : decode cX0_gainBy 16 = .ok (.aload_n 0, 1) := qd0_35.2.2.2.2.2.2.2.2.1
theorem dX0_gainBy_17 : decode cX0_gainBy 17 = .ok (.getfield 12, 3) := qd0_35.2.2.2.2.2.2.2.2.2.1
theorem dX0_gainBy_20 : decode cX0_gainBy 20 = .ok (.aload_n 0, 1) := qd0_35.2.2.2.2.2.2.2.2.2.2.1
theorem dX0_gainBy_21 : decode cX0_gainBy 21 = .ok (.getfield 29, 3) := qd0_35.2.2.2.2.2.2.2.2.2.2.2
theorem qd0_36 : (decode cX0_gainBy 24 = .ok (.aload_n 0, 1)) ∧ (decode cX0_gainBy 25 = .ok (.getfield 25, 3)) ∧ (decode cX0_gainBy 28 = .ok (.invokevirtual 104, 3)) ∧ (decode cX0_gainBy 31 = .ok (.aload_n 0, 1)) ∧ (decode cX0_gainBy 32 = .ok (.getfield 12, 3)) ∧ (decode cX0_gainBy 35 = .ok (.aload_n 1, 1)) ∧ (decode cX0_gainBy 36 = .ok (.aload_n 0, 1)) ∧ (decode cX0_gainBy 37 = .ok (.getfield 12, 3)) ∧ (decode cX0_gainBy 40 = .ok (.getfield 108, 3)) ∧ (decode cX0_gainBy 43 = .ok (.invokevirtual 104, 3)) ∧ (decode cX0_gainBy 46 = .ok (.iconst 0, 1)) ∧ (decode cX0_gainBy 47 = .ok (.istore_n 3, 1)) := by decide +kernel
theorem dX0_gainBy_24 : decode cX0_gainBy 24 = .ok (.aload_n 0, 1) := qd0_36.1
theorem dX0_gainBy_25 : decode cX0_gainBy 25 = .ok (.getfield 25, 3) := qd0_36.2.1
theorem dX0_gainBy_28 : decode cX0_gainBy 28 = .ok (.invokevirtual 104, 3) := qd0_36.2.2.1
theorem dX0_gainBy_31 : decode cX0_gainBy 31 = .ok (.aload_n 0, 1) := qd0_36.2.2.2.1
theorem dX0_gainBy_32 : decode cX0_gainBy 32 = .ok (.getfield 12, 3) := qd0_36.2.2.2.2.1
theorem dX0_gainBy_35 : decode cX0_gainBy 35 = .ok (.aload_n 1, 1) := qd0_36.2.2.2.2.2.1
theorem dX0_gainBy_36 : decode cX0_gainBy 36 = .ok (.aload_n 0, 1) := qd0_36.2.2.2.2.2.2.1
theorem dX0_gainBy_37 : decode cX0_gainBy 37 = .ok (.getfield 12, 3) := qd0_36.2.2.2.2.2.2.2.1
theorem dX0_gainBy_40 : decode cX0_gainBy 40 = .ok (.getfield 108, 3) := qd0_36.2.2.2.2.2.2.2.2.1
theorem dX0_gainBy_43 : decode cX0_gainBy 43 = .ok (.invokevirtual 104, 3) := qd0_36.2.2.2.2.2.2.2.2.2.1
theorem dX0_gainBy_46 : decode cX0_gainBy 46 = .ok (.iconst 0, 1) := qd0_36.2.2.2.2.2.2.2.2.2.2.1
theorem dX0_gainBy_47 : decode cX0_gainBy 47 = .ok (.istore_n 3, 1) := qd0_36.2.2.2.2.2.2.2.2.2.2.2
theorem qd0_37 : (decode cX0_gainBy 48 = .ok (.iload_n 3, 1)) ∧ (decode cX0_gainBy 49 = .ok (.bipush 6, 2)) ∧ (decode cX0_gainBy 51 = .ok (.if_icmp .ge 27, 3)) ∧ (decode cX0_gainBy 54 = .ok (.aload_n 0, 1)) ∧ (decode cX0_gainBy 55 = .ok (.getfield 25, 3)) ∧ (decode cX0_gainBy 58 = .ok (.iload_n 3, 1)) ∧ (decode cX0_gainBy 59 = .ok (.dup2, 1)) ∧ (decode cX0_gainBy 60 = .ok (.iaload, 1)) ∧ (decode cX0_gainBy 61 = .ok (.aload_n 0, 1)) ∧ (decode cX0_gainBy 62 = .ok (.getfield 12, 3)) ∧ (decode cX0_gainBy 65 = .ok (.getfield 108, 3)) ∧ (decode cX0_gainBy 68 = .ok (.iload_n 3, 1)) := by decide +kernel
theorem dX0_gainBy_48 : decode cX0_gainBy 48 = .ok (.iload_n 3, 1) := qd0_37.1
theorem dX0_gainBy_49 : decode cX0_gainBy 49 = .ok (.bipush 6, 2) := qd0_37.2.1
theorem dX0_gainBy_51 : decode cX0_gainBy 51 = .ok (.if_icmp .ge 27, 3) := qd0_37.2.2.1
theorem dX0_gainBy_54 : decode cX0_gainBy 54 = .ok (.aload_n 0, 1) := qd0_37.2.2.2.1
theorem dX0_gainBy_55 : decode cX0_gainBy 55 = .ok (.getfield 25, 3) := qd0_37.2.2.2.2.1
theorem dX0_gainBy_58 : decode cX0_gainBy 58 = .ok (.iload_n 3, 1) := qd0_37.2.2.2.2.2.1
theorem dX0_gainBy_59 : decode cX0_gainBy 59 = .ok (.dup2, 1) := qd0_37.2.2.2.2.2.2.1
theorem dX0_gainBy_60 : decode cX0_gainBy 60 = .ok (.iaload, 1) := qd0_37.2.2.2.2.2.2.2.1
theorem dX0_gainBy_61 : decode cX0_gainBy 61 = .ok (.aload_n 0, 1) := qd0_37.2.2.2.2.2.2.2.2.1
theorem dX0_gainBy_62 : decode cX0_gainBy 62 = .ok (.getfield 12, 3) := qd0_37.2.2.2.2.2.2.2.2.2.1
theorem dX0_gainBy_65 : decode cX0_gainBy 65 = .ok (.getfield 108, 3) := qd0_37.2.2.2.2.2.2.2.2.2.2.1
theorem dX0_gainBy_68 : decode cX0_gainBy 68 = .ok (.iload_n 3, 1) := qd0_37.2.2.2.2.2.2.2.2.2.2.2
theorem qd0_38 : (decode cX0_gainBy 69 = .ok (.iaload, 1)) ∧ (decode cX0_gainBy 70 = .ok (.isub, 1)) ∧ (decode cX0_gainBy 71 = .ok (.iastore, 1)) ∧ (decode cX0_gainBy 72 = .ok (.iinc 3 1, 3)) ∧ (decode cX0_gainBy 75 = .ok (.goto (-27), 3)) ∧ (decode cX0_gainBy 78 = .ok (.return_, 1)) := by decide +kernel
theorem dX0_gainBy_69 : decode cX0_gainBy 69 = .ok (.iaload, 1) := qd0_38.1
theorem dX0_gainBy_70 : decode cX0_gainBy 70 = .ok (.isub, 1) := qd0_38.2.1
theorem dX0_gainBy_71 : decode cX0_gainBy 71 = .ok (.iastore, 1) := qd0_38.2.2.1
theorem dX0_gainBy_72 : decode cX0_gainBy 72 = .ok (.iinc 3 1, 3) := qd0_38.2.2.2.1
theorem dX0_gainBy_75 : decode cX0_gainBy 75 = .ok (.goto (-27), 3) := qd0_38.2.2.2.2.1
theorem dX0_gainBy_78 : decode cX0_gainBy 78 = .ok (.return_, 1) := qd0_38.2.2.2.2.2
theorem qd0_39 : (decode cX0_workTold 0 = .ok (.lload_n 1, 1)) ∧ (decode cX0_workTold 1 = .ok (.lconst 0, 1)) ∧ (decode cX0_workTold 2 = .ok (.lcmp, 1)) ∧ (decode cX0_workTold 3 = .ok (.ifCond .lt 22, 3)) ∧ (decode cX0_workTold 6 = .ok (.lload_n 1, 1)) ∧ (decode cX0_workTold 7 = .ok (.aload_n 0, 1)) ∧ (decode cX0_workTold 8 = .ok (.getfield 44, 3)) ∧ (decode cX0_workTold 11 = .ok (.i2l, 1)) ∧ (decode cX0_workTold 12 = .ok (.lcmp, 1)) ∧ (decode cX0_workTold 13 = .ok (.ifCond .ge 12, 3)) ∧ (decode cX0_workTold 16 = .ok (.aload_n 0, 1)) ∧ (decode cX0_workTold 17 = .ok (.lload_n 1, 1)) := by decide +kernel
theorem dX0_workTold_0 : decode cX0_workTold 0 = .ok (.lload_n 1, 1) := qd0_39.1
theorem dX0_workTold_1 : decode cX0_workTold 1 = .ok (.lconst 0, 1) := qd0_39.2.1
theorem dX0_workTold_2 : decode cX0_workTold 2 = .ok (.lcmp, 1) := qd0_39.2.2.1
theorem dX0_workTold_3 : decode cX0_workTold 3 = .ok (.ifCond .lt 22, 3) := qd0_39.2.2.2.1
theorem dX0_workTold_6 : decode cX0_workTold 6 = .ok (.lload_n 1, 1) := qd0_39.2.2.2.2.1
theorem dX0_workTold_7 : decode cX0_workTold 7 = .ok (.aload_n 0, 1) := qd0_39.2.2.2.2.2.1
theorem dX0_workTold_8 : decode cX0_workTold 8 = .ok (.getfield 44, 3) := qd0_39.2.2.2.2.2.2.1
theorem dX0_workTold_11 : decode cX0_workTold 11 = .ok (.i2l, 1) := qd0_39.2.2.2.2.2.2.2.1
theorem dX0_workTold_12 : decode cX0_workTold 12 = .ok (.lcmp, 1) := qd0_39.2.2.2.2.2.2.2.2.1
theorem dX0_workTold_13 : decode cX0_workTold 13 = .ok (.ifCond .ge 12, 3) := qd0_39.2.2.2.2.2.2.2.2.2.1
theorem dX0_workTold_16 : decode cX0_workTold 16 = .ok (.aload_n 0, 1) := qd0_39.2.2.2.2.2.2.2.2.2.2.1
theorem dX0_workTold_17 : decode cX0_workTold 17 = .ok (.lload_n 1, 1) := qd0_39.2.2.2.2.2.2.2.2.2.2.2
theorem qd0_40 : (decode cX0_workTold 18 = .ok (.l2i, 1)) ∧ (decode cX0_workTold 19 = .ok (.invokevirtual 69, 3)) ∧ (decode cX0_workTold 22 = .ok (.ifCond .eq 5, 3)) ∧ (decode cX0_workTold 25 = .ok (.iconst (-1), 1)) ∧ (decode cX0_workTold 26 = .ok (.ireturn, 1)) ∧ (decode cX0_workTold 27 = .ok (.lload_n 1, 1)) ∧ (decode cX0_workTold 28 = .ok (.l2i, 1)) ∧ (decode cX0_workTold 29 = .ok (.ireturn, 1)) := by decide +kernel
theorem dX0_workTold_18 : decode cX0_workTold 18 = .ok (.l2i, 1) := qd0_40.1
theorem dX0_workTold_19 : decode cX0_workTold 19 = .ok (.invokevirtual 69, 3) := qd0_40.2.1
theorem dX0_workTold_22 : decode cX0_workTold 22 = .ok (.ifCond .eq 5, 3) := qd0_40.2.2.1
theorem dX0_workTold_25 : decode cX0_workTold 25 = .ok (.iconst (-1), 1) := qd0_40.2.2.2.1
theorem dX0_workTold_26 : decode cX0_workTold 26 = .ok (.ireturn, 1) := qd0_40.2.2.2.2.1
theorem dX0_workTold_27 : decode cX0_workTold 27 = .ok (.lload_n 1, 1) := qd0_40.2.2.2.2.2.1
theorem dX0_workTold_28 : decode cX0_workTold 28 = .ok (.l2i, 1) := qd0_40.2.2.2.2.2.2.1
theorem dX0_workTold_29 : decode cX0_workTold 29 = .ok (.ireturn, 1) := qd0_40.2.2.2.2.2.2.2
theorem qd0_41 : (decode cX0_wrongAt 0 = .ok (.iconst 0, 1)) ∧ (decode cX0_wrongAt 1 = .ok (.istore 4, 2)) ∧ (decode cX0_wrongAt 3 = .ok (.iconst 0, 1)) ∧ (decode cX0_wrongAt 4 = .ok (.istore 5, 2)) ∧ (decode cX0_wrongAt 6 = .ok (.iload 5, 2)) ∧ (decode cX0_wrongAt 8 = .ok (.iload_n 3, 1)) ∧ (decode cX0_wrongAt 9 = .ok (.if_icmp .ge 54, 3)) ∧ (decode cX0_wrongAt 12 = .ok (.iload 5, 2)) ∧ (decode cX0_wrongAt 14 = .ok (.aload_n 2, 1)) ∧ (decode cX0_wrongAt 15 = .ok (.arraylength, 1)) ∧ (decode cX0_wrongAt 16 = .ok (.if_icmp .ge 47, 3)) ∧ (decode cX0_wrongAt 19 = .ok (.aload_n 1, 1)) := by decide +kernel
theorem dX0_wrongAt_0 : decode cX0_wrongAt 0 = .ok (.iconst 0, 1) := qd0_41.1
theorem dX0_wrongAt_1 : decode cX0_wrongAt 1 = .ok (.istore 4, 2) := qd0_41.2.1
theorem dX0_wrongAt_3 : decode cX0_wrongAt 3 = .ok (.iconst 0, 1) := qd0_41.2.2.1
theorem dX0_wrongAt_4 : decode cX0_wrongAt 4 = .ok (.istore 5, 2) := qd0_41.2.2.2.1
theorem dX0_wrongAt_6 : decode cX0_wrongAt 6 = .ok (.iload 5, 2) := qd0_41.2.2.2.2.1
theorem dX0_wrongAt_8 : decode cX0_wrongAt 8 = .ok (.iload_n 3, 1) := qd0_41.2.2.2.2.2.1
theorem dX0_wrongAt_9 : decode cX0_wrongAt 9 = .ok (.if_icmp .ge 54, 3) := qd0_41.2.2.2.2.2.2.1
theorem dX0_wrongAt_12 : decode cX0_wrongAt 12 = .ok (.iload 5, 2) := qd0_41.2.2.2.2.2.2.2.1
theorem dX0_wrongAt_14 : decode cX0_wrongAt 14 = .ok (.aload_n 2, 1) := qd0_41.2.2.2.2.2.2.2.2.1
theorem dX0_wrongAt_15 : decode cX0_wrongAt 15 = .ok (.arraylength, 1) := qd0_41.2.2.2.2.2.2.2.2.2.1
theorem dX0_wrongAt_16 : decode cX0_wrongAt 16 = .ok (.if_icmp .ge 47, 3) := qd0_41.2.2.2.2.2.2.2.2.2.2.1
theorem dX0_wrongAt_19 : decode cX0_wrongAt 19 = .ok (.aload_n 1, 1) := qd0_41.2.2.2.2.2.2.2.2.2.2.2
theorem qd0_42 : (decode cX0_wrongAt 20 = .ok (.aload_n 2, 1)) ∧ (decode cX0_wrongAt 21 = .ok (.iload 5, 2)) ∧ (decode cX0_wrongAt 23 = .ok (.laload, 1)) ∧ (decode cX0_wrongAt 24 = .ok (.invokestatic 111, 3)) ∧ (decode cX0_wrongAt 27 = .ok (.istore 6, 2)) ∧ (decode cX0_wrongAt 29 = .ok (.iload 6, 2)) ∧ (decode cX0_wrongAt 31 = .ok (.iconst (-1), 1)) ∧ (decode cX0_wrongAt 32 = .ok (.if_icmp .eq 25, 3)) ∧ (decode cX0_wrongAt 35 = .ok (.iload 4, 2)) ∧ (decode cX0_wrongAt 37 = .ok (.iload 6, 2)) ∧ (decode cX0_wrongAt 39 = .ok (.ishr, 1)) ∧ (decode cX0_wrongAt 40 = .ok (.iconst 1, 1)) := by decide +kernel
theorem dX0_wrongAt_20 : decode cX0_wrongAt 20 = .ok (.aload_n 2, 1) := qd0_42.1
theorem dX0_wrongAt_21 : decode cX0_wrongAt 21 = .ok (.iload 5, 2) := qd0_42.2.1
theorem dX0_wrongAt_23 : decode cX0_wrongAt 23 = .ok (.laload, 1) := qd0_42.2.2.1
theorem dX0_wrongAt_24 : decode cX0_wrongAt 24 = .ok (.invokestatic 111, 3) := qd0_42.2.2.2.1
theorem dX0_wrongAt_27 : decode cX0_wrongAt 27 = .ok (.istore 6, 2) := qd0_42.2.2.2.2.1
theorem dX0_wrongAt_29 : decode cX0_wrongAt 29 = .ok (.iload 6, 2) := qd0_42.2.2.2.2.2.1
theorem dX0_wrongAt_31 : decode cX0_wrongAt 31 = .ok (.iconst (-1), 1) := qd0_42.2.2.2.2.2.2.1
theorem dX0_wrongAt_32 : decode cX0_wrongAt 32 = .ok (.if_icmp .eq 25, 3) := qd0_42.2.2.2.2.2.2.2.1
theorem dX0_wrongAt_35 : decode cX0_wrongAt 35 = .ok (.iload 4, 2) := qd0_42.2.2.2.2.2.2.2.2.1
theorem dX0_wrongAt_37 : decode cX0_wrongAt 37 = .ok (.iload 6, 2) := qd0_42.2.2.2.2.2.2.2.2.2.1
theorem dX0_wrongAt_39 : decode cX0_wrongAt 39 = .ok (.ishr, 1) := qd0_42.2.2.2.2.2.2.2.2.2.2.1
theorem dX0_wrongAt_40 : decode cX0_wrongAt 40 = .ok (.iconst 1, 1) := qd0_42.2.2.2.2.2.2.2.2.2.2.2
theorem qd0_43 : (decode cX0_wrongAt 41 = .ok (.iand, 1)) ∧ (decode cX0_wrongAt 42 = .ok (.ifCond .eq 6, 3)) ∧ (decode cX0_wrongAt 45 = .ok (.iload 5, 2)) ∧ (decode cX0_wrongAt 47 = .ok (.ireturn, 1)) ∧ (decode cX0_wrongAt 48 = .ok (.iload 4, 2)) ∧ (decode cX0_wrongAt 50 = .ok (.iconst 1, 1)) ∧ (decode cX0_wrongAt 51 = .ok (.iload 6, 2)) ∧ (decode cX0_wrongAt 53 = .ok (.ishl, 1)) ∧ (decode cX0_wrongAt 54 = .ok (.ior, 1)) ∧ (decode cX0_wrongAt 55 = .ok (.istore 4, 2)) ∧ (decode cX0_wrongAt 57 = .ok (.iinc 5 1, 3)) ∧ (decode cX0_wrongAt 60 = .ok (.goto (-54), 3)) := by decide +kernel
theorem dX0_wrongAt_41 : decode cX0_wrongAt 41 = .ok (.iand, 1) := qd0_43.1
theorem dX0_wrongAt_42 : decode cX0_wrongAt 42 = .ok (.ifCond .eq 6, 3) := qd0_43.2.1
theorem dX0_wrongAt_45 : decode cX0_wrongAt 45 = .ok (.iload 5, 2) := qd0_43.2.2.1
theorem dX0_wrongAt_47 : decode cX0_wrongAt 47 = .ok (.ireturn, 1) := qd0_43.2.2.2.1
theorem dX0_wrongAt_48 : decode cX0_wrongAt 48 = .ok (.iload 4, 2) := qd0_43.2.2.2.2.1
theorem dX0_wrongAt_50 : decode cX0_wrongAt 50 = .ok (.iconst 1, 1) := qd0_43.2.2.2.2.2.1
theorem dX0_wrongAt_51 : decode cX0_wrongAt 51 = .ok (.iload 6, 2) := qd0_43.2.2.2.2.2.2.1
theorem dX0_wrongAt_53 : decode cX0_wrongAt 53 = .ok (.ishl, 1) := qd0_43.2.2.2.2.2.2.2.1
theorem dX0_wrongAt_54 : decode cX0_wrongAt 54 = .ok (.ior, 1) := qd0_43.2.2.2.2.2.2.2.2.1
theorem dX0_wrongAt_55 : decode cX0_wrongAt 55 = .ok (.istore 4, 2) := qd0_43.2.2.2.2.2.2.2.2.2.1
theorem dX0_wrongAt_57 : decode cX0_wrongAt 57 = .ok (.iinc 5 1, 3) := qd0_43.2.2.2.2.2.2.2.2.2.2.1
theorem dX0_wrongAt_60 : decode cX0_wrongAt 60 = .ok (.goto (-54), 3) := qd0_43.2.2.2.2.2.2.2.2.2.2.2
theorem qd0_44 : (decode cX0_wrongAt 63 = .ok (.iconst (-1), 1)) ∧ (decode cX0_wrongAt 64 = .ok (.ireturn, 1)) := by decide +kernel
theorem dX0_wrongAt_63 : decode cX0_wrongAt 63 = .ok (.iconst (-1), 1) := qd0_44.1
theorem dX0_wrongAt_64 : decode cX0_wrongAt 64 = .ok (.ireturn, 1) := qd0_44.2
theorem qd0_45 : (decode cX0_costOfPlan 0 = .ok (.aload_n 0, 1)) ∧ (decode cX0_costOfPlan 1 = .ok (.getfield 21, 3)) ∧ (decode cX0_costOfPlan 4 = .ok (.aload_n 1, 1)) ∧ (decode cX0_costOfPlan 5 = .ok (.invokevirtual 40, 3)) ∧ (decode cX0_costOfPlan 8 = .ok (.iconst 0, 1)) ∧ (decode cX0_costOfPlan 9 = .ok (.istore 4, 2)) ∧ (decode cX0_costOfPlan 11 = .ok (.iconst 0, 1)) ∧ (decode cX0_costOfPlan 12 = .ok (.istore 5, 2)) ∧ (decode cX0_costOfPlan 14 = .ok (.iload 5, 2)) ∧ (decode cX0_costOfPlan 16 = .ok (.iload_n 3, 1)) ∧ (decode cX0_costOfPlan 17 = .ok (.if_icmp .ge 40, 3)) ∧ (decode cX0_costOfPlan 20 = .ok (.iload 5, 2)) := by decide +kernel
theorem dX0_costOfPlan_0 : decode cX0_costOfPlan 0 = .ok (.aload_n 0, 1) := qd0_45.1
theorem dX0_costOfPlan_1 : decode cX0_costOfPlan 1 = .ok (.getfield 21, 3) := qd0_45.2.1
theorem dX0_costOfPlan_4 : decode cX0_costOfPlan 4 = .ok (.aload_n 1, 1) := qd0_45.2.2.1
theorem dX0_costOfPlan_5 : decode cX0_costOfPlan 5 = .ok (.invokevirtual 40, 3) := qd0_45.2.2.2.1
theorem dX0_costOfPlan_8 : decode cX0_costOfPlan 8 = .ok (.iconst 0, 1) := qd0_45.2.2.2.2.1
theorem dX0_costOfPlan_9 : decode cX0_costOfPlan 9 = .ok (.istore 4, 2) := qd0_45.2.2.2.2.2.1
theorem dX0_costOfPlan_11 : decode cX0_costOfPlan 11 = .ok (.iconst 0, 1) := qd0_45.2.2.2.2.2.2.1
theorem dX0_costOfPlan_12 : decode cX0_costOfPlan 12 = .ok (.istore 5, 2) := qd0_45.2.2.2.2.2.2.2.1
theorem dX0_costOfPlan_14 : decode cX0_costOfPlan 14 = .ok (.iload 5, 2) := qd0_45.2.2.2.2.2.2.2.2.1
theorem dX0_costOfPlan_16 : decode cX0_costOfPlan 16 = .ok (.iload_n 3, 1) := qd0_45.2.2.2.2.2.2.2.2.2.1
theorem dX0_costOfPlan_17 : decode cX0_costOfPlan 17 = .ok (.if_icmp .ge 40, 3) := qd0_45.2.2.2.2.2.2.2.2.2.2.1
theorem dX0_costOfPlan_20 : decode cX0_costOfPlan 20 = .ok (.iload 5, 2) := qd0_45.2.2.2.2.2.2.2.2.2.2.2
theorem qd0_46 : (decode cX0_costOfPlan 22 = .ok (.aload_n 2, 1)) ∧ (decode cX0_costOfPlan 23 = .ok (.arraylength, 1)) ∧ (decode cX0_costOfPlan 24 = .ok (.if_icmp .ge 33, 3)) ∧ (decode cX0_costOfPlan 27 = .ok (.iload 4, 2)) ∧ (decode cX0_costOfPlan 29 = .ok (.aload_n 0, 1)) ∧ (decode cX0_costOfPlan 30 = .ok (.aload_n 0, 1)) ∧ (decode cX0_costOfPlan 31 = .ok (.getfield 21, 3)) ∧ (decode cX0_costOfPlan 34 = .ok (.aload_n 0, 1)) ∧ (decode cX0_costOfPlan 35 = .ok (.getfield 21, 3)) ∧ (decode cX0_costOfPlan 38 = .ok (.aload_n 2, 1)) ∧ (decode cX0_costOfPlan 39 = .ok (.iload 5, 2)) ∧ (decode cX0_costOfPlan 41 = .ok (.laload, 1)) := by decide +kernel
theorem dX0_costOfPlan_22 : decode cX0_costOfPlan 22 = .ok (.aload_n 2, 1) := qd0_46.1
theorem dX0_costOfPlan_23 : decode cX0_costOfPlan 23 = .ok (.arraylength, 1) := qd0_46.2.1
theorem dX0_costOfPlan_24 : decode cX0_costOfPlan 24 = .ok (.if_icmp .ge 33, 3) := qd0_46.2.2.1
theorem dX0_costOfPlan_27 : decode cX0_costOfPlan 27 = .ok (.iload 4, 2) := qd0_46.2.2.2.1
theorem dX0_costOfPlan_29 : decode cX0_costOfPlan 29 = .ok (.aload_n 0, 1) := qd0_46.2.2.2.2.1
theorem dX0_costOfPlan_30 : decode cX0_costOfPlan 30 = .ok (.aload_n 0, 1) := qd0_46.2.2.2.2.2.1
theorem dX0_costOfPlan_31 : decode cX0_costOfPlan 31 = .ok (.getfield 21, 3) := qd0_46.2.2.2.2.2.2.1
theorem dX0_costOfPlan_34 : decode cX0_costOfPlan 34 = .ok (.aload_n 0, 1) := qd0_46.2.2.2.2.2.2.2.1
theorem dX0_costOfPlan_35 : decode cX0_costOfPlan 35 = .ok (.getfield 21, 3) := qd0_46.2.2.2.2.2.2.2.2.1
theorem dX0_costOfPlan_38 : decode cX0_costOfPlan 38 = .ok (.aload_n 2, 1) := qd0_46.2.2.2.2.2.2.2.2.2.1
theorem dX0_costOfPlan_39 : decode cX0_costOfPlan 39 = .ok (.iload 5, 2) := qd0_46.2.2.2.2.2.2.2.2.2.2.1
theorem dX0_costOfPlan_41 : decode cX0_costOfPlan 41 = .ok (.laload, 1) := qd0_46.2.2.2.2.2.2.2.2.2.2.2
theorem qd0_47 : (decode cX0_costOfPlan 42 = .ok (.invokestatic 111, 3)) ∧ (decode cX0_costOfPlan 45 = .ok (.invokevirtual 115, 3)) ∧ (decode cX0_costOfPlan 48 = .ok (.iadd, 1)) ∧ (decode cX0_costOfPlan 49 = .ok (.istore 4, 2)) ∧ (decode cX0_costOfPlan 51 = .ok (.iinc 5 1, 3)) ∧ (decode cX0_costOfPlan 54 = .ok (.goto (-40), 3)) ∧ (decode cX0_costOfPlan 57 = .ok (.iload 4, 2)) ∧ (decode cX0_costOfPlan 59 = .ok (.ireturn, 1)) := by decide +kernel
theorem dX0_costOfPlan_42 : decode cX0_costOfPlan 42 = .ok (.invokestatic 111, 3) := qd0_47.1
theorem dX0_costOfPlan_45 : decode cX0_costOfPlan 45 = .ok (.invokevirtual 115, 3) := qd0_47.2.1
theorem dX0_costOfPlan_48 : decode cX0_costOfPlan 48 = .ok (.iadd, 1) := qd0_47.2.2.1
theorem dX0_costOfPlan_49 : decode cX0_costOfPlan 49 = .ok (.istore 4, 2) := qd0_47.2.2.2.1
theorem dX0_costOfPlan_51 : decode cX0_costOfPlan 51 = .ok (.iinc 5 1, 3) := qd0_47.2.2.2.2.1
theorem dX0_costOfPlan_54 : decode cX0_costOfPlan 54 = .ok (.goto (-40), 3) := qd0_47.2.2.2.2.2.1
theorem dX0_costOfPlan_57 : decode cX0_costOfPlan 57 = .ok (.iload 4, 2) := qd0_47.2.2.2.2.2.2.1
theorem dX0_costOfPlan_59 : decode cX0_costOfPlan 59 = .ok (.ireturn, 1) := qd0_47.2.2.2.2.2.2.2
theorem qd0_48 : (decode cX0_costOfYear 0 = .ok (.iconst 0, 1)) ∧ (decode cX0_costOfYear 1 = .ok (.istore_n 3, 1)) ∧ (decode cX0_costOfYear 2 = .ok (.aload_n 1, 1)) ∧ (decode cX0_costOfYear 3 = .ok (.iload_n 2, 1)) ∧ (decode cX0_costOfYear 4 = .ok (.invokevirtual 118, 3)) ∧ (decode cX0_costOfYear 7 = .ok (.ifCond .eq 15, 3)) ∧ (decode cX0_costOfYear 10 = .ok (.aload_n 1, 1)) ∧ (decode cX0_costOfYear 11 = .ok (.iload_n 2, 1)) ∧ (decode cX0_costOfYear 12 = .ok (.iconst 3, 1)) ∧ (decode cX0_costOfYear 13 = .ok (.invokevirtual 73, 3)) ∧ (decode cX0_costOfYear 16 = .ok (.istore_n 3, 1)) ∧ (decode cX0_costOfYear 17 = .ok (.aload_n 1, 1)) := by decide +kernel
theorem dX0_costOfYear_0 : decode cX0_costOfYear 0 = .ok (.iconst 0, 1) := qd0_48.1
theorem dX0_costOfYear_1 : decode cX0_costOfYear 1 = .ok (.istore_n 3, 1) := qd0_48.2.1
theorem dX0_costOfYear_2 : decode cX0_costOfYear 2 = .ok (.aload_n 1, 1) := qd0_48.2.2.1
theorem dX0_costOfYear_3 : decode cX0_costOfYear 3 = .ok (.iload_n 2, 1) := qd0_48.2.2.2.1
theorem dX0_costOfYear_4 : decode cX0_costOfYear 4 = .ok (.invokevirtual 118, 3) := qd0_48.2.2.2.2.1
theorem dX0_costOfYear_7 : decode cX0_costOfYear 7 = .ok (.ifCond .eq 15, 3) := qd0_48.2.2.2.2.2.1
theorem dX0_costOfYear_10 : decode cX0_costOfYear 10 = .ok (.aload_n 1, 1) := qd0_48.2.2.2.2.2.2.1
theorem dX0_costOfYear_11 : decode cX0_costOfYear 11 = .ok (.iload_n 2, 1) := qd0_48.2.2.2.2.2.2.2.1
theorem dX0_costOfYear_12 : decode cX0_costOfYear 12 = .ok (.iconst 3, 1) := qd0_48.2.2.2.2.2.2.2.2.1
theorem dX0_costOfYear_13 : decode cX0_costOfYear 13 = .ok (.invokevirtual 73, 3) := qd0_48.2.2.2.2.2.2.2.2.2.1
theorem dX0_costOfYear_16 : decode cX0_costOfYear 16 = .ok (.istore_n 3, 1) := qd0_48.2.2.2.2.2.2.2.2.2.2.1
theorem dX0_costOfYear_17 : decode cX0_costOfYear 17 = .ok (.aload_n 1, 1) := qd0_48.2.2.2.2.2.2.2.2.2.2.2
theorem qd0_49 : (decode cX0_costOfYear 18 = .ok (.iload_n 2, 1)) ∧ (decode cX0_costOfYear 19 = .ok (.invokevirtual 88, 3)) ∧ (decode cX0_costOfYear 22 = .ok (.iload_n 3, 1)) ∧ (decode cX0_costOfYear 23 = .ok (.aload_n 0, 1)) ∧ (decode cX0_costOfYear 24 = .ok (.aload_n 1, 1)) ∧ (decode cX0_costOfYear 25 = .ok (.iconst 0, 1)) ∧ (decode cX0_costOfYear 26 = .ok (.invokevirtual 66, 3)) ∧ (decode cX0_costOfYear 29 = .ok (.iadd, 1)) ∧ (decode cX0_costOfYear 30 = .ok (.ireturn, 1)) := by decide +kernel
theorem dX0_costOfYear_18 : decode cX0_costOfYear 18 = .ok (.iload_n 2, 1) := qd0_49.1
theorem dX0_costOfYear_19 : decode cX0_costOfYear 19 = .ok (.invokevirtual 88, 3) := qd0_49.2.1
theorem dX0_costOfYear_22 : decode cX0_costOfYear 22 = .ok (.iload_n 3, 1) := qd0_49.2.2.1
theorem dX0_costOfYear_23 : decode cX0_costOfYear 23 = .ok (.aload_n 0, 1) := qd0_49.2.2.2.1
theorem dX0_costOfYear_24 : decode cX0_costOfYear 24 = .ok (.aload_n 1, 1) := qd0_49.2.2.2.2.1
theorem dX0_costOfYear_25 : decode cX0_costOfYear 25 = .ok (.iconst 0, 1) := qd0_49.2.2.2.2.2.1
theorem dX0_costOfYear_26 : decode cX0_costOfYear 26 = .ok (.invokevirtual 66, 3) := qd0_49.2.2.2.2.2.2.1
theorem dX0_costOfYear_29 : decode cX0_costOfYear 29 = .ok (.iadd, 1) := qd0_49.2.2.2.2.2.2.2.1
theorem dX0_costOfYear_30 : decode cX0_costOfYear 30 = .ok (.ireturn, 1) := qd0_49.2.2.2.2.2.2.2.2
theorem qd0_50 : (decode cX1_init 0 = .ok (.aload_n 0, 1)) ∧ (decode cX1_init 1 = .ok (.invokespecial 3, 3)) ∧ (decode cX1_init 4 = .ok (.aload_n 0, 1)) ∧ (decode cX1_init 5 = .ok (.sipush 140, 3)) ∧ (decode cX1_init 8 = .ok (.newarray .int, 2)) ∧ (decode cX1_init 10 = .ok (.putfield 9, 3)) ∧ (decode cX1_init 13 = .ok (.aload_n 0, 1)) ∧ (decode cX1_init 14 = .ok (.bipush 24, 2)) ∧ (decode cX1_init 16 = .ok (.newarray .int, 2)) ∧ (decode cX1_init 18 = .ok (.putfield 15, 3)) ∧ (decode cX1_init 21 = .ok (.aload_n 0, 1)) ∧ (decode cX1_init 22 = .ok (.bipush 35, 2)) := by decide +kernel
theorem dX1_init_0 : decode cX1_init 0 = .ok (.aload_n 0, 1) := qd0_50.1
theorem dX1_init_1 : decode cX1_init 1 = .ok (.invokespecial 3, 3) := qd0_50.2.1
theorem dX1_init_4 : decode cX1_init 4 = .ok (.aload_n 0, 1) := qd0_50.2.2.1
theorem dX1_init_5 : decode cX1_init 5 = .ok (.sipush 140, 3) := qd0_50.2.2.2.1
theorem dX1_init_8 : decode cX1_init 8 = .ok (.newarray .int, 2) := qd0_50.2.2.2.2.1
theorem dX1_init_10 : decode cX1_init 10 = .ok (.putfield 9, 3) := qd0_50.2.2.2.2.2.1
theorem dX1_init_13 : decode cX1_init 13 = .ok (.aload_n 0, 1) := qd0_50.2.2.2.2.2.2.1
theorem dX1_init_14 : decode cX1_init 14 = .ok (.bipush 24, 2) := qd0_50.2.2.2.2.2.2.2.1
theorem dX1_init_16 : decode cX1_init 16 = .ok (.newarray .int, 2) := qd0_50.2.2.2.2.2.2.2.2.1
theorem dX1_init_18 : decode cX1_init 18 = .ok (.putfield 15, 3) := qd0_50.2.2.2.2.2.2.2.2.2.1
theorem dX1_init_21 : decode cX1_init 21 = .ok (.aload_n 0, 1) := qd0_50.2.2.2.2.2.2.2.2.2.2.1
theorem dX1_init_22 : decode cX1_init 22 = .ok (.bipush 35, 2) := qd0_50.2.2.2.2.2.2.2.2.2.2.2
theorem qd0_51 : (decode cX1_init 24 = .ok (.newarray .int, 2)) ∧ (decode cX1_init 26 = .ok (.putfield 18, 3)) ∧ (decode cX1_init 29 = .ok (.aload_n 0, 1)) ∧ (decode cX1_init 30 = .ok (.bipush 12, 2)) ∧ (decode cX1_init 32 = .ok (.newarray .int, 2)) ∧ (decode cX1_init 34 = .ok (.putfield 21, 3)) ∧ (decode cX1_init 37 = .ok (.aload_n 0, 1)) ∧ (decode cX1_init 38 = .ok (.iconst 3, 1)) ∧ (decode cX1_init 39 = .ok (.newarray .int, 2)) ∧ (decode cX1_init 41 = .ok (.putfield 24, 3)) ∧ (decode cX1_init 44 = .ok (.aload_n 0, 1)) ∧ (decode cX1_init 45 = .ok (.sipush 128, 3)) := by decide +kernel
theorem dX1_init_24 : decode cX1_init 24 = .ok (.newarray .int, 2) := qd0_51.1
theorem dX1_init_26 : decode cX1_init 26 = .ok (.putfield 18, 3) := qd0_51.2.1
theorem dX1_init_29 : decode cX1_init 29 = .ok (.aload_n 0, 1) := qd0_51.2.2.1
theorem dX1_init_30 : decode cX1_init 30 = .ok (.bipush 12, 2) := qd0_51.2.2.2.1
theorem dX1_init_32 : decode cX1_init 32 = .ok (.newarray .int, 2) := qd0_51.2.2.2.2.1
theorem dX1_init_34 : decode cX1_init 34 = .ok (.putfield 21, 3) := qd0_51.2.2.2.2.2.1
theorem dX1_init_37 : decode cX1_init 37 = .ok (.aload_n 0, 1) := qd0_51.2.2.2.2.2.2.1
theorem dX1_init_38 : decode cX1_init 38 = .ok (.iconst 3, 1) := qd0_51.2.2.2.2.2.2.2.1
theorem dX1_init_39 : decode cX1_init 39 = .ok (.newarray .int, 2) := qd0_51.2.2.2.2.2.2.2.2.1
theorem dX1_init_41 : decode cX1_init 41 = .ok (.putfield 24, 3) := qd0_51.2.2.2.2.2.2.2.2.2.1
theorem dX1_init_44 : decode cX1_init 44 = .ok (.aload_n 0, 1) := qd0_51.2.2.2.2.2.2.2.2.2.2.1
theorem dX1_init_45 : decode cX1_init 45 = .ok (.sipush 128, 3) := qd0_51.2.2.2.2.2.2.2.2.2.2.2
theorem qd0_52 : (decode cX1_init 48 = .ok (.newarray .int, 2)) ∧ (decode cX1_init 50 = .ok (.putfield 27, 3)) ∧ (decode cX1_init 53 = .ok (.aload_n 0, 1)) ∧ (decode cX1_init 54 = .ok (.iconst 0, 1)) ∧ (decode cX1_init 55 = .ok (.putfield 30, 3)) ∧ (decode cX1_init 58 = .ok (.aload_n 0, 1)) ∧ (decode cX1_init 59 = .ok (.iconst 0, 1)) ∧ (decode cX1_init 60 = .ok (.putfield 34, 3)) ∧ (decode cX1_init 63 = .ok (.aload_n 0, 1)) ∧ (decode cX1_init 64 = .ok (.iconst 0, 1)) ∧ (decode cX1_init 65 = .ok (.putfield 37, 3)) ∧ (decode cX1_init 68 = .ok (.aload_n 0, 1)) := by decide +kernel
theorem dX1_init_48 : decode cX1_init 48 = .ok (.newarray .int, 2) := qd0_52.1
theorem dX1_init_50 : decode cX1_init 50 = .ok (.putfield 27, 3) := qd0_52.2.1
theorem dX1_init_53 : decode cX1_init 53 = .ok (.aload_n 0, 1) := qd0_52.2.2.1
theorem dX1_init_54 : decode cX1_init 54 = .ok (.iconst 0, 1) := qd0_52.2.2.2.1
theorem dX1_init_55 : decode cX1_init 55 = .ok (.putfield 30, 3) := qd0_52.2.2.2.2.1
theorem dX1_init_58 : decode cX1_init 58 = .ok (.aload_n 0, 1) := qd0_52.2.2.2.2.2.1
theorem dX1_init_59 : decode cX1_init 59 = .ok (.iconst 0, 1) := qd0_52.2.2.2.2.2.2.1
theorem dX1_init_60 : decode cX1_init 60 = .ok (.putfield 34, 3) := qd0_52.2.2.2.2.2.2.2.1
theorem dX1_init_63 : decode cX1_init 63 = .ok (.aload_n 0, 1) := qd0_52.2.2.2.2.2.2.2.2.1
theorem dX1_init_64 : decode cX1_init 64 = .ok (.iconst 0, 1) := qd0_52.2.2.2.2.2.2.2.2.2.1
theorem dX1_init_65 : decode cX1_init 65 = .ok (.putfield 37, 3) := qd0_52.2.2.2.2.2.2.2.2.2.2.1
theorem dX1_init_68 : decode cX1_init 68 = .ok (.aload_n 0, 1) := qd0_52.2.2.2.2.2.2.2.2.2.2.2
theorem qd0_53 : (decode cX1_init 69 = .ok (.bipush 10, 2)) ∧ (decode cX1_init 71 = .ok (.putfield 40, 3)) ∧ (decode cX1_init 74 = .ok (.aload_n 0, 1)) ∧ (decode cX1_init 75 = .ok (.iconst 0, 1)) ∧ (decode cX1_init 76 = .ok (.putfield 43, 3)) ∧ (decode cX1_init 79 = .ok (.aload_n 0, 1)) ∧ (decode cX1_init 80 = .ok (.getfield 21, 3)) ∧ (decode cX1_init 83 = .ok (.bipush 9, 2)) ∧ (decode cX1_init 85 = .ok (.invokestatic 47, 3)) ∧ (decode cX1_init 88 = .ok (.aload_n 0, 1)) ∧ (decode cX1_init 89 = .ok (.getfield 24, 3)) ∧ (decode cX1_init 92 = .ok (.iconst 1, 1)) := by decide +kernel
theorem dX1_init_69 : decode cX1_init 69 = .ok (.bipush 10, 2) := qd0_53.1
theorem dX1_init_71 : decode cX1_init 71 = .ok (.putfield 40, 3) := qd0_53.2.1
theorem dX1_init_74 : decode cX1_init 74 = .ok (.aload_n 0, 1) := qd0_53.2.2.1
theorem dX1_init_75 : decode cX1_init 75 = .ok (.iconst 0, 1) := qd0_53.2.2.2.1
theorem dX1_init_76 : decode cX1_init 76 = .ok (.putfield 43, 3) := qd0_53.2.2.2.2.1
theorem dX1_init_79 : decode cX1_init 79 = .ok (.aload_n 0, 1) := qd0_53.2.2.2.2.2.1
theorem dX1_init_80 : decode cX1_init 80 = .ok (.getfield 21, 3) := qd0_53.2.2.2.2.2.2.1
theorem dX1_init_83 : decode cX1_init 83 = .ok (.bipush 9, 2) := qd0_53.2.2.2.2.2.2.2.1
theorem dX1_init_85 : decode cX1_init 85 = .ok (.invokestatic 47, 3) := qd0_53.2.2.2.2.2.2.2.2.1
theorem dX1_init_88 : decode cX1_init 88 = .ok (.aload_n 0, 1) := qd0_53.2.2.2.2.2.2.2.2.2.1
theorem dX1_init_89 : decode cX1_init 89 = .ok (.getfield 24, 3) := qd0_53.2.2.2.2.2.2.2.2.2.2.1
theorem dX1_init_92 : decode cX1_init 92 = .ok (.iconst 1, 1) := qd0_53.2.2.2.2.2.2.2.2.2.2.2
theorem qd0_54 : (decode cX1_init 93 = .ok (.invokestatic 47, 3)) ∧ (decode cX1_init 96 = .ok (.return_, 1)) := by decide +kernel
theorem dX1_init_93 : decode cX1_init 93 = .ok (.invokestatic 47, 3) := qd0_54.1
theorem dX1_init_96 : decode cX1_init 96 = .ok (.return_, 1) := qd0_54.2
theorem qd0_55 : (decode cX1_take 0 = .ok (.aload_n 0, 1)) ∧ (decode cX1_take 1 = .ok (.aload_n 1, 1)) ∧ (decode cX1_take 2 = .ok (.getfield 30, 3)) ∧ (decode cX1_take 5 = .ok (.putfield 30, 3)) ∧ (decode cX1_take 8 = .ok (.aload_n 0, 1)) ∧ (decode cX1_take 9 = .ok (.aload_n 1, 1)) ∧ (decode cX1_take 10 = .ok (.getfield 34, 3)) ∧ (decode cX1_take 13 = .ok (.putfield 34, 3)) ∧ (decode cX1_take 16 = .ok (.aload_n 0, 1)) ∧ (decode cX1_take 17 = .ok (.aload_n 1, 1)) ∧ (decode cX1_take 18 = .ok (.getfield 37, 3)) ∧ (decode cX1_take 21 = .ok (.putfield 37, 3)) := by decide +kernel
theorem dX1_take_0 : decode cX1_take 0 = .ok (.aload_n 0, 1) := qd0_55.1
theorem dX1_take_1 : decode cX1_take 1 = .ok (.aload_n 1, 1) := qd0_55.2.1
theorem dX1_take_2 : decode cX1_take 2 = .ok (.getfield 30, 3) := qd0_55.2.2.1
theorem dX1_take_5 : decode cX1_take 5 = .ok (.putfield 30, 3) := qd0_55.2.2.2.1
theorem dX1_take_8 : decode cX1_take 8 = .ok (.aload_n 0, 1) := qd0_55.2.2.2.2.1
theorem dX1_take_9 : decode cX1_take 9 = .ok (.aload_n 1, 1) := qd0_55.2.2.2.2.2.1
theorem dX1_take_10 : decode cX1_take 10 = .ok (.getfield 34, 3) := qd0_55.2.2.2.2.2.2.1
theorem dX1_take_13 : decode cX1_take 13 = .ok (.putfield 34, 3) := qd0_55.2.2.2.2.2.2.2.1
theorem dX1_take_16 : decode cX1_take 16 = .ok (.aload_n 0, 1) := qd0_55.2.2.2.2.2.2.2.2.1
theorem dX1_take_17 : decode cX1_take 17 = .ok (.aload_n 1, 1) := qd0_55.2.2.2.2.2.2.2.2.2.1
theorem dX1_take_18 : decode cX1_take 18 = .ok (.getfield 37, 3) := qd0_55.2.2.2.2.2.2.2.2.2.2.1
theorem dX1_take_21 : decode cX1_take 21 = .ok (.putfield 37, 3) := qd0_55.2.2.2.2.2.2.2.2.2.2.2
theorem qd0_56 : (decode cX1_take 24 = .ok (.aload_n 0, 1)) ∧ (decode cX1_take 25 = .ok (.aload_n 1, 1)) ∧ (decode cX1_take 26 = .ok (.getfield 40, 3)) ∧ (decode cX1_take 29 = .ok (.putfield 40, 3)) ∧ (decode cX1_take 32 = .ok (.aload_n 1, 1)) ∧ (decode cX1_take 33 = .ok (.getfield 9, 3)) ∧ (decode cX1_take 36 = .ok (.iconst 0, 1)) ∧ (decode cX1_take 37 = .ok (.aload_n 0, 1)) ∧ (decode cX1_take 38 = .ok (.getfield 9, 3)) ∧ (decode cX1_take 41 = .ok (.iconst 0, 1)) ∧ (decode cX1_take 42 = .ok (.aload_n 0, 1)) ∧ (decode cX1_take 43 = .ok (.getfield 30, 3)) := by decide +kernel
theorem dX1_take_24 : decode cX1_take 24 = .ok (.aload_n 0, 1) := qd0_56.1
theorem dX1_take_25 : decode cX1_take 25 = .ok (.aload_n 1, 1) := qd0_56.2.1
theorem dX1_take_26 : decode cX1_take 26 = .ok (.getfield 40, 3) := qd0_56.2.2.1
theorem dX1_take_29 : decode cX1_take 29 = .ok (.putfield 40, 3) := qd0_56.2.2.2.1
theorem dX1_take_32 : decode cX1_take 32 = .ok (.aload_n 1, 1) := qd0_56.2.2.2.2.1
theorem dX1_take_33 : decode cX1_take 33 = .ok (.getfield 9, 3) := qd0_56.2.2.2.2.2.1
theorem dX1_take_36 : decode cX1_take 36 = .ok (.iconst 0, 1) := qd0_56.2.2.2.2.2.2.1
theorem dX1_take_37 : decode cX1_take 37 = .ok (.aload_n 0, 1) := qd0_56.2.2.2.2.2.2.2.1
theorem dX1_take_38 : decode cX1_take 38 = .ok (.getfield 9, 3) := qd0_56.2.2.2.2.2.2.2.2.1
theorem dX1_take_41 : decode cX1_take 41 = .ok (.iconst 0, 1) := qd0_56.2.2.2.2.2.2.2.2.2.1
theorem dX1_take_42 : decode cX1_take 42 = .ok (.aload_n 0, 1) := qd0_56.2.2.2.2.2.2.2.2.2.2.1
theorem dX1_take_43 : decode cX1_take 43 = .ok (.getfield 30, 3) := qd0_56.2.2.2.2.2.2.2.2.2.2.2
theorem qd0_57 : (decode cX1_take 46 = .ok (.bipush 7, 2)) ∧ (decode cX1_take 48 = .ok (.imul, 1)) ∧ (decode cX1_take 49 = .ok (.invokestatic 53, 3)) ∧ (decode cX1_take 52 = .ok (.aload_n 1, 1)) ∧ (decode cX1_take 53 = .ok (.getfield 15, 3)) ∧ (decode cX1_take 56 = .ok (.iconst 0, 1)) ∧ (decode cX1_take 57 = .ok (.aload_n 0, 1)) ∧ (decode cX1_take 58 = .ok (.getfield 15, 3)) ∧ (decode cX1_take 61 = .ok (.iconst 0, 1)) ∧ (decode cX1_take 62 = .ok (.aload_n 0, 1)) ∧ (decode cX1_take 63 = .ok (.getfield 34, 3)) ∧ (decode cX1_take 66 = .ok (.iconst 3, 1)) := by decide +kernel
theorem dX1_take_46 : decode cX1_take 46 = .ok (.bipush 7, 2) := qd0_57.1
theorem dX1_take_48 : decode cX1_take 48 = .ok (.imul, 1) := qd0_57.2.1
theorem dX1_take_49 : decode cX1_take 49 = .ok (.invokestatic 53, 3) := qd0_57.2.2.1
theorem dX1_take_52 : decode cX1_take 52 = .ok (.aload_n 1, 1) := qd0_57.2.2.2.1
theorem dX1_take_53 : decode cX1_take 53 = .ok (.getfield 15, 3) := qd0_57.2.2.2.2.1
theorem dX1_take_56 : decode cX1_take 56 = .ok (.iconst 0, 1) := qd0_57.2.2.2.2.2.1
theorem dX1_take_57 : decode cX1_take 57 = .ok (.aload_n 0, 1) := qd0_57.2.2.2.2.2.2.1
theorem dX1_take_58 : decode cX1_take 58 = .ok (.getfield 15, 3) := qd0_57.2.2.2.2.2.2.2.1
theorem dX1_take_61 : decode cX1_take 61 = .ok (.iconst 0, 1) := qd0_57.2.2.2.2.2.2.2.2.1
theorem dX1_take_62 : decode cX1_take 62 = .ok (.aload_n 0, 1) := qd0_57.2.2.2.2.2.2.2.2.2.1
theorem dX1_take_63 : decode cX1_take 63 = .ok (.getfield 34, 3) := qd0_57.2.2.2.2.2.2.2.2.2.2.1
theorem dX1_take_66 : decode cX1_take 66 = .ok (.iconst 3, 1) := qd0_57.2.2.2.2.2.2.2.2.2.2.2
theorem qd0_58 : (decode cX1_take 67 = .ok (.imul, 1)) ∧ (decode cX1_take 68 = .ok (.invokestatic 53, 3)) ∧ (decode cX1_take 71 = .ok (.aload_n 1, 1)) ∧ (decode cX1_take 72 = .ok (.getfield 18, 3)) ∧ (decode cX1_take 75 = .ok (.iconst 0, 1)) ∧ (decode cX1_take 76 = .ok (.aload_n 0, 1)) ∧ (decode cX1_take 77 = .ok (.getfield 18, 3)) ∧ (decode cX1_take 80 = .ok (.iconst 0, 1)) ∧ (decode cX1_take 81 = .ok (.aload_n 0, 1)) ∧ (decode cX1_take 82 = .ok (.getfield 37, 3)) ∧ (decode cX1_take 85 = .ok (.iconst 5, 1)) ∧ (decode cX1_take 86 = .ok (.imul, 1)) := by decide +kernel
theorem dX1_take_67 : decode cX1_take 67 = .ok (.imul, 1) := qd0_58.1
theorem dX1_take_68 : decode cX1_take 68 = .ok (.invokestatic 53, 3) := qd0_58.2.1
theorem dX1_take_71 : decode cX1_take 71 = .ok (.aload_n 1, 1) := qd0_58.2.2.1
theorem dX1_take_72 : decode cX1_take 72 = .ok (.getfield 18, 3) := qd0_58.2.2.2.1
theorem dX1_take_75 : decode cX1_take 75 = .ok (.iconst 0, 1) := qd0_58.2.2.2.2.1
theorem dX1_take_76 : decode cX1_take 76 = .ok (.aload_n 0, 1) := qd0_58.2.2.2.2.2.1
theorem dX1_take_77 : decode cX1_take 77 = .ok (.getfield 18, 3) := qd0_58.2.2.2.2.2.2.1
theorem dX1_take_80 : decode cX1_take 80 = .ok (.iconst 0, 1) := qd0_58.2.2.2.2.2.2.2.1
theorem dX1_take_81 : decode cX1_take 81 = .ok (.aload_n 0, 1) := qd0_58.2.2.2.2.2.2.2.2.1
theorem dX1_take_82 : decode cX1_take 82 = .ok (.getfield 37, 3) := qd0_58.2.2.2.2.2.2.2.2.2.1
theorem dX1_take_85 : decode cX1_take 85 = .ok (.iconst 5, 1) := qd0_58.2.2.2.2.2.2.2.2.2.2.1
theorem dX1_take_86 : decode cX1_take 86 = .ok (.imul, 1) := qd0_58.2.2.2.2.2.2.2.2.2.2.2
theorem qd0_59 : (decode cX1_take 87 = .ok (.invokestatic 53, 3)) ∧ (decode cX1_take 90 = .ok (.aload_n 1, 1)) ∧ (decode cX1_take 91 = .ok (.getfield 21, 3)) ∧ (decode cX1_take 94 = .ok (.iconst 0, 1)) ∧ (decode cX1_take 95 = .ok (.aload_n 0, 1)) ∧ (decode cX1_take 96 = .ok (.getfield 21, 3)) ∧ (decode cX1_take 99 = .ok (.iconst 0, 1)) ∧ (decode cX1_take 100 = .ok (.bipush 12, 2)) ∧ (decode cX1_take 102 = .ok (.invokestatic 53, 3)) ∧ (decode cX1_take 105 = .ok (.aload_n 1, 1)) ∧ (decode cX1_take 106 = .ok (.getfield 24, 3)) ∧ (decode cX1_take 109 = .ok (.iconst 0, 1)) := by decide +kernel
theorem dX1_take_87 : decode cX1_take 87 = .ok (.invokestatic 53, 3) := qd0_59.1
theorem dX1_take_90 : decode cX1_take 90 = .ok (.aload_n 1, 1) := qd0_59.2.1
theorem dX1_take_91 : decode cX1_take 91 = .ok (.getfield 21, 3) := qd0_59.2.2.1
theorem dX1_take_94 : decode cX1_take 94 = .ok (.iconst 0, 1) := qd0_59.2.2.2.1
theorem dX1_take_95 : decode cX1_take 95 = .ok (.aload_n 0, 1) := qd0_59.2.2.2.2.1
theorem dX1_take_96 : decode cX1_take 96 = .ok (.getfield 21, 3) := qd0_59.2.2.2.2.2.1
theorem dX1_take_99 : decode cX1_take 99 = .ok (.iconst 0, 1) := qd0_59.2.2.2.2.2.2.1
theorem dX1_take_100 : decode cX1_take 100 = .ok (.bipush 12, 2) := qd0_59.2.2.2.2.2.2.2.1
theorem dX1_take_102 : decode cX1_take 102 = .ok (.invokestatic 53, 3) := qd0_59.2.2.2.2.2.2.2.2.1
theorem dX1_take_105 : decode cX1_take 105 = .ok (.aload_n 1, 1) := qd0_59.2.2.2.2.2.2.2.2.2.1
theorem dX1_take_106 : decode cX1_take 106 = .ok (.getfield 24, 3) := qd0_59.2.2.2.2.2.2.2.2.2.2.1
theorem dX1_take_109 : decode cX1_take 109 = .ok (.iconst 0, 1) := qd0_59.2.2.2.2.2.2.2.2.2.2.2
theorem qd0_60 : (decode cX1_take 110 = .ok (.aload_n 0, 1)) ∧ (decode cX1_take 111 = .ok (.getfield 24, 3)) ∧ (decode cX1_take 114 = .ok (.iconst 0, 1)) ∧ (decode cX1_take 115 = .ok (.iconst 3, 1)) ∧ (decode cX1_take 116 = .ok (.invokestatic 53, 3)) ∧ (decode cX1_take 119 = .ok (.aload_n 0, 1)) ∧ (decode cX1_take 120 = .ok (.iconst 0, 1)) ∧ (decode cX1_take 121 = .ok (.putfield 43, 3)) ∧ (decode cX1_take 124 = .ok (.return_, 1)) := by decide +kernel
theorem dX1_take_110 : decode cX1_take 110 = .ok (.aload_n 0, 1) := qd0_60.1
theorem dX1_take_111 : decode cX1_take 111 = .ok (.getfield 24, 3) := qd0_60.2.1
theorem dX1_take_114 : decode cX1_take 114 = .ok (.iconst 0, 1) := qd0_60.2.2.1
theorem dX1_take_115 : decode cX1_take 115 = .ok (.iconst 3, 1) := qd0_60.2.2.2.1
theorem dX1_take_116 : decode cX1_take 116 = .ok (.invokestatic 53, 3) := qd0_60.2.2.2.2.1
theorem dX1_take_119 : decode cX1_take 119 = .ok (.aload_n 0, 1) := qd0_60.2.2.2.2.2.1
theorem dX1_take_120 : decode cX1_take 120 = .ok (.iconst 0, 1) := qd0_60.2.2.2.2.2.2.1
theorem dX1_take_121 : decode cX1_take 121 = .ok (.putfield 43, 3) := qd0_60.2.2.2.2.2.2.2.1
theorem dX1_take_124 : decode cX1_take 124 = .ok (.return_, 1) := qd0_60.2.2.2.2.2.2.2.2
theorem qd0_61 : (decode cX1_hasLine 0 = .ok (.iload_n 1, 1)) ∧ (decode cX1_hasLine 1 = .ok (.iconst 0, 1)) ∧ (decode cX1_hasLine 2 = .ok (.aload_n 0, 1)) ∧ (decode cX1_hasLine 3 = .ok (.getfield 30, 3)) ∧ (decode cX1_hasLine 6 = .ok (.iconst 1, 1)) ∧ (decode cX1_hasLine 7 = .ok (.isub, 1)) ∧ (decode cX1_hasLine 8 = .ok (.invokestatic 59, 3)) ∧ (decode cX1_hasLine 11 = .ok (.ireturn, 1)) := by decide +kernel
theorem dX1_hasLine_0 : decode cX1_hasLine 0 = .ok (.iload_n 1, 1) := qd0_61.1
theorem dX1_hasLine_1 : decode cX1_hasLine 1 = .ok (.iconst 0, 1) := qd0_61.2.1
theorem dX1_hasLine_2 : decode cX1_hasLine 2 = .ok (.aload_n 0, 1) := qd0_61.2.2.1
theorem dX1_hasLine_3 : decode cX1_hasLine 3 = .ok (.getfield 30, 3) := qd0_61.2.2.2.1
theorem dX1_hasLine_6 : decode cX1_hasLine 6 = .ok (.iconst 1, 1) := qd0_61.2.2.2.2.1
theorem dX1_hasLine_7 : decode cX1_hasLine 7 = .ok (.isub, 1) := qd0_61.2.2.2.2.2.1
theorem dX1_hasLine_8 : decode cX1_hasLine 8 = .ok (.invokestatic 59, 3) := qd0_61.2.2.2.2.2.2.1
theorem dX1_hasLine_11 : decode cX1_hasLine 11 = .ok (.ireturn, 1) := qd0_61.2.2.2.2.2.2.2
theorem qd0_62 : (decode cX1_hasGoods 0 = .ok (.iload_n 1, 1)) ∧ (decode cX1_hasGoods 1 = .ok (.iconst 0, 1)) ∧ (decode cX1_hasGoods 2 = .ok (.aload_n 0, 1)) ∧ (decode cX1_hasGoods 3 = .ok (.getfield 34, 3)) ∧ (decode cX1_hasGoods 6 = .ok (.iconst 1, 1)) ∧ (decode cX1_hasGoods 7 = .ok (.isub, 1)) ∧ (decode cX1_hasGoods 8 = .ok (.invokestatic 59, 3)) ∧ (decode cX1_hasGoods 11 = .ok (.ireturn, 1)) := by decide +kernel
theorem dX1_hasGoods_0 : decode cX1_hasGoods 0 = .ok (.iload_n 1, 1) := qd0_62.1
theorem dX1_hasGoods_1 : decode cX1_hasGoods 1 = .ok (.iconst 0, 1) := qd0_62.2.1
theorem dX1_hasGoods_2 : decode cX1_hasGoods 2 = .ok (.aload_n 0, 1) := qd0_62.2.2.1
theorem dX1_hasGoods_3 : decode cX1_hasGoods 3 = .ok (.getfield 34, 3) := qd0_62.2.2.2.1
theorem dX1_hasGoods_6 : decode cX1_hasGoods 6 = .ok (.iconst 1, 1) := qd0_62.2.2.2.2.1
theorem dX1_hasGoods_7 : decode cX1_hasGoods 7 = .ok (.isub, 1) := qd0_62.2.2.2.2.2.1
theorem dX1_hasGoods_8 : decode cX1_hasGoods 8 = .ok (.invokestatic 59, 3) := qd0_62.2.2.2.2.2.2.1
theorem dX1_hasGoods_11 : decode cX1_hasGoods 11 = .ok (.ireturn, 1) := qd0_62.2.2.2.2.2.2.2
theorem qd0_63 : (decode cX1_hasWork 0 = .ok (.iload_n 1, 1)) ∧ (decode cX1_hasWork 1 = .ok (.iconst 0, 1)) ∧ (decode cX1_hasWork 2 = .ok (.aload_n 0, 1)) ∧ (decode cX1_hasWork 3 = .ok (.getfield 37, 3)) ∧ (decode cX1_hasWork 6 = .ok (.iconst 1, 1)) ∧ (decode cX1_hasWork 7 = .ok (.isub, 1)) ∧ (decode cX1_hasWork 8 = .ok (.invokestatic 59, 3)) ∧ (decode cX1_hasWork 11 = .ok (.ireturn, 1)) := by decide +kernel
theorem dX1_hasWork_0 : decode cX1_hasWork 0 = .ok (.iload_n 1, 1) := qd0_63.1
theorem dX1_hasWork_1 : decode cX1_hasWork 1 = .ok (.iconst 0, 1) := qd0_63.2.1
theorem dX1_hasWork_2 : decode cX1_hasWork 2 = .ok (.aload_n 0, 1) := qd0_63.2.2.1
theorem dX1_hasWork_3 : decode cX1_hasWork 3 = .ok (.getfield 37, 3) := qd0_63.2.2.2.1
theorem dX1_hasWork_6 : decode cX1_hasWork 6 = .ok (.iconst 1, 1) := qd0_63.2.2.2.2.1
theorem dX1_hasWork_7 : decode cX1_hasWork 7 = .ok (.isub, 1) := qd0_63.2.2.2.2.2.1
theorem dX1_hasWork_8 : decode cX1_hasWork 8 = .ok (.invokestatic 59, 3) := qd0_63.2.2.2.2.2.2.1
theorem dX1_hasWork_11 : decode cX1_hasWork 11 = .ok (.ireturn, 1) := qd0_63.2.2.2.2.2.2.2
theorem qd0_64 : (decode cX1_ofLine 0 = .ok (.aload_n 0, 1)) ∧ (decode cX1_ofLine 1 = .ok (.getfield 9, 3)) ∧ (decode cX1_ofLine 4 = .ok (.iload_n 1, 1)) ∧ (decode cX1_ofLine 5 = .ok (.bipush 7, 2)) ∧ (decode cX1_ofLine 7 = .ok (.imul, 1)) ∧ (decode cX1_ofLine 8 = .ok (.iload_n 2, 1)) ∧ (decode cX1_ofLine 9 = .ok (.iadd, 1)) ∧ (decode cX1_ofLine 10 = .ok (.iaload, 1)) ∧ (decode cX1_ofLine 11 = .ok (.ireturn, 1)) := by decide +kernel
theorem dX1_ofLine_0 : decode cX1_ofLine 0 = .ok (.aload_n 0, 1) := qd0_64.1
theorem dX1_ofLine_1 : decode cX1_ofLine 1 = .ok (.getfield 9, 3) := qd0_64.2.1
theorem dX1_ofLine_4 : decode cX1_ofLine 4 = .ok (.iload_n 1, 1) := qd0_64.2.2.1
theorem dX1_ofLine_5 : decode cX1_ofLine 5 = .ok (.bipush 7, 2) := qd0_64.2.2.2.1
theorem dX1_ofLine_7 : decode cX1_ofLine 7 = .ok (.imul, 1) := qd0_64.2.2.2.2.1
theorem dX1_ofLine_8 : decode cX1_ofLine 8 = .ok (.iload_n 2, 1) := qd0_64.2.2.2.2.2.1
theorem dX1_ofLine_9 : decode cX1_ofLine 9 = .ok (.iadd, 1) := qd0_64.2.2.2.2.2.2.1
theorem dX1_ofLine_10 : decode cX1_ofLine 10 = .ok (.iaload, 1) := qd0_64.2.2.2.2.2.2.2.1
theorem dX1_ofLine_11 : decode cX1_ofLine 11 = .ok (.ireturn, 1) := qd0_64.2.2.2.2.2.2.2.2
theorem qd0_65 : (decode cX1_ofGoods 0 = .ok (.aload_n 0, 1)) ∧ (decode cX1_ofGoods 1 = .ok (.getfield 15, 3)) ∧ (decode cX1_ofGoods 4 = .ok (.iload_n 1, 1)) ∧ (decode cX1_ofGoods 5 = .ok (.iconst 3, 1)) ∧ (decode cX1_ofGoods 6 = .ok (.imul, 1)) ∧ (decode cX1_ofGoods 7 = .ok (.iload_n 2, 1)) ∧ (decode cX1_ofGoods 8 = .ok (.iadd, 1)) ∧ (decode cX1_ofGoods 9 = .ok (.iaload, 1)) ∧ (decode cX1_ofGoods 10 = .ok (.ireturn, 1)) := by decide +kernel
theorem dX1_ofGoods_0 : decode cX1_ofGoods 0 = .ok (.aload_n 0, 1) := qd0_65.1
theorem dX1_ofGoods_1 : decode cX1_ofGoods 1 = .ok (.getfield 15, 3) := qd0_65.2.1
theorem dX1_ofGoods_4 : decode cX1_ofGoods 4 = .ok (.iload_n 1, 1) := qd0_65.2.2.1
theorem dX1_ofGoods_5 : decode cX1_ofGoods 5 = .ok (.iconst 3, 1) := qd0_65.2.2.2.1
theorem dX1_ofGoods_6 : decode cX1_ofGoods 6 = .ok (.imul, 1) := qd0_65.2.2.2.2.1
theorem dX1_ofGoods_7 : decode cX1_ofGoods 7 = .ok (.iload_n 2, 1) := qd0_65.2.2.2.2.2.1
theorem dX1_ofGoods_8 : decode cX1_ofGoods 8 = .ok (.iadd, 1) := qd0_65.2.2.2.2.2.2.1
theorem dX1_ofGoods_9 : decode cX1_ofGoods 9 = .ok (.iaload, 1) := qd0_65.2.2.2.2.2.2.2.1
theorem dX1_ofGoods_10 : decode cX1_ofGoods 10 = .ok (.ireturn, 1) := qd0_65.2.2.2.2.2.2.2.2
theorem qd0_66 : (decode cX1_ofWork 0 = .ok (.aload_n 0, 1)) ∧ (decode cX1_ofWork 1 = .ok (.getfield 18, 3)) ∧ (decode cX1_ofWork 4 = .ok (.iload_n 1, 1)) ∧ (decode cX1_ofWork 5 = .ok (.iconst 5, 1)) ∧ (decode cX1_ofWork 6 = .ok (.imul, 1)) ∧ (decode cX1_ofWork 7 = .ok (.iload_n 2, 1)) ∧ (decode cX1_ofWork 8 = .ok (.iadd, 1)) ∧ (decode cX1_ofWork 9 = .ok (.iaload, 1)) ∧ (decode cX1_ofWork 10 = .ok (.ireturn, 1)) := by decide +kernel
theorem dX1_ofWork_0 : decode cX1_ofWork 0 = .ok (.aload_n 0, 1) := qd0_66.1
theorem dX1_ofWork_1 : decode cX1_ofWork 1 = .ok (.getfield 18, 3) := qd0_66.2.1
theorem dX1_ofWork_4 : decode cX1_ofWork 4 = .ok (.iload_n 1, 1) := qd0_66.2.2.1
theorem dX1_ofWork_5 : decode cX1_ofWork 5 = .ok (.iconst 5, 1) := qd0_66.2.2.2.1
theorem dX1_ofWork_6 : decode cX1_ofWork 6 = .ok (.imul, 1) := qd0_66.2.2.2.2.1
theorem dX1_ofWork_7 : decode cX1_ofWork 7 = .ok (.iload_n 2, 1) := qd0_66.2.2.2.2.2.1
theorem dX1_ofWork_8 : decode cX1_ofWork 8 = .ok (.iadd, 1) := qd0_66.2.2.2.2.2.2.1
theorem dX1_ofWork_9 : decode cX1_ofWork 9 = .ok (.iaload, 1) := qd0_66.2.2.2.2.2.2.2.1
theorem dX1_ofWork_10 : decode cX1_ofWork 10 = .ok (.ireturn, 1) := qd0_66.2.2.2.2.2.2.2.2
theorem qd0_67 : (decode cX1_isDone 0 = .ok (.aload_n 0, 1)) ∧ (decode cX1_isDone 1 = .ok (.iload_n 1, 1)) ∧ (decode cX1_isDone 2 = .ok (.iconst 4, 1)) ∧ (decode cX1_isDone 3 = .ok (.invokevirtual 63, 3)) ∧ (decode cX1_isDone 6 = .ok (.ifCond .eq 7, 3)) ∧ (decode cX1_isDone 9 = .ok (.iconst 1, 1)) ∧ (decode cX1_isDone 10 = .ok (.goto 4, 3)) ∧ (decode cX1_isDone 13 = .ok (.iconst 0, 1)) ∧ (decode cX1_isDone 14 = .ok (.ireturn, 1)) := by decide +kernel
theorem dX1_isDone_0 : decode cX1_isDone 0 = .ok (.aload_n 0, 1) := qd0_67.1
theorem dX1_isDone_1 : decode cX1_isDone 1 = .ok (.iload_n 1, 1) := qd0_67.2.1
theorem dX1_isDone_2 : decode cX1_isDone 2 = .ok (.iconst 4, 1) := qd0_67.2.2.1
theorem dX1_isDone_3 : decode cX1_isDone 3 = .ok (.invokevirtual 63, 3) := qd0_67.2.2.2.1
theorem dX1_isDone_6 : decode cX1_isDone 6 = .ok (.ifCond .eq 7, 3) := qd0_67.2.2.2.2.1
theorem dX1_isDone_9 : decode cX1_isDone 9 = .ok (.iconst 1, 1) := qd0_67.2.2.2.2.2.1
theorem dX1_isDone_10 : decode cX1_isDone 10 = .ok (.goto 4, 3) := qd0_67.2.2.2.2.2.2.1
theorem dX1_isDone_13 : decode cX1_isDone 13 = .ok (.iconst 0, 1) := qd0_67.2.2.2.2.2.2.2.1
theorem dX1_isDone_14 : decode cX1_isDone 14 = .ok (.ireturn, 1) := qd0_67.2.2.2.2.2.2.2.2
theorem qd0_68 : (decode cX1_doneWorks 0 = .ok (.iconst 0, 1)) ∧ (decode cX1_doneWorks 1 = .ok (.istore_n 1, 1)) ∧ (decode cX1_doneWorks 2 = .ok (.iconst 0, 1)) ∧ (decode cX1_doneWorks 3 = .ok (.istore_n 2, 1)) ∧ (decode cX1_doneWorks 4 = .ok (.iload_n 2, 1)) ∧ (decode cX1_doneWorks 5 = .ok (.aload_n 0, 1)) ∧ (decode cX1_doneWorks 6 = .ok (.getfield 37, 3)) ∧ (decode cX1_doneWorks 9 = .ok (.if_icmp .ge 23, 3)) ∧ (decode cX1_doneWorks 12 = .ok (.aload_n 0, 1)) ∧ (decode cX1_doneWorks 13 = .ok (.iload_n 2, 1)) ∧ (decode cX1_doneWorks 14 = .ok (.invokevirtual 67, 3)) ∧ (decode cX1_doneWorks 17 = .ok (.ifCond .eq 9, 3)) := by decide +kernel
theorem dX1_doneWorks_0 : decode cX1_doneWorks 0 = .ok (.iconst 0, 1) := qd0_68.1
theorem dX1_doneWorks_1 : decode cX1_doneWorks 1 = .ok (.istore_n 1, 1) := qd0_68.2.1
theorem dX1_doneWorks_2 : decode cX1_doneWorks 2 = .ok (.iconst 0, 1) := qd0_68.2.2.1
theorem dX1_doneWorks_3 : decode cX1_doneWorks 3 = .ok (.istore_n 2, 1) := qd0_68.2.2.2.1
theorem dX1_doneWorks_4 : decode cX1_doneWorks 4 = .ok (.iload_n 2, 1) := qd0_68.2.2.2.2.1
theorem dX1_doneWorks_5 : decode cX1_doneWorks 5 = .ok (.aload_n 0, 1) := qd0_68.2.2.2.2.2.1
theorem dX1_doneWorks_6 : decode cX1_doneWorks 6 = .ok (.getfield 37, 3) := qd0_68.2.2.2.2.2.2.1
theorem dX1_doneWorks_9 : decode cX1_doneWorks 9 = .ok (.if_icmp .ge 23, 3) := qd0_68.2.2.2.2.2.2.2.1
theorem dX1_doneWorks_12 : decode cX1_doneWorks 12 = .ok (.aload_n 0, 1) := qd0_68.2.2.2.2.2.2.2.2.1
theorem dX1_doneWorks_13 : decode cX1_doneWorks 13 = .ok (.iload_n 2, 1) := qd0_68.2.2.2.2.2.2.2.2.2.1
theorem dX1_doneWorks_14 : decode cX1_doneWorks 14 = .ok (.invokevirtual 67, 3) := qd0_68.2.2.2.2.2.2.2.2.2.2.1
theorem dX1_doneWorks_17 : decode cX1_doneWorks 17 = .ok (.ifCond .eq 9, 3) := qd0_68.2.2.2.2.2.2.2.2.2.2.2
theorem qd0_69 : (decode cX1_doneWorks 20 = .ok (.iload_n 1, 1)) ∧ (decode cX1_doneWorks 21 = .ok (.iconst 1, 1)) ∧ (decode cX1_doneWorks 22 = .ok (.iload_n 2, 1)) ∧ (decode cX1_doneWorks 23 = .ok (.ishl, 1)) ∧ (decode cX1_doneWorks 24 = .ok (.ior, 1)) ∧ (decode cX1_doneWorks 25 = .ok (.istore_n 1, 1)) ∧ (decode cX1_doneWorks 26 = .ok (.iinc 2 1, 3)) ∧ (decode cX1_doneWorks 29 = .ok (.goto (-25), 3)) ∧ (decode cX1_doneWorks 32 = .ok (.iload_n 1, 1)) ∧ (decode cX1_doneWorks 33 = .ok (.ireturn, 1)) := by decide +kernel
theorem dX1_doneWorks_20 : decode cX1_doneWorks 20 = .ok (.iload_n 1, 1) := qd0_69.1
theorem dX1_doneWorks_21 : decode cX1_doneWorks 21 = .ok (.iconst 1, 1) := qd0_69.2.1
theorem dX1_doneWorks_22 : decode cX1_doneWorks 22 = .ok (.iload_n 2, 1) := qd0_69.2.2.1
theorem dX1_doneWorks_23 : decode cX1_doneWorks 23 = .ok (.ishl, 1) := qd0_69.2.2.2.1
theorem dX1_doneWorks_24 : decode cX1_doneWorks 24 = .ok (.ior, 1) := qd0_69.2.2.2.2.1
theorem dX1_doneWorks_25 : decode cX1_doneWorks 25 = .ok (.istore_n 1, 1) := qd0_69.2.2.2.2.2.1
theorem dX1_doneWorks_26 : decode cX1_doneWorks 26 = .ok (.iinc 2 1, 3) := qd0_69.2.2.2.2.2.2.1
theorem dX1_doneWorks_29 : decode cX1_doneWorks 29 = .ok (.goto (-25), 3) := qd0_69.2.2.2.2.2.2.2.1
theorem dX1_doneWorks_32 : decode cX1_doneWorks 32 = .ok (.iload_n 1, 1) := qd0_69.2.2.2.2.2.2.2.2.1
theorem dX1_doneWorks_33 : decode cX1_doneWorks 33 = .ok (.ireturn, 1) := qd0_69.2.2.2.2.2.2.2.2.2
theorem qd0_70 : (decode cX1_linesThere 0 = .ok (.iconst 0, 1)) ∧ (decode cX1_linesThere 1 = .ok (.istore_n 1, 1)) ∧ (decode cX1_linesThere 2 = .ok (.iconst 0, 1)) ∧ (decode cX1_linesThere 3 = .ok (.istore_n 2, 1)) ∧ (decode cX1_linesThere 4 = .ok (.iload_n 2, 1)) ∧ (decode cX1_linesThere 5 = .ok (.aload_n 0, 1)) ∧ (decode cX1_linesThere 6 = .ok (.getfield 30, 3)) ∧ (decode cX1_linesThere 9 = .ok (.if_icmp .ge 25, 3)) ∧ (decode cX1_linesThere 12 = .ok (.aload_n 0, 1)) ∧ (decode cX1_linesThere 13 = .ok (.iload_n 2, 1)) ∧ (decode cX1_linesThere 14 = .ok (.bipush 6, 2)) ∧ (decode cX1_linesThere 16 = .ok (.invokevirtual 71, 3)) := by decide +kernel
theorem dX1_linesThere_0 : decode cX1_linesThere 0 = .ok (.iconst 0, 1) := qd0_70.1
theorem dX1_linesThere_1 : decode cX1_linesThere 1 = .ok (.istore_n 1, 1) := qd0_70.2.1
theorem dX1_linesThere_2 : decode cX1_linesThere 2 = .ok (.iconst 0, 1) := qd0_70.2.2.1
theorem dX1_linesThere_3 : decode cX1_linesThere 3 = .ok (.istore_n 2, 1) := qd0_70.2.2.2.1
theorem dX1_linesThere_4 : decode cX1_linesThere 4 = .ok (.iload_n 2, 1) := qd0_70.2.2.2.2.1
theorem dX1_linesThere_5 : decode cX1_linesThere 5 = .ok (.aload_n 0, 1) := qd0_70.2.2.2.2.2.1
theorem dX1_linesThere_6 : decode cX1_linesThere 6 = .ok (.getfield 30, 3) := qd0_70.2.2.2.2.2.2.1
theorem dX1_linesThere_9 : decode cX1_linesThere 9 = .ok (.if_icmp .ge 25, 3) := qd0_70.2.2.2.2.2.2.2.1
theorem dX1_linesThere_12 : decode cX1_linesThere 12 = .ok (.aload_n 0, 1) := qd0_70.2.2.2.2.2.2.2.2.1
theorem dX1_linesThere_13 : decode cX1_linesThere 13 = .ok (.iload_n 2, 1) := qd0_70.2.2.2.2.2.2.2.2.2.1
theorem dX1_linesThere_14 : decode cX1_linesThere 14 = .ok (.bipush 6, 2) := qd0_70.2.2.2.2.2.2.2.2.2.2.1
theorem dX1_linesThere_16 : decode cX1_linesThere 16 = .ok (.invokevirtual 71, 3) := qd0_70.2.2.2.2.2.2.2.2.2.2.2
theorem qd0_71 : (decode cX1_linesThere 19 = .ok (.ifCond .ne 9, 3)) ∧ (decode cX1_linesThere 22 = .ok (.iload_n 1, 1)) ∧ (decode cX1_linesThere 23 = .ok (.iconst 1, 1)) ∧ (decode cX1_linesThere 24 = .ok (.iload_n 2, 1)) ∧ (decode cX1_linesThere 25 = .ok (.ishl, 1)) ∧ (decode cX1_linesThere 26 = .ok (.ior, 1)) ∧ (decode cX1_linesThere 27 = .ok (.istore_n 1, 1)) ∧ (decode cX1_linesThere 28 = .ok (.iinc 2 1, 3)) ∧ (decode cX1_linesThere 31 = .ok (.goto (-27), 3)) ∧ (decode cX1_linesThere 34 = .ok (.iload_n 1, 1)) ∧ (decode cX1_linesThere 35 = .ok (.ireturn, 1)) := by decide +kernel
theorem dX1_linesThere_19 : decode cX1_linesThere 19 = .ok (.ifCond .ne 9, 3) := qd0_71.1
theorem dX1_linesThere_22 : decode cX1_linesThere 22 = .ok (.iload_n 1, 1) := qd0_71.2.1
theorem dX1_linesThere_23 : decode cX1_linesThere 23 = .ok (.iconst 1, 1) := qd0_71.2.2.1
theorem dX1_linesThere_24 : decode cX1_linesThere 24 = .ok (.iload_n 2, 1) := qd0_71.2.2.2.1
theorem dX1_linesThere_25 : decode cX1_linesThere 25 = .ok (.ishl, 1) := qd0_71.2.2.2.2.1
theorem dX1_linesThere_26 : decode cX1_linesThere 26 = .ok (.ior, 1) := qd0_71.2.2.2.2.2.1
theorem dX1_linesThere_27 : decode cX1_linesThere 27 = .ok (.istore_n 1, 1) := qd0_71.2.2.2.2.2.2.1
theorem dX1_linesThere_28 : decode cX1_linesThere 28 = .ok (.iinc 2 1, 3) := qd0_71.2.2.2.2.2.2.2.1
theorem dX1_linesThere_31 : decode cX1_linesThere 31 = .ok (.goto (-27), 3) := qd0_71.2.2.2.2.2.2.2.2.1
theorem dX1_linesThere_34 : decode cX1_linesThere 34 = .ok (.iload_n 1, 1) := qd0_71.2.2.2.2.2.2.2.2.2.1
theorem dX1_linesThere_35 : decode cX1_linesThere 35 = .ok (.ireturn, 1) := qd0_71.2.2.2.2.2.2.2.2.2.2
theorem qd0_72 : (decode cX1_addLine 0 = .ok (.aload_n 0, 1)) ∧ (decode cX1_addLine 1 = .ok (.getfield 30, 3)) ∧ (decode cX1_addLine 4 = .ok (.bipush 20, 2)) ∧ (decode cX1_addLine 6 = .ok (.if_icmp .lt 4, 3)) ∧ (decode cX1_addLine 9 = .ok (.return_, 1)) ∧ (decode cX1_addLine 10 = .ok (.aload_n 0, 1)) ∧ (decode cX1_addLine 11 = .ok (.getfield 30, 3)) ∧ (decode cX1_addLine 14 = .ok (.bipush 7, 2)) ∧ (decode cX1_addLine 16 = .ok (.imul, 1)) ∧ (decode cX1_addLine 17 = .ok (.istore 7, 2)) ∧ (decode cX1_addLine 19 = .ok (.aload_n 0, 1)) ∧ (decode cX1_addLine 20 = .ok (.getfield 9, 3)) := by decide +kernel
theorem dX1_addLine_0 : decode cX1_addLine 0 = .ok (.aload_n 0, 1) := qd0_72.1
theorem dX1_addLine_1 : decode cX1_addLine 1 = .ok (.getfield 30, 3) := qd0_72.2.1
theorem dX1_addLine_4 : decode cX1_addLine 4 = .ok (.bipush 20, 2) := qd0_72.2.2.1
theorem dX1_addLine_6 : decode cX1_addLine 6 = .ok (.if_icmp .lt 4, 3) := qd0_72.2.2.2.1
theorem dX1_addLine_9 : decode cX1_addLine 9 = .ok (.return_, 1) := qd0_72.2.2.2.2.1
theorem dX1_addLine_10 : decode cX1_addLine 10 = .ok (.aload_n 0, 1) := qd0_72.2.2.2.2.2.1
theorem dX1_addLine_11 : decode cX1_addLine 11 = .ok (.getfield 30, 3) := qd0_72.2.2.2.2.2.2.1
theorem dX1_addLine_14 : decode cX1_addLine 14 = .ok (.bipush 7, 2) := qd0_72.2.2.2.2.2.2.2.1
theorem dX1_addLine_16 : decode cX1_addLine 16 = .ok (.imul, 1) := qd0_72.2.2.2.2.2.2.2.2.1
theorem dX1_addLine_17 : decode cX1_addLine 17 = .ok (.istore 7, 2) := qd0_72.2.2.2.2.2.2.2.2.2.1
theorem dX1_addLine_19 : decode cX1_addLine 19 = .ok (.aload_n 0, 1) := qd0_72.2.2.2.2.2.2.2.2.2.2.1
theorem dX1_addLine_20 : decode cX1_addLine 20 = .ok (.getfield 9, 3) := qd0_72.2.2.2.2.2.2.2.2.2.2.2
theorem qd0_73 : (decode cX1_addLine 23 = .ok (.iload 7, 2)) ∧ (decode cX1_addLine 25 = .ok (.iconst 0, 1)) ∧ (decode cX1_addLine 26 = .ok (.iadd, 1)) ∧ (decode cX1_addLine 27 = .ok (.iload_n 1, 1)) ∧ (decode cX1_addLine 28 = .ok (.iastore, 1)) ∧ (decode cX1_addLine 29 = .ok (.aload_n 0, 1)) ∧ (decode cX1_addLine 30 = .ok (.getfield 9, 3)) ∧ (decode cX1_addLine 33 = .ok (.iload 7, 2)) ∧ (decode cX1_addLine 35 = .ok (.iconst 1, 1)) ∧ (decode cX1_addLine 36 = .ok (.iadd, 1)) ∧ (decode cX1_addLine 37 = .ok (.iload_n 2, 1)) ∧ (decode cX1_addLine 38 = .ok (.iastore, 1)) := by decide +kernel
theorem dX1_addLine_23 : decode cX1_addLine 23 = .ok (.iload 7, 2) := qd0_73.1
theorem dX1_addLine_25 : decode cX1_addLine 25 = .ok (.iconst 0, 1) := qd0_73.2.1
theorem dX1_addLine_26 : decode cX1_addLine 26 = .ok (.iadd, 1) := qd0_73.2.2.1
theorem dX1_addLine_27 : decode cX1_addLine 27 = .ok (.iload_n 1, 1) := qd0_73.2.2.2.1
theorem dX1_addLine_28 : decode cX1_addLine 28 = .ok (.iastore, 1) := qd0_73.2.2.2.2.1
theorem dX1_addLine_29 : decode cX1_addLine 29 = .ok (.aload_n 0, 1) := qd0_73.2.2.2.2.2.1
theorem dX1_addLine_30 : decode cX1_addLine 30 = .ok (.getfield 9, 3) := qd0_73.2.2.2.2.2.2.1
theorem dX1_addLine_33 : decode cX1_addLine 33 = .ok (.iload 7, 2) := qd0_73.2.2.2.2.2.2.2.1
theorem dX1_addLine_35 : decode cX1_addLine 35 = .ok (.iconst 1, 1) := qd0_73.2.2.2.2.2.2.2.2.1
theorem dX1_addLine_36 : decode cX1_addLine 36 = .ok (.iadd, 1) := qd0_73.2.2.2.2.2.2.2.2.2.1
theorem dX1_addLine_37 : decode cX1_addLine 37 = .ok (.iload_n 2, 1) := qd0_73.2.2.2.2.2.2.2.2.2.2.1
theorem dX1_addLine_38 : decode cX1_addLine 38 = .ok (.iastore, 1) := qd0_73.2.2.2.2.2.2.2.2.2.2.2
theorem qd0_74 : (decode cX1_addLine 39 = .ok (.aload_n 0, 1)) ∧ (decode cX1_addLine 40 = .ok (.getfield 9, 3)) ∧ (decode cX1_addLine 43 = .ok (.iload 7, 2)) ∧ (decode cX1_addLine 45 = .ok (.iconst 2, 1)) ∧ (decode cX1_addLine 46 = .ok (.iadd, 1)) ∧ (decode cX1_addLine 47 = .ok (.iload_n 3, 1)) ∧ (decode cX1_addLine 48 = .ok (.iastore, 1)) ∧ (decode cX1_addLine 49 = .ok (.aload_n 0, 1)) ∧ (decode cX1_addLine 50 = .ok (.getfield 9, 3)) ∧ (decode cX1_addLine 53 = .ok (.iload 7, 2)) ∧ (decode cX1_addLine 55 = .ok (.iconst 3, 1)) ∧ (decode cX1_addLine 56 = .ok (.iadd, 1)) := by decide +kernel
theorem dX1_addLine_39 : decode cX1_addLine 39 = .ok (.aload_n 0, 1) := qd0_74.1
theorem dX1_addLine_40 : decode cX1_addLine 40 = .ok (.getfield 9, 3) := qd0_74.2.1
theorem dX1_addLine_43 : decode cX1_addLine 43 = .ok (.iload 7, 2) := qd0_74.2.2.1
theorem dX1_addLine_45 : decode cX1_addLine 45 = .ok (.iconst 2, 1) := qd0_74.2.2.2.1
theorem dX1_addLine_46 : decode cX1_addLine 46 = .ok (.iadd, 1) := qd0_74.2.2.2.2.1
theorem dX1_addLine_47 : decode cX1_addLine 47 = .ok (.iload_n 3, 1) := qd0_74.2.2.2.2.2.1
theorem dX1_addLine_48 : decode cX1_addLine 48 = .ok (.iastore, 1) := qd0_74.2.2.2.2.2.2.1
theorem dX1_addLine_49 : decode cX1_addLine 49 = .ok (.aload_n 0, 1) := qd0_74.2.2.2.2.2.2.2.1
theorem dX1_addLine_50 : decode cX1_addLine 50 = .ok (.getfield 9, 3) := qd0_74.2.2.2.2.2.2.2.2.1
theorem dX1_addLine_53 : decode cX1_addLine 53 = .ok (.iload 7, 2) := qd0_74.2.2.2.2.2.2.2.2.2.1
theorem dX1_addLine_55 : decode cX1_addLine 55 = .ok (.iconst 3, 1) := qd0_74.2.2.2.2.2.2.2.2.2.2.1
theorem dX1_addLine_56 : decode cX1_addLine 56 = .ok (.iadd, 1) := qd0_74.2.2.2.2.2.2.2.2.2.2.2
theorem qd0_75 : (decode cX1_addLine 57 = .ok (.iload 4, 2)) ∧ (decode cX1_addLine 59 = .ok (.iastore, 1)) ∧ (decode cX1_addLine 60 = .ok (.aload_n 0, 1)) ∧ (decode cX1_addLine 61 = .ok (.getfield 9, 3)) ∧ (decode cX1_addLine 64 = .ok (.iload 7, 2)) ∧ (decode cX1_addLine 66 = .ok (.iconst 4, 1)) ∧ (decode cX1_addLine 67 = .ok (.iadd, 1)) ∧ (decode cX1_addLine 68 = .ok (.iload 5, 2)) ∧ (decode cX1_addLine 70 = .ok (.iastore, 1)) ∧ (decode cX1_addLine 71 = .ok (.aload_n 0, 1)) ∧ (decode cX1_addLine 72 = .ok (.getfield 9, 3)) ∧ (decode cX1_addLine 75 = .ok (.iload 7, 2)) := by decide +kernel
theorem dX1_addLine_57 : decode cX1_addLine 57 = .ok (.iload 4, 2) := qd0_75.1
theorem dX1_addLine_59 : decode cX1_addLine 59 = .ok (.iastore, 1) := qd0_75.2.1
theorem dX1_addLine_60 : decode cX1_addLine 60 = .ok (.aload_n 0, 1) := qd0_75.2.2.1
theorem dX1_addLine_61 : decode cX1_addLine 61 = .ok (.getfield 9, 3) := qd0_75.2.2.2.1
theorem dX1_addLine_64 : decode cX1_addLine 64 = .ok (.iload 7, 2) := qd0_75.2.2.2.2.1
theorem dX1_addLine_66 : decode cX1_addLine 66 = .ok (.iconst 4, 1) := qd0_75.2.2.2.2.2.1
theorem dX1_addLine_67 : decode cX1_addLine 67 = .ok (.iadd, 1) := qd0_75.2.2.2.2.2.2.1
theorem dX1_addLine_68 : decode cX1_addLine 68 = .ok (.iload 5, 2) := qd0_75.2.2.2.2.2.2.2.1
theorem dX1_addLine_70 : decode cX1_addLine 70 = .ok (.iastore, 1) := qd0_75.2.2.2.2.2.2.2.2.1
theorem dX1_addLine_71 : decode cX1_addLine 71 = .ok (.aload_n 0, 1) := qd0_75.2.2.2.2.2.2.2.2.2.1
theorem dX1_addLine_72 : decode cX1_addLine 72 = .ok (.getfield 9, 3) := qd0_75.2.2.2.2.2.2.2.2.2.2.1
theorem dX1_addLine_75 : decode cX1_addLine 75 = .ok (.iload 7, 2) := qd0_75.2.2.2.2.2.2.2.2.2.2.2
theorem qd0_76 : (decode cX1_addLine 77 = .ok (.iconst 5, 1)) ∧ (decode cX1_addLine 78 = .ok (.iadd, 1)) ∧ (decode cX1_addLine 79 = .ok (.iload 6, 2)) ∧ (decode cX1_addLine 81 = .ok (.iastore, 1)) ∧ (decode cX1_addLine 82 = .ok (.aload_n 0, 1)) ∧ (decode cX1_addLine 83 = .ok (.getfield 9, 3)) ∧ (decode cX1_addLine 86 = .ok (.iload 7, 2)) ∧ (decode cX1_addLine 88 = .ok (.bipush 6, 2)) ∧ (decode cX1_addLine 90 = .ok (.iadd, 1)) ∧ (decode cX1_addLine 91 = .ok (.iconst 0, 1)) ∧ (decode cX1_addLine 92 = .ok (.iastore, 1)) ∧ (decode cX1_addLine 93 = .ok (.aload_n 0, 1)) := by decide +kernel
theorem dX1_addLine_77 : decode cX1_addLine 77 = .ok (.iconst 5, 1) := qd0_76.1
theorem dX1_addLine_78 : decode cX1_addLine 78 = .ok (.iadd, 1) := qd0_76.2.1
theorem dX1_addLine_79 : decode cX1_addLine 79 = .ok (.iload 6, 2) := qd0_76.2.2.1
theorem dX1_addLine_81 : decode cX1_addLine 81 = .ok (.iastore, 1) := qd0_76.2.2.2.1
theorem dX1_addLine_82 : decode cX1_addLine 82 = .ok (.aload_n 0, 1) := qd0_76.2.2.2.2.1
theorem dX1_addLine_83 : decode cX1_addLine 83 = .ok (.getfield 9, 3) := qd0_76.2.2.2.2.2.1
theorem dX1_addLine_86 : decode cX1_addLine 86 = .ok (.iload 7, 2) := qd0_76.2.2.2.2.2.2.1
theorem dX1_addLine_88 : decode cX1_addLine 88 = .ok (.bipush 6, 2) := qd0_76.2.2.2.2.2.2.2.1
theorem dX1_addLine_90 : decode cX1_addLine 90 = .ok (.iadd, 1) := qd0_76.2.2.2.2.2.2.2.2.1
theorem dX1_addLine_91 : decode cX1_addLine 91 = .ok (.iconst 0, 1) := qd0_76.2.2.2.2.2.2.2.2.2.1
theorem dX1_addLine_92 : decode cX1_addLine 92 = .ok (.iastore, 1) := qd0_76.2.2.2.2.2.2.2.2.2.2.1
theorem dX1_addLine_93 : decode cX1_addLine 93 = .ok (.aload_n 0, 1) := qd0_76.2.2.2.2.2.2.2.2.2.2.2
theorem qd0_77 : (decode cX1_addLine 94 = .ok (.dup, 1)) ∧ (decode cX1_addLine 95 = .ok (.getfield 30, 3)) ∧ (decode cX1_addLine 98 = .ok (.iconst 1, 1)) ∧ (decode cX1_addLine 99 = .ok (.iadd, 1)) ∧ (decode cX1_addLine 100 = .ok (.putfield 30, 3)) ∧ (decode cX1_addLine 103 = .ok (.aload_n 0, 1)) ∧ (decode cX1_addLine 104 = .ok (.iconst 0, 1)) ∧ (decode cX1_addLine 105 = .ok (.putfield 43, 3)) ∧ (decode cX1_addLine 108 = .ok (.return_, 1)) := by decide +kernel
theorem dX1_addLine_94 : decode cX1_addLine 94 = .ok (.dup, 1) := qd0_77.1
theorem dX1_addLine_95 : decode cX1_addLine 95 = .ok (.getfield 30, 3) := qd0_77.2.1
theorem dX1_addLine_98 : decode cX1_addLine 98 = .ok (.iconst 1, 1) := qd0_77.2.2.1
theorem dX1_addLine_99 : decode cX1_addLine 99 = .ok (.iadd, 1) := qd0_77.2.2.2.1
theorem dX1_addLine_100 : decode cX1_addLine 100 = .ok (.putfield 30, 3) := qd0_77.2.2.2.2.1
theorem dX1_addLine_103 : decode cX1_addLine 103 = .ok (.aload_n 0, 1) := qd0_77.2.2.2.2.2.1
theorem dX1_addLine_104 : decode cX1_addLine 104 = .ok (.iconst 0, 1) := qd0_77.2.2.2.2.2.2.1
theorem dX1_addLine_105 : decode cX1_addLine 105 = .ok (.putfield 43, 3) := qd0_77.2.2.2.2.2.2.2.1
theorem dX1_addLine_108 : decode cX1_addLine 108 = .ok (.return_, 1) := qd0_77.2.2.2.2.2.2.2.2
theorem qd0_78 : (decode cX1_addGoods 0 = .ok (.aload_n 0, 1)) ∧ (decode cX1_addGoods 1 = .ok (.getfield 34, 3)) ∧ (decode cX1_addGoods 4 = .ok (.bipush 8, 2)) ∧ (decode cX1_addGoods 6 = .ok (.if_icmp .lt 4, 3)) ∧ (decode cX1_addGoods 9 = .ok (.return_, 1)) ∧ (decode cX1_addGoods 10 = .ok (.aload_n 0, 1)) ∧ (decode cX1_addGoods 11 = .ok (.getfield 34, 3)) ∧ (decode cX1_addGoods 14 = .ok (.iconst 3, 1)) ∧ (decode cX1_addGoods 15 = .ok (.imul, 1)) ∧ (decode cX1_addGoods 16 = .ok (.istore 4, 2)) ∧ (decode cX1_addGoods 18 = .ok (.aload_n 0, 1)) ∧ (decode cX1_addGoods 19 = .ok (.getfield 15, 3)) := by decide +kernel
theorem dX1_addGoods_0 : decode cX1_addGoods 0 = .ok (.aload_n 0, 1) := qd0_78.1
theorem dX1_addGoods_1 : decode cX1_addGoods 1 = .ok (.getfield 34, 3) := qd0_78.2.1
theorem dX1_addGoods_4 : decode cX1_addGoods 4 = .ok (.bipush 8, 2) := qd0_78.2.2.1
theorem dX1_addGoods_6 : decode cX1_addGoods 6 = .ok (.if_icmp .lt 4, 3) := qd0_78.2.2.2.1
theorem dX1_addGoods_9 : decode cX1_addGoods 9 = .ok (.return_, 1) := qd0_78.2.2.2.2.1
theorem dX1_addGoods_10 : decode cX1_addGoods 10 = .ok (.aload_n 0, 1) := qd0_78.2.2.2.2.2.1
theorem dX1_addGoods_11 : decode cX1_addGoods 11 = .ok (.getfield 34, 3) := qd0_78.2.2.2.2.2.2.1
theorem dX1_addGoods_14 : decode cX1_addGoods 14 = .ok (.iconst 3, 1) := qd0_78.2.2.2.2.2.2.2.1
theorem dX1_addGoods_15 : decode cX1_addGoods 15 = .ok (.imul, 1) := qd0_78.2.2.2.2.2.2.2.2.1
theorem dX1_addGoods_16 : decode cX1_addGoods 16 = .ok (.istore 4, 2) := qd0_78.2.2.2.2.2.2.2.2.2.1
theorem dX1_addGoods_18 : decode cX1_addGoods 18 = .ok (.aload_n 0, 1) := qd0_78.2.2.2.2.2.2.2.2.2.2.1
theorem dX1_addGoods_19 : decode cX1_addGoods 19 = .ok (.getfield 15, 3) := qd0_78.2.2.2.2.2.2.2.2.2.2.2
theorem qd0_79 : (decode cX1_addGoods 22 = .ok (.iload 4, 2)) ∧ (decode cX1_addGoods 24 = .ok (.iconst 0, 1)) ∧ (decode cX1_addGoods 25 = .ok (.iadd, 1)) ∧ (decode cX1_addGoods 26 = .ok (.iload_n 1, 1)) ∧ (decode cX1_addGoods 27 = .ok (.iastore, 1)) ∧ (decode cX1_addGoods 28 = .ok (.aload_n 0, 1)) ∧ (decode cX1_addGoods 29 = .ok (.getfield 15, 3)) ∧ (decode cX1_addGoods 32 = .ok (.iload 4, 2)) ∧ (decode cX1_addGoods 34 = .ok (.iconst 1, 1)) ∧ (decode cX1_addGoods 35 = .ok (.iadd, 1)) ∧ (decode cX1_addGoods 36 = .ok (.iload_n 2, 1)) ∧ (decode cX1_addGoods 37 = .ok (.iastore, 1)) := by decide +kernel
theorem dX1_addGoods_22 : decode cX1_addGoods 22 = .ok (.iload 4, 2) := qd0_79.1
theorem dX1_addGoods_24 : decode cX1_addGoods 24 = .ok (.iconst 0, 1) := qd0_79.2.1
theorem dX1_addGoods_25 : decode cX1_addGoods 25 = .ok (.iadd, 1) := qd0_79.2.2.1
theorem dX1_addGoods_26 : decode cX1_addGoods 26 = .ok (.iload_n 1, 1) := qd0_79.2.2.2.1
theorem dX1_addGoods_27 : decode cX1_addGoods 27 = .ok (.iastore, 1) := qd0_79.2.2.2.2.1
theorem dX1_addGoods_28 : decode cX1_addGoods 28 = .ok (.aload_n 0, 1) := qd0_79.2.2.2.2.2.1
theorem dX1_addGoods_29 : decode cX1_addGoods 29 = .ok (.getfield 15, 3) := qd0_79.2.2.2.2.2.2.1
theorem dX1_addGoods_32 : decode cX1_addGoods 32 = .ok (.iload 4, 2) := qd0_79.2.2.2.2.2.2.2.1
theorem dX1_addGoods_34 : decode cX1_addGoods 34 = .ok (.iconst 1, 1) := qd0_79.2.2.2.2.2.2.2.2.1
theorem dX1_addGoods_35 : decode cX1_addGoods 35 = .ok (.iadd, 1) := qd0_79.2.2.2.2.2.2.2.2.2.1
theorem dX1_addGoods_36 : decode cX1_addGoods 36 = .ok (.iload_n 2, 1) := qd0_79.2.2.2.2.2.2.2.2.2.2.1
theorem dX1_addGoods_37 : decode cX1_addGoods 37 = .ok (.iastore, 1) := qd0_79.2.2.2.2.2.2.2.2.2.2.2
theorem qd0_80 : (decode cX1_addGoods 38 = .ok (.aload_n 0, 1)) ∧ (decode cX1_addGoods 39 = .ok (.getfield 15, 3)) ∧ (decode cX1_addGoods 42 = .ok (.iload 4, 2)) ∧ (decode cX1_addGoods 44 = .ok (.iconst 2, 1)) ∧ (decode cX1_addGoods 45 = .ok (.iadd, 1)) ∧ (decode cX1_addGoods 46 = .ok (.iload_n 3, 1)) ∧ (decode cX1_addGoods 47 = .ok (.iastore, 1)) ∧ (decode cX1_addGoods 48 = .ok (.aload_n 0, 1)) ∧ (decode cX1_addGoods 49 = .ok (.dup, 1)) ∧ (decode cX1_addGoods 50 = .ok (.getfield 34, 3)) ∧ (decode cX1_addGoods 53 = .ok (.iconst 1, 1)) ∧ (decode cX1_addGoods 54 = .ok (.iadd, 1)) := by decide +kernel
theorem dX1_addGoods_38 : decode cX1_addGoods 38 = .ok (.aload_n 0, 1) := qd0_80.1
theorem dX1_addGoods_39 : decode cX1_addGoods 39 = .ok (.getfield 15, 3) := qd0_80.2.1
theorem dX1_addGoods_42 : decode cX1_addGoods 42 = .ok (.iload 4, 2) := qd0_80.2.2.1
theorem dX1_addGoods_44 : decode cX1_addGoods 44 = .ok (.iconst 2, 1) := qd0_80.2.2.2.1
theorem dX1_addGoods_45 : decode cX1_addGoods 45 = .ok (.iadd, 1) := qd0_80.2.2.2.2.1
theorem dX1_addGoods_46 : decode cX1_addGoods 46 = .ok (.iload_n 3, 1) := qd0_80.2.2.2.2.2.1
theorem dX1_addGoods_47 : decode cX1_addGoods 47 = .ok (.iastore, 1) := qd0_80.2.2.2.2.2.2.1
theorem dX1_addGoods_48 : decode cX1_addGoods 48 = .ok (.aload_n 0, 1) := qd0_80.2.2.2.2.2.2.2.1
theorem dX1_addGoods_49 : decode cX1_addGoods 49 = .ok (.dup, 1) := qd0_80.2.2.2.2.2.2.2.2.1
theorem dX1_addGoods_50 : decode cX1_addGoods 50 = .ok (.getfield 34, 3) := qd0_80.2.2.2.2.2.2.2.2.2.1
theorem dX1_addGoods_53 : decode cX1_addGoods 53 = .ok (.iconst 1, 1) := qd0_80.2.2.2.2.2.2.2.2.2.2.1
theorem dX1_addGoods_54 : decode cX1_addGoods 54 = .ok (.iadd, 1) := qd0_80.2.2.2.2.2.2.2.2.2.2.2
theorem qd0_81 : (decode cX1_addGoods 55 = .ok (.putfield 34, 3)) ∧ (decode cX1_addGoods 58 = .ok (.aload_n 0, 1)) ∧ (decode cX1_addGoods 59 = .ok (.iconst 0, 1)) ∧ (decode cX1_addGoods 60 = .ok (.putfield 43, 3)) ∧ (decode cX1_addGoods 63 = .ok (.return_, 1)) := by decide +kernel
theorem dX1_addGoods_55 : decode cX1_addGoods 55 = .ok (.putfield 34, 3) := qd0_81.1
theorem dX1_addGoods_58 : decode cX1_addGoods 58 = .ok (.aload_n 0, 1) := qd0_81.2.1
theorem dX1_addGoods_59 : decode cX1_addGoods 59 = .ok (.iconst 0, 1) := qd0_81.2.2.1
theorem dX1_addGoods_60 : decode cX1_addGoods 60 = .ok (.putfield 43, 3) := qd0_81.2.2.2.1
theorem dX1_addGoods_63 : decode cX1_addGoods 63 = .ok (.return_, 1) := qd0_81.2.2.2.2
theorem qd0_82 : (decode cX1_addWork 0 = .ok (.aload_n 0, 1)) ∧ (decode cX1_addWork 1 = .ok (.getfield 37, 3)) ∧ (decode cX1_addWork 4 = .ok (.bipush 7, 2)) ∧ (decode cX1_addWork 6 = .ok (.if_icmp .lt 4, 3)) ∧ (decode cX1_addWork 9 = .ok (.return_, 1)) ∧ (decode cX1_addWork 10 = .ok (.aload_n 0, 1)) ∧ (decode cX1_addWork 11 = .ok (.getfield 37, 3)) ∧ (decode cX1_addWork 14 = .ok (.iconst 5, 1)) ∧ (decode cX1_addWork 15 = .ok (.imul, 1)) ∧ (decode cX1_addWork 16 = .ok (.istore 5, 2)) ∧ (decode cX1_addWork 18 = .ok (.aload_n 0, 1)) ∧ (decode cX1_addWork 19 = .ok (.getfield 18, 3)) := by decide +kernel
theorem dX1_addWork_0 : decode cX1_addWork 0 = .ok (.aload_n 0, 1) := qd0_82.1
theorem dX1_addWork_1 : decode cX1_addWork 1 = .ok (.getfield 37, 3) := qd0_82.2.1
theorem dX1_addWork_4 : decode cX1_addWork 4 = .ok (.bipush 7, 2) := qd0_82.2.2.1
theorem dX1_addWork_6 : decode cX1_addWork 6 = .ok (.if_icmp .lt 4, 3) := qd0_82.2.2.2.1
theorem dX1_addWork_9 : decode cX1_addWork 9 = .ok (.return_, 1) := qd0_82.2.2.2.2.1
theorem dX1_addWork_10 : decode cX1_addWork 10 = .ok (.aload_n 0, 1) := qd0_82.2.2.2.2.2.1
theorem dX1_addWork_11 : decode cX1_addWork 11 = .ok (.getfield 37, 3) := qd0_82.2.2.2.2.2.2.1
theorem dX1_addWork_14 : decode cX1_addWork 14 = .ok (.iconst 5, 1) := qd0_82.2.2.2.2.2.2.2.1
theorem dX1_addWork_15 : decode cX1_addWork 15 = .ok (.imul, 1) := qd0_82.2.2.2.2.2.2.2.2.1
theorem dX1_addWork_16 : decode cX1_addWork 16 = .ok (.istore 5, 2) := qd0_82.2.2.2.2.2.2.2.2.2.1
theorem dX1_addWork_18 : decode cX1_addWork 18 = .ok (.aload_n 0, 1) := qd0_82.2.2.2.2.2.2.2.2.2.2.1
theorem dX1_addWork_19 : decode cX1_addWork 19 = .ok (.getfield 18, 3) := qd0_82.2.2.2.2.2.2.2.2.2.2.2
theorem qd0_83 : (decode cX1_addWork 22 = .ok (.iload 5, 2)) ∧ (decode cX1_addWork 24 = .ok (.iconst 0, 1)) ∧ (decode cX1_addWork 25 = .ok (.iadd, 1)) ∧ (decode cX1_addWork 26 = .ok (.iload_n 1, 1)) ∧ (decode cX1_addWork 27 = .ok (.iastore, 1)) ∧ (decode cX1_addWork 28 = .ok (.aload_n 0, 1)) ∧ (decode cX1_addWork 29 = .ok (.getfield 18, 3)) ∧ (decode cX1_addWork 32 = .ok (.iload 5, 2)) ∧ (decode cX1_addWork 34 = .ok (.iconst 1, 1)) ∧ (decode cX1_addWork 35 = .ok (.iadd, 1)) ∧ (decode cX1_addWork 36 = .ok (.iload_n 2, 1)) ∧ (decode cX1_addWork 37 = .ok (.iastore, 1)) := by decide +kernel
theorem dX1_addWork_22 : decode cX1_addWork 22 = .ok (.iload 5, 2) := qd0_83.1
theorem dX1_addWork_24 : decode cX1_addWork 24 = .ok (.iconst 0, 1) := qd0_83.2.1
theorem dX1_addWork_25 : decode cX1_addWork 25 = .ok (.iadd, 1) := qd0_83.2.2.1
theorem dX1_addWork_26 : decode cX1_addWork 26 = .ok (.iload_n 1, 1) := qd0_83.2.2.2.1
theorem dX1_addWork_27 : decode cX1_addWork 27 = .ok (.iastore, 1) := qd0_83.2.2.2.2.1
theorem dX1_addWork_28 : decode cX1_addWork 28 = .ok (.aload_n 0, 1) := qd0_83.2.2.2.2.2.1
theorem dX1_addWork_29 : decode cX1_addWork 29 = .ok (.getfield 18, 3) := qd0_83.2.2.2.2.2.2.1
theorem dX1_addWork_32 : decode cX1_addWork 32 = .ok (.iload 5, 2) := qd0_83.2.2.2.2.2.2.2.1
theorem dX1_addWork_34 : decode cX1_addWork 34 = .ok (.iconst 1, 1) := qd0_83.2.2.2.2.2.2.2.2.1
theorem dX1_addWork_35 : decode cX1_addWork 35 = .ok (.iadd, 1) := qd0_83.2.2.2.2.2.2.2.2.2.1
theorem dX1_addWork_36 : decode cX1_addWork 36 = .ok (.iload_n 2, 1) := qd0_83.2.2.2.2.2.2.2.2.2.2.1
theorem dX1_addWork_37 : decode cX1_addWork 37 = .ok (.iastore, 1) := qd0_83.2.2.2.2.2.2.2.2.2.2.2
theorem qd0_84 : (decode cX1_addWork 38 = .ok (.aload_n 0, 1)) ∧ (decode cX1_addWork 39 = .ok (.getfield 18, 3)) ∧ (decode cX1_addWork 42 = .ok (.iload 5, 2)) ∧ (decode cX1_addWork 44 = .ok (.iconst 2, 1)) ∧ (decode cX1_addWork 45 = .ok (.iadd, 1)) ∧ (decode cX1_addWork 46 = .ok (.iload_n 3, 1)) ∧ (decode cX1_addWork 47 = .ok (.iastore, 1)) ∧ (decode cX1_addWork 48 = .ok (.aload_n 0, 1)) ∧ (decode cX1_addWork 49 = .ok (.getfield 18, 3)) ∧ (decode cX1_addWork 52 = .ok (.iload 5, 2)) ∧ (decode cX1_addWork 54 = .ok (.iconst 3, 1)) ∧ (decode cX1_addWork 55 = .ok (.iadd, 1)) := by decide +kernel
theorem dX1_addWork_38 : decode cX1_addWork 38 = .ok (.aload_n 0, 1) := qd0_84.1
theorem dX1_addWork_39 : decode cX1_addWork 39 = .ok (.getfield 18, 3) := qd0_84.2.1
theorem dX1_addWork_42 : decode cX1_addWork 42 = .ok (.iload 5, 2) := qd0_84.2.2.1
theorem dX1_addWork_44 : decode cX1_addWork 44 = .ok (.iconst 2, 1) := qd0_84.2.2.2.1
theorem dX1_addWork_45 : decode cX1_addWork 45 = .ok (.iadd, 1) := qd0_84.2.2.2.2.1
theorem dX1_addWork_46 : decode cX1_addWork 46 = .ok (.iload_n 3, 1) := qd0_84.2.2.2.2.2.1
theorem dX1_addWork_47 : decode cX1_addWork 47 = .ok (.iastore, 1) := qd0_84.2.2.2.2.2.2.1
theorem dX1_addWork_48 : decode cX1_addWork 48 = .ok (.aload_n 0, 1) := qd0_84.2.2.2.2.2.2.2.1
theorem dX1_addWork_49 : decode cX1_addWork 49 = .ok (.getfield 18, 3) := qd0_84.2.2.2.2.2.2.2.2.1
theorem dX1_addWork_52 : decode cX1_addWork 52 = .ok (.iload 5, 2) := qd0_84.2.2.2.2.2.2.2.2.2.1
theorem dX1_addWork_54 : decode cX1_addWork 54 = .ok (.iconst 3, 1) := qd0_84.2.2.2.2.2.2.2.2.2.2.1
theorem dX1_addWork_55 : decode cX1_addWork 55 = .ok (.iadd, 1) := qd0_84.2.2.2.2.2.2.2.2.2.2.2
theorem qd0_85 : (decode cX1_addWork 56 = .ok (.iload 4, 2)) ∧ (decode cX1_addWork 58 = .ok (.iastore, 1)) ∧ (decode cX1_addWork 59 = .ok (.aload_n 0, 1)) ∧ (decode cX1_addWork 60 = .ok (.getfield 18, 3)) ∧ (decode cX1_addWork 63 = .ok (.iload 5, 2)) ∧ (decode cX1_addWork 65 = .ok (.iconst 4, 1)) ∧ (decode cX1_addWork 66 = .ok (.iadd, 1)) ∧ (decode cX1_addWork 67 = .ok (.iconst 0, 1)) ∧ (decode cX1_addWork 68 = .ok (.iastore, 1)) ∧ (decode cX1_addWork 69 = .ok (.aload_n 0, 1)) ∧ (decode cX1_addWork 70 = .ok (.dup, 1)) ∧ (decode cX1_addWork 71 = .ok (.getfield 37, 3)) := by decide +kernel
theorem dX1_addWork_56 : decode cX1_addWork 56 = .ok (.iload 4, 2) := qd0_85.1
theorem dX1_addWork_58 : decode cX1_addWork 58 = .ok (.iastore, 1) := qd0_85.2.1
theorem dX1_addWork_59 : decode cX1_addWork 59 = .ok (.aload_n 0, 1) := qd0_85.2.2.1
theorem dX1_addWork_60 : decode cX1_addWork 60 = .ok (.getfield 18, 3) := qd0_85.2.2.2.1
theorem dX1_addWork_63 : decode cX1_addWork 63 = .ok (.iload 5, 2) := qd0_85.2.2.2.2.1
theorem dX1_addWork_65 : decode cX1_addWork 65 = .ok (.iconst 4, 1) := qd0_85.2.2.2.2.2.1
theorem dX1_addWork_66 : decode cX1_addWork 66 = .ok (.iadd, 1) := qd0_85.2.2.2.2.2.2.1
theorem dX1_addWork_67 : decode cX1_addWork 67 = .ok (.iconst 0, 1) := qd0_85.2.2.2.2.2.2.2.1
theorem dX1_addWork_68 : decode cX1_addWork 68 = .ok (.iastore, 1) := qd0_85.2.2.2.2.2.2.2.2.1
theorem dX1_addWork_69 : decode cX1_addWork 69 = .ok (.aload_n 0, 1) := qd0_85.2.2.2.2.2.2.2.2.2.1
theorem dX1_addWork_70 : decode cX1_addWork 70 = .ok (.dup, 1) := qd0_85.2.2.2.2.2.2.2.2.2.2.1
theorem dX1_addWork_71 : decode cX1_addWork 71 = .ok (.getfield 37, 3) := qd0_85.2.2.2.2.2.2.2.2.2.2.2
theorem qd0_86 : (decode cX1_addWork 74 = .ok (.iconst 1, 1)) ∧ (decode cX1_addWork 75 = .ok (.iadd, 1)) ∧ (decode cX1_addWork 76 = .ok (.putfield 37, 3)) ∧ (decode cX1_addWork 79 = .ok (.aload_n 0, 1)) ∧ (decode cX1_addWork 80 = .ok (.iconst 0, 1)) ∧ (decode cX1_addWork 81 = .ok (.putfield 43, 3)) ∧ (decode cX1_addWork 84 = .ok (.return_, 1)) := by decide +kernel
theorem dX1_addWork_74 : decode cX1_addWork 74 = .ok (.iconst 1, 1) := qd0_86.1
theorem dX1_addWork_75 : decode cX1_addWork 75 = .ok (.iadd, 1) := qd0_86.2.1
theorem dX1_addWork_76 : decode cX1_addWork 76 = .ok (.putfield 37, 3) := qd0_86.2.2.1
theorem dX1_addWork_79 : decode cX1_addWork 79 = .ok (.aload_n 0, 1) := qd0_86.2.2.2.1
theorem dX1_addWork_80 : decode cX1_addWork 80 = .ok (.iconst 0, 1) := qd0_86.2.2.2.2.1
theorem dX1_addWork_81 : decode cX1_addWork 81 = .ok (.putfield 43, 3) := qd0_86.2.2.2.2.2.1
theorem dX1_addWork_84 : decode cX1_addWork 84 = .ok (.return_, 1) := qd0_86.2.2.2.2.2.2
theorem qd0_87 : (decode cX1_putChange 0 = .ok (.iload_n 1, 1)) ∧ (decode cX1_putChange 1 = .ok (.ifCond .lt 21, 3)) ∧ (decode cX1_putChange 4 = .ok (.iload_n 1, 1)) ∧ (decode cX1_putChange 5 = .ok (.bipush 12, 2)) ∧ (decode cX1_putChange 7 = .ok (.if_icmp .ge 15, 3)) ∧ (decode cX1_putChange 10 = .ok (.aload_n 0, 1)) ∧ (decode cX1_putChange 11 = .ok (.getfield 21, 3)) ∧ (decode cX1_putChange 14 = .ok (.iload_n 1, 1)) ∧ (decode cX1_putChange 15 = .ok (.iload_n 2, 1)) ∧ (decode cX1_putChange 16 = .ok (.iastore, 1)) ∧ (decode cX1_putChange 17 = .ok (.aload_n 0, 1)) ∧ (decode cX1_putChange 18 = .ok (.iconst 0, 1)) := by decide +kernel
theorem dX1_putChange_0 : decode cX1_putChange 0 = .ok (.iload_n 1, 1) := qd0_87.1
theorem dX1_putChange_1 : decode cX1_putChange 1 = .ok (.ifCond .lt 21, 3) := qd0_87.2.1
theorem dX1_putChange_4 : decode cX1_putChange 4 = .ok (.iload_n 1, 1) := qd0_87.2.2.1
theorem dX1_putChange_5 : decode cX1_putChange 5 = .ok (.bipush 12, 2) := qd0_87.2.2.2.1
theorem dX1_putChange_7 : decode cX1_putChange 7 = .ok (.if_icmp .ge 15, 3) := qd0_87.2.2.2.2.1
theorem dX1_putChange_10 : decode cX1_putChange 10 = .ok (.aload_n 0, 1) := qd0_87.2.2.2.2.2.1
theorem dX1_putChange_11 : decode cX1_putChange 11 = .ok (.getfield 21, 3) := qd0_87.2.2.2.2.2.2.1
theorem dX1_putChange_14 : decode cX1_putChange 14 = .ok (.iload_n 1, 1) := qd0_87.2.2.2.2.2.2.2.1
theorem dX1_putChange_15 : decode cX1_putChange 15 = .ok (.iload_n 2, 1) := qd0_87.2.2.2.2.2.2.2.2.1
theorem dX1_putChange_16 : decode cX1_putChange 16 = .ok (.iastore, 1) := qd0_87.2.2.2.2.2.2.2.2.2.1
theorem dX1_putChange_17 : decode cX1_putChange 17 = .ok (.aload_n 0, 1) := qd0_87.2.2.2.2.2.2.2.2.2.2.1
theorem dX1_putChange_18 : decode cX1_putChange 18 = .ok (.iconst 0, 1) := qd0_87.2.2.2.2.2.2.2.2.2.2.2
theorem qd0_88 : (decode cX1_putChange 19 = .ok (.putfield 43, 3)) ∧ (decode cX1_putChange 22 = .ok (.return_, 1)) := by decide +kernel
theorem dX1_putChange_19 : decode cX1_putChange 19 = .ok (.putfield 43, 3) := qd0_88.1
theorem dX1_putChange_22 : decode cX1_putChange 22 = .ok (.return_, 1) := qd0_88.2
theorem qd0_89 : (decode cX1_putCoin 0 = .ok (.iload_n 1, 1)) ∧ (decode cX1_putCoin 1 = .ok (.ifCond .lt 20, 3)) ∧ (decode cX1_putCoin 4 = .ok (.iload_n 1, 1)) ∧ (decode cX1_putCoin 5 = .ok (.iconst 3, 1)) ∧ (decode cX1_putCoin 6 = .ok (.if_icmp .ge 15, 3)) ∧ (decode cX1_putCoin 9 = .ok (.aload_n 0, 1)) ∧ (decode cX1_putCoin 10 = .ok (.getfield 24, 3)) ∧ (decode cX1_putCoin 13 = .ok (.iload_n 1, 1)) ∧ (decode cX1_putCoin 14 = .ok (.iload_n 2, 1)) ∧ (decode cX1_putCoin 15 = .ok (.iastore, 1)) ∧ (decode cX1_putCoin 16 = .ok (.aload_n 0, 1)) ∧ (decode cX1_putCoin 17 = .ok (.iconst 0, 1)) := by decide +kernel
theorem dX1_putCoin_0 : decode cX1_putCoin 0 = .ok (.iload_n 1, 1) := qd0_89.1
theorem dX1_putCoin_1 : decode cX1_putCoin 1 = .ok (.ifCond .lt 20, 3) := qd0_89.2.1
theorem dX1_putCoin_4 : decode cX1_putCoin 4 = .ok (.iload_n 1, 1) := qd0_89.2.2.1
theorem dX1_putCoin_5 : decode cX1_putCoin 5 = .ok (.iconst 3, 1) := qd0_89.2.2.2.1
theorem dX1_putCoin_6 : decode cX1_putCoin 6 = .ok (.if_icmp .ge 15, 3) := qd0_89.2.2.2.2.1
theorem dX1_putCoin_9 : decode cX1_putCoin 9 = .ok (.aload_n 0, 1) := qd0_89.2.2.2.2.2.1
theorem dX1_putCoin_10 : decode cX1_putCoin 10 = .ok (.getfield 24, 3) := qd0_89.2.2.2.2.2.2.1
theorem dX1_putCoin_13 : decode cX1_putCoin 13 = .ok (.iload_n 1, 1) := qd0_89.2.2.2.2.2.2.2.1
theorem dX1_putCoin_14 : decode cX1_putCoin 14 = .ok (.iload_n 2, 1) := qd0_89.2.2.2.2.2.2.2.2.1
theorem dX1_putCoin_15 : decode cX1_putCoin 15 = .ok (.iastore, 1) := qd0_89.2.2.2.2.2.2.2.2.2.1
theorem dX1_putCoin_16 : decode cX1_putCoin 16 = .ok (.aload_n 0, 1) := qd0_89.2.2.2.2.2.2.2.2.2.2.1
theorem dX1_putCoin_17 : decode cX1_putCoin 17 = .ok (.iconst 0, 1) := qd0_89.2.2.2.2.2.2.2.2.2.2.2
theorem qd0_90 : (decode cX1_putCoin 18 = .ok (.putfield 43, 3)) ∧ (decode cX1_putCoin 21 = .ok (.return_, 1)) := by decide +kernel
theorem dX1_putCoin_18 : decode cX1_putCoin 18 = .ok (.putfield 43, 3) := qd0_90.1
theorem dX1_putCoin_21 : decode cX1_putCoin 21 = .ok (.return_, 1) := qd0_90.2
theorem qd0_91 : (decode cX1_putWashed 0 = .ok (.iload_n 1, 1)) ∧ (decode cX1_putWashed 1 = .ok (.ifCond .lt 29, 3)) ∧ (decode cX1_putWashed 4 = .ok (.iload_n 1, 1)) ∧ (decode cX1_putWashed 5 = .ok (.aload_n 0, 1)) ∧ (decode cX1_putWashed 6 = .ok (.getfield 30, 3)) ∧ (decode cX1_putWashed 9 = .ok (.if_icmp .ge 21, 3)) ∧ (decode cX1_putWashed 12 = .ok (.aload_n 0, 1)) ∧ (decode cX1_putWashed 13 = .ok (.getfield 9, 3)) ∧ (decode cX1_putWashed 16 = .ok (.iload_n 1, 1)) ∧ (decode cX1_putWashed 17 = .ok (.bipush 7, 2)) ∧ (decode cX1_putWashed 19 = .ok (.imul, 1)) ∧ (decode cX1_putWashed 20 = .ok (.bipush 6, 2)) := by decide +kernel
theorem dX1_putWashed_0 : decode cX1_putWashed 0 = .ok (.iload_n 1, 1) := qd0_91.1
theorem dX1_putWashed_1 : decode cX1_putWashed 1 = .ok (.ifCond .lt 29, 3) := qd0_91.2.1
theorem dX1_putWashed_4 : decode cX1_putWashed 4 = .ok (.iload_n 1, 1) := qd0_91.2.2.1
theorem dX1_putWashed_5 : decode cX1_putWashed 5 = .ok (.aload_n 0, 1) := qd0_91.2.2.2.1
theorem dX1_putWashed_6 : decode cX1_putWashed 6 = .ok (.getfield 30, 3) := qd0_91.2.2.2.2.1
theorem dX1_putWashed_9 : decode cX1_putWashed 9 = .ok (.if_icmp .ge 21, 3) := qd0_91.2.2.2.2.2.1
theorem dX1_putWashed_12 : decode cX1_putWashed 12 = .ok (.aload_n 0, 1) := qd0_91.2.2.2.2.2.2.1
theorem dX1_putWashed_13 : decode cX1_putWashed 13 = .ok (.getfield 9, 3) := qd0_91.2.2.2.2.2.2.2.1
theorem dX1_putWashed_16 : decode cX1_putWashed 16 = .ok (.iload_n 1, 1) := qd0_91.2.2.2.2.2.2.2.2.1
theorem dX1_putWashed_17 : decode cX1_putWashed 17 = .ok (.bipush 7, 2) := qd0_91.2.2.2.2.2.2.2.2.2.1
theorem dX1_putWashed_19 : decode cX1_putWashed 19 = .ok (.imul, 1) := qd0_91.2.2.2.2.2.2.2.2.2.2.1
theorem dX1_putWashed_20 : decode cX1_putWashed 20 = .ok (.bipush 6, 2) := qd0_91.2.2.2.2.2.2.2.2.2.2.2
theorem qd0_92 : (decode cX1_putWashed 22 = .ok (.iadd, 1)) ∧ (decode cX1_putWashed 23 = .ok (.iload_n 2, 1)) ∧ (decode cX1_putWashed 24 = .ok (.iastore, 1)) ∧ (decode cX1_putWashed 25 = .ok (.aload_n 0, 1)) ∧ (decode cX1_putWashed 26 = .ok (.iconst 0, 1)) ∧ (decode cX1_putWashed 27 = .ok (.putfield 43, 3)) ∧ (decode cX1_putWashed 30 = .ok (.return_, 1)) := by decide +kernel
theorem dX1_putWashed_22 : decode cX1_putWashed 22 = .ok (.iadd, 1) := qd0_92.1
theorem dX1_putWashed_23 : decode cX1_putWashed 23 = .ok (.iload_n 2, 1) := qd0_92.2.1
theorem dX1_putWashed_24 : decode cX1_putWashed 24 = .ok (.iastore, 1) := qd0_92.2.2.1
theorem dX1_putWashed_25 : decode cX1_putWashed 25 = .ok (.aload_n 0, 1) := qd0_92.2.2.2.1
theorem dX1_putWashed_26 : decode cX1_putWashed 26 = .ok (.iconst 0, 1) := qd0_92.2.2.2.2.1
theorem dX1_putWashed_27 : decode cX1_putWashed 27 = .ok (.putfield 43, 3) := qd0_92.2.2.2.2.2.1
theorem dX1_putWashed_30 : decode cX1_putWashed 30 = .ok (.return_, 1) := qd0_92.2.2.2.2.2.2
theorem qd0_93 : (decode cX1_putWidths 0 = .ok (.iload_n 1, 1)) ∧ (decode cX1_putWidths 1 = .ok (.ifCond .lt 28, 3)) ∧ (decode cX1_putWidths 4 = .ok (.iload_n 1, 1)) ∧ (decode cX1_putWidths 5 = .ok (.aload_n 0, 1)) ∧ (decode cX1_putWidths 6 = .ok (.getfield 30, 3)) ∧ (decode cX1_putWidths 9 = .ok (.if_icmp .ge 20, 3)) ∧ (decode cX1_putWidths 12 = .ok (.aload_n 0, 1)) ∧ (decode cX1_putWidths 13 = .ok (.getfield 9, 3)) ∧ (decode cX1_putWidths 16 = .ok (.iload_n 1, 1)) ∧ (decode cX1_putWidths 17 = .ok (.bipush 7, 2)) ∧ (decode cX1_putWidths 19 = .ok (.imul, 1)) ∧ (decode cX1_putWidths 20 = .ok (.iconst 2, 1)) := by decide +kernel
theorem dX1_putWidths_0 : decode cX1_putWidths 0 = .ok (.iload_n 1, 1) := qd0_93.1
theorem dX1_putWidths_1 : decode cX1_putWidths 1 = .ok (.ifCond .lt 28, 3) := qd0_93.2.1
theorem dX1_putWidths_4 : decode cX1_putWidths 4 = .ok (.iload_n 1, 1) := qd0_93.2.2.1
theorem dX1_putWidths_5 : decode cX1_putWidths 5 = .ok (.aload_n 0, 1) := qd0_93.2.2.2.1
theorem dX1_putWidths_6 : decode cX1_putWidths 6 = .ok (.getfield 30, 3) := qd0_93.2.2.2.2.1
theorem dX1_putWidths_9 : decode cX1_putWidths 9 = .ok (.if_icmp .ge 20, 3) := qd0_93.2.2.2.2.2.1
theorem dX1_putWidths_12 : decode cX1_putWidths 12 = .ok (.aload_n 0, 1) := qd0_93.2.2.2.2.2.2.1
theorem dX1_putWidths_13 : decode cX1_putWidths 13 = .ok (.getfield 9, 3) := qd0_93.2.2.2.2.2.2.2.1
theorem dX1_putWidths_16 : decode cX1_putWidths 16 = .ok (.iload_n 1, 1) := qd0_93.2.2.2.2.2.2.2.2.1
theorem dX1_putWidths_17 : decode cX1_putWidths 17 = .ok (.bipush 7, 2) := qd0_93.2.2.2.2.2.2.2.2.2.1
theorem dX1_putWidths_19 : decode cX1_putWidths 19 = .ok (.imul, 1) := qd0_93.2.2.2.2.2.2.2.2.2.2.1
theorem dX1_putWidths_20 : decode cX1_putWidths 20 = .ok (.iconst 2, 1) := qd0_93.2.2.2.2.2.2.2.2.2.2.2
theorem qd0_94 : (decode cX1_putWidths 21 = .ok (.iadd, 1)) ∧ (decode cX1_putWidths 22 = .ok (.iload_n 2, 1)) ∧ (decode cX1_putWidths 23 = .ok (.iastore, 1)) ∧ (decode cX1_putWidths 24 = .ok (.aload_n 0, 1)) ∧ (decode cX1_putWidths 25 = .ok (.iconst 0, 1)) ∧ (decode cX1_putWidths 26 = .ok (.putfield 43, 3)) ∧ (decode cX1_putWidths 29 = .ok (.return_, 1)) := by decide +kernel
theorem dX1_putWidths_21 : decode cX1_putWidths 21 = .ok (.iadd, 1) := qd0_94.1
theorem dX1_putWidths_22 : decode cX1_putWidths 22 = .ok (.iload_n 2, 1) := qd0_94.2.1
theorem dX1_putWidths_23 : decode cX1_putWidths 23 = .ok (.iastore, 1) := qd0_94.2.2.1
theorem dX1_putWidths_24 : decode cX1_putWidths 24 = .ok (.aload_n 0, 1) := qd0_94.2.2.2.1
theorem dX1_putWidths_25 : decode cX1_putWidths 25 = .ok (.iconst 0, 1) := qd0_94.2.2.2.2.1
theorem dX1_putWidths_26 : decode cX1_putWidths 26 = .ok (.putfield 43, 3) := qd0_94.2.2.2.2.2.1
theorem dX1_putWidths_29 : decode cX1_putWidths 29 = .ok (.return_, 1) := qd0_94.2.2.2.2.2.2
theorem qd0_95 : (decode cX1_greatestA 0 = .ok (.iload_n 1, 1)) ∧ (decode cX1_greatestA 1 = .ok (.iconst 1, 1)) ∧ (decode cX1_greatestA 2 = .ok (.if_icmp .eq 8, 3)) ∧ (decode cX1_greatestA 5 = .ok (.iload_n 1, 1)) ∧ (decode cX1_greatestA 6 = .ok (.iconst 2, 1)) ∧ (decode cX1_greatestA 7 = .ok (.if_icmp .ne 12, 3)) ∧ (decode cX1_greatestA 10 = .ok (.aload_n 0, 1)) ∧ (decode cX1_greatestA 11 = .ok (.getfield 30, 3)) ∧ (decode cX1_greatestA 14 = .ok (.iconst 1, 1)) ∧ (decode cX1_greatestA 15 = .ok (.isub, 1)) ∧ (decode cX1_greatestA 16 = .ok (.goto 5, 3)) ∧ (decode cX1_greatestA 19 = .ok (.bipush 11, 2)) := by decide +kernel
theorem dX1_greatestA_0 : decode cX1_greatestA 0 = .ok (.iload_n 1, 1) := qd0_95.1
theorem dX1_greatestA_1 : decode cX1_greatestA 1 = .ok (.iconst 1, 1) := qd0_95.2.1
theorem dX1_greatestA_2 : decode cX1_greatestA 2 = .ok (.if_icmp .eq 8, 3) := qd0_95.2.2.1
theorem dX1_greatestA_5 : decode cX1_greatestA 5 = .ok (.iload_n 1, 1) := qd0_95.2.2.2.1
theorem dX1_greatestA_6 : decode cX1_greatestA 6 = .ok (.iconst 2, 1) := qd0_95.2.2.2.2.1
theorem dX1_greatestA_7 : decode cX1_greatestA 7 = .ok (.if_icmp .ne 12, 3) := qd0_95.2.2.2.2.2.1
theorem dX1_greatestA_10 : decode cX1_greatestA 10 = .ok (.aload_n 0, 1) := qd0_95.2.2.2.2.2.2.1
theorem dX1_greatestA_11 : decode cX1_greatestA 11 = .ok (.getfield 30, 3) := qd0_95.2.2.2.2.2.2.2.1
theorem dX1_greatestA_14 : decode cX1_greatestA 14 = .ok (.iconst 1, 1) := qd0_95.2.2.2.2.2.2.2.2.1
theorem dX1_greatestA_15 : decode cX1_greatestA 15 = .ok (.isub, 1) := qd0_95.2.2.2.2.2.2.2.2.2.1
theorem dX1_greatestA_16 : decode cX1_greatestA 16 = .ok (.goto 5, 3) := qd0_95.2.2.2.2.2.2.2.2.2.2.1
theorem dX1_greatestA_19 : decode cX1_greatestA 19 = .ok (.bipush 11, 2) := qd0_95.2.2.2.2.2.2.2.2.2.2.2
theorem dX1_greatestA_21 : decode cX1_greatestA 21 = .ok (.ireturn, 1) := by decide +kernel
theorem qd0_96 : (decode cX1_greatestB 0 = .ok (.iload_n 1, 1)) ∧ (decode cX1_greatestB 1 = .ok (.iconst 1, 1)) ∧ (decode cX1_greatestB 2 = .ok (.if_icmp .eq 8, 3)) ∧ (decode cX1_greatestB 5 = .ok (.iload_n 1, 1)) ∧ (decode cX1_greatestB 6 = .ok (.iconst 2, 1)) ∧ (decode cX1_greatestB 7 = .ok (.if_icmp .ne 5, 3)) ∧ (decode cX1_greatestB 10 = .ok (.iconst 2, 1)) ∧ (decode cX1_greatestB 11 = .ok (.ireturn, 1)) ∧ (decode cX1_greatestB 12 = .ok (.iload_n 1, 1)) ∧ (decode cX1_greatestB 13 = .ok (.iconst 3, 1)) ∧ (decode cX1_greatestB 14 = .ok (.if_icmp .ne 8, 3)) ∧ (decode cX1_greatestB 17 = .ok (.bipush 99, 2)) := by decide +kernel
theorem dX1_greatestB_0 : decode cX1_greatestB 0 = .ok (.iload_n 1, 1) := qd0_96.1
theorem dX1_greatestB_1 : decode cX1_greatestB 1 = .ok (.iconst 1, 1) := qd0_96.2.1
theorem dX1_greatestB_2 : decode cX1_greatestB 2 = .ok (.if_icmp .eq 8, 3) := qd0_96.2.2.1
theorem dX1_greatestB_5 : decode cX1_greatestB 5 = .ok (.iload_n 1, 1) := qd0_96.2.2.2.1
theorem dX1_greatestB_6 : decode cX1_greatestB 6 = .ok (.iconst 2, 1) := qd0_96.2.2.2.2.1
theorem dX1_greatestB_7 : decode cX1_greatestB 7 = .ok (.if_icmp .ne 5, 3) := qd0_96.2.2.2.2.2.1
theorem dX1_greatestB_10 : decode cX1_greatestB 10 = .ok (.iconst 2, 1) := qd0_96.2.2.2.2.2.2.1
theorem dX1_greatestB_11 : decode cX1_greatestB 11 = .ok (.ireturn, 1) := qd0_96.2.2.2.2.2.2.2.1
theorem dX1_greatestB_12 : decode cX1_greatestB 12 = .ok (.iload_n 1, 1) := qd0_96.2.2.2.2.2.2.2.2.1
theorem dX1_greatestB_13 : decode cX1_greatestB 13 = .ok (.iconst 3, 1) := qd0_96.2.2.2.2.2.2.2.2.2.1
theorem dX1_greatestB_14 : decode cX1_greatestB 14 = .ok (.if_icmp .ne 8, 3) := qd0_96.2.2.2.2.2.2.2.2.2.2.1
theorem dX1_greatestB_17 : decode cX1_greatestB 17 = .ok (.bipush 99, 2) := qd0_96.2.2.2.2.2.2.2.2.2.2.2
theorem qd0_97 : (decode cX1_greatestB 19 = .ok (.goto 5, 3)) ∧ (decode cX1_greatestB 22 = .ok (.bipush 11, 2)) ∧ (decode cX1_greatestB 24 = .ok (.ireturn, 1)) := by decide +kernel
theorem dX1_greatestB_19 : decode cX1_greatestB 19 = .ok (.goto 5, 3) := qd0_97.1
theorem dX1_greatestB_22 : decode cX1_greatestB 22 = .ok (.bipush 11, 2) := qd0_97.2.1
theorem dX1_greatestB_24 : decode cX1_greatestB 24 = .ok (.ireturn, 1) := qd0_97.2.2
theorem qd0_98 : (decode cX1_allowsWork 0 = .ok (.iload_n 1, 1)) ∧ (decode cX1_allowsWork 1 = .ok (.iconst 1, 1)) ∧ (decode cX1_allowsWork 2 = .ok (.iconst 5, 1)) ∧ (decode cX1_allowsWork 3 = .ok (.invokestatic 59, 3)) ∧ (decode cX1_allowsWork 6 = .ok (.ifCond .eq 16, 3)) ∧ (decode cX1_allowsWork 9 = .ok (.iload_n 1, 1)) ∧ (decode cX1_allowsWork 10 = .ok (.iconst 4, 1)) ∧ (decode cX1_allowsWork 11 = .ok (.invokestatic 74, 3)) ∧ (decode cX1_allowsWork 14 = .ok (.ifCond .eq 10, 3)) ∧ (decode cX1_allowsWork 17 = .ok (.iload_n 2, 1)) ∧ (decode cX1_allowsWork 18 = .ok (.iload_n 3, 1)) ∧ (decode cX1_allowsWork 19 = .ok (.if_icmp .ne 5, 3)) := by decide +kernel
theorem dX1_allowsWork_0 : decode cX1_allowsWork 0 = .ok (.iload_n 1, 1) := qd0_98.1
theorem dX1_allowsWork_1 : decode cX1_allowsWork 1 = .ok (.iconst 1, 1) := qd0_98.2.1
theorem dX1_allowsWork_2 : decode cX1_allowsWork 2 = .ok (.iconst 5, 1) := qd0_98.2.2.1
theorem dX1_allowsWork_3 : decode cX1_allowsWork 3 = .ok (.invokestatic 59, 3) := qd0_98.2.2.2.1
theorem dX1_allowsWork_6 : decode cX1_allowsWork 6 = .ok (.ifCond .eq 16, 3) := qd0_98.2.2.2.2.1
theorem dX1_allowsWork_9 : decode cX1_allowsWork 9 = .ok (.iload_n 1, 1) := qd0_98.2.2.2.2.2.1
theorem dX1_allowsWork_10 : decode cX1_allowsWork 10 = .ok (.iconst 4, 1) := qd0_98.2.2.2.2.2.2.1
theorem dX1_allowsWork_11 : decode cX1_allowsWork 11 = .ok (.invokestatic 74, 3) := qd0_98.2.2.2.2.2.2.2.1
theorem dX1_allowsWork_14 : decode cX1_allowsWork 14 = .ok (.ifCond .eq 10, 3) := qd0_98.2.2.2.2.2.2.2.2.1
theorem dX1_allowsWork_17 : decode cX1_allowsWork 17 = .ok (.iload_n 2, 1) := qd0_98.2.2.2.2.2.2.2.2.2.1
theorem dX1_allowsWork_18 : decode cX1_allowsWork 18 = .ok (.iload_n 3, 1) := qd0_98.2.2.2.2.2.2.2.2.2.2.1
theorem dX1_allowsWork_19 : decode cX1_allowsWork 19 = .ok (.if_icmp .ne 5, 3) := qd0_98.2.2.2.2.2.2.2.2.2.2.2
theorem qd0_99 : (decode cX1_allowsWork 22 = .ok (.iconst 0, 1)) ∧ (decode cX1_allowsWork 23 = .ok (.ireturn, 1)) ∧ (decode cX1_allowsWork 24 = .ok (.iload_n 2, 1)) ∧ (decode cX1_allowsWork 25 = .ok (.iconst 0, 1)) ∧ (decode cX1_allowsWork 26 = .ok (.aload_n 0, 1)) ∧ (decode cX1_allowsWork 27 = .ok (.iload_n 1, 1)) ∧ (decode cX1_allowsWork 28 = .ok (.invokevirtual 78, 3)) ∧ (decode cX1_allowsWork 31 = .ok (.invokestatic 59, 3)) ∧ (decode cX1_allowsWork 34 = .ok (.ifCond .eq 20, 3)) ∧ (decode cX1_allowsWork 37 = .ok (.iload_n 3, 1)) ∧ (decode cX1_allowsWork 38 = .ok (.iconst 0, 1)) ∧ (decode cX1_allowsWork 39 = .ok (.aload_n 0, 1)) := by decide +kernel
theorem dX1_allowsWork_22 : decode cX1_allowsWork 22 = .ok (.iconst 0, 1) := qd0_99.1
theorem dX1_allowsWork_23 : decode cX1_allowsWork 23 = .ok (.ireturn, 1) := qd0_99.2.1
theorem dX1_allowsWork_24 : decode cX1_allowsWork 24 = .ok (.iload_n 2, 1) := qd0_99.2.2.1
theorem dX1_allowsWork_25 : decode cX1_allowsWork 25 = .ok (.iconst 0, 1) := qd0_99.2.2.2.1
theorem dX1_allowsWork_26 : decode cX1_allowsWork 26 = .ok (.aload_n 0, 1) := qd0_99.2.2.2.2.1
theorem dX1_allowsWork_27 : decode cX1_allowsWork 27 = .ok (.iload_n 1, 1) := qd0_99.2.2.2.2.2.1
theorem dX1_allowsWork_28 : decode cX1_allowsWork 28 = .ok (.invokevirtual 78, 3) := qd0_99.2.2.2.2.2.2.1
theorem dX1_allowsWork_31 : decode cX1_allowsWork 31 = .ok (.invokestatic 59, 3) := qd0_99.2.2.2.2.2.2.2.1
theorem dX1_allowsWork_34 : decode cX1_allowsWork 34 = .ok (.ifCond .eq 20, 3) := qd0_99.2.2.2.2.2.2.2.2.1
theorem dX1_allowsWork_37 : decode cX1_allowsWork 37 = .ok (.iload_n 3, 1) := qd0_99.2.2.2.2.2.2.2.2.2.1
theorem dX1_allowsWork_38 : decode cX1_allowsWork 38 = .ok (.iconst 0, 1) := qd0_99.2.2.2.2.2.2.2.2.2.2.1
theorem dX1_allowsWork_39 : decode cX1_allowsWork 39 = .ok (.aload_n 0, 1) := qd0_99.2.2.2.2.2.2.2.2.2.2.2
theorem qd0_100 : (decode cX1_allowsWork 40 = .ok (.iload_n 1, 1)) ∧ (decode cX1_allowsWork 41 = .ok (.invokevirtual 82, 3)) ∧ (decode cX1_allowsWork 44 = .ok (.invokestatic 59, 3)) ∧ (decode cX1_allowsWork 47 = .ok (.ifCond .eq 7, 3)) ∧ (decode cX1_allowsWork 50 = .ok (.iconst 1, 1)) ∧ (decode cX1_allowsWork 51 = .ok (.goto 4, 3)) ∧ (decode cX1_allowsWork 54 = .ok (.iconst 0, 1)) ∧ (decode cX1_allowsWork 55 = .ok (.ireturn, 1)) := by decide +kernel
theorem dX1_allowsWork_40 : decode cX1_allowsWork 40 = .ok (.iload_n 1, 1) := qd0_100.1
theorem dX1_allowsWork_41 : decode cX1_allowsWork 41 = .ok (.invokevirtual 82, 3) := qd0_100.2.1
theorem dX1_allowsWork_44 : decode cX1_allowsWork 44 = .ok (.invokestatic 59, 3) := qd0_100.2.2.1
theorem dX1_allowsWork_47 : decode cX1_allowsWork 47 = .ok (.ifCond .eq 7, 3) := qd0_100.2.2.2.1
theorem dX1_allowsWork_50 : decode cX1_allowsWork 50 = .ok (.iconst 1, 1) := qd0_100.2.2.2.2.1
theorem dX1_allowsWork_51 : decode cX1_allowsWork 51 = .ok (.goto 4, 3) := qd0_100.2.2.2.2.2.1
theorem dX1_allowsWork_54 : decode cX1_allowsWork 54 = .ok (.iconst 0, 1) := qd0_100.2.2.2.2.2.2.1
theorem dX1_allowsWork_55 : decode cX1_allowsWork 55 = .ok (.ireturn, 1) := qd0_100.2.2.2.2.2.2.2
theorem qd0_101 : (decode cX1_perform 0 = .ok (.aload_n 0, 1)) ∧ (decode cX1_perform 1 = .ok (.iload_n 1, 1)) ∧ (decode cX1_perform 2 = .ok (.invokevirtual 85, 3)) ∧ (decode cX1_perform 5 = .ok (.ifCond .ne 4, 3)) ∧ (decode cX1_perform 8 = .ok (.return_, 1)) ∧ (decode cX1_perform 9 = .ok (.aload_n 0, 1)) ∧ (decode cX1_perform 10 = .ok (.iload_n 1, 1)) ∧ (decode cX1_perform 11 = .ok (.iconst 1, 1)) ∧ (decode cX1_perform 12 = .ok (.invokevirtual 63, 3)) ∧ (decode cX1_perform 15 = .ok (.istore_n 2, 1)) ∧ (decode cX1_perform 16 = .ok (.aload_n 0, 1)) ∧ (decode cX1_perform 17 = .ok (.iload_n 1, 1)) := by decide +kernel
theorem dX1_perform_0 : decode cX1_perform 0 = .ok (.aload_n 0, 1) := qd0_101.1
theorem dX1_perform_1 : decode cX1_perform 1 = .ok (.iload_n 1, 1) := qd0_101.2.1
theorem dX1_perform_2 : decode cX1_perform 2 = .ok (.invokevirtual 85, 3) := qd0_101.2.2.1
theorem dX1_perform_5 : decode cX1_perform 5 = .ok (.ifCond .ne 4, 3) := qd0_101.2.2.2.1
theorem dX1_perform_8 : decode cX1_perform 8 = .ok (.return_, 1) := qd0_101.2.2.2.2.1
theorem dX1_perform_9 : decode cX1_perform 9 = .ok (.aload_n 0, 1) := qd0_101.2.2.2.2.2.1
theorem dX1_perform_10 : decode cX1_perform 10 = .ok (.iload_n 1, 1) := qd0_101.2.2.2.2.2.2.1
theorem dX1_perform_11 : decode cX1_perform 11 = .ok (.iconst 1, 1) := qd0_101.2.2.2.2.2.2.2.1
theorem dX1_perform_12 : decode cX1_perform 12 = .ok (.invokevirtual 63, 3) := qd0_101.2.2.2.2.2.2.2.2.1
theorem dX1_perform_15 : decode cX1_perform 15 = .ok (.istore_n 2, 1) := qd0_101.2.2.2.2.2.2.2.2.2.1
theorem dX1_perform_16 : decode cX1_perform 16 = .ok (.aload_n 0, 1) := qd0_101.2.2.2.2.2.2.2.2.2.2.1
theorem dX1_perform_17 : decode cX1_perform 17 = .ok (.iload_n 1, 1) := qd0_101.2.2.2.2.2.2.2.2.2.2.2
theorem qd0_102 : (decode cX1_perform 18 = .ok (.iconst 2, 1)) ∧ (decode cX1_perform 19 = .ok (.invokevirtual 63, 3)) ∧ (decode cX1_perform 22 = .ok (.istore_n 3, 1)) ∧ (decode cX1_perform 23 = .ok (.aload_n 0, 1)) ∧ (decode cX1_perform 24 = .ok (.iload_n 1, 1)) ∧ (decode cX1_perform 25 = .ok (.iconst 0, 1)) ∧ (decode cX1_perform 26 = .ok (.invokevirtual 63, 3)) ∧ (decode cX1_perform 29 = .ok (.tableswitch 114 1 5 #[35, 46, 72, 81, 97], 35)) ∧ (decode cX1_perform 64 = .ok (.aload_n 0, 1)) ∧ (decode cX1_perform 65 = .ok (.iload_n 2, 1)) ∧ (decode cX1_perform 66 = .ok (.iconst 1, 1)) ∧ (decode cX1_perform 67 = .ok (.iload_n 3, 1)) := by decide +kernel
theorem dX1_perform_18 : decode cX1_perform 18 = .ok (.iconst 2, 1) := qd0_102.1
theorem dX1_perform_19 : decode cX1_perform 19 = .ok (.invokevirtual 63, 3) := qd0_102.2.1
theorem dX1_perform_22 : decode cX1_perform 22 = .ok (.istore_n 3, 1) := qd0_102.2.2.1
theorem dX1_perform_23 : decode cX1_perform 23 = .ok (.aload_n 0, 1) := qd0_102.2.2.2.1
theorem dX1_perform_24 : decode cX1_perform 24 = .ok (.iload_n 1, 1) := qd0_102.2.2.2.2.1
theorem dX1_perform_25 : decode cX1_perform 25 = .ok (.iconst 0, 1) := qd0_102.2.2.2.2.2.1
theorem dX1_perform_26 : decode cX1_perform 26 = .ok (.invokevirtual 63, 3) := qd0_102.2.2.2.2.2.2.1
theorem dX1_perform_29 : decode cX1_perform 29 = .ok (.tableswitch 114 1 5 #[35, 46, 72, 81, 97], 35) := qd0_102.2.2.2.2.2.2.2.1
theorem dX1_perform_64 : decode cX1_perform 64 = .ok (.aload_n 0, 1) := qd0_102.2.2.2.2.2.2.2.2.1
theorem dX1_perform_65 : decode cX1_perform 65 = .ok (.iload_n 2, 1) := qd0_102.2.2.2.2.2.2.2.2.2.1
theorem dX1_perform_66 : decode cX1_perform 66 = .ok (.iconst 1, 1) := qd0_102.2.2.2.2.2.2.2.2.2.2.1
theorem dX1_perform_67 : decode cX1_perform 67 = .ok (.iload_n 3, 1) := qd0_102.2.2.2.2.2.2.2.2.2.2.2
theorem qd0_103 : (decode cX1_perform 68 = .ok (.ishl, 1)) ∧ (decode cX1_perform 69 = .ok (.invokevirtual 88, 3)) ∧ (decode cX1_perform 72 = .ok (.goto 71, 3)) ∧ (decode cX1_perform 75 = .ok (.aload_n 0, 1)) ∧ (decode cX1_perform 76 = .ok (.iload_n 2, 1)) ∧ (decode cX1_perform 77 = .ok (.invokevirtual 92, 3)) ∧ (decode cX1_perform 80 = .ok (.ifCond .eq 63, 3)) ∧ (decode cX1_perform 83 = .ok (.aload_n 0, 1)) ∧ (decode cX1_perform 84 = .ok (.iload_n 2, 1)) ∧ (decode cX1_perform 85 = .ok (.aload_n 0, 1)) ∧ (decode cX1_perform 86 = .ok (.iload_n 2, 1)) ∧ (decode cX1_perform 87 = .ok (.iconst 2, 1)) := by decide +kernel
theorem dX1_perform_68 : decode cX1_perform 68 = .ok (.ishl, 1) := qd0_103.1
theorem dX1_perform_69 : decode cX1_perform 69 = .ok (.invokevirtual 88, 3) := qd0_103.2.1
theorem dX1_perform_72 : decode cX1_perform 72 = .ok (.goto 71, 3) := qd0_103.2.2.1
theorem dX1_perform_75 : decode cX1_perform 75 = .ok (.aload_n 0, 1) := qd0_103.2.2.2.1
theorem dX1_perform_76 : decode cX1_perform 76 = .ok (.iload_n 2, 1) := qd0_103.2.2.2.2.1
theorem dX1_perform_77 : decode cX1_perform 77 = .ok (.invokevirtual 92, 3) := qd0_103.2.2.2.2.2.1
theorem dX1_perform_80 : decode cX1_perform 80 = .ok (.ifCond .eq 63, 3) := qd0_103.2.2.2.2.2.2.1
theorem dX1_perform_83 : decode cX1_perform 83 = .ok (.aload_n 0, 1) := qd0_103.2.2.2.2.2.2.2.1
theorem dX1_perform_84 : decode cX1_perform 84 = .ok (.iload_n 2, 1) := qd0_103.2.2.2.2.2.2.2.2.1
theorem dX1_perform_85 : decode cX1_perform 85 = .ok (.aload_n 0, 1) := qd0_103.2.2.2.2.2.2.2.2.2.1
theorem dX1_perform_86 : decode cX1_perform 86 = .ok (.iload_n 2, 1) := qd0_103.2.2.2.2.2.2.2.2.2.2.1
theorem dX1_perform_87 : decode cX1_perform 87 = .ok (.iconst 2, 1) := qd0_103.2.2.2.2.2.2.2.2.2.2.2
theorem qd0_104 : (decode cX1_perform 88 = .ok (.invokevirtual 71, 3)) ∧ (decode cX1_perform 91 = .ok (.iconst 1, 1)) ∧ (decode cX1_perform 92 = .ok (.iload_n 3, 1)) ∧ (decode cX1_perform 93 = .ok (.ishl, 1)) ∧ (decode cX1_perform 94 = .ok (.ior, 1)) ∧ (decode cX1_perform 95 = .ok (.invokevirtual 88, 3)) ∧ (decode cX1_perform 98 = .ok (.goto 45, 3)) ∧ (decode cX1_perform 101 = .ok (.aload_n 0, 1)) ∧ (decode cX1_perform 102 = .ok (.iload_n 2, 1)) ∧ (decode cX1_perform 103 = .ok (.iload_n 3, 1)) ∧ (decode cX1_perform 104 = .ok (.invokevirtual 95, 3)) ∧ (decode cX1_perform 107 = .ok (.goto 36, 3)) := by decide +kernel
theorem dX1_perform_88 : decode cX1_perform 88 = .ok (.invokevirtual 71, 3) := qd0_104.1
theorem dX1_perform_91 : decode cX1_perform 91 = .ok (.iconst 1, 1) := qd0_104.2.1
theorem dX1_perform_92 : decode cX1_perform 92 = .ok (.iload_n 3, 1) := qd0_104.2.2.1
theorem dX1_perform_93 : decode cX1_perform 93 = .ok (.ishl, 1) := qd0_104.2.2.2.1
theorem dX1_perform_94 : decode cX1_perform 94 = .ok (.ior, 1) := qd0_104.2.2.2.2.1
theorem dX1_perform_95 : decode cX1_perform 95 = .ok (.invokevirtual 88, 3) := qd0_104.2.2.2.2.2.1
theorem dX1_perform_98 : decode cX1_perform 98 = .ok (.goto 45, 3) := qd0_104.2.2.2.2.2.2.1
theorem dX1_perform_101 : decode cX1_perform 101 = .ok (.aload_n 0, 1) := qd0_104.2.2.2.2.2.2.2.1
theorem dX1_perform_102 : decode cX1_perform 102 = .ok (.iload_n 2, 1) := qd0_104.2.2.2.2.2.2.2.2.1
theorem dX1_perform_103 : decode cX1_perform 103 = .ok (.iload_n 3, 1) := qd0_104.2.2.2.2.2.2.2.2.2.1
theorem dX1_perform_104 : decode cX1_perform 104 = .ok (.invokevirtual 95, 3) := qd0_104.2.2.2.2.2.2.2.2.2.2.1
theorem dX1_perform_107 : decode cX1_perform 107 = .ok (.goto 36, 3) := qd0_104.2.2.2.2.2.2.2.2.2.2.2
theorem qd0_105 : (decode cX1_perform 110 = .ok (.aload_n 0, 1)) ∧ (decode cX1_perform 111 = .ok (.iload_n 2, 1)) ∧ (decode cX1_perform 112 = .ok (.iload_n 3, 1)) ∧ (decode cX1_perform 113 = .ok (.bipush 7, 2)) ∧ (decode cX1_perform 115 = .ok (.bipush 10, 2)) ∧ (decode cX1_perform 117 = .ok (.bipush 99, 2)) ∧ (decode cX1_perform 119 = .ok (.iconst 0, 1)) ∧ (decode cX1_perform 120 = .ok (.invokevirtual 98, 3)) ∧ (decode cX1_perform 123 = .ok (.goto 20, 3)) ∧ (decode cX1_perform 126 = .ok (.aload_n 0, 1)) ∧ (decode cX1_perform 127 = .ok (.iload_n 2, 1)) ∧ (decode cX1_perform 128 = .ok (.iload_n 3, 1)) := by decide +kernel
theorem dX1_perform_110 : decode cX1_perform 110 = .ok (.aload_n 0, 1) := qd0_105.1
theorem dX1_perform_111 : decode cX1_perform 111 = .ok (.iload_n 2, 1) := qd0_105.2.1
theorem dX1_perform_112 : decode cX1_perform 112 = .ok (.iload_n 3, 1) := qd0_105.2.2.1
theorem dX1_perform_113 : decode cX1_perform 113 = .ok (.bipush 7, 2) := qd0_105.2.2.2.1
theorem dX1_perform_115 : decode cX1_perform 115 = .ok (.bipush 10, 2) := qd0_105.2.2.2.2.1
theorem dX1_perform_117 : decode cX1_perform 117 = .ok (.bipush 99, 2) := qd0_105.2.2.2.2.2.1
theorem dX1_perform_119 : decode cX1_perform 119 = .ok (.iconst 0, 1) := qd0_105.2.2.2.2.2.2.1
theorem dX1_perform_120 : decode cX1_perform 120 = .ok (.invokevirtual 98, 3) := qd0_105.2.2.2.2.2.2.2.1
theorem dX1_perform_123 : decode cX1_perform 123 = .ok (.goto 20, 3) := qd0_105.2.2.2.2.2.2.2.2.1
theorem dX1_perform_126 : decode cX1_perform 126 = .ok (.aload_n 0, 1) := qd0_105.2.2.2.2.2.2.2.2.2.1
theorem dX1_perform_127 : decode cX1_perform 127 = .ok (.iload_n 2, 1) := qd0_105.2.2.2.2.2.2.2.2.2.2.1
theorem dX1_perform_128 : decode cX1_perform 128 = .ok (.iload_n 3, 1) := qd0_105.2.2.2.2.2.2.2.2.2.2.2
theorem qd0_106 : (decode cX1_perform 129 = .ok (.bipush 7, 2)) ∧ (decode cX1_perform 131 = .ok (.bipush 10, 2)) ∧ (decode cX1_perform 133 = .ok (.sipush 198, 3)) ∧ (decode cX1_perform 136 = .ok (.iconst 0, 1)) ∧ (decode cX1_perform 137 = .ok (.invokevirtual 98, 3)) ∧ (decode cX1_perform 140 = .ok (.goto 3, 3)) ∧ (decode cX1_perform 143 = .ok (.return_, 1)) := by decide +kernel
theorem dX1_perform_129 : decode cX1_perform 129 = .ok (.bipush 7, 2) := qd0_106.1
theorem dX1_perform_131 : decode cX1_perform 131 = .ok (.bipush 10, 2) := qd0_106.2.1
theorem dX1_perform_133 : decode cX1_perform 133 = .ok (.sipush 198, 3) := qd0_106.2.2.1
theorem dX1_perform_136 : decode cX1_perform 136 = .ok (.iconst 0, 1) := qd0_106.2.2.2.1
theorem dX1_perform_137 : decode cX1_perform 137 = .ok (.invokevirtual 98, 3) := qd0_106.2.2.2.2.1
theorem dX1_perform_140 : decode cX1_perform 140 = .ok (.goto 3, 3) := qd0_106.2.2.2.2.2.1
theorem dX1_perform_143 : decode cX1_perform 143 = .ok (.return_, 1) := qd0_106.2.2.2.2.2.2
theorem qd0_107 : (decode cX1_performForGood 0 = .ok (.aload_n 0, 1)) ∧ (decode cX1_performForGood 1 = .ok (.iload_n 1, 1)) ∧ (decode cX1_performForGood 2 = .ok (.invokevirtual 85, 3)) ∧ (decode cX1_performForGood 5 = .ok (.ifCond .eq 24, 3)) ∧ (decode cX1_performForGood 8 = .ok (.aload_n 0, 1)) ∧ (decode cX1_performForGood 9 = .ok (.iload_n 1, 1)) ∧ (decode cX1_performForGood 10 = .ok (.invokevirtual 102, 3)) ∧ (decode cX1_performForGood 13 = .ok (.aload_n 0, 1)) ∧ (decode cX1_performForGood 14 = .ok (.getfield 18, 3)) ∧ (decode cX1_performForGood 17 = .ok (.iload_n 1, 1)) ∧ (decode cX1_performForGood 18 = .ok (.iconst 5, 1)) ∧ (decode cX1_performForGood 19 = .ok (.imul, 1)) := by decide +kernel
theorem dX1_performForGood_0 : decode cX1_performForGood 0 = .ok (.aload_n 0, 1) := qd0_107.1
theorem dX1_performForGood_1 : decode cX1_performForGood 1 = .ok (.iload_n 1, 1) := qd0_107.2.1
theorem dX1_performForGood_2 : decode cX1_performForGood 2 = .ok (.invokevirtual 85, 3) := qd0_107.2.2.1
theorem dX1_performForGood_5 : decode cX1_performForGood 5 = .ok (.ifCond .eq 24, 3) := qd0_107.2.2.2.1
theorem dX1_performForGood_8 : decode cX1_performForGood 8 = .ok (.aload_n 0, 1) := qd0_107.2.2.2.2.1
theorem dX1_performForGood_9 : decode cX1_performForGood 9 = .ok (.iload_n 1, 1) := qd0_107.2.2.2.2.2.1
theorem dX1_performForGood_10 : decode cX1_performForGood 10 = .ok (.invokevirtual 102, 3) := qd0_107.2.2.2.2.2.2.1
theorem dX1_performForGood_13 : decode cX1_performForGood 13 = .ok (.aload_n 0, 1) := qd0_107.2.2.2.2.2.2.2.1
theorem dX1_performForGood_14 : decode cX1_performForGood 14 = .ok (.getfield 18, 3) := qd0_107.2.2.2.2.2.2.2.2.1
theorem dX1_performForGood_17 : decode cX1_performForGood 17 = .ok (.iload_n 1, 1) := qd0_107.2.2.2.2.2.2.2.2.2.1
theorem dX1_performForGood_18 : decode cX1_performForGood 18 = .ok (.iconst 5, 1) := qd0_107.2.2.2.2.2.2.2.2.2.2.1
theorem dX1_performForGood_19 : decode cX1_performForGood 19 = .ok (.imul, 1) := qd0_107.2.2.2.2.2.2.2.2.2.2.2
theorem qd0_108 : (decode cX1_performForGood 20 = .ok (.iconst 4, 1)) ∧ (decode cX1_performForGood 21 = .ok (.iadd, 1)) ∧ (decode cX1_performForGood 22 = .ok (.iconst 1, 1)) ∧ (decode cX1_performForGood 23 = .ok (.iastore, 1)) ∧ (decode cX1_performForGood 24 = .ok (.aload_n 0, 1)) ∧ (decode cX1_performForGood 25 = .ok (.iconst 0, 1)) ∧ (decode cX1_performForGood 26 = .ok (.putfield 43, 3)) ∧ (decode cX1_performForGood 29 = .ok (.return_, 1)) := by decide +kernel
theorem dX1_performForGood_20 : decode cX1_performForGood 20 = .ok (.iconst 4, 1) := qd0_108.1
theorem dX1_performForGood_21 : decode cX1_performForGood 21 = .ok (.iadd, 1) := qd0_108.2.1
theorem dX1_performForGood_22 : decode cX1_performForGood 22 = .ok (.iconst 1, 1) := qd0_108.2.2.1
theorem dX1_performForGood_23 : decode cX1_performForGood 23 = .ok (.iastore, 1) := qd0_108.2.2.2.1
theorem dX1_performForGood_24 : decode cX1_performForGood 24 = .ok (.aload_n 0, 1) := qd0_108.2.2.2.2.1
theorem dX1_performForGood_25 : decode cX1_performForGood 25 = .ok (.iconst 0, 1) := qd0_108.2.2.2.2.2.1
theorem dX1_performForGood_26 : decode cX1_performForGood 26 = .ok (.putfield 43, 3) := qd0_108.2.2.2.2.2.2.1
theorem dX1_performForGood_29 : decode cX1_performForGood 29 = .ok (.return_, 1) := qd0_108.2.2.2.2.2.2.2
theorem qd0_109 : (decode cX1_freeKnown 0 = .ok (.aload_n 0, 1)) ∧ (decode cX1_freeKnown 1 = .ok (.getfield 43, 3)) ∧ (decode cX1_freeKnown 4 = .ok (.ifCond .ne 16, 3)) ∧ (decode cX1_freeKnown 7 = .ok (.aload_n 0, 1)) ∧ (decode cX1_freeKnown 8 = .ok (.getfield 27, 3)) ∧ (decode cX1_freeKnown 11 = .ok (.iconst (-1), 1)) ∧ (decode cX1_freeKnown 12 = .ok (.invokestatic 47, 3)) ∧ (decode cX1_freeKnown 15 = .ok (.aload_n 0, 1)) ∧ (decode cX1_freeKnown 16 = .ok (.iconst 1, 1)) ∧ (decode cX1_freeKnown 17 = .ok (.putfield 43, 3)) ∧ (decode cX1_freeKnown 20 = .ok (.iload_n 1, 1)) ∧ (decode cX1_freeKnown 21 = .ok (.iconst 0, 1)) := by decide +kernel
theorem dX1_freeKnown_0 : decode cX1_freeKnown 0 = .ok (.aload_n 0, 1) := qd0_109.1
theorem dX1_freeKnown_1 : decode cX1_freeKnown 1 = .ok (.getfield 43, 3) := qd0_109.2.1
theorem dX1_freeKnown_4 : decode cX1_freeKnown 4 = .ok (.ifCond .ne 16, 3) := qd0_109.2.2.1
theorem dX1_freeKnown_7 : decode cX1_freeKnown 7 = .ok (.aload_n 0, 1) := qd0_109.2.2.2.1
theorem dX1_freeKnown_8 : decode cX1_freeKnown 8 = .ok (.getfield 27, 3) := qd0_109.2.2.2.2.1
theorem dX1_freeKnown_11 : decode cX1_freeKnown 11 = .ok (.iconst (-1), 1) := qd0_109.2.2.2.2.2.1
theorem dX1_freeKnown_12 : decode cX1_freeKnown 12 = .ok (.invokestatic 47, 3) := qd0_109.2.2.2.2.2.2.1
theorem dX1_freeKnown_15 : decode cX1_freeKnown 15 = .ok (.aload_n 0, 1) := qd0_109.2.2.2.2.2.2.2.1
theorem dX1_freeKnown_16 : decode cX1_freeKnown 16 = .ok (.iconst 1, 1) := qd0_109.2.2.2.2.2.2.2.2.1
theorem dX1_freeKnown_17 : decode cX1_freeKnown 17 = .ok (.putfield 43, 3) := qd0_109.2.2.2.2.2.2.2.2.2.1
theorem dX1_freeKnown_20 : decode cX1_freeKnown 20 = .ok (.iload_n 1, 1) := qd0_109.2.2.2.2.2.2.2.2.2.2.1
theorem dX1_freeKnown_21 : decode cX1_freeKnown 21 = .ok (.iconst 0, 1) := qd0_109.2.2.2.2.2.2.2.2.2.2.2
theorem qd0_110 : (decode cX1_freeKnown 22 = .ok (.bipush 127, 2)) ∧ (decode cX1_freeKnown 24 = .ok (.invokestatic 59, 3)) ∧ (decode cX1_freeKnown 27 = .ok (.ifCond .eq 12, 3)) ∧ (decode cX1_freeKnown 30 = .ok (.aload_n 0, 1)) ∧ (decode cX1_freeKnown 31 = .ok (.getfield 27, 3)) ∧ (decode cX1_freeKnown 34 = .ok (.iload_n 1, 1)) ∧ (decode cX1_freeKnown 35 = .ok (.iaload, 1)) ∧ (decode cX1_freeKnown 36 = .ok (.goto 4, 3)) ∧ (decode cX1_freeKnown 39 = .ok (.iconst (-1), 1)) ∧ (decode cX1_freeKnown 40 = .ok (.ireturn, 1)) := by decide +kernel
theorem dX1_freeKnown_22 : decode cX1_freeKnown 22 = .ok (.bipush 127, 2) := qd0_110.1
theorem dX1_freeKnown_24 : decode cX1_freeKnown 24 = .ok (.invokestatic 59, 3) := qd0_110.2.1
theorem dX1_freeKnown_27 : decode cX1_freeKnown 27 = .ok (.ifCond .eq 12, 3) := qd0_110.2.2.1
theorem dX1_freeKnown_30 : decode cX1_freeKnown 30 = .ok (.aload_n 0, 1) := qd0_110.2.2.2.1
theorem dX1_freeKnown_31 : decode cX1_freeKnown 31 = .ok (.getfield 27, 3) := qd0_110.2.2.2.2.1
theorem dX1_freeKnown_34 : decode cX1_freeKnown 34 = .ok (.iload_n 1, 1) := qd0_110.2.2.2.2.2.1
theorem dX1_freeKnown_35 : decode cX1_freeKnown 35 = .ok (.iaload, 1) := qd0_110.2.2.2.2.2.2.1
theorem dX1_freeKnown_36 : decode cX1_freeKnown 36 = .ok (.goto 4, 3) := qd0_110.2.2.2.2.2.2.2.1
theorem dX1_freeKnown_39 : decode cX1_freeKnown 39 = .ok (.iconst (-1), 1) := qd0_110.2.2.2.2.2.2.2.2.1
theorem dX1_freeKnown_40 : decode cX1_freeKnown 40 = .ok (.ireturn, 1) := qd0_110.2.2.2.2.2.2.2.2.2
theorem qd0_111 : (decode cX1_keepFree 0 = .ok (.iload_n 1, 1)) ∧ (decode cX1_keepFree 1 = .ok (.iconst 0, 1)) ∧ (decode cX1_keepFree 2 = .ok (.bipush 127, 2)) ∧ (decode cX1_keepFree 4 = .ok (.invokestatic 59, 3)) ∧ (decode cX1_keepFree 7 = .ok (.ifCond .eq 10, 3)) ∧ (decode cX1_keepFree 10 = .ok (.aload_n 0, 1)) ∧ (decode cX1_keepFree 11 = .ok (.getfield 27, 3)) ∧ (decode cX1_keepFree 14 = .ok (.iload_n 1, 1)) ∧ (decode cX1_keepFree 15 = .ok (.iload_n 2, 1)) ∧ (decode cX1_keepFree 16 = .ok (.iastore, 1)) ∧ (decode cX1_keepFree 17 = .ok (.return_, 1)) := by decide +kernel
theorem dX1_keepFree_0 : decode cX1_keepFree 0 = .ok (.iload_n 1, 1) := qd0_111.1
theorem dX1_keepFree_1 : decode cX1_keepFree 1 = .ok (.iconst 0, 1) := qd0_111.2.1
theorem dX1_keepFree_2 : decode cX1_keepFree 2 = .ok (.bipush 127, 2) := qd0_111.2.2.1
theorem dX1_keepFree_4 : decode cX1_keepFree 4 = .ok (.invokestatic 59, 3) := qd0_111.2.2.2.1
theorem dX1_keepFree_7 : decode cX1_keepFree 7 = .ok (.ifCond .eq 10, 3) := qd0_111.2.2.2.2.1
theorem dX1_keepFree_10 : decode cX1_keepFree 10 = .ok (.aload_n 0, 1) := qd0_111.2.2.2.2.2.1
theorem dX1_keepFree_11 : decode cX1_keepFree 11 = .ok (.getfield 27, 3) := qd0_111.2.2.2.2.2.2.1
theorem dX1_keepFree_14 : decode cX1_keepFree 14 = .ok (.iload_n 1, 1) := qd0_111.2.2.2.2.2.2.2.1
theorem dX1_keepFree_15 : decode cX1_keepFree 15 = .ok (.iload_n 2, 1) := qd0_111.2.2.2.2.2.2.2.2.1
theorem dX1_keepFree_16 : decode cX1_keepFree 16 = .ok (.iastore, 1) := qd0_111.2.2.2.2.2.2.2.2.2.1
theorem dX1_keepFree_17 : decode cX1_keepFree 17 = .ok (.return_, 1) := qd0_111.2.2.2.2.2.2.2.2.2.2
theorem qd0_112 : (decode cX2_init 0 = .ok (.aload_n 0, 1)) ∧ (decode cX2_init 1 = .ok (.invokespecial 3, 3)) ∧ (decode cX2_init 4 = .ok (.aload_n 0, 1)) ∧ (decode cX2_init 5 = .ok (.bipush 8, 2)) ∧ (decode cX2_init 7 = .ok (.bipush 40, 2)) ∧ (decode cX2_init 9 = .ok (.multianewarray 11 2, 4)) ∧ (decode cX2_init 13 = .ok (.putfield 13, 3)) ∧ (decode cX2_init 16 = .ok (.aload_n 0, 1)) ∧ (decode cX2_init 17 = .ok (.bipush 8, 2)) ∧ (decode cX2_init 19 = .ok (.newarray .int, 2)) ∧ (decode cX2_init 21 = .ok (.putfield 16, 3)) ∧ (decode cX2_init 24 = .ok (.aload_n 0, 1)) := by decide +kernel
theorem dX2_init_0 : decode cX2_init 0 = .ok (.aload_n 0, 1) := qd0_112.1
theorem dX2_init_1 : decode cX2_init 1 = .ok (.invokespecial 3, 3) := qd0_112.2.1
theorem dX2_init_4 : decode cX2_init 4 = .ok (.aload_n 0, 1) := qd0_112.2.2.1
theorem dX2_init_5 : decode cX2_init 5 = .ok (.bipush 8, 2) := qd0_112.2.2.2.1
theorem dX2_init_7 : decode cX2_init 7 = .ok (.bipush 40, 2) := qd0_112.2.2.2.2.1
theorem dX2_init_9 : decode cX2_init 9 = .ok (.multianewarray 11 2, 4) := qd0_112.2.2.2.2.2.1
theorem dX2_init_13 : decode cX2_init 13 = .ok (.putfield 13, 3) := qd0_112.2.2.2.2.2.2.1
theorem dX2_init_16 : decode cX2_init 16 = .ok (.aload_n 0, 1) := qd0_112.2.2.2.2.2.2.2.1
theorem dX2_init_17 : decode cX2_init 17 = .ok (.bipush 8, 2) := qd0_112.2.2.2.2.2.2.2.2.1
theorem dX2_init_19 : decode cX2_init 19 = .ok (.newarray .int, 2) := qd0_112.2.2.2.2.2.2.2.2.2.1
theorem dX2_init_21 : decode cX2_init 21 = .ok (.putfield 16, 3) := qd0_112.2.2.2.2.2.2.2.2.2.2.1
theorem dX2_init_24 : decode cX2_init 24 = .ok (.aload_n 0, 1) := qd0_112.2.2.2.2.2.2.2.2.2.2.2
theorem qd0_113 : (decode cX2_init 25 = .ok (.bipush 8, 2)) ∧ (decode cX2_init 27 = .ok (.newarray .int, 2)) ∧ (decode cX2_init 29 = .ok (.putfield 20, 3)) ∧ (decode cX2_init 32 = .ok (.aload_n 0, 1)) ∧ (decode cX2_init 33 = .ok (.getfield 16, 3)) ∧ (decode cX2_init 36 = .ok (.iconst (-1), 1)) ∧ (decode cX2_init 37 = .ok (.invokestatic 23, 3)) ∧ (decode cX2_init 40 = .ok (.return_, 1)) := by decide +kernel
theorem dX2_init_25 : decode cX2_init 25 = .ok (.bipush 8, 2) := qd0_113.1
theorem dX2_init_27 : decode cX2_init 27 = .ok (.newarray .int, 2) := qd0_113.2.1
theorem dX2_init_29 : decode cX2_init 29 = .ok (.putfield 20, 3) := qd0_113.2.2.1
theorem dX2_init_32 : decode cX2_init 32 = .ok (.aload_n 0, 1) := qd0_113.2.2.2.1
theorem dX2_init_33 : decode cX2_init 33 = .ok (.getfield 16, 3) := qd0_113.2.2.2.2.1
theorem dX2_init_36 : decode cX2_init 36 = .ok (.iconst (-1), 1) := qd0_113.2.2.2.2.2.1
theorem dX2_init_37 : decode cX2_init 37 = .ok (.invokestatic 23, 3) := qd0_113.2.2.2.2.2.2.1
theorem dX2_init_40 : decode cX2_init 40 = .ok (.return_, 1) := qd0_113.2.2.2.2.2.2.2
theorem qd0_114 : (decode cX2_has 0 = .ok (.iload_n 0, 1)) ∧ (decode cX2_has 1 = .ok (.iconst 0, 1)) ∧ (decode cX2_has 2 = .ok (.bipush 7, 2)) ∧ (decode cX2_has 4 = .ok (.invokestatic 29, 3)) ∧ (decode cX2_has 7 = .ok (.ireturn, 1)) := by decide +kernel
theorem dX2_has_0 : decode cX2_has 0 = .ok (.iload_n 0, 1) := qd0_114.1
theorem dX2_has_1 : decode cX2_has 1 = .ok (.iconst 0, 1) := qd0_114.2.1
theorem dX2_has_2 : decode cX2_has 2 = .ok (.bipush 7, 2) := qd0_114.2.2.1
theorem dX2_has_4 : decode cX2_has 4 = .ok (.invokestatic 29, 3) := qd0_114.2.2.2.1
theorem dX2_has_7 : decode cX2_has 7 = .ok (.ireturn, 1) := qd0_114.2.2.2.2
theorem qd0_115 : (decode cX2_hasRow 0 = .ok (.aload_n 0, 1)) ∧ (decode cX2_hasRow 1 = .ok (.getfield 16, 3)) ∧ (decode cX2_hasRow 4 = .ok (.iload_n 1, 1)) ∧ (decode cX2_hasRow 5 = .ok (.iaload, 1)) ∧ (decode cX2_hasRow 6 = .ok (.iconst 0, 1)) ∧ (decode cX2_hasRow 7 = .ok (.iconst 4, 1)) ∧ (decode cX2_hasRow 8 = .ok (.invokestatic 29, 3)) ∧ (decode cX2_hasRow 11 = .ok (.ireturn, 1)) := by decide +kernel
theorem dX2_hasRow_0 : decode cX2_hasRow 0 = .ok (.aload_n 0, 1) := qd0_115.1
theorem dX2_hasRow_1 : decode cX2_hasRow 1 = .ok (.getfield 16, 3) := qd0_115.2.1
theorem dX2_hasRow_4 : decode cX2_hasRow 4 = .ok (.iload_n 1, 1) := qd0_115.2.2.1
theorem dX2_hasRow_5 : decode cX2_hasRow 5 = .ok (.iaload, 1) := qd0_115.2.2.2.1
theorem dX2_hasRow_6 : decode cX2_hasRow 6 = .ok (.iconst 0, 1) := qd0_115.2.2.2.2.1
theorem dX2_hasRow_7 : decode cX2_hasRow 7 = .ok (.iconst 4, 1) := qd0_115.2.2.2.2.2.1
theorem dX2_hasRow_8 : decode cX2_hasRow 8 = .ok (.invokestatic 29, 3) := qd0_115.2.2.2.2.2.2.1
theorem dX2_hasRow_11 : decode cX2_hasRow 11 = .ok (.ireturn, 1) := qd0_115.2.2.2.2.2.2.2
theorem qd0_116 : (decode cX2_hasWork 0 = .ok (.aload_n 0, 1)) ∧ (decode cX2_hasWork 1 = .ok (.getfield 16, 3)) ∧ (decode cX2_hasWork 4 = .ok (.iload_n 1, 1)) ∧ (decode cX2_hasWork 5 = .ok (.iaload, 1)) ∧ (decode cX2_hasWork 6 = .ok (.bipush 10, 2)) ∧ (decode cX2_hasWork 8 = .ok (.if_icmp .lt 7, 3)) ∧ (decode cX2_hasWork 11 = .ok (.iconst 1, 1)) ∧ (decode cX2_hasWork 12 = .ok (.goto 4, 3)) ∧ (decode cX2_hasWork 15 = .ok (.iconst 0, 1)) ∧ (decode cX2_hasWork 16 = .ok (.ireturn, 1)) := by decide +kernel
theorem dX2_hasWork_0 : decode cX2_hasWork 0 = .ok (.aload_n 0, 1) := qd0_116.1
theorem dX2_hasWork_1 : decode cX2_hasWork 1 = .ok (.getfield 16, 3) := qd0_116.2.1
theorem dX2_hasWork_4 : decode cX2_hasWork 4 = .ok (.iload_n 1, 1) := qd0_116.2.2.1
theorem dX2_hasWork_5 : decode cX2_hasWork 5 = .ok (.iaload, 1) := qd0_116.2.2.2.1
theorem dX2_hasWork_6 : decode cX2_hasWork 6 = .ok (.bipush 10, 2) := qd0_116.2.2.2.2.1
theorem dX2_hasWork_8 : decode cX2_hasWork 8 = .ok (.if_icmp .lt 7, 3) := qd0_116.2.2.2.2.2.1
theorem dX2_hasWork_11 : decode cX2_hasWork 11 = .ok (.iconst 1, 1) := qd0_116.2.2.2.2.2.2.1
theorem dX2_hasWork_12 : decode cX2_hasWork 12 = .ok (.goto 4, 3) := qd0_116.2.2.2.2.2.2.2.1
theorem dX2_hasWork_15 : decode cX2_hasWork 15 = .ok (.iconst 0, 1) := qd0_116.2.2.2.2.2.2.2.2.1
theorem dX2_hasWork_16 : decode cX2_hasWork 16 = .ok (.ireturn, 1) := qd0_116.2.2.2.2.2.2.2.2.2
theorem qd0_117 : (decode cX2_differ 0 = .ok (.aload_n 0, 1)) ∧ (decode cX2_differ 1 = .ok (.getfield 16, 3)) ∧ (decode cX2_differ 4 = .ok (.iload_n 1, 1)) ∧ (decode cX2_differ 5 = .ok (.iaload, 1)) ∧ (decode cX2_differ 6 = .ok (.iconst (-1), 1)) ∧ (decode cX2_differ 7 = .ok (.if_icmp .eq 32, 3)) ∧ (decode cX2_differ 10 = .ok (.aload_n 0, 1)) ∧ (decode cX2_differ 11 = .ok (.getfield 16, 3)) ∧ (decode cX2_differ 14 = .ok (.iload_n 2, 1)) ∧ (decode cX2_differ 15 = .ok (.iaload, 1)) ∧ (decode cX2_differ 16 = .ok (.iconst (-1), 1)) ∧ (decode cX2_differ 17 = .ok (.if_icmp .eq 22, 3)) := by decide +kernel
theorem dX2_differ_0 : decode cX2_differ 0 = .ok (.aload_n 0, 1) := qd0_117.1
theorem dX2_differ_1 : decode cX2_differ 1 = .ok (.getfield 16, 3) := qd0_117.2.1
theorem dX2_differ_4 : decode cX2_differ 4 = .ok (.iload_n 1, 1) := qd0_117.2.2.1
theorem dX2_differ_5 : decode cX2_differ 5 = .ok (.iaload, 1) := qd0_117.2.2.2.1
theorem dX2_differ_6 : decode cX2_differ 6 = .ok (.iconst (-1), 1) := qd0_117.2.2.2.2.1
theorem dX2_differ_7 : decode cX2_differ 7 = .ok (.if_icmp .eq 32, 3) := qd0_117.2.2.2.2.2.1
theorem dX2_differ_10 : decode cX2_differ 10 = .ok (.aload_n 0, 1) := qd0_117.2.2.2.2.2.2.1
theorem dX2_differ_11 : decode cX2_differ 11 = .ok (.getfield 16, 3) := qd0_117.2.2.2.2.2.2.2.1
theorem dX2_differ_14 : decode cX2_differ 14 = .ok (.iload_n 2, 1) := qd0_117.2.2.2.2.2.2.2.2.1
theorem dX2_differ_15 : decode cX2_differ 15 = .ok (.iaload, 1) := qd0_117.2.2.2.2.2.2.2.2.2.1
theorem dX2_differ_16 : decode cX2_differ 16 = .ok (.iconst (-1), 1) := qd0_117.2.2.2.2.2.2.2.2.2.2.1
theorem dX2_differ_17 : decode cX2_differ 17 = .ok (.if_icmp .eq 22, 3) := qd0_117.2.2.2.2.2.2.2.2.2.2.2
theorem qd0_118 : (decode cX2_differ 20 = .ok (.aload_n 0, 1)) ∧ (decode cX2_differ 21 = .ok (.getfield 16, 3)) ∧ (decode cX2_differ 24 = .ok (.iload_n 1, 1)) ∧ (decode cX2_differ 25 = .ok (.iaload, 1)) ∧ (decode cX2_differ 26 = .ok (.aload_n 0, 1)) ∧ (decode cX2_differ 27 = .ok (.getfield 16, 3)) ∧ (decode cX2_differ 30 = .ok (.iload_n 2, 1)) ∧ (decode cX2_differ 31 = .ok (.iaload, 1)) ∧ (decode cX2_differ 32 = .ok (.if_icmp .eq 7, 3)) ∧ (decode cX2_differ 35 = .ok (.iconst 1, 1)) ∧ (decode cX2_differ 36 = .ok (.goto 4, 3)) ∧ (decode cX2_differ 39 = .ok (.iconst 0, 1)) := by decide +kernel
theorem dX2_differ_20 : decode cX2_differ 20 = .ok (.aload_n 0, 1) := qd0_118.1
theorem dX2_differ_21 : decode cX2_differ 21 = .ok (.getfield 16, 3) := qd0_118.2.1
theorem dX2_differ_24 : decode cX2_differ 24 = .ok (.iload_n 1, 1) := qd0_118.2.2.1
theorem dX2_differ_25 : decode cX2_differ 25 = .ok (.iaload, 1) := qd0_118.2.2.2.1
theorem dX2_differ_26 : decode cX2_differ 26 = .ok (.aload_n 0, 1) := qd0_118.2.2.2.2.1
theorem dX2_differ_27 : decode cX2_differ 27 = .ok (.getfield 16, 3) := qd0_118.2.2.2.2.2.1
theorem dX2_differ_30 : decode cX2_differ 30 = .ok (.iload_n 2, 1) := qd0_118.2.2.2.2.2.2.1
theorem dX2_differ_31 : decode cX2_differ 31 = .ok (.iaload, 1) := qd0_118.2.2.2.2.2.2.2.1
theorem dX2_differ_32 : decode cX2_differ 32 = .ok (.if_icmp .eq 7, 3) := qd0_118.2.2.2.2.2.2.2.2.1
theorem dX2_differ_35 : decode cX2_differ 35 = .ok (.iconst 1, 1) := qd0_118.2.2.2.2.2.2.2.2.2.1
theorem dX2_differ_36 : decode cX2_differ 36 = .ok (.goto 4, 3) := qd0_118.2.2.2.2.2.2.2.2.2.2.1
theorem dX2_differ_39 : decode cX2_differ 39 = .ok (.iconst 0, 1) := qd0_118.2.2.2.2.2.2.2.2.2.2.2
theorem dX2_differ_40 : decode cX2_differ 40 = .ok (.ireturn, 1) := by decide +kernel
theorem qd0_119 : (decode cX2_workIn 0 = .ok (.aload_n 0, 1)) ∧ (decode cX2_workIn 1 = .ok (.iload_n 1, 1)) ∧ (decode cX2_workIn 2 = .ok (.invokevirtual 33, 3)) ∧ (decode cX2_workIn 5 = .ok (.ifCond .eq 15, 3)) ∧ (decode cX2_workIn 8 = .ok (.aload_n 0, 1)) ∧ (decode cX2_workIn 9 = .ok (.getfield 16, 3)) ∧ (decode cX2_workIn 12 = .ok (.iload_n 1, 1)) ∧ (decode cX2_workIn 13 = .ok (.iaload, 1)) ∧ (decode cX2_workIn 14 = .ok (.bipush 10, 2)) ∧ (decode cX2_workIn 16 = .ok (.isub, 1)) ∧ (decode cX2_workIn 17 = .ok (.goto 4, 3)) ∧ (decode cX2_workIn 20 = .ok (.iconst (-1), 1)) := by decide +kernel
theorem dX2_workIn_0 : decode cX2_workIn 0 = .ok (.aload_n 0, 1) := qd0_119.1
theorem dX2_workIn_1 : decode cX2_workIn 1 = .ok (.iload_n 1, 1) := qd0_119.2.1
theorem dX2_workIn_2 : decode cX2_workIn 2 = .ok (.invokevirtual 33, 3) := qd0_119.2.2.1
theorem dX2_workIn_5 : decode cX2_workIn 5 = .ok (.ifCond .eq 15, 3) := qd0_119.2.2.2.1
theorem dX2_workIn_8 : decode cX2_workIn 8 = .ok (.aload_n 0, 1) := qd0_119.2.2.2.2.1
theorem dX2_workIn_9 : decode cX2_workIn 9 = .ok (.getfield 16, 3) := qd0_119.2.2.2.2.2.1
theorem dX2_workIn_12 : decode cX2_workIn 12 = .ok (.iload_n 1, 1) := qd0_119.2.2.2.2.2.2.1
theorem dX2_workIn_13 : decode cX2_workIn 13 = .ok (.iaload, 1) := qd0_119.2.2.2.2.2.2.2.1
theorem dX2_workIn_14 : decode cX2_workIn 14 = .ok (.bipush 10, 2) := qd0_119.2.2.2.2.2.2.2.2.1
theorem dX2_workIn_16 : decode cX2_workIn 16 = .ok (.isub, 1) := qd0_119.2.2.2.2.2.2.2.2.2.1
theorem dX2_workIn_17 : decode cX2_workIn 17 = .ok (.goto 4, 3) := qd0_119.2.2.2.2.2.2.2.2.2.2.1
theorem dX2_workIn_20 : decode cX2_workIn 20 = .ok (.iconst (-1), 1) := qd0_119.2.2.2.2.2.2.2.2.2.2.2
theorem dX2_workIn_21 : decode cX2_workIn 21 = .ok (.ireturn, 1) := by decide +kernel
theorem qd0_120 : (decode cX2_putRow 0 = .ok (.aload_n 0, 1)) ∧ (decode cX2_putRow 1 = .ok (.getfield 16, 3)) ∧ (decode cX2_putRow 4 = .ok (.iload_n 1, 1)) ∧ (decode cX2_putRow 5 = .ok (.iload_n 2, 1)) ∧ (decode cX2_putRow 6 = .ok (.iastore, 1)) ∧ (decode cX2_putRow 7 = .ok (.aload_n 0, 1)) ∧ (decode cX2_putRow 8 = .ok (.getfield 20, 3)) ∧ (decode cX2_putRow 11 = .ok (.iload_n 1, 1)) ∧ (decode cX2_putRow 12 = .ok (.iload_n 3, 1)) ∧ (decode cX2_putRow 13 = .ok (.iastore, 1)) ∧ (decode cX2_putRow 14 = .ok (.aload_n 0, 1)) ∧ (decode cX2_putRow 15 = .ok (.getfield 13, 3)) := by decide +kernel
theorem dX2_putRow_0 : decode cX2_putRow 0 = .ok (.aload_n 0, 1) := qd0_120.1
theorem dX2_putRow_1 : decode cX2_putRow 1 = .ok (.getfield 16, 3) := qd0_120.2.1
theorem dX2_putRow_4 : decode cX2_putRow 4 = .ok (.iload_n 1, 1) := qd0_120.2.2.1
theorem dX2_putRow_5 : decode cX2_putRow 5 = .ok (.iload_n 2, 1) := qd0_120.2.2.2.1
theorem dX2_putRow_6 : decode cX2_putRow 6 = .ok (.iastore, 1) := qd0_120.2.2.2.2.1
theorem dX2_putRow_7 : decode cX2_putRow 7 = .ok (.aload_n 0, 1) := qd0_120.2.2.2.2.2.1
theorem dX2_putRow_8 : decode cX2_putRow 8 = .ok (.getfield 20, 3) := qd0_120.2.2.2.2.2.2.1
theorem dX2_putRow_11 : decode cX2_putRow 11 = .ok (.iload_n 1, 1) := qd0_120.2.2.2.2.2.2.2.1
theorem dX2_putRow_12 : decode cX2_putRow 12 = .ok (.iload_n 3, 1) := qd0_120.2.2.2.2.2.2.2.2.1
theorem dX2_putRow_13 : decode cX2_putRow 13 = .ok (.iastore, 1) := qd0_120.2.2.2.2.2.2.2.2.2.1
theorem dX2_putRow_14 : decode cX2_putRow 14 = .ok (.aload_n 0, 1) := qd0_120.2.2.2.2.2.2.2.2.2.2.1
theorem dX2_putRow_15 : decode cX2_putRow 15 = .ok (.getfield 13, 3) := qd0_120.2.2.2.2.2.2.2.2.2.2.2
theorem qd0_121 : (decode cX2_putRow 18 = .ok (.iload_n 1, 1)) ∧ (decode cX2_putRow 19 = .ok (.aaload, 1)) ∧ (decode cX2_putRow 20 = .ok (.lconst 0, 1)) ∧ (decode cX2_putRow 21 = .ok (.invokestatic 37, 3)) ∧ (decode cX2_putRow 24 = .ok (.return_, 1)) := by decide +kernel
theorem dX2_putRow_18 : decode cX2_putRow 18 = .ok (.iload_n 1, 1) := qd0_121.1
theorem dX2_putRow_19 : decode cX2_putRow 19 = .ok (.aaload, 1) := qd0_121.2.1
theorem dX2_putRow_20 : decode cX2_putRow 20 = .ok (.lconst 0, 1) := qd0_121.2.2.1
theorem dX2_putRow_21 : decode cX2_putRow 21 = .ok (.invokestatic 37, 3) := qd0_121.2.2.2.1
theorem dX2_putRow_24 : decode cX2_putRow 24 = .ok (.return_, 1) := qd0_121.2.2.2.2
theorem qd0_122 : (decode cX2_put 0 = .ok (.aload_n 0, 1)) ∧ (decode cX2_put 1 = .ok (.getfield 13, 3)) ∧ (decode cX2_put 4 = .ok (.iload_n 1, 1)) ∧ (decode cX2_put 5 = .ok (.aaload, 1)) ∧ (decode cX2_put 6 = .ok (.iload_n 2, 1)) ∧ (decode cX2_put 7 = .ok (.aload_n 0, 1)) ∧ (decode cX2_put 8 = .ok (.getfield 16, 3)) ∧ (decode cX2_put 11 = .ok (.iload_n 1, 1)) ∧ (decode cX2_put 12 = .ok (.iaload, 1)) ∧ (decode cX2_put 13 = .ok (.lload_n 3, 1)) ∧ (decode cX2_put 14 = .ok (.invokestatic 40, 3)) ∧ (decode cX2_put 17 = .ok (.lastore, 1)) := by decide +kernel
theorem dX2_put_0 : decode cX2_put 0 = .ok (.aload_n 0, 1) := qd0_122.1
theorem dX2_put_1 : decode cX2_put 1 = .ok (.getfield 13, 3) := qd0_122.2.1
theorem dX2_put_4 : decode cX2_put 4 = .ok (.iload_n 1, 1) := qd0_122.2.2.1
theorem dX2_put_5 : decode cX2_put 5 = .ok (.aaload, 1) := qd0_122.2.2.2.1
theorem dX2_put_6 : decode cX2_put 6 = .ok (.iload_n 2, 1) := qd0_122.2.2.2.2.1
theorem dX2_put_7 : decode cX2_put 7 = .ok (.aload_n 0, 1) := qd0_122.2.2.2.2.2.1
theorem dX2_put_8 : decode cX2_put 8 = .ok (.getfield 16, 3) := qd0_122.2.2.2.2.2.2.1
theorem dX2_put_11 : decode cX2_put 11 = .ok (.iload_n 1, 1) := qd0_122.2.2.2.2.2.2.2.1
theorem dX2_put_12 : decode cX2_put 12 = .ok (.iaload, 1) := qd0_122.2.2.2.2.2.2.2.2.1
theorem dX2_put_13 : decode cX2_put 13 = .ok (.lload_n 3, 1) := qd0_122.2.2.2.2.2.2.2.2.2.1
theorem dX2_put_14 : decode cX2_put 14 = .ok (.invokestatic 40, 3) := qd0_122.2.2.2.2.2.2.2.2.2.2.1
theorem dX2_put_17 : decode cX2_put 17 = .ok (.lastore, 1) := qd0_122.2.2.2.2.2.2.2.2.2.2.2
theorem dX2_put_18 : decode cX2_put 18 = .ok (.return_, 1) := by decide +kernel
theorem qd0_123 : (decode cX2_fitted 0 = .ok (.iload_n 0, 1)) ∧ (decode cX2_fitted 1 = .ok (.tableswitch 47 0 3 #[31, 36, 41, 45], 31)) ∧ (decode cX2_fitted 32 = .ok (.lload_n 1, 1)) ∧ (decode cX2_fitted 33 = .ok (.l2i, 1)) ∧ (decode cX2_fitted 34 = .ok (.i2b, 1)) ∧ (decode cX2_fitted 35 = .ok (.i2l, 1)) ∧ (decode cX2_fitted 36 = .ok (.lreturn, 1)) ∧ (decode cX2_fitted 37 = .ok (.lload_n 1, 1)) ∧ (decode cX2_fitted 38 = .ok (.l2i, 1)) ∧ (decode cX2_fitted 39 = .ok (.i2s, 1)) ∧ (decode cX2_fitted 40 = .ok (.i2l, 1)) ∧ (decode cX2_fitted 41 = .ok (.lreturn, 1)) := by decide +kernel
theorem dX2_fitted_0 : decode cX2_fitted 0 = .ok (.iload_n 0, 1) := qd0_123.1
theorem dX2_fitted_1 : decode cX2_fitted 1 = .ok (.tableswitch 47 0 3 #[31, 36, 41, 45], 31) := qd0_123.2.1
theorem dX2_fitted_32 : decode cX2_fitted 32 = .ok (.lload_n 1, 1) := qd0_123.2.2.1
theorem dX2_fitted_33 : decode cX2_fitted 33 = .ok (.l2i, 1) := qd0_123.2.2.2.1
theorem dX2_fitted_34 : decode cX2_fitted 34 = .ok (.i2b, 1) := qd0_123.2.2.2.2.1
theorem dX2_fitted_35 : decode cX2_fitted 35 = .ok (.i2l, 1) := qd0_123.2.2.2.2.2.1
theorem dX2_fitted_36 : decode cX2_fitted 36 = .ok (.lreturn, 1) := qd0_123.2.2.2.2.2.2.1
theorem dX2_fitted_37 : decode cX2_fitted 37 = .ok (.lload_n 1, 1) := qd0_123.2.2.2.2.2.2.2.1
theorem dX2_fitted_38 : decode cX2_fitted 38 = .ok (.l2i, 1) := qd0_123.2.2.2.2.2.2.2.2.1
theorem dX2_fitted_39 : decode cX2_fitted 39 = .ok (.i2s, 1) := qd0_123.2.2.2.2.2.2.2.2.2.1
theorem dX2_fitted_40 : decode cX2_fitted 40 = .ok (.i2l, 1) := qd0_123.2.2.2.2.2.2.2.2.2.2.1
theorem dX2_fitted_41 : decode cX2_fitted 41 = .ok (.lreturn, 1) := qd0_123.2.2.2.2.2.2.2.2.2.2.2
theorem qd0_124 : (decode cX2_fitted 42 = .ok (.lload_n 1, 1)) ∧ (decode cX2_fitted 43 = .ok (.l2i, 1)) ∧ (decode cX2_fitted 44 = .ok (.i2l, 1)) ∧ (decode cX2_fitted 45 = .ok (.lreturn, 1)) ∧ (decode cX2_fitted 46 = .ok (.lload_n 1, 1)) ∧ (decode cX2_fitted 47 = .ok (.lreturn, 1)) ∧ (decode cX2_fitted 48 = .ok (.lload_n 1, 1)) ∧ (decode cX2_fitted 49 = .ok (.lconst 0, 1)) ∧ (decode cX2_fitted 50 = .ok (.lcmp, 1)) ∧ (decode cX2_fitted 51 = .ok (.ifCond .eq 7, 3)) ∧ (decode cX2_fitted 54 = .ok (.lconst 1, 1)) ∧ (decode cX2_fitted 55 = .ok (.goto 4, 3)) := by decide +kernel
theorem dX2_fitted_42 : decode cX2_fitted 42 = .ok (.lload_n 1, 1) := qd0_124.1
theorem dX2_fitted_43 : decode cX2_fitted 43 = .ok (.l2i, 1) := qd0_124.2.1
theorem dX2_fitted_44 : decode cX2_fitted 44 = .ok (.i2l, 1) := qd0_124.2.2.1
theorem dX2_fitted_45 : decode cX2_fitted 45 = .ok (.lreturn, 1) := qd0_124.2.2.2.1
theorem dX2_fitted_46 : decode cX2_fitted 46 = .ok (.lload_n 1, 1) := qd0_124.2.2.2.2.1
theorem dX2_fitted_47 : decode cX2_fitted 47 = .ok (.lreturn, 1) := qd0_124.2.2.2.2.2.1
theorem dX2_fitted_48 : decode cX2_fitted 48 = .ok (.lload_n 1, 1) := qd0_124.2.2.2.2.2.2.1
theorem dX2_fitted_49 : decode cX2_fitted 49 = .ok (.lconst 0, 1) := qd0_124.2.2.2.2.2.2.2.1
theorem dX2_fitted_50 : decode cX2_fitted 50 = .ok (.lcmp, 1) := qd0_124.2.2.2.2.2.2.2.2.1
theorem dX2_fitted_51 : decode cX2_fitted 51 = .ok (.ifCond .eq 7, 3) := qd0_124.2.2.2.2.2.2.2.2.2.1
theorem dX2_fitted_54 : decode cX2_fitted 54 = .ok (.lconst 1, 1) := qd0_124.2.2.2.2.2.2.2.2.2.2.1
theorem dX2_fitted_55 : decode cX2_fitted 55 = .ok (.goto 4, 3) := qd0_124.2.2.2.2.2.2.2.2.2.2.2
theorem qd0_125 : (decode cX2_fitted 58 = .ok (.lconst 0, 1)) ∧ (decode cX2_fitted 59 = .ok (.lreturn, 1)) := by decide +kernel
theorem dX2_fitted_58 : decode cX2_fitted 58 = .ok (.lconst 0, 1) := qd0_125.1
theorem dX2_fitted_59 : decode cX2_fitted 59 = .ok (.lreturn, 1) := qd0_125.2
theorem qd0_126 : (decode cX2_dropWorksFrom 0 = .ok (.iconst 0, 1)) ∧ (decode cX2_dropWorksFrom 1 = .ok (.istore_n 2, 1)) ∧ (decode cX2_dropWorksFrom 2 = .ok (.iload_n 2, 1)) ∧ (decode cX2_dropWorksFrom 3 = .ok (.bipush 8, 2)) ∧ (decode cX2_dropWorksFrom 5 = .ok (.if_icmp .ge 25, 3)) ∧ (decode cX2_dropWorksFrom 8 = .ok (.aload_n 0, 1)) ∧ (decode cX2_dropWorksFrom 9 = .ok (.iload_n 2, 1)) ∧ (decode cX2_dropWorksFrom 10 = .ok (.invokevirtual 44, 3)) ∧ (decode cX2_dropWorksFrom 13 = .ok (.iload_n 1, 1)) ∧ (decode cX2_dropWorksFrom 14 = .ok (.if_icmp .lt 10, 3)) ∧ (decode cX2_dropWorksFrom 17 = .ok (.aload_n 0, 1)) ∧ (decode cX2_dropWorksFrom 18 = .ok (.getfield 16, 3)) := by decide +kernel
theorem dX2_dropWorksFrom_0 : decode cX2_dropWorksFrom 0 = .ok (.iconst 0, 1) := qd0_126.1
theorem dX2_dropWorksFrom_1 : decode cX2_dropWorksFrom 1 = .ok (.istore_n 2, 1) := qd0_126.2.1
theorem dX2_dropWorksFrom_2 : decode cX2_dropWorksFrom 2 = .ok (.iload_n 2, 1) := qd0_126.2.2.1
theorem dX2_dropWorksFrom_3 : decode cX2_dropWorksFrom 3 = .ok (.bipush 8, 2) := qd0_126.2.2.2.1
theorem dX2_dropWorksFrom_5 : decode cX2_dropWorksFrom 5 = .ok (.if_icmp .ge 25, 3) := qd0_126.2.2.2.2.1
theorem dX2_dropWorksFrom_8 : decode cX2_dropWorksFrom 8 = .ok (.aload_n 0, 1) := qd0_126.2.2.2.2.2.1
theorem dX2_dropWorksFrom_9 : decode cX2_dropWorksFrom 9 = .ok (.iload_n 2, 1) := qd0_126.2.2.2.2.2.2.1
theorem dX2_dropWorksFrom_10 : decode cX2_dropWorksFrom 10 = .ok (.invokevirtual 44, 3) := qd0_126.2.2.2.2.2.2.2.1
theorem dX2_dropWorksFrom_13 : decode cX2_dropWorksFrom 13 = .ok (.iload_n 1, 1) := qd0_126.2.2.2.2.2.2.2.2.1
theorem dX2_dropWorksFrom_14 : decode cX2_dropWorksFrom 14 = .ok (.if_icmp .lt 10, 3) := qd0_126.2.2.2.2.2.2.2.2.2.1
theorem dX2_dropWorksFrom_17 : decode cX2_dropWorksFrom 17 = .ok (.aload_n 0, 1) := qd0_126.2.2.2.2.2.2.2.2.2.2.1
theorem dX2_dropWorksFrom_18 : decode cX2_dropWorksFrom 18 = .ok (.getfield 16, 3) := qd0_126.2.2.2.2.2.2.2.2.2.2.2
theorem qd0_127 : (decode cX2_dropWorksFrom 21 = .ok (.iload_n 2, 1)) ∧ (decode cX2_dropWorksFrom 22 = .ok (.iconst (-1), 1)) ∧ (decode cX2_dropWorksFrom 23 = .ok (.iastore, 1)) ∧ (decode cX2_dropWorksFrom 24 = .ok (.iinc 2 1, 3)) ∧ (decode cX2_dropWorksFrom 27 = .ok (.goto (-25), 3)) ∧ (decode cX2_dropWorksFrom 30 = .ok (.return_, 1)) := by decide +kernel
theorem dX2_dropWorksFrom_21 : decode cX2_dropWorksFrom 21 = .ok (.iload_n 2, 1) := qd0_127.1
theorem dX2_dropWorksFrom_22 : decode cX2_dropWorksFrom 22 = .ok (.iconst (-1), 1) := qd0_127.2.1
theorem dX2_dropWorksFrom_23 : decode cX2_dropWorksFrom 23 = .ok (.iastore, 1) := qd0_127.2.2.1
theorem dX2_dropWorksFrom_24 : decode cX2_dropWorksFrom 24 = .ok (.iinc 2 1, 3) := qd0_127.2.2.2.1
theorem dX2_dropWorksFrom_27 : decode cX2_dropWorksFrom 27 = .ok (.goto (-25), 3) := qd0_127.2.2.2.2.1
theorem dX2_dropWorksFrom_30 : decode cX2_dropWorksFrom 30 = .ok (.return_, 1) := qd0_127.2.2.2.2.2
theorem qd0_128 : (decode cX2_inUse 0 = .ok (.iconst 0, 1)) ∧ (decode cX2_inUse 1 = .ok (.istore_n 1, 1)) ∧ (decode cX2_inUse 2 = .ok (.iconst 0, 1)) ∧ (decode cX2_inUse 3 = .ok (.istore_n 2, 1)) ∧ (decode cX2_inUse 4 = .ok (.iload_n 2, 1)) ∧ (decode cX2_inUse 5 = .ok (.bipush 8, 2)) ∧ (decode cX2_inUse 7 = .ok (.if_icmp .ge 22, 3)) ∧ (decode cX2_inUse 10 = .ok (.aload_n 0, 1)) ∧ (decode cX2_inUse 11 = .ok (.getfield 16, 3)) ∧ (decode cX2_inUse 14 = .ok (.iload_n 2, 1)) ∧ (decode cX2_inUse 15 = .ok (.iaload, 1)) ∧ (decode cX2_inUse 16 = .ok (.iconst (-1), 1)) := by decide +kernel
theorem dX2_inUse_0 : decode cX2_inUse 0 = .ok (.iconst 0, 1) := qd0_128.1
theorem dX2_inUse_1 : decode cX2_inUse 1 = .ok (.istore_n 1, 1) := qd0_128.2.1
theorem dX2_inUse_2 : decode cX2_inUse 2 = .ok (.iconst 0, 1) := qd0_128.2.2.1
theorem dX2_inUse_3 : decode cX2_inUse 3 = .ok (.istore_n 2, 1) := qd0_128.2.2.2.1
theorem dX2_inUse_4 : decode cX2_inUse 4 = .ok (.iload_n 2, 1) := qd0_128.2.2.2.2.1
theorem dX2_inUse_5 : decode cX2_inUse 5 = .ok (.bipush 8, 2) := qd0_128.2.2.2.2.2.1
theorem dX2_inUse_7 : decode cX2_inUse 7 = .ok (.if_icmp .ge 22, 3) := qd0_128.2.2.2.2.2.2.1
theorem dX2_inUse_10 : decode cX2_inUse 10 = .ok (.aload_n 0, 1) := qd0_128.2.2.2.2.2.2.2.1
theorem dX2_inUse_11 : decode cX2_inUse 11 = .ok (.getfield 16, 3) := qd0_128.2.2.2.2.2.2.2.2.1
theorem dX2_inUse_14 : decode cX2_inUse 14 = .ok (.iload_n 2, 1) := qd0_128.2.2.2.2.2.2.2.2.2.1
theorem dX2_inUse_15 : decode cX2_inUse 15 = .ok (.iaload, 1) := qd0_128.2.2.2.2.2.2.2.2.2.2.1
theorem dX2_inUse_16 : decode cX2_inUse 16 = .ok (.iconst (-1), 1) := qd0_128.2.2.2.2.2.2.2.2.2.2.2
theorem qd0_129 : (decode cX2_inUse 17 = .ok (.if_icmp .eq 6, 3)) ∧ (decode cX2_inUse 20 = .ok (.iinc 1 1, 3)) ∧ (decode cX2_inUse 23 = .ok (.iinc 2 1, 3)) ∧ (decode cX2_inUse 26 = .ok (.goto (-22), 3)) ∧ (decode cX2_inUse 29 = .ok (.iload_n 1, 1)) ∧ (decode cX2_inUse 30 = .ok (.ireturn, 1)) := by decide +kernel
theorem dX2_inUse_17 : decode cX2_inUse 17 = .ok (.if_icmp .eq 6, 3) := qd0_129.1
theorem dX2_inUse_20 : decode cX2_inUse 20 = .ok (.iinc 1 1, 3) := qd0_129.2.1
theorem dX2_inUse_23 : decode cX2_inUse 23 = .ok (.iinc 2 1, 3) := qd0_129.2.2.1
theorem dX2_inUse_26 : decode cX2_inUse 26 = .ok (.goto (-22), 3) := qd0_129.2.2.2.1
theorem dX2_inUse_29 : decode cX2_inUse 29 = .ok (.iload_n 1, 1) := qd0_129.2.2.2.2.1
theorem dX2_inUse_30 : decode cX2_inUse 30 = .ok (.ireturn, 1) := qd0_129.2.2.2.2.2
theorem qd0_130 : (decode cX3_init 0 = .ok (.aload_n 0, 1)) ∧ (decode cX3_init 1 = .ok (.invokespecial 3, 3)) ∧ (decode cX3_init 4 = .ok (.aload_n 0, 1)) ∧ (decode cX3_init 5 = .ok (.sipush 250, 3)) ∧ (decode cX3_init 8 = .ok (.newarray .int, 2)) ∧ (decode cX3_init 10 = .ok (.putfield 11, 3)) ∧ (decode cX3_init 13 = .ok (.aload_n 0, 1)) ∧ (decode cX3_init 14 = .ok (.iconst 0, 1)) ∧ (decode cX3_init 15 = .ok (.putfield 15, 3)) ∧ (decode cX3_init 18 = .ok (.return_, 1)) := by decide +kernel
theorem dX3_init_0 : decode cX3_init 0 = .ok (.aload_n 0, 1) := qd0_130.1
theorem dX3_init_1 : decode cX3_init 1 = .ok (.invokespecial 3, 3) := qd0_130.2.1
theorem dX3_init_4 : decode cX3_init 4 = .ok (.aload_n 0, 1) := qd0_130.2.2.1
theorem dX3_init_5 : decode cX3_init 5 = .ok (.sipush 250, 3) := qd0_130.2.2.2.1
theorem dX3_init_8 : decode cX3_init 8 = .ok (.newarray .int, 2) := qd0_130.2.2.2.2.1
theorem dX3_init_10 : decode cX3_init 10 = .ok (.putfield 11, 3) := qd0_130.2.2.2.2.2.1
theorem dX3_init_13 : decode cX3_init 13 = .ok (.aload_n 0, 1) := qd0_130.2.2.2.2.2.2.1
theorem dX3_init_14 : decode cX3_init 14 = .ok (.iconst 0, 1) := qd0_130.2.2.2.2.2.2.2.1
theorem dX3_init_15 : decode cX3_init 15 = .ok (.putfield 15, 3) := qd0_130.2.2.2.2.2.2.2.2.1
theorem dX3_init_18 : decode cX3_init 18 = .ok (.return_, 1) := qd0_130.2.2.2.2.2.2.2.2.2
theorem qd0_131 : (decode cX3_put 0 = .ok (.aload_n 0, 1)) ∧ (decode cX3_put 1 = .ok (.getfield 15, 3)) ∧ (decode cX3_put 4 = .ok (.sipush 250, 3)) ∧ (decode cX3_put 7 = .ok (.if_icmp .ge 23, 3)) ∧ (decode cX3_put 10 = .ok (.aload_n 0, 1)) ∧ (decode cX3_put 11 = .ok (.getfield 11, 3)) ∧ (decode cX3_put 14 = .ok (.aload_n 0, 1)) ∧ (decode cX3_put 15 = .ok (.getfield 15, 3)) ∧ (decode cX3_put 18 = .ok (.iload_n 1, 1)) ∧ (decode cX3_put 19 = .ok (.iastore, 1)) ∧ (decode cX3_put 20 = .ok (.aload_n 0, 1)) ∧ (decode cX3_put 21 = .ok (.dup, 1)) := by decide +kernel
theorem dX3_put_0 : decode cX3_put 0 = .ok (.aload_n 0, 1) := qd0_131.1
theorem dX3_put_1 : decode cX3_put 1 = .ok (.getfield 15, 3) := qd0_131.2.1
theorem dX3_put_4 : decode cX3_put 4 = .ok (.sipush 250, 3) := qd0_131.2.2.1
theorem dX3_put_7 : decode cX3_put 7 = .ok (.if_icmp .ge 23, 3) := qd0_131.2.2.2.1
theorem dX3_put_10 : decode cX3_put 10 = .ok (.aload_n 0, 1) := qd0_131.2.2.2.2.1
theorem dX3_put_11 : decode cX3_put 11 = .ok (.getfield 11, 3) := qd0_131.2.2.2.2.2.1
theorem dX3_put_14 : decode cX3_put 14 = .ok (.aload_n 0, 1) := qd0_131.2.2.2.2.2.2.1
theorem dX3_put_15 : decode cX3_put 15 = .ok (.getfield 15, 3) := qd0_131.2.2.2.2.2.2.2.1
theorem dX3_put_18 : decode cX3_put 18 = .ok (.iload_n 1, 1) := qd0_131.2.2.2.2.2.2.2.2.1
theorem dX3_put_19 : decode cX3_put 19 = .ok (.iastore, 1) := qd0_131.2.2.2.2.2.2.2.2.2.1
theorem dX3_put_20 : decode cX3_put 20 = .ok (.aload_n 0, 1) := qd0_131.2.2.2.2.2.2.2.2.2.2.1
theorem dX3_put_21 : decode cX3_put 21 = .ok (.dup, 1) := qd0_131.2.2.2.2.2.2.2.2.2.2.2
theorem qd0_132 : (decode cX3_put 22 = .ok (.getfield 15, 3)) ∧ (decode cX3_put 25 = .ok (.iconst 1, 1)) ∧ (decode cX3_put 26 = .ok (.iadd, 1)) ∧ (decode cX3_put 27 = .ok (.putfield 15, 3)) ∧ (decode cX3_put 30 = .ok (.return_, 1)) := by decide +kernel
theorem dX3_put_22 : decode cX3_put 22 = .ok (.getfield 15, 3) := qd0_132.1
theorem dX3_put_25 : decode cX3_put 25 = .ok (.iconst 1, 1) := qd0_132.2.1
theorem dX3_put_26 : decode cX3_put 26 = .ok (.iadd, 1) := qd0_132.2.2.1
theorem dX3_put_27 : decode cX3_put 27 = .ok (.putfield 15, 3) := qd0_132.2.2.2.1
theorem dX3_put_30 : decode cX3_put 30 = .ok (.return_, 1) := qd0_132.2.2.2.2
theorem qd0_133 : (decode cX3_readInto 0 = .ok (.aload_n 0, 1)) ∧ (decode cX3_readInto 1 = .ok (.iconst 0, 1)) ∧ (decode cX3_readInto 2 = .ok (.putfield 19, 3)) ∧ (decode cX3_readInto 5 = .ok (.aload_n 0, 1)) ∧ (decode cX3_readInto 6 = .ok (.invokevirtual 22, 3)) ∧ (decode cX3_readInto 9 = .ok (.iconst 1, 1)) ∧ (decode cX3_readInto 10 = .ok (.istore_n 2, 1)) ∧ (decode cX3_readInto 11 = .ok (.iload_n 2, 1)) ∧ (decode cX3_readInto 12 = .ok (.sipush 250, 3)) ∧ (decode cX3_readInto 15 = .ok (.if_icmp .gt 54, 3)) ∧ (decode cX3_readInto 18 = .ok (.aload_n 0, 1)) ∧ (decode cX3_readInto 19 = .ok (.aload_n 1, 1)) := by decide +kernel
theorem dX3_readInto_0 : decode cX3_readInto 0 = .ok (.aload_n 0, 1) := qd0_133.1
theorem dX3_readInto_1 : decode cX3_readInto 1 = .ok (.iconst 0, 1) := qd0_133.2.1
theorem dX3_readInto_2 : decode cX3_readInto 2 = .ok (.putfield 19, 3) := qd0_133.2.2.1
theorem dX3_readInto_5 : decode cX3_readInto 5 = .ok (.aload_n 0, 1) := qd0_133.2.2.2.1
theorem dX3_readInto_6 : decode cX3_readInto 6 = .ok (.invokevirtual 22, 3) := qd0_133.2.2.2.2.1
theorem dX3_readInto_9 : decode cX3_readInto 9 = .ok (.iconst 1, 1) := qd0_133.2.2.2.2.2.1
theorem dX3_readInto_10 : decode cX3_readInto 10 = .ok (.istore_n 2, 1) := qd0_133.2.2.2.2.2.2.1
theorem dX3_readInto_11 : decode cX3_readInto 11 = .ok (.iload_n 2, 1) := qd0_133.2.2.2.2.2.2.2.1
theorem dX3_readInto_12 : decode cX3_readInto 12 = .ok (.sipush 250, 3) := qd0_133.2.2.2.2.2.2.2.2.1
theorem dX3_readInto_15 : decode cX3_readInto 15 = .ok (.if_icmp .gt 54, 3) := qd0_133.2.2.2.2.2.2.2.2.2.1
theorem dX3_readInto_18 : decode cX3_readInto 18 = .ok (.aload_n 0, 1) := qd0_133.2.2.2.2.2.2.2.2.2.2.1
theorem dX3_readInto_19 : decode cX3_readInto 19 = .ok (.aload_n 1, 1) := qd0_133.2.2.2.2.2.2.2.2.2.2.2
theorem qd0_134 : (decode cX3_readInto 20 = .ok (.invokevirtual 25, 3)) ∧ (decode cX3_readInto 23 = .ok (.ifCond .ne 11, 3)) ∧ (decode cX3_readInto 26 = .ok (.bipush (-20), 2)) ∧ (decode cX3_readInto 28 = .ok (.aload_n 0, 1)) ∧ (decode cX3_readInto 29 = .ok (.getfield 29, 3)) ∧ (decode cX3_readInto 32 = .ok (.isub, 1)) ∧ (decode cX3_readInto 33 = .ok (.ireturn, 1)) ∧ (decode cX3_readInto 34 = .ok (.aload_n 0, 1)) ∧ (decode cX3_readInto 35 = .ok (.getfield 32, 3)) ∧ (decode cX3_readInto 38 = .ok (.ifCond .ne 5, 3)) ∧ (decode cX3_readInto 41 = .ok (.iload_n 2, 1)) ∧ (decode cX3_readInto 42 = .ok (.ireturn, 1)) := by decide +kernel
theorem dX3_readInto_20 : decode cX3_readInto 20 = .ok (.invokevirtual 25, 3) := qd0_134.1
theorem dX3_readInto_23 : decode cX3_readInto 23 = .ok (.ifCond .ne 11, 3) := qd0_134.2.1
theorem dX3_readInto_26 : decode cX3_readInto 26 = .ok (.bipush (-20), 2) := qd0_134.2.2.1
theorem dX3_readInto_28 : decode cX3_readInto 28 = .ok (.aload_n 0, 1) := qd0_134.2.2.2.1
theorem dX3_readInto_29 : decode cX3_readInto 29 = .ok (.getfield 29, 3) := qd0_134.2.2.2.2.1
theorem dX3_readInto_32 : decode cX3_readInto 32 = .ok (.isub, 1) := qd0_134.2.2.2.2.2.1
theorem dX3_readInto_33 : decode cX3_readInto 33 = .ok (.ireturn, 1) := qd0_134.2.2.2.2.2.2.1
theorem dX3_readInto_34 : decode cX3_readInto 34 = .ok (.aload_n 0, 1) := qd0_134.2.2.2.2.2.2.2.1
theorem dX3_readInto_35 : decode cX3_readInto 35 = .ok (.getfield 32, 3) := qd0_134.2.2.2.2.2.2.2.2.1
theorem dX3_readInto_38 : decode cX3_readInto 38 = .ok (.ifCond .ne 5, 3) := qd0_134.2.2.2.2.2.2.2.2.2.1
theorem dX3_readInto_41 : decode cX3_readInto 41 = .ok (.iload_n 2, 1) := qd0_134.2.2.2.2.2.2.2.2.2.2.1
theorem dX3_readInto_42 : decode cX3_readInto 42 = .ok (.ireturn, 1) := qd0_134.2.2.2.2.2.2.2.2.2.2.2
theorem qd0_135 : (decode cX3_readInto 43 = .ok (.aload_n 0, 1)) ∧ (decode cX3_readInto 44 = .ok (.getfield 32, 3)) ∧ (decode cX3_readInto 47 = .ok (.iconst 3, 1)) ∧ (decode cX3_readInto 48 = .ok (.if_icmp .eq 11, 3)) ∧ (decode cX3_readInto 51 = .ok (.bipush (-20), 2)) ∧ (decode cX3_readInto 53 = .ok (.aload_n 0, 1)) ∧ (decode cX3_readInto 54 = .ok (.getfield 29, 3)) ∧ (decode cX3_readInto 57 = .ok (.isub, 1)) ∧ (decode cX3_readInto 58 = .ok (.ireturn, 1)) ∧ (decode cX3_readInto 59 = .ok (.aload_n 0, 1)) ∧ (decode cX3_readInto 60 = .ok (.invokevirtual 22, 3)) ∧ (decode cX3_readInto 63 = .ok (.iinc 2 1, 3)) := by decide +kernel
theorem dX3_readInto_43 : decode cX3_readInto 43 = .ok (.aload_n 0, 1) := qd0_135.1
theorem dX3_readInto_44 : decode cX3_readInto 44 = .ok (.getfield 32, 3) := qd0_135.2.1
theorem dX3_readInto_47 : decode cX3_readInto 47 = .ok (.iconst 3, 1) := qd0_135.2.2.1
theorem dX3_readInto_48 : decode cX3_readInto 48 = .ok (.if_icmp .eq 11, 3) := qd0_135.2.2.2.1
theorem dX3_readInto_51 : decode cX3_readInto 51 = .ok (.bipush (-20), 2) := qd0_135.2.2.2.2.1
theorem dX3_readInto_53 : decode cX3_readInto 53 = .ok (.aload_n 0, 1) := qd0_135.2.2.2.2.2.1
theorem dX3_readInto_54 : decode cX3_readInto 54 = .ok (.getfield 29, 3) := qd0_135.2.2.2.2.2.2.1
theorem dX3_readInto_57 : decode cX3_readInto 57 = .ok (.isub, 1) := qd0_135.2.2.2.2.2.2.2.1
theorem dX3_readInto_58 : decode cX3_readInto 58 = .ok (.ireturn, 1) := qd0_135.2.2.2.2.2.2.2.2.1
theorem dX3_readInto_59 : decode cX3_readInto 59 = .ok (.aload_n 0, 1) := qd0_135.2.2.2.2.2.2.2.2.2.1
theorem dX3_readInto_60 : decode cX3_readInto 60 = .ok (.invokevirtual 22, 3) := qd0_135.2.2.2.2.2.2.2.2.2.2.1
theorem dX3_readInto_63 : decode cX3_readInto 63 = .ok (.iinc 2 1, 3) := qd0_135.2.2.2.2.2.2.2.2.2.2.2
theorem qd0_136 : (decode cX3_readInto 66 = .ok (.goto (-55), 3)) ∧ (decode cX3_readInto 69 = .ok (.bipush (-20), 2)) ∧ (decode cX3_readInto 71 = .ok (.aload_n 0, 1)) ∧ (decode cX3_readInto 72 = .ok (.getfield 29, 3)) ∧ (decode cX3_readInto 75 = .ok (.isub, 1)) ∧ (decode cX3_readInto 76 = .ok (.ireturn, 1)) := by decide +kernel
theorem dX3_readInto_66 : decode cX3_readInto 66 = .ok (.goto (-55), 3) := qd0_136.1
theorem dX3_readInto_69 : decode cX3_readInto 69 = .ok (.bipush (-20), 2) := qd0_136.2.1
theorem dX3_readInto_71 : decode cX3_readInto 71 = .ok (.aload_n 0, 1) := qd0_136.2.2.1
theorem dX3_readInto_72 : decode cX3_readInto 72 = .ok (.getfield 29, 3) := qd0_136.2.2.2.1
theorem dX3_readInto_75 : decode cX3_readInto 75 = .ok (.isub, 1) := qd0_136.2.2.2.2.1
theorem dX3_readInto_76 : decode cX3_readInto 76 = .ok (.ireturn, 1) := qd0_136.2.2.2.2.2
theorem qd0_137 : (decode cX3_readStatement 0 = .ok (.aload_n 0, 1)) ∧ (decode cX3_readStatement 1 = .ok (.ldc 35, 2)) ∧ (decode cX3_readStatement 3 = .ok (.invokevirtual 37, 3)) ∧ (decode cX3_readStatement 6 = .ok (.ifCond .eq 26, 3)) ∧ (decode cX3_readStatement 9 = .ok (.aload_n 1, 1)) ∧ (decode cX3_readStatement 10 = .ok (.getfield 41, 3)) ∧ (decode cX3_readStatement 13 = .ok (.bipush 20, 2)) ∧ (decode cX3_readStatement 15 = .ok (.if_icmp .ge 15, 3)) ∧ (decode cX3_readStatement 18 = .ok (.aload_n 0, 1)) ∧ (decode cX3_readStatement 19 = .ok (.aload_n 1, 1)) ∧ (decode cX3_readStatement 20 = .ok (.invokevirtual 46, 3)) ∧ (decode cX3_readStatement 23 = .ok (.ifCond .eq 7, 3)) := by decide +kernel
theorem dX3_readStatement_0 : decode cX3_readStatement 0 = .ok (.aload_n 0, 1) := qd0_137.1
theorem dX3_readStatement_1 : decode cX3_readStatement 1 = .ok (.ldc 35, 2) := qd0_137.2.1
theorem dX3_readStatement_3 : decode cX3_readStatement 3 = .ok (.invokevirtual 37, 3) := qd0_137.2.2.1
theorem dX3_readStatement_6 : decode cX3_readStatement 6 = .ok (.ifCond .eq 26, 3) := qd0_137.2.2.2.1
theorem dX3_readStatement_9 : decode cX3_readStatement 9 = .ok (.aload_n 1, 1) := qd0_137.2.2.2.2.1
theorem dX3_readStatement_10 : decode cX3_readStatement 10 = .ok (.getfield 41, 3) := qd0_137.2.2.2.2.2.1
theorem dX3_readStatement_13 : decode cX3_readStatement 13 = .ok (.bipush 20, 2) := qd0_137.2.2.2.2.2.2.1
theorem dX3_readStatement_15 : decode cX3_readStatement 15 = .ok (.if_icmp .ge 15, 3) := qd0_137.2.2.2.2.2.2.2.1
theorem dX3_readStatement_18 : decode cX3_readStatement 18 = .ok (.aload_n 0, 1) := qd0_137.2.2.2.2.2.2.2.2.1
theorem dX3_readStatement_19 : decode cX3_readStatement 19 = .ok (.aload_n 1, 1) := qd0_137.2.2.2.2.2.2.2.2.2.1
theorem dX3_readStatement_20 : decode cX3_readStatement 20 = .ok (.invokevirtual 46, 3) := qd0_137.2.2.2.2.2.2.2.2.2.2.1
theorem dX3_readStatement_23 : decode cX3_readStatement 23 = .ok (.ifCond .eq 7, 3) := qd0_137.2.2.2.2.2.2.2.2.2.2.2
theorem qd0_138 : (decode cX3_readStatement 26 = .ok (.iconst 1, 1)) ∧ (decode cX3_readStatement 27 = .ok (.goto 4, 3)) ∧ (decode cX3_readStatement 30 = .ok (.iconst 0, 1)) ∧ (decode cX3_readStatement 31 = .ok (.ireturn, 1)) ∧ (decode cX3_readStatement 32 = .ok (.aload_n 0, 1)) ∧ (decode cX3_readStatement 33 = .ok (.ldc 49, 2)) ∧ (decode cX3_readStatement 35 = .ok (.invokevirtual 37, 3)) ∧ (decode cX3_readStatement 38 = .ok (.ifCond .eq 26, 3)) ∧ (decode cX3_readStatement 41 = .ok (.aload_n 1, 1)) ∧ (decode cX3_readStatement 42 = .ok (.getfield 51, 3)) ∧ (decode cX3_readStatement 45 = .ok (.bipush 8, 2)) ∧ (decode cX3_readStatement 47 = .ok (.if_icmp .ge 15, 3)) := by decide +kernel
theorem dX3_readStatement_26 : decode cX3_readStatement 26 = .ok (.iconst 1, 1) := qd0_138.1
theorem dX3_readStatement_27 : decode cX3_readStatement 27 = .ok (.goto 4, 3) := qd0_138.2.1
theorem dX3_readStatement_30 : decode cX3_readStatement 30 = .ok (.iconst 0, 1) := qd0_138.2.2.1
theorem dX3_readStatement_31 : decode cX3_readStatement 31 = .ok (.ireturn, 1) := qd0_138.2.2.2.1
theorem dX3_readStatement_32 : decode cX3_readStatement 32 = .ok (.aload_n 0, 1) := qd0_138.2.2.2.2.1
theorem dX3_readStatement_33 : decode cX3_readStatement 33 = .ok (.ldc 49, 2) := qd0_138.2.2.2.2.2.1
theorem dX3_readStatement_35 : decode cX3_readStatement 35 = .ok (.invokevirtual 37, 3) := qd0_138.2.2.2.2.2.2.1
theorem dX3_readStatement_38 : decode cX3_readStatement 38 = .ok (.ifCond .eq 26, 3) := qd0_138.2.2.2.2.2.2.2.1
theorem dX3_readStatement_41 : decode cX3_readStatement 41 = .ok (.aload_n 1, 1) := qd0_138.2.2.2.2.2.2.2.2.1
theorem dX3_readStatement_42 : decode cX3_readStatement 42 = .ok (.getfield 51, 3) := qd0_138.2.2.2.2.2.2.2.2.2.1
theorem dX3_readStatement_45 : decode cX3_readStatement 45 = .ok (.bipush 8, 2) := qd0_138.2.2.2.2.2.2.2.2.2.2.1
theorem dX3_readStatement_47 : decode cX3_readStatement 47 = .ok (.if_icmp .ge 15, 3) := qd0_138.2.2.2.2.2.2.2.2.2.2.2
theorem qd0_139 : (decode cX3_readStatement 50 = .ok (.aload_n 0, 1)) ∧ (decode cX3_readStatement 51 = .ok (.aload_n 1, 1)) ∧ (decode cX3_readStatement 52 = .ok (.invokevirtual 54, 3)) ∧ (decode cX3_readStatement 55 = .ok (.ifCond .eq 7, 3)) ∧ (decode cX3_readStatement 58 = .ok (.iconst 1, 1)) ∧ (decode cX3_readStatement 59 = .ok (.goto 4, 3)) ∧ (decode cX3_readStatement 62 = .ok (.iconst 0, 1)) ∧ (decode cX3_readStatement 63 = .ok (.ireturn, 1)) ∧ (decode cX3_readStatement 64 = .ok (.aload_n 0, 1)) ∧ (decode cX3_readStatement 65 = .ok (.ldc 57, 2)) ∧ (decode cX3_readStatement 67 = .ok (.invokevirtual 37, 3)) ∧ (decode cX3_readStatement 70 = .ok (.ifCond .eq 26, 3)) := by decide +kernel
theorem dX3_readStatement_50 : decode cX3_readStatement 50 = .ok (.aload_n 0, 1) := qd0_139.1
theorem dX3_readStatement_51 : decode cX3_readStatement 51 = .ok (.aload_n 1, 1) := qd0_139.2.1
theorem dX3_readStatement_52 : decode cX3_readStatement 52 = .ok (.invokevirtual 54, 3) := qd0_139.2.2.1
theorem dX3_readStatement_55 : decode cX3_readStatement 55 = .ok (.ifCond .eq 7, 3) := qd0_139.2.2.2.1
theorem dX3_readStatement_58 : decode cX3_readStatement 58 = .ok (.iconst 1, 1) := qd0_139.2.2.2.2.1
theorem dX3_readStatement_59 : decode cX3_readStatement 59 = .ok (.goto 4, 3) := qd0_139.2.2.2.2.2.1
theorem dX3_readStatement_62 : decode cX3_readStatement 62 = .ok (.iconst 0, 1) := qd0_139.2.2.2.2.2.2.1
theorem dX3_readStatement_63 : decode cX3_readStatement 63 = .ok (.ireturn, 1) := qd0_139.2.2.2.2.2.2.2.1
theorem dX3_readStatement_64 : decode cX3_readStatement 64 = .ok (.aload_n 0, 1) := qd0_139.2.2.2.2.2.2.2.2.1
theorem dX3_readStatement_65 : decode cX3_readStatement 65 = .ok (.ldc 57, 2) := qd0_139.2.2.2.2.2.2.2.2.2.1
theorem dX3_readStatement_67 : decode cX3_readStatement 67 = .ok (.invokevirtual 37, 3) := qd0_139.2.2.2.2.2.2.2.2.2.2.1
theorem dX3_readStatement_70 : decode cX3_readStatement 70 = .ok (.ifCond .eq 26, 3) := qd0_139.2.2.2.2.2.2.2.2.2.2.2
theorem qd0_140 : (decode cX3_readStatement 73 = .ok (.aload_n 1, 1)) ∧ (decode cX3_readStatement 74 = .ok (.getfield 59, 3)) ∧ (decode cX3_readStatement 77 = .ok (.bipush 7, 2)) ∧ (decode cX3_readStatement 79 = .ok (.if_icmp .ge 15, 3)) ∧ (decode cX3_readStatement 82 = .ok (.aload_n 0, 1)) ∧ (decode cX3_readStatement 83 = .ok (.aload_n 1, 1)) ∧ (decode cX3_readStatement 84 = .ok (.invokevirtual 62, 3)) ∧ (decode cX3_readStatement 87 = .ok (.ifCond .eq 7, 3)) ∧ (decode cX3_readStatement 90 = .ok (.iconst 1, 1)) ∧ (decode cX3_readStatement 91 = .ok (.goto 4, 3)) ∧ (decode cX3_readStatement 94 = .ok (.iconst 0, 1)) ∧ (decode cX3_readStatement 95 = .ok (.ireturn, 1)) := by decide +kernel
theorem dX3_readStatement_73 : decode cX3_readStatement 73 = .ok (.aload_n 1, 1) := qd0_140.1
theorem dX3_readStatement_74 : decode cX3_readStatement 74 = .ok (.getfield 59, 3) := qd0_140.2.1
theorem dX3_readStatement_77 : decode cX3_readStatement 77 = .ok (.bipush 7, 2) := qd0_140.2.2.1
theorem dX3_readStatement_79 : decode cX3_readStatement 79 = .ok (.if_icmp .ge 15, 3) := qd0_140.2.2.2.1
theorem dX3_readStatement_82 : decode cX3_readStatement 82 = .ok (.aload_n 0, 1) := qd0_140.2.2.2.2.1
theorem dX3_readStatement_83 : decode cX3_readStatement 83 = .ok (.aload_n 1, 1) := qd0_140.2.2.2.2.2.1
theorem dX3_readStatement_84 : decode cX3_readStatement 84 = .ok (.invokevirtual 62, 3) := qd0_140.2.2.2.2.2.2.1
theorem dX3_readStatement_87 : decode cX3_readStatement 87 = .ok (.ifCond .eq 7, 3) := qd0_140.2.2.2.2.2.2.2.1
theorem dX3_readStatement_90 : decode cX3_readStatement 90 = .ok (.iconst 1, 1) := qd0_140.2.2.2.2.2.2.2.2.1
theorem dX3_readStatement_91 : decode cX3_readStatement 91 = .ok (.goto 4, 3) := qd0_140.2.2.2.2.2.2.2.2.2.1
theorem dX3_readStatement_94 : decode cX3_readStatement 94 = .ok (.iconst 0, 1) := qd0_140.2.2.2.2.2.2.2.2.2.2.1
theorem dX3_readStatement_95 : decode cX3_readStatement 95 = .ok (.ireturn, 1) := qd0_140.2.2.2.2.2.2.2.2.2.2.2
theorem qd0_141 : (decode cX3_readStatement 96 = .ok (.aload_n 0, 1)) ∧ (decode cX3_readStatement 97 = .ok (.ldc 65, 2)) ∧ (decode cX3_readStatement 99 = .ok (.invokevirtual 37, 3)) ∧ (decode cX3_readStatement 102 = .ok (.ifCond .eq 9, 3)) ∧ (decode cX3_readStatement 105 = .ok (.aload_n 0, 1)) ∧ (decode cX3_readStatement 106 = .ok (.aload_n 1, 1)) ∧ (decode cX3_readStatement 107 = .ok (.invokevirtual 67, 3)) ∧ (decode cX3_readStatement 110 = .ok (.ireturn, 1)) ∧ (decode cX3_readStatement 111 = .ok (.aload_n 0, 1)) ∧ (decode cX3_readStatement 112 = .ok (.ldc 70, 2)) ∧ (decode cX3_readStatement 114 = .ok (.invokevirtual 37, 3)) ∧ (decode cX3_readStatement 117 = .ok (.ifCond .eq 9, 3)) := by decide +kernel
theorem dX3_readStatement_96 : decode cX3_readStatement 96 = .ok (.aload_n 0, 1) := qd0_141.1
theorem dX3_readStatement_97 : decode cX3_readStatement 97 = .ok (.ldc 65, 2) := qd0_141.2.1
theorem dX3_readStatement_99 : decode cX3_readStatement 99 = .ok (.invokevirtual 37, 3) := qd0_141.2.2.1
theorem dX3_readStatement_102 : decode cX3_readStatement 102 = .ok (.ifCond .eq 9, 3) := qd0_141.2.2.2.1
theorem dX3_readStatement_105 : decode cX3_readStatement 105 = .ok (.aload_n 0, 1) := qd0_141.2.2.2.2.1
theorem dX3_readStatement_106 : decode cX3_readStatement 106 = .ok (.aload_n 1, 1) := qd0_141.2.2.2.2.2.1
theorem dX3_readStatement_107 : decode cX3_readStatement 107 = .ok (.invokevirtual 67, 3) := qd0_141.2.2.2.2.2.2.1
theorem dX3_readStatement_110 : decode cX3_readStatement 110 = .ok (.ireturn, 1) := qd0_141.2.2.2.2.2.2.2.1
theorem dX3_readStatement_111 : decode cX3_readStatement 111 = .ok (.aload_n 0, 1) := qd0_141.2.2.2.2.2.2.2.2.1
theorem dX3_readStatement_112 : decode cX3_readStatement 112 = .ok (.ldc 70, 2) := qd0_141.2.2.2.2.2.2.2.2.2.1
theorem dX3_readStatement_114 : decode cX3_readStatement 114 = .ok (.invokevirtual 37, 3) := qd0_141.2.2.2.2.2.2.2.2.2.2.1
theorem dX3_readStatement_117 : decode cX3_readStatement 117 = .ok (.ifCond .eq 9, 3) := qd0_141.2.2.2.2.2.2.2.2.2.2.2
theorem qd0_142 : (decode cX3_readStatement 120 = .ok (.aload_n 0, 1)) ∧ (decode cX3_readStatement 121 = .ok (.aload_n 1, 1)) ∧ (decode cX3_readStatement 122 = .ok (.invokevirtual 72, 3)) ∧ (decode cX3_readStatement 125 = .ok (.ireturn, 1)) ∧ (decode cX3_readStatement 126 = .ok (.aload_n 0, 1)) ∧ (decode cX3_readStatement 127 = .ok (.ldc 75, 2)) ∧ (decode cX3_readStatement 129 = .ok (.invokevirtual 37, 3)) ∧ (decode cX3_readStatement 132 = .ok (.ifCond .eq 15, 3)) ∧ (decode cX3_readStatement 135 = .ok (.aload_n 0, 1)) ∧ (decode cX3_readStatement 136 = .ok (.aload_n 1, 1)) ∧ (decode cX3_readStatement 137 = .ok (.invokevirtual 77, 3)) ∧ (decode cX3_readStatement 140 = .ok (.ifCond .eq 7, 3)) := by decide +kernel
theorem dX3_readStatement_120 : decode cX3_readStatement 120 = .ok (.aload_n 0, 1) := qd0_142.1
theorem dX3_readStatement_121 : decode cX3_readStatement 121 = .ok (.aload_n 1, 1) := qd0_142.2.1
theorem dX3_readStatement_122 : decode cX3_readStatement 122 = .ok (.invokevirtual 72, 3) := qd0_142.2.2.1
theorem dX3_readStatement_125 : decode cX3_readStatement 125 = .ok (.ireturn, 1) := qd0_142.2.2.2.1
theorem dX3_readStatement_126 : decode cX3_readStatement 126 = .ok (.aload_n 0, 1) := qd0_142.2.2.2.2.1
theorem dX3_readStatement_127 : decode cX3_readStatement 127 = .ok (.ldc 75, 2) := qd0_142.2.2.2.2.2.1
theorem dX3_readStatement_129 : decode cX3_readStatement 129 = .ok (.invokevirtual 37, 3) := qd0_142.2.2.2.2.2.2.1
theorem dX3_readStatement_132 : decode cX3_readStatement 132 = .ok (.ifCond .eq 15, 3) := qd0_142.2.2.2.2.2.2.2.1
theorem dX3_readStatement_135 : decode cX3_readStatement 135 = .ok (.aload_n 0, 1) := qd0_142.2.2.2.2.2.2.2.2.1
theorem dX3_readStatement_136 : decode cX3_readStatement 136 = .ok (.aload_n 1, 1) := qd0_142.2.2.2.2.2.2.2.2.2.1
theorem dX3_readStatement_137 : decode cX3_readStatement 137 = .ok (.invokevirtual 77, 3) := qd0_142.2.2.2.2.2.2.2.2.2.2.1
theorem dX3_readStatement_140 : decode cX3_readStatement 140 = .ok (.ifCond .eq 7, 3) := qd0_142.2.2.2.2.2.2.2.2.2.2.2
theorem qd0_143 : (decode cX3_readStatement 143 = .ok (.iconst 1, 1)) ∧ (decode cX3_readStatement 144 = .ok (.goto 4, 3)) ∧ (decode cX3_readStatement 147 = .ok (.iconst 0, 1)) ∧ (decode cX3_readStatement 148 = .ok (.ireturn, 1)) := by decide +kernel
theorem dX3_readStatement_143 : decode cX3_readStatement 143 = .ok (.iconst 1, 1) := qd0_143.1
theorem dX3_readStatement_144 : decode cX3_readStatement 144 = .ok (.goto 4, 3) := qd0_143.2.1
theorem dX3_readStatement_147 : decode cX3_readStatement 147 = .ok (.iconst 0, 1) := qd0_143.2.2.1
theorem dX3_readStatement_148 : decode cX3_readStatement 148 = .ok (.ireturn, 1) := qd0_143.2.2.2
theorem qd0_144 : (decode cX3_readLine 0 = .ok (.aload_n 0, 1)) ∧ (decode cX3_readLine 1 = .ok (.invokevirtual 22, 3)) ∧ (decode cX3_readLine 4 = .ok (.aload_n 0, 1)) ∧ (decode cX3_readLine 5 = .ok (.iconst 0, 1)) ∧ (decode cX3_readLine 6 = .ok (.bipush 11, 2)) ∧ (decode cX3_readLine 8 = .ok (.invokevirtual 80, 3)) ∧ (decode cX3_readLine 11 = .ok (.istore_n 2, 1)) ∧ (decode cX3_readLine 12 = .ok (.iload_n 2, 1)) ∧ (decode cX3_readLine 13 = .ok (.iconst (-1), 1)) ∧ (decode cX3_readLine 14 = .ok (.if_icmp .ne 7, 3)) ∧ (decode cX3_readLine 17 = .ok (.iconst (-1), 1)) ∧ (decode cX3_readLine 18 = .ok (.goto 10, 3)) := by decide +kernel
theorem dX3_readLine_0 : decode cX3_readLine 0 = .ok (.aload_n 0, 1) := qd0_144.1
theorem dX3_readLine_1 : decode cX3_readLine 1 = .ok (.invokevirtual 22, 3) := qd0_144.2.1
theorem dX3_readLine_4 : decode cX3_readLine 4 = .ok (.aload_n 0, 1) := qd0_144.2.2.1
theorem dX3_readLine_5 : decode cX3_readLine 5 = .ok (.iconst 0, 1) := qd0_144.2.2.2.1
theorem dX3_readLine_6 : decode cX3_readLine 6 = .ok (.bipush 11, 2) := qd0_144.2.2.2.2.1
theorem dX3_readLine_8 : decode cX3_readLine 8 = .ok (.invokevirtual 80, 3) := qd0_144.2.2.2.2.2.1
theorem dX3_readLine_11 : decode cX3_readLine 11 = .ok (.istore_n 2, 1) := qd0_144.2.2.2.2.2.2.1
theorem dX3_readLine_12 : decode cX3_readLine 12 = .ok (.iload_n 2, 1) := qd0_144.2.2.2.2.2.2.2.1
theorem dX3_readLine_13 : decode cX3_readLine 13 = .ok (.iconst (-1), 1) := qd0_144.2.2.2.2.2.2.2.2.1
theorem dX3_readLine_14 : decode cX3_readLine 14 = .ok (.if_icmp .ne 7, 3) := qd0_144.2.2.2.2.2.2.2.2.2.1
theorem dX3_readLine_17 : decode cX3_readLine 17 = .ok (.iconst (-1), 1) := qd0_144.2.2.2.2.2.2.2.2.2.2.1
theorem dX3_readLine_18 : decode cX3_readLine 18 = .ok (.goto 10, 3) := qd0_144.2.2.2.2.2.2.2.2.2.2.2
theorem qd0_145 : (decode cX3_readLine 21 = .ok (.aload_n 0, 1)) ∧ (decode cX3_readLine 22 = .ok (.iload_n 2, 1)) ∧ (decode cX3_readLine 23 = .ok (.bipush 11, 2)) ∧ (decode cX3_readLine 25 = .ok (.invokevirtual 84, 3)) ∧ (decode cX3_readLine 28 = .ok (.istore_n 3, 1)) ∧ (decode cX3_readLine 29 = .ok (.iload_n 3, 1)) ∧ (decode cX3_readLine 30 = .ok (.iconst (-1), 1)) ∧ (decode cX3_readLine 31 = .ok (.if_icmp .eq 12, 3)) ∧ (decode cX3_readLine 34 = .ok (.aload_n 0, 1)) ∧ (decode cX3_readLine 35 = .ok (.ldc 87, 2)) ∧ (decode cX3_readLine 37 = .ok (.invokevirtual 37, 3)) ∧ (decode cX3_readLine 40 = .ok (.ifCond .ne 5, 3)) := by decide +kernel
theorem dX3_readLine_21 : decode cX3_readLine 21 = .ok (.aload_n 0, 1) := qd0_145.1
theorem dX3_readLine_22 : decode cX3_readLine 22 = .ok (.iload_n 2, 1) := qd0_145.2.1
theorem dX3_readLine_23 : decode cX3_readLine 23 = .ok (.bipush 11, 2) := qd0_145.2.2.1
theorem dX3_readLine_25 : decode cX3_readLine 25 = .ok (.invokevirtual 84, 3) := qd0_145.2.2.2.1
theorem dX3_readLine_28 : decode cX3_readLine 28 = .ok (.istore_n 3, 1) := qd0_145.2.2.2.2.1
theorem dX3_readLine_29 : decode cX3_readLine 29 = .ok (.iload_n 3, 1) := qd0_145.2.2.2.2.2.1
theorem dX3_readLine_30 : decode cX3_readLine 30 = .ok (.iconst (-1), 1) := qd0_145.2.2.2.2.2.2.1
theorem dX3_readLine_31 : decode cX3_readLine 31 = .ok (.if_icmp .eq 12, 3) := qd0_145.2.2.2.2.2.2.2.1
theorem dX3_readLine_34 : decode cX3_readLine 34 = .ok (.aload_n 0, 1) := qd0_145.2.2.2.2.2.2.2.2.1
theorem dX3_readLine_35 : decode cX3_readLine 35 = .ok (.ldc 87, 2) := qd0_145.2.2.2.2.2.2.2.2.2.1
theorem dX3_readLine_37 : decode cX3_readLine 37 = .ok (.invokevirtual 37, 3) := qd0_145.2.2.2.2.2.2.2.2.2.2.1
theorem dX3_readLine_40 : decode cX3_readLine 40 = .ok (.ifCond .ne 5, 3) := qd0_145.2.2.2.2.2.2.2.2.2.2.2
theorem qd0_146 : (decode cX3_readLine 43 = .ok (.iconst 0, 1)) ∧ (decode cX3_readLine 44 = .ok (.ireturn, 1)) ∧ (decode cX3_readLine 45 = .ok (.aload_n 0, 1)) ∧ (decode cX3_readLine 46 = .ok (.invokevirtual 22, 3)) ∧ (decode cX3_readLine 49 = .ok (.aload_n 0, 1)) ∧ (decode cX3_readLine 50 = .ok (.iconst 1, 1)) ∧ (decode cX3_readLine 51 = .ok (.bipush 7, 2)) ∧ (decode cX3_readLine 53 = .ok (.invokevirtual 80, 3)) ∧ (decode cX3_readLine 56 = .ok (.istore 4, 2)) ∧ (decode cX3_readLine 58 = .ok (.iload 4, 2)) ∧ (decode cX3_readLine 60 = .ok (.iconst (-1), 1)) ∧ (decode cX3_readLine 61 = .ok (.if_icmp .eq 12, 3)) := by decide +kernel
theorem dX3_readLine_43 : decode cX3_readLine 43 = .ok (.iconst 0, 1) := qd0_146.1
theorem dX3_readLine_44 : decode cX3_readLine 44 = .ok (.ireturn, 1) := qd0_146.2.1
theorem dX3_readLine_45 : decode cX3_readLine 45 = .ok (.aload_n 0, 1) := qd0_146.2.2.1
theorem dX3_readLine_46 : decode cX3_readLine 46 = .ok (.invokevirtual 22, 3) := qd0_146.2.2.2.1
theorem dX3_readLine_49 : decode cX3_readLine 49 = .ok (.aload_n 0, 1) := qd0_146.2.2.2.2.1
theorem dX3_readLine_50 : decode cX3_readLine 50 = .ok (.iconst 1, 1) := qd0_146.2.2.2.2.2.1
theorem dX3_readLine_51 : decode cX3_readLine 51 = .ok (.bipush 7, 2) := qd0_146.2.2.2.2.2.2.1
theorem dX3_readLine_53 : decode cX3_readLine 53 = .ok (.invokevirtual 80, 3) := qd0_146.2.2.2.2.2.2.2.1
theorem dX3_readLine_56 : decode cX3_readLine 56 = .ok (.istore 4, 2) := qd0_146.2.2.2.2.2.2.2.2.1
theorem dX3_readLine_58 : decode cX3_readLine 58 = .ok (.iload 4, 2) := qd0_146.2.2.2.2.2.2.2.2.2.1
theorem dX3_readLine_60 : decode cX3_readLine 60 = .ok (.iconst (-1), 1) := qd0_146.2.2.2.2.2.2.2.2.2.2.1
theorem dX3_readLine_61 : decode cX3_readLine 61 = .ok (.if_icmp .eq 12, 3) := qd0_146.2.2.2.2.2.2.2.2.2.2.2
theorem qd0_147 : (decode cX3_readLine 64 = .ok (.aload_n 0, 1)) ∧ (decode cX3_readLine 65 = .ok (.ldc 89, 2)) ∧ (decode cX3_readLine 67 = .ok (.invokevirtual 37, 3)) ∧ (decode cX3_readLine 70 = .ok (.ifCond .ne 5, 3)) ∧ (decode cX3_readLine 73 = .ok (.iconst 0, 1)) ∧ (decode cX3_readLine 74 = .ok (.ireturn, 1)) ∧ (decode cX3_readLine 75 = .ok (.aload_n 0, 1)) ∧ (decode cX3_readLine 76 = .ok (.invokevirtual 22, 3)) ∧ (decode cX3_readLine 79 = .ok (.aload_n 0, 1)) ∧ (decode cX3_readLine 80 = .ok (.iconst 1, 1)) ∧ (decode cX3_readLine 81 = .ok (.bipush 60, 2)) ∧ (decode cX3_readLine 83 = .ok (.invokevirtual 80, 3)) := by decide +kernel
theorem dX3_readLine_64 : decode cX3_readLine 64 = .ok (.aload_n 0, 1) := qd0_147.1
theorem dX3_readLine_65 : decode cX3_readLine 65 = .ok (.ldc 89, 2) := qd0_147.2.1
theorem dX3_readLine_67 : decode cX3_readLine 67 = .ok (.invokevirtual 37, 3) := qd0_147.2.2.1
theorem dX3_readLine_70 : decode cX3_readLine 70 = .ok (.ifCond .ne 5, 3) := qd0_147.2.2.2.1
theorem dX3_readLine_73 : decode cX3_readLine 73 = .ok (.iconst 0, 1) := qd0_147.2.2.2.2.1
theorem dX3_readLine_74 : decode cX3_readLine 74 = .ok (.ireturn, 1) := qd0_147.2.2.2.2.2.1
theorem dX3_readLine_75 : decode cX3_readLine 75 = .ok (.aload_n 0, 1) := qd0_147.2.2.2.2.2.2.1
theorem dX3_readLine_76 : decode cX3_readLine 76 = .ok (.invokevirtual 22, 3) := qd0_147.2.2.2.2.2.2.2.1
theorem dX3_readLine_79 : decode cX3_readLine 79 = .ok (.aload_n 0, 1) := qd0_147.2.2.2.2.2.2.2.2.1
theorem dX3_readLine_80 : decode cX3_readLine 80 = .ok (.iconst 1, 1) := qd0_147.2.2.2.2.2.2.2.2.2.1
theorem dX3_readLine_81 : decode cX3_readLine 81 = .ok (.bipush 60, 2) := qd0_147.2.2.2.2.2.2.2.2.2.2.1
theorem dX3_readLine_83 : decode cX3_readLine 83 = .ok (.invokevirtual 80, 3) := qd0_147.2.2.2.2.2.2.2.2.2.2.2
theorem qd0_148 : (decode cX3_readLine 86 = .ok (.istore 5, 2)) ∧ (decode cX3_readLine 88 = .ok (.iload 5, 2)) ∧ (decode cX3_readLine 90 = .ok (.iconst (-1), 1)) ∧ (decode cX3_readLine 91 = .ok (.if_icmp .ne 5, 3)) ∧ (decode cX3_readLine 94 = .ok (.iconst 0, 1)) ∧ (decode cX3_readLine 95 = .ok (.ireturn, 1)) ∧ (decode cX3_readLine 96 = .ok (.aload_n 0, 1)) ∧ (decode cX3_readLine 97 = .ok (.ldc 91, 2)) ∧ (decode cX3_readLine 99 = .ok (.iconst 1, 1)) ∧ (decode cX3_readLine 100 = .ok (.sipush 999, 3)) ∧ (decode cX3_readLine 103 = .ok (.sipush 999, 3)) ∧ (decode cX3_readLine 106 = .ok (.invokevirtual 93, 3)) := by decide +kernel
theorem dX3_readLine_86 : decode cX3_readLine 86 = .ok (.istore 5, 2) := qd0_148.1
theorem dX3_readLine_88 : decode cX3_readLine 88 = .ok (.iload 5, 2) := qd0_148.2.1
theorem dX3_readLine_90 : decode cX3_readLine 90 = .ok (.iconst (-1), 1) := qd0_148.2.2.1
theorem dX3_readLine_91 : decode cX3_readLine 91 = .ok (.if_icmp .ne 5, 3) := qd0_148.2.2.2.1
theorem dX3_readLine_94 : decode cX3_readLine 94 = .ok (.iconst 0, 1) := qd0_148.2.2.2.2.1
theorem dX3_readLine_95 : decode cX3_readLine 95 = .ok (.ireturn, 1) := qd0_148.2.2.2.2.2.1
theorem dX3_readLine_96 : decode cX3_readLine 96 = .ok (.aload_n 0, 1) := qd0_148.2.2.2.2.2.2.1
theorem dX3_readLine_97 : decode cX3_readLine 97 = .ok (.ldc 91, 2) := qd0_148.2.2.2.2.2.2.2.1
theorem dX3_readLine_99 : decode cX3_readLine 99 = .ok (.iconst 1, 1) := qd0_148.2.2.2.2.2.2.2.2.1
theorem dX3_readLine_100 : decode cX3_readLine 100 = .ok (.sipush 999, 3) := qd0_148.2.2.2.2.2.2.2.2.2.1
theorem dX3_readLine_103 : decode cX3_readLine 103 = .ok (.sipush 999, 3) := qd0_148.2.2.2.2.2.2.2.2.2.2.1
theorem dX3_readLine_106 : decode cX3_readLine 106 = .ok (.invokevirtual 93, 3) := qd0_148.2.2.2.2.2.2.2.2.2.2.2
theorem qd0_149 : (decode cX3_readLine 109 = .ok (.istore 6, 2)) ∧ (decode cX3_readLine 111 = .ok (.iload 6, 2)) ∧ (decode cX3_readLine 113 = .ok (.iconst (-1), 1)) ∧ (decode cX3_readLine 114 = .ok (.if_icmp .ne 7, 3)) ∧ (decode cX3_readLine 117 = .ok (.iconst (-1), 1)) ∧ (decode cX3_readLine 118 = .ok (.goto 12, 3)) ∧ (decode cX3_readLine 121 = .ok (.aload_n 0, 1)) ∧ (decode cX3_readLine 122 = .ok (.ldc 97, 2)) ∧ (decode cX3_readLine 124 = .ok (.iconst 0, 1)) ∧ (decode cX3_readLine 125 = .ok (.iconst 5, 1)) ∧ (decode cX3_readLine 126 = .ok (.iconst 0, 1)) ∧ (decode cX3_readLine 127 = .ok (.invokevirtual 93, 3)) := by decide +kernel
theorem dX3_readLine_109 : decode cX3_readLine 109 = .ok (.istore 6, 2) := qd0_149.1
theorem dX3_readLine_111 : decode cX3_readLine 111 = .ok (.iload 6, 2) := qd0_149.2.1
theorem dX3_readLine_113 : decode cX3_readLine 113 = .ok (.iconst (-1), 1) := qd0_149.2.2.1
theorem dX3_readLine_114 : decode cX3_readLine 114 = .ok (.if_icmp .ne 7, 3) := qd0_149.2.2.2.1
theorem dX3_readLine_117 : decode cX3_readLine 117 = .ok (.iconst (-1), 1) := qd0_149.2.2.2.2.1
theorem dX3_readLine_118 : decode cX3_readLine 118 = .ok (.goto 12, 3) := qd0_149.2.2.2.2.2.1
theorem dX3_readLine_121 : decode cX3_readLine 121 = .ok (.aload_n 0, 1) := qd0_149.2.2.2.2.2.2.1
theorem dX3_readLine_122 : decode cX3_readLine 122 = .ok (.ldc 97, 2) := qd0_149.2.2.2.2.2.2.2.1
theorem dX3_readLine_124 : decode cX3_readLine 124 = .ok (.iconst 0, 1) := qd0_149.2.2.2.2.2.2.2.2.1
theorem dX3_readLine_125 : decode cX3_readLine 125 = .ok (.iconst 5, 1) := qd0_149.2.2.2.2.2.2.2.2.2.1
theorem dX3_readLine_126 : decode cX3_readLine 126 = .ok (.iconst 0, 1) := qd0_149.2.2.2.2.2.2.2.2.2.2.1
theorem dX3_readLine_127 : decode cX3_readLine 127 = .ok (.invokevirtual 93, 3) := qd0_149.2.2.2.2.2.2.2.2.2.2.2
theorem qd0_150 : (decode cX3_readLine 130 = .ok (.istore 7, 2)) ∧ (decode cX3_readLine 132 = .ok (.iload 7, 2)) ∧ (decode cX3_readLine 134 = .ok (.iconst (-1), 1)) ∧ (decode cX3_readLine 135 = .ok (.if_icmp .ne 5, 3)) ∧ (decode cX3_readLine 138 = .ok (.iconst 0, 1)) ∧ (decode cX3_readLine 139 = .ok (.ireturn, 1)) ∧ (decode cX3_readLine 140 = .ok (.aload_n 1, 1)) ∧ (decode cX3_readLine 141 = .ok (.iload_n 2, 1)) ∧ (decode cX3_readLine 142 = .ok (.iload_n 3, 1)) ∧ (decode cX3_readLine 143 = .ok (.iload 4, 2)) ∧ (decode cX3_readLine 145 = .ok (.iload 5, 2)) ∧ (decode cX3_readLine 147 = .ok (.iload 6, 2)) := by decide +kernel
theorem dX3_readLine_130 : decode cX3_readLine 130 = .ok (.istore 7, 2) := qd0_150.1
theorem dX3_readLine_132 : decode cX3_readLine 132 = .ok (.iload 7, 2) := qd0_150.2.1
theorem dX3_readLine_134 : decode cX3_readLine 134 = .ok (.iconst (-1), 1) := qd0_150.2.2.1
theorem dX3_readLine_135 : decode cX3_readLine 135 = .ok (.if_icmp .ne 5, 3) := qd0_150.2.2.2.1
theorem dX3_readLine_138 : decode cX3_readLine 138 = .ok (.iconst 0, 1) := qd0_150.2.2.2.2.1
theorem dX3_readLine_139 : decode cX3_readLine 139 = .ok (.ireturn, 1) := qd0_150.2.2.2.2.2.1
theorem dX3_readLine_140 : decode cX3_readLine 140 = .ok (.aload_n 1, 1) := qd0_150.2.2.2.2.2.2.1
theorem dX3_readLine_141 : decode cX3_readLine 141 = .ok (.iload_n 2, 1) := qd0_150.2.2.2.2.2.2.2.1
theorem dX3_readLine_142 : decode cX3_readLine 142 = .ok (.iload_n 3, 1) := qd0_150.2.2.2.2.2.2.2.2.1
theorem dX3_readLine_143 : decode cX3_readLine 143 = .ok (.iload 4, 2) := qd0_150.2.2.2.2.2.2.2.2.2.1
theorem dX3_readLine_145 : decode cX3_readLine 145 = .ok (.iload 5, 2) := qd0_150.2.2.2.2.2.2.2.2.2.2.1
theorem dX3_readLine_147 : decode cX3_readLine 147 = .ok (.iload 6, 2) := qd0_150.2.2.2.2.2.2.2.2.2.2.2
theorem qd0_151 : (decode cX3_readLine 149 = .ok (.iload 7, 2)) ∧ (decode cX3_readLine 151 = .ok (.invokevirtual 99, 3)) ∧ (decode cX3_readLine 154 = .ok (.iconst 1, 1)) ∧ (decode cX3_readLine 155 = .ok (.ireturn, 1)) := by decide +kernel
theorem dX3_readLine_149 : decode cX3_readLine 149 = .ok (.iload 7, 2) := qd0_151.1
theorem dX3_readLine_151 : decode cX3_readLine 151 = .ok (.invokevirtual 99, 3) := qd0_151.2.1
theorem dX3_readLine_154 : decode cX3_readLine 154 = .ok (.iconst 1, 1) := qd0_151.2.2.1
theorem dX3_readLine_155 : decode cX3_readLine 155 = .ok (.ireturn, 1) := qd0_151.2.2.2
theorem qd0_152 : (decode cX3_readGoods 0 = .ok (.aload_n 0, 1)) ∧ (decode cX3_readGoods 1 = .ok (.invokevirtual 22, 3)) ∧ (decode cX3_readGoods 4 = .ok (.aload_n 0, 1)) ∧ (decode cX3_readGoods 5 = .ok (.iconst 0, 1)) ∧ (decode cX3_readGoods 6 = .ok (.bipush 11, 2)) ∧ (decode cX3_readGoods 8 = .ok (.invokevirtual 80, 3)) ∧ (decode cX3_readGoods 11 = .ok (.istore_n 2, 1)) ∧ (decode cX3_readGoods 12 = .ok (.iload_n 2, 1)) ∧ (decode cX3_readGoods 13 = .ok (.iconst (-1), 1)) ∧ (decode cX3_readGoods 14 = .ok (.if_icmp .ne 7, 3)) ∧ (decode cX3_readGoods 17 = .ok (.iconst (-1), 1)) ∧ (decode cX3_readGoods 18 = .ok (.goto 10, 3)) := by decide +kernel
theorem dX3_readGoods_0 : decode cX3_readGoods 0 = .ok (.aload_n 0, 1) := qd0_152.1
theorem dX3_readGoods_1 : decode cX3_readGoods 1 = .ok (.invokevirtual 22, 3) := qd0_152.2.1
theorem dX3_readGoods_4 : decode cX3_readGoods 4 = .ok (.aload_n 0, 1) := qd0_152.2.2.1
theorem dX3_readGoods_5 : decode cX3_readGoods 5 = .ok (.iconst 0, 1) := qd0_152.2.2.2.1
theorem dX3_readGoods_6 : decode cX3_readGoods 6 = .ok (.bipush 11, 2) := qd0_152.2.2.2.2.1
theorem dX3_readGoods_8 : decode cX3_readGoods 8 = .ok (.invokevirtual 80, 3) := qd0_152.2.2.2.2.2.1
theorem dX3_readGoods_11 : decode cX3_readGoods 11 = .ok (.istore_n 2, 1) := qd0_152.2.2.2.2.2.2.1
theorem dX3_readGoods_12 : decode cX3_readGoods 12 = .ok (.iload_n 2, 1) := qd0_152.2.2.2.2.2.2.2.1
theorem dX3_readGoods_13 : decode cX3_readGoods 13 = .ok (.iconst (-1), 1) := qd0_152.2.2.2.2.2.2.2.2.1
theorem dX3_readGoods_14 : decode cX3_readGoods 14 = .ok (.if_icmp .ne 7, 3) := qd0_152.2.2.2.2.2.2.2.2.2.1
theorem dX3_readGoods_17 : decode cX3_readGoods 17 = .ok (.iconst (-1), 1) := qd0_152.2.2.2.2.2.2.2.2.2.2.1
theorem dX3_readGoods_18 : decode cX3_readGoods 18 = .ok (.goto 10, 3) := qd0_152.2.2.2.2.2.2.2.2.2.2.2
theorem qd0_153 : (decode cX3_readGoods 21 = .ok (.aload_n 0, 1)) ∧ (decode cX3_readGoods 22 = .ok (.iload_n 2, 1)) ∧ (decode cX3_readGoods 23 = .ok (.bipush 11, 2)) ∧ (decode cX3_readGoods 25 = .ok (.invokevirtual 84, 3)) ∧ (decode cX3_readGoods 28 = .ok (.istore_n 3, 1)) ∧ (decode cX3_readGoods 29 = .ok (.iload_n 3, 1)) ∧ (decode cX3_readGoods 30 = .ok (.iconst (-1), 1)) ∧ (decode cX3_readGoods 31 = .ok (.if_icmp .ne 7, 3)) ∧ (decode cX3_readGoods 34 = .ok (.iconst (-1), 1)) ∧ (decode cX3_readGoods 35 = .ok (.goto 10, 3)) ∧ (decode cX3_readGoods 38 = .ok (.aload_n 0, 1)) ∧ (decode cX3_readGoods 39 = .ok (.iconst 1, 1)) := by decide +kernel
theorem dX3_readGoods_21 : decode cX3_readGoods 21 = .ok (.aload_n 0, 1) := qd0_153.1
theorem dX3_readGoods_22 : decode cX3_readGoods 22 = .ok (.iload_n 2, 1) := qd0_153.2.1
theorem dX3_readGoods_23 : decode cX3_readGoods 23 = .ok (.bipush 11, 2) := qd0_153.2.2.1
theorem dX3_readGoods_25 : decode cX3_readGoods 25 = .ok (.invokevirtual 84, 3) := qd0_153.2.2.2.1
theorem dX3_readGoods_28 : decode cX3_readGoods 28 = .ok (.istore_n 3, 1) := qd0_153.2.2.2.2.1
theorem dX3_readGoods_29 : decode cX3_readGoods 29 = .ok (.iload_n 3, 1) := qd0_153.2.2.2.2.2.1
theorem dX3_readGoods_30 : decode cX3_readGoods 30 = .ok (.iconst (-1), 1) := qd0_153.2.2.2.2.2.2.1
theorem dX3_readGoods_31 : decode cX3_readGoods 31 = .ok (.if_icmp .ne 7, 3) := qd0_153.2.2.2.2.2.2.2.1
theorem dX3_readGoods_34 : decode cX3_readGoods 34 = .ok (.iconst (-1), 1) := qd0_153.2.2.2.2.2.2.2.2.1
theorem dX3_readGoods_35 : decode cX3_readGoods 35 = .ok (.goto 10, 3) := qd0_153.2.2.2.2.2.2.2.2.2.1
theorem dX3_readGoods_38 : decode cX3_readGoods 38 = .ok (.aload_n 0, 1) := qd0_153.2.2.2.2.2.2.2.2.2.2.1
theorem dX3_readGoods_39 : decode cX3_readGoods 39 = .ok (.iconst 1, 1) := qd0_153.2.2.2.2.2.2.2.2.2.2.2
theorem qd0_154 : (decode cX3_readGoods 40 = .ok (.bipush 99, 2)) ∧ (decode cX3_readGoods 42 = .ok (.invokevirtual 80, 3)) ∧ (decode cX3_readGoods 45 = .ok (.istore 4, 2)) ∧ (decode cX3_readGoods 47 = .ok (.iload 4, 2)) ∧ (decode cX3_readGoods 49 = .ok (.iconst (-1), 1)) ∧ (decode cX3_readGoods 50 = .ok (.if_icmp .ne 5, 3)) ∧ (decode cX3_readGoods 53 = .ok (.iconst 0, 1)) ∧ (decode cX3_readGoods 54 = .ok (.ireturn, 1)) ∧ (decode cX3_readGoods 55 = .ok (.aload_n 1, 1)) ∧ (decode cX3_readGoods 56 = .ok (.iload_n 2, 1)) ∧ (decode cX3_readGoods 57 = .ok (.iload_n 3, 1)) ∧ (decode cX3_readGoods 58 = .ok (.iload 4, 2)) := by decide +kernel
theorem dX3_readGoods_40 : decode cX3_readGoods 40 = .ok (.bipush 99, 2) := qd0_154.1
theorem dX3_readGoods_42 : decode cX3_readGoods 42 = .ok (.invokevirtual 80, 3) := qd0_154.2.1
theorem dX3_readGoods_45 : decode cX3_readGoods 45 = .ok (.istore 4, 2) := qd0_154.2.2.1
theorem dX3_readGoods_47 : decode cX3_readGoods 47 = .ok (.iload 4, 2) := qd0_154.2.2.2.1
theorem dX3_readGoods_49 : decode cX3_readGoods 49 = .ok (.iconst (-1), 1) := qd0_154.2.2.2.2.1
theorem dX3_readGoods_50 : decode cX3_readGoods 50 = .ok (.if_icmp .ne 5, 3) := qd0_154.2.2.2.2.2.1
theorem dX3_readGoods_53 : decode cX3_readGoods 53 = .ok (.iconst 0, 1) := qd0_154.2.2.2.2.2.2.1
theorem dX3_readGoods_54 : decode cX3_readGoods 54 = .ok (.ireturn, 1) := qd0_154.2.2.2.2.2.2.2.1
theorem dX3_readGoods_55 : decode cX3_readGoods 55 = .ok (.aload_n 1, 1) := qd0_154.2.2.2.2.2.2.2.2.1
theorem dX3_readGoods_56 : decode cX3_readGoods 56 = .ok (.iload_n 2, 1) := qd0_154.2.2.2.2.2.2.2.2.2.1
theorem dX3_readGoods_57 : decode cX3_readGoods 57 = .ok (.iload_n 3, 1) := qd0_154.2.2.2.2.2.2.2.2.2.2.1
theorem dX3_readGoods_58 : decode cX3_readGoods 58 = .ok (.iload 4, 2) := qd0_154.2.2.2.2.2.2.2.2.2.2.2
theorem qd0_155 : (decode cX3_readGoods 60 = .ok (.invokevirtual 103, 3)) ∧ (decode cX3_readGoods 63 = .ok (.iconst 1, 1)) ∧ (decode cX3_readGoods 64 = .ok (.ireturn, 1)) := by decide +kernel
theorem dX3_readGoods_60 : decode cX3_readGoods 60 = .ok (.invokevirtual 103, 3) := qd0_155.1
theorem dX3_readGoods_63 : decode cX3_readGoods 63 = .ok (.iconst 1, 1) := qd0_155.2.1
theorem dX3_readGoods_64 : decode cX3_readGoods 64 = .ok (.ireturn, 1) := qd0_155.2.2
theorem qd0_156 : (decode cX3_readWork 0 = .ok (.aload_n 0, 1)) ∧ (decode cX3_readWork 1 = .ok (.invokevirtual 22, 3)) ∧ (decode cX3_readWork 4 = .ok (.aload_n 0, 1)) ∧ (decode cX3_readWork 5 = .ok (.iconst 1, 1)) ∧ (decode cX3_readWork 6 = .ok (.iconst 5, 1)) ∧ (decode cX3_readWork 7 = .ok (.invokevirtual 80, 3)) ∧ (decode cX3_readWork 10 = .ok (.istore_n 2, 1)) ∧ (decode cX3_readWork 11 = .ok (.iload_n 2, 1)) ∧ (decode cX3_readWork 12 = .ok (.iconst (-1), 1)) ∧ (decode cX3_readWork 13 = .ok (.if_icmp .ne 7, 3)) ∧ (decode cX3_readWork 16 = .ok (.iconst (-1), 1)) ∧ (decode cX3_readWork 17 = .ok (.goto 13, 3)) := by decide +kernel
theorem dX3_readWork_0 : decode cX3_readWork 0 = .ok (.aload_n 0, 1) := qd0_156.1
theorem dX3_readWork_1 : decode cX3_readWork 1 = .ok (.invokevirtual 22, 3) := qd0_156.2.1
theorem dX3_readWork_4 : decode cX3_readWork 4 = .ok (.aload_n 0, 1) := qd0_156.2.2.1
theorem dX3_readWork_5 : decode cX3_readWork 5 = .ok (.iconst 1, 1) := qd0_156.2.2.2.1
theorem dX3_readWork_6 : decode cX3_readWork 6 = .ok (.iconst 5, 1) := qd0_156.2.2.2.2.1
theorem dX3_readWork_7 : decode cX3_readWork 7 = .ok (.invokevirtual 80, 3) := qd0_156.2.2.2.2.2.1
theorem dX3_readWork_10 : decode cX3_readWork 10 = .ok (.istore_n 2, 1) := qd0_156.2.2.2.2.2.2.1
theorem dX3_readWork_11 : decode cX3_readWork 11 = .ok (.iload_n 2, 1) := qd0_156.2.2.2.2.2.2.2.1
theorem dX3_readWork_12 : decode cX3_readWork 12 = .ok (.iconst (-1), 1) := qd0_156.2.2.2.2.2.2.2.2.1
theorem dX3_readWork_13 : decode cX3_readWork 13 = .ok (.if_icmp .ne 7, 3) := qd0_156.2.2.2.2.2.2.2.2.2.1
theorem dX3_readWork_16 : decode cX3_readWork 16 = .ok (.iconst (-1), 1) := qd0_156.2.2.2.2.2.2.2.2.2.2.1
theorem dX3_readWork_17 : decode cX3_readWork 17 = .ok (.goto 13, 3) := qd0_156.2.2.2.2.2.2.2.2.2.2.2
theorem qd0_157 : (decode cX3_readWork 20 = .ok (.aload_n 0, 1)) ∧ (decode cX3_readWork 21 = .ok (.iconst 0, 1)) ∧ (decode cX3_readWork 22 = .ok (.aload_n 1, 1)) ∧ (decode cX3_readWork 23 = .ok (.iload_n 2, 1)) ∧ (decode cX3_readWork 24 = .ok (.invokevirtual 107, 3)) ∧ (decode cX3_readWork 27 = .ok (.invokevirtual 80, 3)) ∧ (decode cX3_readWork 30 = .ok (.istore_n 3, 1)) ∧ (decode cX3_readWork 31 = .ok (.iload_n 3, 1)) ∧ (decode cX3_readWork 32 = .ok (.iconst (-1), 1)) ∧ (decode cX3_readWork 33 = .ok (.if_icmp .ne 5, 3)) ∧ (decode cX3_readWork 36 = .ok (.iconst 0, 1)) ∧ (decode cX3_readWork 37 = .ok (.ireturn, 1)) := by decide +kernel
theorem dX3_readWork_20 : decode cX3_readWork 20 = .ok (.aload_n 0, 1) := qd0_157.1
theorem dX3_readWork_21 : decode cX3_readWork 21 = .ok (.iconst 0, 1) := qd0_157.2.1
theorem dX3_readWork_22 : decode cX3_readWork 22 = .ok (.aload_n 1, 1) := qd0_157.2.2.1
theorem dX3_readWork_23 : decode cX3_readWork 23 = .ok (.iload_n 2, 1) := qd0_157.2.2.2.1
theorem dX3_readWork_24 : decode cX3_readWork 24 = .ok (.invokevirtual 107, 3) := qd0_157.2.2.2.2.1
theorem dX3_readWork_27 : decode cX3_readWork 27 = .ok (.invokevirtual 80, 3) := qd0_157.2.2.2.2.2.1
theorem dX3_readWork_30 : decode cX3_readWork 30 = .ok (.istore_n 3, 1) := qd0_157.2.2.2.2.2.2.1
theorem dX3_readWork_31 : decode cX3_readWork 31 = .ok (.iload_n 3, 1) := qd0_157.2.2.2.2.2.2.2.1
theorem dX3_readWork_32 : decode cX3_readWork 32 = .ok (.iconst (-1), 1) := qd0_157.2.2.2.2.2.2.2.2.1
theorem dX3_readWork_33 : decode cX3_readWork 33 = .ok (.if_icmp .ne 5, 3) := qd0_157.2.2.2.2.2.2.2.2.2.1
theorem dX3_readWork_36 : decode cX3_readWork 36 = .ok (.iconst 0, 1) := qd0_157.2.2.2.2.2.2.2.2.2.2.1
theorem dX3_readWork_37 : decode cX3_readWork 37 = .ok (.ireturn, 1) := qd0_157.2.2.2.2.2.2.2.2.2.2.2
theorem qd0_158 : (decode cX3_readWork 38 = .ok (.aload_n 1, 1)) ∧ (decode cX3_readWork 39 = .ok (.iload_n 2, 1)) ∧ (decode cX3_readWork 40 = .ok (.invokevirtual 111, 3)) ∧ (decode cX3_readWork 43 = .ok (.istore 4, 2)) ∧ (decode cX3_readWork 45 = .ok (.iload_n 2, 1)) ∧ (decode cX3_readWork 46 = .ok (.iconst 4, 1)) ∧ (decode cX3_readWork 47 = .ok (.invokestatic 114, 3)) ∧ (decode cX3_readWork 50 = .ok (.ifCond .eq 13, 3)) ∧ (decode cX3_readWork 53 = .ok (.aload_n 0, 1)) ∧ (decode cX3_readWork 54 = .ok (.iload_n 3, 1)) ∧ (decode cX3_readWork 55 = .ok (.iload 4, 2)) ∧ (decode cX3_readWork 57 = .ok (.invokevirtual 84, 3)) := by decide +kernel
theorem dX3_readWork_38 : decode cX3_readWork 38 = .ok (.aload_n 1, 1) := qd0_158.1
theorem dX3_readWork_39 : decode cX3_readWork 39 = .ok (.iload_n 2, 1) := qd0_158.2.1
theorem dX3_readWork_40 : decode cX3_readWork 40 = .ok (.invokevirtual 111, 3) := qd0_158.2.2.1
theorem dX3_readWork_43 : decode cX3_readWork 43 = .ok (.istore 4, 2) := qd0_158.2.2.2.1
theorem dX3_readWork_45 : decode cX3_readWork 45 = .ok (.iload_n 2, 1) := qd0_158.2.2.2.2.1
theorem dX3_readWork_46 : decode cX3_readWork 46 = .ok (.iconst 4, 1) := qd0_158.2.2.2.2.2.1
theorem dX3_readWork_47 : decode cX3_readWork 47 = .ok (.invokestatic 114, 3) := qd0_158.2.2.2.2.2.2.1
theorem dX3_readWork_50 : decode cX3_readWork 50 = .ok (.ifCond .eq 13, 3) := qd0_158.2.2.2.2.2.2.2.1
theorem dX3_readWork_53 : decode cX3_readWork 53 = .ok (.aload_n 0, 1) := qd0_158.2.2.2.2.2.2.2.2.1
theorem dX3_readWork_54 : decode cX3_readWork 54 = .ok (.iload_n 3, 1) := qd0_158.2.2.2.2.2.2.2.2.2.1
theorem dX3_readWork_55 : decode cX3_readWork 55 = .ok (.iload 4, 2) := qd0_158.2.2.2.2.2.2.2.2.2.2.1
theorem dX3_readWork_57 : decode cX3_readWork 57 = .ok (.invokevirtual 84, 3) := qd0_158.2.2.2.2.2.2.2.2.2.2.2
theorem qd0_159 : (decode cX3_readWork 60 = .ok (.goto 10, 3)) ∧ (decode cX3_readWork 63 = .ok (.aload_n 0, 1)) ∧ (decode cX3_readWork 64 = .ok (.iconst 0, 1)) ∧ (decode cX3_readWork 65 = .ok (.iload 4, 2)) ∧ (decode cX3_readWork 67 = .ok (.invokevirtual 80, 3)) ∧ (decode cX3_readWork 70 = .ok (.istore 5, 2)) ∧ (decode cX3_readWork 72 = .ok (.iload 5, 2)) ∧ (decode cX3_readWork 74 = .ok (.iconst (-1), 1)) ∧ (decode cX3_readWork 75 = .ok (.if_icmp .ne 7, 3)) ∧ (decode cX3_readWork 78 = .ok (.iconst (-1), 1)) ∧ (decode cX3_readWork 79 = .ok (.goto 11, 3)) ∧ (decode cX3_readWork 82 = .ok (.aload_n 0, 1)) := by decide +kernel
theorem dX3_readWork_60 : decode cX3_readWork 60 = .ok (.goto 10, 3) := qd0_159.1
theorem dX3_readWork_63 : decode cX3_readWork 63 = .ok (.aload_n 0, 1) := qd0_159.2.1
theorem dX3_readWork_64 : decode cX3_readWork 64 = .ok (.iconst 0, 1) := qd0_159.2.2.1
theorem dX3_readWork_65 : decode cX3_readWork 65 = .ok (.iload 4, 2) := qd0_159.2.2.2.1
theorem dX3_readWork_67 : decode cX3_readWork 67 = .ok (.invokevirtual 80, 3) := qd0_159.2.2.2.2.1
theorem dX3_readWork_70 : decode cX3_readWork 70 = .ok (.istore 5, 2) := qd0_159.2.2.2.2.2.1
theorem dX3_readWork_72 : decode cX3_readWork 72 = .ok (.iload 5, 2) := qd0_159.2.2.2.2.2.2.1
theorem dX3_readWork_74 : decode cX3_readWork 74 = .ok (.iconst (-1), 1) := qd0_159.2.2.2.2.2.2.2.1
theorem dX3_readWork_75 : decode cX3_readWork 75 = .ok (.if_icmp .ne 7, 3) := qd0_159.2.2.2.2.2.2.2.2.1
theorem dX3_readWork_78 : decode cX3_readWork 78 = .ok (.iconst (-1), 1) := qd0_159.2.2.2.2.2.2.2.2.2.1
theorem dX3_readWork_79 : decode cX3_readWork 79 = .ok (.goto 11, 3) := qd0_159.2.2.2.2.2.2.2.2.2.2.1
theorem dX3_readWork_82 : decode cX3_readWork 82 = .ok (.aload_n 0, 1) := qd0_159.2.2.2.2.2.2.2.2.2.2.2
theorem qd0_160 : (decode cX3_readWork 83 = .ok (.iconst 0, 1)) ∧ (decode cX3_readWork 84 = .ok (.sipush 999, 3)) ∧ (decode cX3_readWork 87 = .ok (.invokevirtual 80, 3)) ∧ (decode cX3_readWork 90 = .ok (.istore 6, 2)) ∧ (decode cX3_readWork 92 = .ok (.iload 6, 2)) ∧ (decode cX3_readWork 94 = .ok (.iconst (-1), 1)) ∧ (decode cX3_readWork 95 = .ok (.if_icmp .ne 5, 3)) ∧ (decode cX3_readWork 98 = .ok (.iconst 0, 1)) ∧ (decode cX3_readWork 99 = .ok (.ireturn, 1)) ∧ (decode cX3_readWork 100 = .ok (.aload_n 1, 1)) ∧ (decode cX3_readWork 101 = .ok (.iload_n 2, 1)) ∧ (decode cX3_readWork 102 = .ok (.iload_n 3, 1)) := by decide +kernel
theorem dX3_readWork_83 : decode cX3_readWork 83 = .ok (.iconst 0, 1) := qd0_160.1
theorem dX3_readWork_84 : decode cX3_readWork 84 = .ok (.sipush 999, 3) := qd0_160.2.1
theorem dX3_readWork_87 : decode cX3_readWork 87 = .ok (.invokevirtual 80, 3) := qd0_160.2.2.1
theorem dX3_readWork_90 : decode cX3_readWork 90 = .ok (.istore 6, 2) := qd0_160.2.2.2.1
theorem dX3_readWork_92 : decode cX3_readWork 92 = .ok (.iload 6, 2) := qd0_160.2.2.2.2.1
theorem dX3_readWork_94 : decode cX3_readWork 94 = .ok (.iconst (-1), 1) := qd0_160.2.2.2.2.2.1
theorem dX3_readWork_95 : decode cX3_readWork 95 = .ok (.if_icmp .ne 5, 3) := qd0_160.2.2.2.2.2.2.1
theorem dX3_readWork_98 : decode cX3_readWork 98 = .ok (.iconst 0, 1) := qd0_160.2.2.2.2.2.2.2.1
theorem dX3_readWork_99 : decode cX3_readWork 99 = .ok (.ireturn, 1) := qd0_160.2.2.2.2.2.2.2.2.1
theorem dX3_readWork_100 : decode cX3_readWork 100 = .ok (.aload_n 1, 1) := qd0_160.2.2.2.2.2.2.2.2.2.1
theorem dX3_readWork_101 : decode cX3_readWork 101 = .ok (.iload_n 2, 1) := qd0_160.2.2.2.2.2.2.2.2.2.2.1
theorem dX3_readWork_102 : decode cX3_readWork 102 = .ok (.iload_n 3, 1) := qd0_160.2.2.2.2.2.2.2.2.2.2.2
theorem qd0_161 : (decode cX3_readWork 103 = .ok (.iload 5, 2)) ∧ (decode cX3_readWork 105 = .ok (.iload 6, 2)) ∧ (decode cX3_readWork 107 = .ok (.invokevirtual 118, 3)) ∧ (decode cX3_readWork 110 = .ok (.iconst 1, 1)) ∧ (decode cX3_readWork 111 = .ok (.ireturn, 1)) := by decide +kernel
theorem dX3_readWork_103 : decode cX3_readWork 103 = .ok (.iload 5, 2) := qd0_161.1
theorem dX3_readWork_105 : decode cX3_readWork 105 = .ok (.iload 6, 2) := qd0_161.2.1
theorem dX3_readWork_107 : decode cX3_readWork 107 = .ok (.invokevirtual 118, 3) := qd0_161.2.2.1
theorem dX3_readWork_110 : decode cX3_readWork 110 = .ok (.iconst 1, 1) := qd0_161.2.2.2.1
theorem dX3_readWork_111 : decode cX3_readWork 111 = .ok (.ireturn, 1) := qd0_161.2.2.2.2
theorem qd0_162 : (decode cX3_readChange 0 = .ok (.aload_n 0, 1)) ∧ (decode cX3_readChange 1 = .ok (.invokevirtual 22, 3)) ∧ (decode cX3_readChange 4 = .ok (.aload_n 0, 1)) ∧ (decode cX3_readChange 5 = .ok (.iconst 0, 1)) ∧ (decode cX3_readChange 6 = .ok (.bipush 11, 2)) ∧ (decode cX3_readChange 8 = .ok (.invokevirtual 80, 3)) ∧ (decode cX3_readChange 11 = .ok (.istore_n 2, 1)) ∧ (decode cX3_readChange 12 = .ok (.iload_n 2, 1)) ∧ (decode cX3_readChange 13 = .ok (.iconst (-1), 1)) ∧ (decode cX3_readChange 14 = .ok (.if_icmp .ne 7, 3)) ∧ (decode cX3_readChange 17 = .ok (.iconst (-1), 1)) ∧ (decode cX3_readChange 18 = .ok (.goto 10, 3)) := by decide +kernel
theorem dX3_readChange_0 : decode cX3_readChange 0 = .ok (.aload_n 0, 1) := qd0_162.1
theorem dX3_readChange_1 : decode cX3_readChange 1 = .ok (.invokevirtual 22, 3) := qd0_162.2.1
theorem dX3_readChange_4 : decode cX3_readChange 4 = .ok (.aload_n 0, 1) := qd0_162.2.2.1
theorem dX3_readChange_5 : decode cX3_readChange 5 = .ok (.iconst 0, 1) := qd0_162.2.2.2.1
theorem dX3_readChange_6 : decode cX3_readChange 6 = .ok (.bipush 11, 2) := qd0_162.2.2.2.2.1
theorem dX3_readChange_8 : decode cX3_readChange 8 = .ok (.invokevirtual 80, 3) := qd0_162.2.2.2.2.2.1
theorem dX3_readChange_11 : decode cX3_readChange 11 = .ok (.istore_n 2, 1) := qd0_162.2.2.2.2.2.2.1
theorem dX3_readChange_12 : decode cX3_readChange 12 = .ok (.iload_n 2, 1) := qd0_162.2.2.2.2.2.2.2.1
theorem dX3_readChange_13 : decode cX3_readChange 13 = .ok (.iconst (-1), 1) := qd0_162.2.2.2.2.2.2.2.2.1
theorem dX3_readChange_14 : decode cX3_readChange 14 = .ok (.if_icmp .ne 7, 3) := qd0_162.2.2.2.2.2.2.2.2.2.1
theorem dX3_readChange_17 : decode cX3_readChange 17 = .ok (.iconst (-1), 1) := qd0_162.2.2.2.2.2.2.2.2.2.2.1
theorem dX3_readChange_18 : decode cX3_readChange 18 = .ok (.goto 10, 3) := qd0_162.2.2.2.2.2.2.2.2.2.2.2
theorem qd0_163 : (decode cX3_readChange 21 = .ok (.aload_n 0, 1)) ∧ (decode cX3_readChange 22 = .ok (.iconst 0, 1)) ∧ (decode cX3_readChange 23 = .ok (.bipush 99, 2)) ∧ (decode cX3_readChange 25 = .ok (.invokevirtual 80, 3)) ∧ (decode cX3_readChange 28 = .ok (.istore_n 3, 1)) ∧ (decode cX3_readChange 29 = .ok (.iload_n 3, 1)) ∧ (decode cX3_readChange 30 = .ok (.iconst (-1), 1)) ∧ (decode cX3_readChange 31 = .ok (.if_icmp .ne 5, 3)) ∧ (decode cX3_readChange 34 = .ok (.iconst 0, 1)) ∧ (decode cX3_readChange 35 = .ok (.ireturn, 1)) ∧ (decode cX3_readChange 36 = .ok (.aload_n 1, 1)) ∧ (decode cX3_readChange 37 = .ok (.iload_n 2, 1)) := by decide +kernel
theorem dX3_readChange_21 : decode cX3_readChange 21 = .ok (.aload_n 0, 1) := qd0_163.1
theorem dX3_readChange_22 : decode cX3_readChange 22 = .ok (.iconst 0, 1) := qd0_163.2.1
theorem dX3_readChange_23 : decode cX3_readChange 23 = .ok (.bipush 99, 2) := qd0_163.2.2.1
theorem dX3_readChange_25 : decode cX3_readChange 25 = .ok (.invokevirtual 80, 3) := qd0_163.2.2.2.1
theorem dX3_readChange_28 : decode cX3_readChange 28 = .ok (.istore_n 3, 1) := qd0_163.2.2.2.2.1
theorem dX3_readChange_29 : decode cX3_readChange 29 = .ok (.iload_n 3, 1) := qd0_163.2.2.2.2.2.1
theorem dX3_readChange_30 : decode cX3_readChange 30 = .ok (.iconst (-1), 1) := qd0_163.2.2.2.2.2.2.1
theorem dX3_readChange_31 : decode cX3_readChange 31 = .ok (.if_icmp .ne 5, 3) := qd0_163.2.2.2.2.2.2.2.1
theorem dX3_readChange_34 : decode cX3_readChange 34 = .ok (.iconst 0, 1) := qd0_163.2.2.2.2.2.2.2.2.1
theorem dX3_readChange_35 : decode cX3_readChange 35 = .ok (.ireturn, 1) := qd0_163.2.2.2.2.2.2.2.2.2.1
theorem dX3_readChange_36 : decode cX3_readChange 36 = .ok (.aload_n 1, 1) := qd0_163.2.2.2.2.2.2.2.2.2.2.1
theorem dX3_readChange_37 : decode cX3_readChange 37 = .ok (.iload_n 2, 1) := qd0_163.2.2.2.2.2.2.2.2.2.2.2
theorem qd0_164 : (decode cX3_readChange 38 = .ok (.iload_n 3, 1)) ∧ (decode cX3_readChange 39 = .ok (.invokevirtual 122, 3)) ∧ (decode cX3_readChange 42 = .ok (.iconst 1, 1)) ∧ (decode cX3_readChange 43 = .ok (.ireturn, 1)) := by decide +kernel
theorem dX3_readChange_38 : decode cX3_readChange 38 = .ok (.iload_n 3, 1) := qd0_164.1
theorem dX3_readChange_39 : decode cX3_readChange 39 = .ok (.invokevirtual 122, 3) := qd0_164.2.1
theorem dX3_readChange_42 : decode cX3_readChange 42 = .ok (.iconst 1, 1) := qd0_164.2.2.1
theorem dX3_readChange_43 : decode cX3_readChange 43 = .ok (.ireturn, 1) := qd0_164.2.2.2
theorem qd0_165 : (decode cX3_readCoin 0 = .ok (.aload_n 0, 1)) ∧ (decode cX3_readCoin 1 = .ok (.invokevirtual 22, 3)) ∧ (decode cX3_readCoin 4 = .ok (.aload_n 0, 1)) ∧ (decode cX3_readCoin 5 = .ok (.iconst 0, 1)) ∧ (decode cX3_readCoin 6 = .ok (.iconst 2, 1)) ∧ (decode cX3_readCoin 7 = .ok (.invokevirtual 80, 3)) ∧ (decode cX3_readCoin 10 = .ok (.istore_n 2, 1)) ∧ (decode cX3_readCoin 11 = .ok (.iload_n 2, 1)) ∧ (decode cX3_readCoin 12 = .ok (.iconst (-1), 1)) ∧ (decode cX3_readCoin 13 = .ok (.if_icmp .ne 7, 3)) ∧ (decode cX3_readCoin 16 = .ok (.iconst (-1), 1)) ∧ (decode cX3_readCoin 17 = .ok (.goto 10, 3)) := by decide +kernel
theorem dX3_readCoin_0 : decode cX3_readCoin 0 = .ok (.aload_n 0, 1) := qd0_165.1
theorem dX3_readCoin_1 : decode cX3_readCoin 1 = .ok (.invokevirtual 22, 3) := qd0_165.2.1
theorem dX3_readCoin_4 : decode cX3_readCoin 4 = .ok (.aload_n 0, 1) := qd0_165.2.2.1
theorem dX3_readCoin_5 : decode cX3_readCoin 5 = .ok (.iconst 0, 1) := qd0_165.2.2.2.1
theorem dX3_readCoin_6 : decode cX3_readCoin 6 = .ok (.iconst 2, 1) := qd0_165.2.2.2.2.1
theorem dX3_readCoin_7 : decode cX3_readCoin 7 = .ok (.invokevirtual 80, 3) := qd0_165.2.2.2.2.2.1
theorem dX3_readCoin_10 : decode cX3_readCoin 10 = .ok (.istore_n 2, 1) := qd0_165.2.2.2.2.2.2.1
theorem dX3_readCoin_11 : decode cX3_readCoin 11 = .ok (.iload_n 2, 1) := qd0_165.2.2.2.2.2.2.2.1
theorem dX3_readCoin_12 : decode cX3_readCoin 12 = .ok (.iconst (-1), 1) := qd0_165.2.2.2.2.2.2.2.2.1
theorem dX3_readCoin_13 : decode cX3_readCoin 13 = .ok (.if_icmp .ne 7, 3) := qd0_165.2.2.2.2.2.2.2.2.2.1
theorem dX3_readCoin_16 : decode cX3_readCoin 16 = .ok (.iconst (-1), 1) := qd0_165.2.2.2.2.2.2.2.2.2.2.1
theorem dX3_readCoin_17 : decode cX3_readCoin 17 = .ok (.goto 10, 3) := qd0_165.2.2.2.2.2.2.2.2.2.2.2
theorem qd0_166 : (decode cX3_readCoin 20 = .ok (.aload_n 0, 1)) ∧ (decode cX3_readCoin 21 = .ok (.iconst 0, 1)) ∧ (decode cX3_readCoin 22 = .ok (.bipush 9, 2)) ∧ (decode cX3_readCoin 24 = .ok (.invokevirtual 80, 3)) ∧ (decode cX3_readCoin 27 = .ok (.istore_n 3, 1)) ∧ (decode cX3_readCoin 28 = .ok (.iload_n 3, 1)) ∧ (decode cX3_readCoin 29 = .ok (.iconst (-1), 1)) ∧ (decode cX3_readCoin 30 = .ok (.if_icmp .ne 5, 3)) ∧ (decode cX3_readCoin 33 = .ok (.iconst 0, 1)) ∧ (decode cX3_readCoin 34 = .ok (.ireturn, 1)) ∧ (decode cX3_readCoin 35 = .ok (.aload_n 1, 1)) ∧ (decode cX3_readCoin 36 = .ok (.iload_n 2, 1)) := by decide +kernel
theorem dX3_readCoin_20 : decode cX3_readCoin 20 = .ok (.aload_n 0, 1) := qd0_166.1
theorem dX3_readCoin_21 : decode cX3_readCoin 21 = .ok (.iconst 0, 1) := qd0_166.2.1
theorem dX3_readCoin_22 : decode cX3_readCoin 22 = .ok (.bipush 9, 2) := qd0_166.2.2.1
theorem dX3_readCoin_24 : decode cX3_readCoin 24 = .ok (.invokevirtual 80, 3) := qd0_166.2.2.2.1
theorem dX3_readCoin_27 : decode cX3_readCoin 27 = .ok (.istore_n 3, 1) := qd0_166.2.2.2.2.1
theorem dX3_readCoin_28 : decode cX3_readCoin 28 = .ok (.iload_n 3, 1) := qd0_166.2.2.2.2.2.1
theorem dX3_readCoin_29 : decode cX3_readCoin 29 = .ok (.iconst (-1), 1) := qd0_166.2.2.2.2.2.2.1
theorem dX3_readCoin_30 : decode cX3_readCoin 30 = .ok (.if_icmp .ne 5, 3) := qd0_166.2.2.2.2.2.2.2.1
theorem dX3_readCoin_33 : decode cX3_readCoin 33 = .ok (.iconst 0, 1) := qd0_166.2.2.2.2.2.2.2.2.1
theorem dX3_readCoin_34 : decode cX3_readCoin 34 = .ok (.ireturn, 1) := qd0_166.2.2.2.2.2.2.2.2.2.1
theorem dX3_readCoin_35 : decode cX3_readCoin 35 = .ok (.aload_n 1, 1) := qd0_166.2.2.2.2.2.2.2.2.2.2.1
theorem dX3_readCoin_36 : decode cX3_readCoin 36 = .ok (.iload_n 2, 1) := qd0_166.2.2.2.2.2.2.2.2.2.2.2
theorem qd0_167 : (decode cX3_readCoin 37 = .ok (.iload_n 3, 1)) ∧ (decode cX3_readCoin 38 = .ok (.invokevirtual 126, 3)) ∧ (decode cX3_readCoin 41 = .ok (.iconst 1, 1)) ∧ (decode cX3_readCoin 42 = .ok (.ireturn, 1)) := by decide +kernel
theorem dX3_readCoin_37 : decode cX3_readCoin 37 = .ok (.iload_n 3, 1) := qd0_167.1
theorem dX3_readCoin_38 : decode cX3_readCoin 38 = .ok (.invokevirtual 126, 3) := qd0_167.2.1
theorem dX3_readCoin_41 : decode cX3_readCoin 41 = .ok (.iconst 1, 1) := qd0_167.2.2.1
theorem dX3_readCoin_42 : decode cX3_readCoin 42 = .ok (.ireturn, 1) := qd0_167.2.2.2
theorem qd0_168 : (decode cX3_readYears 0 = .ok (.aload_n 0, 1)) ∧ (decode cX3_readYears 1 = .ok (.invokevirtual 22, 3)) ∧ (decode cX3_readYears 4 = .ok (.aload_n 0, 1)) ∧ (decode cX3_readYears 5 = .ok (.iconst 1, 1)) ∧ (decode cX3_readYears 6 = .ok (.bipush 30, 2)) ∧ (decode cX3_readYears 8 = .ok (.invokevirtual 80, 3)) ∧ (decode cX3_readYears 11 = .ok (.istore_n 2, 1)) ∧ (decode cX3_readYears 12 = .ok (.iload_n 2, 1)) ∧ (decode cX3_readYears 13 = .ok (.iconst (-1), 1)) ∧ (decode cX3_readYears 14 = .ok (.if_icmp .ne 5, 3)) ∧ (decode cX3_readYears 17 = .ok (.iconst 0, 1)) ∧ (decode cX3_readYears 18 = .ok (.ireturn, 1)) := by decide +kernel
theorem dX3_readYears_0 : decode cX3_readYears 0 = .ok (.aload_n 0, 1) := qd0_168.1
theorem dX3_readYears_1 : decode cX3_readYears 1 = .ok (.invokevirtual 22, 3) := qd0_168.2.1
theorem dX3_readYears_4 : decode cX3_readYears 4 = .ok (.aload_n 0, 1) := qd0_168.2.2.1
theorem dX3_readYears_5 : decode cX3_readYears 5 = .ok (.iconst 1, 1) := qd0_168.2.2.2.1
theorem dX3_readYears_6 : decode cX3_readYears 6 = .ok (.bipush 30, 2) := qd0_168.2.2.2.2.1
theorem dX3_readYears_8 : decode cX3_readYears 8 = .ok (.invokevirtual 80, 3) := qd0_168.2.2.2.2.2.1
theorem dX3_readYears_11 : decode cX3_readYears 11 = .ok (.istore_n 2, 1) := qd0_168.2.2.2.2.2.2.1
theorem dX3_readYears_12 : decode cX3_readYears 12 = .ok (.iload_n 2, 1) := qd0_168.2.2.2.2.2.2.2.1
theorem dX3_readYears_13 : decode cX3_readYears 13 = .ok (.iconst (-1), 1) := qd0_168.2.2.2.2.2.2.2.2.1
theorem dX3_readYears_14 : decode cX3_readYears 14 = .ok (.if_icmp .ne 5, 3) := qd0_168.2.2.2.2.2.2.2.2.2.1
theorem dX3_readYears_17 : decode cX3_readYears 17 = .ok (.iconst 0, 1) := qd0_168.2.2.2.2.2.2.2.2.2.2.1
theorem dX3_readYears_18 : decode cX3_readYears 18 = .ok (.ireturn, 1) := qd0_168.2.2.2.2.2.2.2.2.2.2.2
theorem qd0_169 : (decode cX3_readYears 19 = .ok (.aload_n 1, 1)) ∧ (decode cX3_readYears 20 = .ok (.iload_n 2, 1)) ∧ (decode cX3_readYears 21 = .ok (.putfield 129, 3)) ∧ (decode cX3_readYears 24 = .ok (.iconst 1, 1)) ∧ (decode cX3_readYears 25 = .ok (.ireturn, 1)) := by decide +kernel
theorem dX3_readYears_19 : decode cX3_readYears 19 = .ok (.aload_n 1, 1) := qd0_169.1
theorem dX3_readYears_20 : decode cX3_readYears 20 = .ok (.iload_n 2, 1) := qd0_169.2.1
theorem dX3_readYears_21 : decode cX3_readYears 21 = .ok (.putfield 129, 3) := qd0_169.2.2.1
theorem dX3_readYears_24 : decode cX3_readYears 24 = .ok (.iconst 1, 1) := qd0_169.2.2.2.1
theorem dX3_readYears_25 : decode cX3_readYears 25 = .ok (.ireturn, 1) := qd0_169.2.2.2.2
theorem qd0_170 : (decode cX3_number 0 = .ok (.aload_n 0, 1)) ∧ (decode cX3_number 1 = .ok (.getfield 32, 3)) ∧ (decode cX3_number 4 = .ok (.iconst 2, 1)) ∧ (decode cX3_number 5 = .ok (.if_icmp .ne 15, 3)) ∧ (decode cX3_number 8 = .ok (.aload_n 0, 1)) ∧ (decode cX3_number 9 = .ok (.getfield 131, 3)) ∧ (decode cX3_number 12 = .ok (.iload_n 1, 1)) ∧ (decode cX3_number 13 = .ok (.iload_n 2, 1)) ∧ (decode cX3_number 14 = .ok (.invokestatic 134, 3)) ∧ (decode cX3_number 17 = .ok (.ifCond .ne 5, 3)) ∧ (decode cX3_number 20 = .ok (.iconst (-1), 1)) ∧ (decode cX3_number 21 = .ok (.ireturn, 1)) := by decide +kernel
theorem dX3_number_0 : decode cX3_number 0 = .ok (.aload_n 0, 1) := qd0_170.1
theorem dX3_number_1 : decode cX3_number 1 = .ok (.getfield 32, 3) := qd0_170.2.1
theorem dX3_number_4 : decode cX3_number 4 = .ok (.iconst 2, 1) := qd0_170.2.2.1
theorem dX3_number_5 : decode cX3_number 5 = .ok (.if_icmp .ne 15, 3) := qd0_170.2.2.2.1
theorem dX3_number_8 : decode cX3_number 8 = .ok (.aload_n 0, 1) := qd0_170.2.2.2.2.1
theorem dX3_number_9 : decode cX3_number 9 = .ok (.getfield 131, 3) := qd0_170.2.2.2.2.2.1
theorem dX3_number_12 : decode cX3_number 12 = .ok (.iload_n 1, 1) := qd0_170.2.2.2.2.2.2.1
theorem dX3_number_13 : decode cX3_number 13 = .ok (.iload_n 2, 1) := qd0_170.2.2.2.2.2.2.2.1
theorem dX3_number_14 : decode cX3_number 14 = .ok (.invokestatic 134, 3) := qd0_170.2.2.2.2.2.2.2.2.1
theorem dX3_number_17 : decode cX3_number 17 = .ok (.ifCond .ne 5, 3) := qd0_170.2.2.2.2.2.2.2.2.2.1
theorem dX3_number_20 : decode cX3_number 20 = .ok (.iconst (-1), 1) := qd0_170.2.2.2.2.2.2.2.2.2.2.1
theorem dX3_number_21 : decode cX3_number 21 = .ok (.ireturn, 1) := qd0_170.2.2.2.2.2.2.2.2.2.2.2
theorem qd0_171 : (decode cX3_number 22 = .ok (.aload_n 0, 1)) ∧ (decode cX3_number 23 = .ok (.getfield 131, 3)) ∧ (decode cX3_number 26 = .ok (.istore_n 3, 1)) ∧ (decode cX3_number 27 = .ok (.aload_n 0, 1)) ∧ (decode cX3_number 28 = .ok (.invokevirtual 22, 3)) ∧ (decode cX3_number 31 = .ok (.iload_n 3, 1)) ∧ (decode cX3_number 32 = .ok (.ireturn, 1)) := by decide +kernel
theorem dX3_number_22 : decode cX3_number 22 = .ok (.aload_n 0, 1) := qd0_171.1
theorem dX3_number_23 : decode cX3_number 23 = .ok (.getfield 131, 3) := qd0_171.2.1
theorem dX3_number_26 : decode cX3_number 26 = .ok (.istore_n 3, 1) := qd0_171.2.2.1
theorem dX3_number_27 : decode cX3_number 27 = .ok (.aload_n 0, 1) := qd0_171.2.2.2.1
theorem dX3_number_28 : decode cX3_number 28 = .ok (.invokevirtual 22, 3) := qd0_171.2.2.2.2.1
theorem dX3_number_31 : decode cX3_number 31 = .ok (.iload_n 3, 1) := qd0_171.2.2.2.2.2.1
theorem dX3_number_32 : decode cX3_number 32 = .ok (.ireturn, 1) := qd0_171.2.2.2.2.2.2
theorem qd0_172 : (decode cX3_numberUnlike 0 = .ok (.aload_n 0, 1)) ∧ (decode cX3_numberUnlike 1 = .ok (.getfield 32, 3)) ∧ (decode cX3_numberUnlike 4 = .ok (.iconst 2, 1)) ∧ (decode cX3_numberUnlike 5 = .ok (.if_icmp .ne 15, 3)) ∧ (decode cX3_numberUnlike 8 = .ok (.aload_n 0, 1)) ∧ (decode cX3_numberUnlike 9 = .ok (.getfield 131, 3)) ∧ (decode cX3_numberUnlike 12 = .ok (.iload_n 1, 1)) ∧ (decode cX3_numberUnlike 13 = .ok (.if_icmp .ne 7, 3)) ∧ (decode cX3_numberUnlike 16 = .ok (.iconst (-1), 1)) ∧ (decode cX3_numberUnlike 17 = .ok (.goto 9, 3)) ∧ (decode cX3_numberUnlike 20 = .ok (.aload_n 0, 1)) ∧ (decode cX3_numberUnlike 21 = .ok (.iconst 0, 1)) := by decide +kernel
theorem dX3_numberUnlike_0 : decode cX3_numberUnlike 0 = .ok (.aload_n 0, 1) := qd0_172.1
theorem dX3_numberUnlike_1 : decode cX3_numberUnlike 1 = .ok (.getfield 32, 3) := qd0_172.2.1
theorem dX3_numberUnlike_4 : decode cX3_numberUnlike 4 = .ok (.iconst 2, 1) := qd0_172.2.2.1
theorem dX3_numberUnlike_5 : decode cX3_numberUnlike 5 = .ok (.if_icmp .ne 15, 3) := qd0_172.2.2.2.1
theorem dX3_numberUnlike_8 : decode cX3_numberUnlike 8 = .ok (.aload_n 0, 1) := qd0_172.2.2.2.2.1
theorem dX3_numberUnlike_9 : decode cX3_numberUnlike 9 = .ok (.getfield 131, 3) := qd0_172.2.2.2.2.2.1
theorem dX3_numberUnlike_12 : decode cX3_numberUnlike 12 = .ok (.iload_n 1, 1) := qd0_172.2.2.2.2.2.2.1
theorem dX3_numberUnlike_13 : decode cX3_numberUnlike 13 = .ok (.if_icmp .ne 7, 3) := qd0_172.2.2.2.2.2.2.2.1
theorem dX3_numberUnlike_16 : decode cX3_numberUnlike 16 = .ok (.iconst (-1), 1) := qd0_172.2.2.2.2.2.2.2.2.1
theorem dX3_numberUnlike_17 : decode cX3_numberUnlike 17 = .ok (.goto 9, 3) := qd0_172.2.2.2.2.2.2.2.2.2.1
theorem dX3_numberUnlike_20 : decode cX3_numberUnlike 20 = .ok (.aload_n 0, 1) := qd0_172.2.2.2.2.2.2.2.2.2.2.1
theorem dX3_numberUnlike_21 : decode cX3_numberUnlike 21 = .ok (.iconst 0, 1) := qd0_172.2.2.2.2.2.2.2.2.2.2.2
theorem qd0_173 : (decode cX3_numberUnlike 22 = .ok (.iload_n 2, 1)) ∧ (decode cX3_numberUnlike 23 = .ok (.invokevirtual 80, 3)) ∧ (decode cX3_numberUnlike 26 = .ok (.ireturn, 1)) := by decide +kernel
theorem dX3_numberUnlike_22 : decode cX3_numberUnlike 22 = .ok (.iload_n 2, 1) := qd0_173.1
theorem dX3_numberUnlike_23 : decode cX3_numberUnlike 23 = .ok (.invokevirtual 80, 3) := qd0_173.2.1
theorem dX3_numberUnlike_26 : decode cX3_numberUnlike 26 = .ok (.ireturn, 1) := qd0_173.2.2
theorem qd0_174 : (decode cX3_perhaps 0 = .ok (.aload_n 0, 1)) ∧ (decode cX3_perhaps 1 = .ok (.aload_n 1, 1)) ∧ (decode cX3_perhaps 2 = .ok (.invokevirtual 37, 3)) ∧ (decode cX3_perhaps 5 = .ok (.ifCond .ne 6, 3)) ∧ (decode cX3_perhaps 8 = .ok (.iload 4, 2)) ∧ (decode cX3_perhaps 10 = .ok (.ireturn, 1)) ∧ (decode cX3_perhaps 11 = .ok (.aload_n 0, 1)) ∧ (decode cX3_perhaps 12 = .ok (.invokevirtual 22, 3)) ∧ (decode cX3_perhaps 15 = .ok (.aload_n 0, 1)) ∧ (decode cX3_perhaps 16 = .ok (.iload_n 2, 1)) ∧ (decode cX3_perhaps 17 = .ok (.iload_n 3, 1)) ∧ (decode cX3_perhaps 18 = .ok (.invokevirtual 80, 3)) := by decide +kernel
theorem dX3_perhaps_0 : decode cX3_perhaps 0 = .ok (.aload_n 0, 1) := qd0_174.1
theorem dX3_perhaps_1 : decode cX3_perhaps 1 = .ok (.aload_n 1, 1) := qd0_174.2.1
theorem dX3_perhaps_2 : decode cX3_perhaps 2 = .ok (.invokevirtual 37, 3) := qd0_174.2.2.1
theorem dX3_perhaps_5 : decode cX3_perhaps 5 = .ok (.ifCond .ne 6, 3) := qd0_174.2.2.2.1
theorem dX3_perhaps_8 : decode cX3_perhaps 8 = .ok (.iload 4, 2) := qd0_174.2.2.2.2.1
theorem dX3_perhaps_10 : decode cX3_perhaps 10 = .ok (.ireturn, 1) := qd0_174.2.2.2.2.2.1
theorem dX3_perhaps_11 : decode cX3_perhaps 11 = .ok (.aload_n 0, 1) := qd0_174.2.2.2.2.2.2.1
theorem dX3_perhaps_12 : decode cX3_perhaps 12 = .ok (.invokevirtual 22, 3) := qd0_174.2.2.2.2.2.2.2.1
theorem dX3_perhaps_15 : decode cX3_perhaps 15 = .ok (.aload_n 0, 1) := qd0_174.2.2.2.2.2.2.2.2.1
theorem dX3_perhaps_16 : decode cX3_perhaps 16 = .ok (.iload_n 2, 1) := qd0_174.2.2.2.2.2.2.2.2.2.1
theorem dX3_perhaps_17 : decode cX3_perhaps 17 = .ok (.iload_n 3, 1) := qd0_174.2.2.2.2.2.2.2.2.2.2.1
theorem dX3_perhaps_18 : decode cX3_perhaps 18 = .ok (.invokevirtual 80, 3) := qd0_174.2.2.2.2.2.2.2.2.2.2.2
theorem dX3_perhaps_21 : decode cX3_perhaps 21 = .ok (.ireturn, 1) := by decide +kernel
theorem qd0_175 : (decode cX3_isWord 0 = .ok (.aload_n 0, 1)) ∧ (decode cX3_isWord 1 = .ok (.getfield 32, 3)) ∧ (decode cX3_isWord 4 = .ok (.iconst 1, 1)) ∧ (decode cX3_isWord 5 = .ok (.if_icmp .ne 19, 3)) ∧ (decode cX3_isWord 8 = .ok (.aload_n 0, 1)) ∧ (decode cX3_isWord 9 = .ok (.getfield 19, 3)) ∧ (decode cX3_isWord 12 = .ok (.aload_n 0, 1)) ∧ (decode cX3_isWord 13 = .ok (.getfield 29, 3)) ∧ (decode cX3_isWord 16 = .ok (.isub, 1)) ∧ (decode cX3_isWord 17 = .ok (.aload_n 1, 1)) ∧ (decode cX3_isWord 18 = .ok (.invokevirtual 138, 3)) ∧ (decode cX3_isWord 21 = .ok (.if_icmp .eq 5, 3)) := by decide +kernel
theorem dX3_isWord_0 : decode cX3_isWord 0 = .ok (.aload_n 0, 1) := qd0_175.1
theorem dX3_isWord_1 : decode cX3_isWord 1 = .ok (.getfield 32, 3) := qd0_175.2.1
theorem dX3_isWord_4 : decode cX3_isWord 4 = .ok (.iconst 1, 1) := qd0_175.2.2.1
theorem dX3_isWord_5 : decode cX3_isWord 5 = .ok (.if_icmp .ne 19, 3) := qd0_175.2.2.2.1
theorem dX3_isWord_8 : decode cX3_isWord 8 = .ok (.aload_n 0, 1) := qd0_175.2.2.2.2.1
theorem dX3_isWord_9 : decode cX3_isWord 9 = .ok (.getfield 19, 3) := qd0_175.2.2.2.2.2.1
theorem dX3_isWord_12 : decode cX3_isWord 12 = .ok (.aload_n 0, 1) := qd0_175.2.2.2.2.2.2.1
theorem dX3_isWord_13 : decode cX3_isWord 13 = .ok (.getfield 29, 3) := qd0_175.2.2.2.2.2.2.2.1
theorem dX3_isWord_16 : decode cX3_isWord 16 = .ok (.isub, 1) := qd0_175.2.2.2.2.2.2.2.2.1
theorem dX3_isWord_17 : decode cX3_isWord 17 = .ok (.aload_n 1, 1) := qd0_175.2.2.2.2.2.2.2.2.2.1
theorem dX3_isWord_18 : decode cX3_isWord 18 = .ok (.invokevirtual 138, 3) := qd0_175.2.2.2.2.2.2.2.2.2.2.1
theorem dX3_isWord_21 : decode cX3_isWord 21 = .ok (.if_icmp .eq 5, 3) := qd0_175.2.2.2.2.2.2.2.2.2.2.2
theorem qd0_176 : (decode cX3_isWord 24 = .ok (.iconst 0, 1)) ∧ (decode cX3_isWord 25 = .ok (.ireturn, 1)) ∧ (decode cX3_isWord 26 = .ok (.iconst 0, 1)) ∧ (decode cX3_isWord 27 = .ok (.istore_n 2, 1)) ∧ (decode cX3_isWord 28 = .ok (.iload_n 2, 1)) ∧ (decode cX3_isWord 29 = .ok (.aload_n 1, 1)) ∧ (decode cX3_isWord 30 = .ok (.invokevirtual 138, 3)) ∧ (decode cX3_isWord 33 = .ok (.if_icmp .ge 30, 3)) ∧ (decode cX3_isWord 36 = .ok (.aload_n 0, 1)) ∧ (decode cX3_isWord 37 = .ok (.getfield 11, 3)) ∧ (decode cX3_isWord 40 = .ok (.aload_n 0, 1)) ∧ (decode cX3_isWord 41 = .ok (.getfield 29, 3)) := by decide +kernel
theorem dX3_isWord_24 : decode cX3_isWord 24 = .ok (.iconst 0, 1) := qd0_176.1
theorem dX3_isWord_25 : decode cX3_isWord 25 = .ok (.ireturn, 1) := qd0_176.2.1
theorem dX3_isWord_26 : decode cX3_isWord 26 = .ok (.iconst 0, 1) := qd0_176.2.2.1
theorem dX3_isWord_27 : decode cX3_isWord 27 = .ok (.istore_n 2, 1) := qd0_176.2.2.2.1
theorem dX3_isWord_28 : decode cX3_isWord 28 = .ok (.iload_n 2, 1) := qd0_176.2.2.2.2.1
theorem dX3_isWord_29 : decode cX3_isWord 29 = .ok (.aload_n 1, 1) := qd0_176.2.2.2.2.2.1
theorem dX3_isWord_30 : decode cX3_isWord 30 = .ok (.invokevirtual 138, 3) := qd0_176.2.2.2.2.2.2.1
theorem dX3_isWord_33 : decode cX3_isWord 33 = .ok (.if_icmp .ge 30, 3) := qd0_176.2.2.2.2.2.2.2.1
theorem dX3_isWord_36 : decode cX3_isWord 36 = .ok (.aload_n 0, 1) := qd0_176.2.2.2.2.2.2.2.2.1
theorem dX3_isWord_37 : decode cX3_isWord 37 = .ok (.getfield 11, 3) := qd0_176.2.2.2.2.2.2.2.2.2.1
theorem dX3_isWord_40 : decode cX3_isWord 40 = .ok (.aload_n 0, 1) := qd0_176.2.2.2.2.2.2.2.2.2.2.1
theorem dX3_isWord_41 : decode cX3_isWord 41 = .ok (.getfield 29, 3) := qd0_176.2.2.2.2.2.2.2.2.2.2.2
theorem qd0_177 : (decode cX3_isWord 44 = .ok (.iload_n 2, 1)) ∧ (decode cX3_isWord 45 = .ok (.iadd, 1)) ∧ (decode cX3_isWord 46 = .ok (.iaload, 1)) ∧ (decode cX3_isWord 47 = .ok (.aload_n 1, 1)) ∧ (decode cX3_isWord 48 = .ok (.iload_n 2, 1)) ∧ (decode cX3_isWord 49 = .ok (.invokevirtual 144, 3)) ∧ (decode cX3_isWord 52 = .ok (.if_icmp .eq 5, 3)) ∧ (decode cX3_isWord 55 = .ok (.iconst 0, 1)) ∧ (decode cX3_isWord 56 = .ok (.ireturn, 1)) ∧ (decode cX3_isWord 57 = .ok (.iinc 2 1, 3)) ∧ (decode cX3_isWord 60 = .ok (.goto (-32), 3)) ∧ (decode cX3_isWord 63 = .ok (.iconst 1, 1)) := by decide +kernel
theorem dX3_isWord_44 : decode cX3_isWord 44 = .ok (.iload_n 2, 1) := qd0_177.1
theorem dX3_isWord_45 : decode cX3_isWord 45 = .ok (.iadd, 1) := qd0_177.2.1
theorem dX3_isWord_46 : decode cX3_isWord 46 = .ok (.iaload, 1) := qd0_177.2.2.1
theorem dX3_isWord_47 : decode cX3_isWord 47 = .ok (.aload_n 1, 1) := qd0_177.2.2.2.1
theorem dX3_isWord_48 : decode cX3_isWord 48 = .ok (.iload_n 2, 1) := qd0_177.2.2.2.2.1
theorem dX3_isWord_49 : decode cX3_isWord 49 = .ok (.invokevirtual 144, 3) := qd0_177.2.2.2.2.2.1
theorem dX3_isWord_52 : decode cX3_isWord 52 = .ok (.if_icmp .eq 5, 3) := qd0_177.2.2.2.2.2.2.1
theorem dX3_isWord_55 : decode cX3_isWord 55 = .ok (.iconst 0, 1) := qd0_177.2.2.2.2.2.2.2.1
theorem dX3_isWord_56 : decode cX3_isWord 56 = .ok (.ireturn, 1) := qd0_177.2.2.2.2.2.2.2.2.1
theorem dX3_isWord_57 : decode cX3_isWord 57 = .ok (.iinc 2 1, 3) := qd0_177.2.2.2.2.2.2.2.2.2.1
theorem dX3_isWord_60 : decode cX3_isWord 60 = .ok (.goto (-32), 3) := qd0_177.2.2.2.2.2.2.2.2.2.2.1
theorem dX3_isWord_63 : decode cX3_isWord 63 = .ok (.iconst 1, 1) := qd0_177.2.2.2.2.2.2.2.2.2.2.2
theorem dX3_isWord_64 : decode cX3_isWord 64 = .ok (.ireturn, 1) := by decide +kernel
