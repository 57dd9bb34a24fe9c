theorem qd4_0 : (decode cX7_free 0 = .ok (.aload_n 0, 1)) ∧ (decode cX7_free 1 = .ok (.invokevirtual 276, 3)) ∧ (decode cX7_free 4 = .ok (.iconst 0, 1)) ∧ (decode cX7_free 5 = .ok (.istore_n 1, 1)) ∧ (decode cX7_free 6 = .ok (.iconst 0, 1)) ∧ (decode cX7_free 7 = .ok (.istore_n 2, 1)) ∧ (decode cX7_free 8 = .ok (.iload_n 2, 1)) ∧ (decode cX7_free 9 = .ok (.aload_n 0, 1)) ∧ (decode cX7_free 10 = .ok (.getfield 125, 3)) ∧ (decode cX7_free 13 = .ok (.if_icmp .ge 60, 3)) ∧ (decode cX7_free 16 = .ok (.aload_n 0, 1)) ∧ (decode cX7_free 17 = .ok (.aload_n 0, 1)) := by decide +kernel
theorem dX7_free_0 : decode cX7_free 0 = .ok (.aload_n 0, 1) := qd4_0.1
theorem dX7_free_1 : decode cX7_free 1 = .ok (.invokevirtual 276, 3) := qd4_0.2.1
theorem dX7_free_4 : decode cX7_free 4 = .ok (.iconst 0, 1) := qd4_0.2.2.1
theorem dX7_free_5 : decode cX7_free 5 = .ok (.istore_n 1, 1) := qd4_0.2.2.2.1
theorem dX7_free_6 : decode cX7_free 6 = .ok (.iconst 0, 1) := qd4_0.2.2.2.2.1
theorem dX7_free_7 : decode cX7_free 7 = .ok (.istore_n 2, 1) := qd4_0.2.2.2.2.2.1
theorem dX7_free_8 : decode cX7_free 8 = .ok (.iload_n 2, 1) := qd4_0.2.2.2.2.2.2.1
theorem dX7_free_9 : decode cX7_free 9 = .ok (.aload_n 0, 1) := qd4_0.2.2.2.2.2.2.2.1
theorem dX7_free_10 : decode cX7_free 10 = .ok (.getfield 125, 3) := qd4_0.2.2.2.2.2.2.2.2.1
theorem dX7_free_13 : decode cX7_free 13 = .ok (.if_icmp .ge 60, 3) := qd4_0.2.2.2.2.2.2.2.2.2.1
theorem dX7_free_16 : decode cX7_free 16 = .ok (.aload_n 0, 1) := qd4_0.2.2.2.2.2.2.2.2.2.2.1
theorem dX7_free_17 : decode cX7_free 17 = .ok (.aload_n 0, 1) := qd4_0.2.2.2.2.2.2.2.2.2.2.2
theorem qd4_1 : (decode cX7_free 18 = .ok (.getfield 48, 3)) ∧ (decode cX7_free 21 = .ok (.iload_n 2, 1)) ∧ (decode cX7_free 22 = .ok (.aaload, 1)) ∧ (decode cX7_free 23 = .ok (.iconst 1, 1)) ∧ (decode cX7_free 24 = .ok (.iaload, 1)) ∧ (decode cX7_free 25 = .ok (.iconst 0, 1)) ∧ (decode cX7_free 26 = .ok (.invokevirtual 264, 3)) ∧ (decode cX7_free 29 = .ok (.aload_n 0, 1)) ∧ (decode cX7_free 30 = .ok (.aload_n 0, 1)) ∧ (decode cX7_free 31 = .ok (.getfield 48, 3)) ∧ (decode cX7_free 34 = .ok (.iload_n 2, 1)) ∧ (decode cX7_free 35 = .ok (.aaload, 1)) := by decide +kernel
theorem dX7_free_18 : decode cX7_free 18 = .ok (.getfield 48, 3) := qd4_1.1
theorem dX7_free_21 : decode cX7_free 21 = .ok (.iload_n 2, 1) := qd4_1.2.1
theorem dX7_free_22 : decode cX7_free 22 = .ok (.aaload, 1) := qd4_1.2.2.1
theorem dX7_free_23 : decode cX7_free 23 = .ok (.iconst 1, 1) := qd4_1.2.2.2.1
theorem dX7_free_24 : decode cX7_free 24 = .ok (.iaload, 1) := qd4_1.2.2.2.2.1
theorem dX7_free_25 : decode cX7_free 25 = .ok (.iconst 0, 1) := qd4_1.2.2.2.2.2.1
theorem dX7_free_26 : decode cX7_free 26 = .ok (.invokevirtual 264, 3) := qd4_1.2.2.2.2.2.2.1
theorem dX7_free_29 : decode cX7_free 29 = .ok (.aload_n 0, 1) := qd4_1.2.2.2.2.2.2.2.1
theorem dX7_free_30 : decode cX7_free 30 = .ok (.aload_n 0, 1) := qd4_1.2.2.2.2.2.2.2.2.1
theorem dX7_free_31 : decode cX7_free 31 = .ok (.getfield 48, 3) := qd4_1.2.2.2.2.2.2.2.2.2.1
theorem dX7_free_34 : decode cX7_free 34 = .ok (.iload_n 2, 1) := qd4_1.2.2.2.2.2.2.2.2.2.2.1
theorem dX7_free_35 : decode cX7_free 35 = .ok (.aaload, 1) := qd4_1.2.2.2.2.2.2.2.2.2.2.2
theorem qd4_2 : (decode cX7_free 36 = .ok (.iconst 0, 1)) ∧ (decode cX7_free 37 = .ok (.iaload, 1)) ∧ (decode cX7_free 38 = .ok (.invokevirtual 270, 3)) ∧ (decode cX7_free 41 = .ok (.istore_n 3, 1)) ∧ (decode cX7_free 42 = .ok (.iload_n 1, 1)) ∧ (decode cX7_free 43 = .ok (.aload_n 0, 1)) ∧ (decode cX7_free 44 = .ok (.getfield 48, 3)) ∧ (decode cX7_free 47 = .ok (.iload_n 2, 1)) ∧ (decode cX7_free 48 = .ok (.aaload, 1)) ∧ (decode cX7_free 49 = .ok (.iconst 2, 1)) ∧ (decode cX7_free 50 = .ok (.iaload, 1)) ∧ (decode cX7_free 51 = .ok (.iload_n 3, 1)) := by decide +kernel
theorem dX7_free_36 : decode cX7_free 36 = .ok (.iconst 0, 1) := qd4_2.1
theorem dX7_free_37 : decode cX7_free 37 = .ok (.iaload, 1) := qd4_2.2.1
theorem dX7_free_38 : decode cX7_free 38 = .ok (.invokevirtual 270, 3) := qd4_2.2.2.1
theorem dX7_free_41 : decode cX7_free 41 = .ok (.istore_n 3, 1) := qd4_2.2.2.2.1
theorem dX7_free_42 : decode cX7_free 42 = .ok (.iload_n 1, 1) := qd4_2.2.2.2.2.1
theorem dX7_free_43 : decode cX7_free 43 = .ok (.aload_n 0, 1) := qd4_2.2.2.2.2.2.1
theorem dX7_free_44 : decode cX7_free 44 = .ok (.getfield 48, 3) := qd4_2.2.2.2.2.2.2.1
theorem dX7_free_47 : decode cX7_free 47 = .ok (.iload_n 2, 1) := qd4_2.2.2.2.2.2.2.2.1
theorem dX7_free_48 : decode cX7_free 48 = .ok (.aaload, 1) := qd4_2.2.2.2.2.2.2.2.2.1
theorem dX7_free_49 : decode cX7_free 49 = .ok (.iconst 2, 1) := qd4_2.2.2.2.2.2.2.2.2.2.1
theorem dX7_free_50 : decode cX7_free 50 = .ok (.iaload, 1) := qd4_2.2.2.2.2.2.2.2.2.2.2.1
theorem dX7_free_51 : decode cX7_free 51 = .ok (.iload_n 3, 1) := qd4_2.2.2.2.2.2.2.2.2.2.2.2
theorem qd4_3 : (decode cX7_free 52 = .ok (.ldc 254, 2)) ∧ (decode cX7_free 54 = .ok (.if_icmp .lt 9, 3)) ∧ (decode cX7_free 57 = .ok (.sipush 999, 3)) ∧ (decode cX7_free 60 = .ok (.goto 4, 3)) ∧ (decode cX7_free 63 = .ok (.iload_n 3, 1)) ∧ (decode cX7_free 64 = .ok (.imul, 1)) ∧ (decode cX7_free 65 = .ok (.iadd, 1)) ∧ (decode cX7_free 66 = .ok (.istore_n 1, 1)) ∧ (decode cX7_free 67 = .ok (.iinc 2 1, 3)) ∧ (decode cX7_free 70 = .ok (.goto (-62), 3)) ∧ (decode cX7_free 73 = .ok (.iload_n 1, 1)) ∧ (decode cX7_free 74 = .ok (.ireturn, 1)) := by decide +kernel
theorem dX7_free_52 : decode cX7_free 52 = .ok (.ldc 254, 2) := qd4_3.1
theorem dX7_free_54 : decode cX7_free 54 = .ok (.if_icmp .lt 9, 3) := qd4_3.2.1
theorem dX7_free_57 : decode cX7_free 57 = .ok (.sipush 999, 3) := qd4_3.2.2.1
theorem dX7_free_60 : decode cX7_free 60 = .ok (.goto 4, 3) := qd4_3.2.2.2.1
theorem dX7_free_63 : decode cX7_free 63 = .ok (.iload_n 3, 1) := qd4_3.2.2.2.2.1
theorem dX7_free_64 : decode cX7_free 64 = .ok (.imul, 1) := qd4_3.2.2.2.2.2.1
theorem dX7_free_65 : decode cX7_free 65 = .ok (.iadd, 1) := qd4_3.2.2.2.2.2.2.1
theorem dX7_free_66 : decode cX7_free 66 = .ok (.istore_n 1, 1) := qd4_3.2.2.2.2.2.2.2.1
theorem dX7_free_67 : decode cX7_free 67 = .ok (.iinc 2 1, 3) := qd4_3.2.2.2.2.2.2.2.2.1
theorem dX7_free_70 : decode cX7_free 70 = .ok (.goto (-62), 3) := qd4_3.2.2.2.2.2.2.2.2.2.1
theorem dX7_free_73 : decode cX7_free 73 = .ok (.iload_n 1, 1) := qd4_3.2.2.2.2.2.2.2.2.2.2.1
theorem dX7_free_74 : decode cX7_free 74 = .ok (.ireturn, 1) := qd4_3.2.2.2.2.2.2.2.2.2.2.2
theorem qd4_4 : (decode cX7_turn 0 = .ok (.iload_n 1, 1)) ∧ (decode cX7_turn 1 = .ok (.ifCond .lt 27, 3)) ∧ (decode cX7_turn 4 = .ok (.iload_n 1, 1)) ∧ (decode cX7_turn 5 = .ok (.iconst 1, 1)) ∧ (decode cX7_turn 6 = .ok (.if_icmp .le 29, 3)) ∧ (decode cX7_turn 9 = .ok (.iload_n 1, 1)) ∧ (decode cX7_turn 10 = .ok (.i2l, 1)) ∧ (decode cX7_turn 11 = .ok (.ldc2_w 168, 3)) ∧ (decode cX7_turn 14 = .ok (.bipush 9, 2)) ∧ (decode cX7_turn 16 = .ok (.aload_n 0, 1)) ∧ (decode cX7_turn 17 = .ok (.getfield 82, 3)) ∧ (decode cX7_turn 20 = .ok (.iadd, 1)) := by decide +kernel
theorem dX7_turn_0 : decode cX7_turn 0 = .ok (.iload_n 1, 1) := qd4_4.1
theorem dX7_turn_1 : decode cX7_turn 1 = .ok (.ifCond .lt 27, 3) := qd4_4.2.1
theorem dX7_turn_4 : decode cX7_turn 4 = .ok (.iload_n 1, 1) := qd4_4.2.2.1
theorem dX7_turn_5 : decode cX7_turn 5 = .ok (.iconst 1, 1) := qd4_4.2.2.2.1
theorem dX7_turn_6 : decode cX7_turn 6 = .ok (.if_icmp .le 29, 3) := qd4_4.2.2.2.2.1
theorem dX7_turn_9 : decode cX7_turn 9 = .ok (.iload_n 1, 1) := qd4_4.2.2.2.2.2.1
theorem dX7_turn_10 : decode cX7_turn 10 = .ok (.i2l, 1) := qd4_4.2.2.2.2.2.2.1
theorem dX7_turn_11 : decode cX7_turn 11 = .ok (.ldc2_w 168, 3) := qd4_4.2.2.2.2.2.2.2.1
theorem dX7_turn_14 : decode cX7_turn 14 = .ok (.bipush 9, 2) := qd4_4.2.2.2.2.2.2.2.2.1
theorem dX7_turn_16 : decode cX7_turn 16 = .ok (.aload_n 0, 1) := qd4_4.2.2.2.2.2.2.2.2.2.1
theorem dX7_turn_17 : decode cX7_turn 17 = .ok (.getfield 82, 3) := qd4_4.2.2.2.2.2.2.2.2.2.2.1
theorem dX7_turn_20 : decode cX7_turn 20 = .ok (.iadd, 1) := qd4_4.2.2.2.2.2.2.2.2.2.2.2
theorem qd4_5 : (decode cX7_turn 21 = .ok (.i2l, 1)) ∧ (decode cX7_turn 22 = .ok (.invokestatic 78, 3)) ∧ (decode cX7_turn 25 = .ok (.ifCond .ne 10, 3)) ∧ (decode cX7_turn 28 = .ok (.aload_n 0, 1)) ∧ (decode cX7_turn 29 = .ok (.bipush (-2), 2)) ∧ (decode cX7_turn 31 = .ok (.invokevirtual 94, 3)) ∧ (decode cX7_turn 34 = .ok (.ireturn, 1)) ∧ (decode cX7_turn 35 = .ok (.aload_n 0, 1)) ∧ (decode cX7_turn 36 = .ok (.invokevirtual 276, 3)) ∧ (decode cX7_turn 39 = .ok (.iconst 0, 1)) ∧ (decode cX7_turn 40 = .ok (.istore_n 2, 1)) ∧ (decode cX7_turn 41 = .ok (.iconst 0, 1)) := by decide +kernel
theorem dX7_turn_21 : decode cX7_turn 21 = .ok (.i2l, 1) := qd4_5.1
theorem dX7_turn_22 : decode cX7_turn 22 = .ok (.invokestatic 78, 3) := qd4_5.2.1
theorem dX7_turn_25 : decode cX7_turn 25 = .ok (.ifCond .ne 10, 3) := qd4_5.2.2.1
theorem dX7_turn_28 : decode cX7_turn 28 = .ok (.aload_n 0, 1) := qd4_5.2.2.2.1
theorem dX7_turn_29 : decode cX7_turn 29 = .ok (.bipush (-2), 2) := qd4_5.2.2.2.2.1
theorem dX7_turn_31 : decode cX7_turn 31 = .ok (.invokevirtual 94, 3) := qd4_5.2.2.2.2.2.1
theorem dX7_turn_34 : decode cX7_turn 34 = .ok (.ireturn, 1) := qd4_5.2.2.2.2.2.2.1
theorem dX7_turn_35 : decode cX7_turn 35 = .ok (.aload_n 0, 1) := qd4_5.2.2.2.2.2.2.2.1
theorem dX7_turn_36 : decode cX7_turn 36 = .ok (.invokevirtual 276, 3) := qd4_5.2.2.2.2.2.2.2.2.1
theorem dX7_turn_39 : decode cX7_turn 39 = .ok (.iconst 0, 1) := qd4_5.2.2.2.2.2.2.2.2.2.1
theorem dX7_turn_40 : decode cX7_turn 40 = .ok (.istore_n 2, 1) := qd4_5.2.2.2.2.2.2.2.2.2.2.1
theorem dX7_turn_41 : decode cX7_turn 41 = .ok (.iconst 0, 1) := qd4_5.2.2.2.2.2.2.2.2.2.2.2
theorem qd4_6 : (decode cX7_turn 42 = .ok (.istore_n 3, 1)) ∧ (decode cX7_turn 43 = .ok (.iconst 0, 1)) ∧ (decode cX7_turn 44 = .ok (.istore 4, 2)) ∧ (decode cX7_turn 46 = .ok (.iload 4, 2)) ∧ (decode cX7_turn 48 = .ok (.aload_n 0, 1)) ∧ (decode cX7_turn 49 = .ok (.getfield 125, 3)) ∧ (decode cX7_turn 52 = .ok (.if_icmp .ge 166, 3)) ∧ (decode cX7_turn 55 = .ok (.aload_n 0, 1)) ∧ (decode cX7_turn 56 = .ok (.getfield 48, 3)) ∧ (decode cX7_turn 59 = .ok (.iload 4, 2)) ∧ (decode cX7_turn 61 = .ok (.aaload, 1)) ∧ (decode cX7_turn 62 = .ok (.iconst 2, 1)) := by decide +kernel
theorem dX7_turn_42 : decode cX7_turn 42 = .ok (.istore_n 3, 1) := qd4_6.1
theorem dX7_turn_43 : decode cX7_turn 43 = .ok (.iconst 0, 1) := qd4_6.2.1
theorem dX7_turn_44 : decode cX7_turn 44 = .ok (.istore 4, 2) := qd4_6.2.2.1
theorem dX7_turn_46 : decode cX7_turn 46 = .ok (.iload 4, 2) := qd4_6.2.2.2.1
theorem dX7_turn_48 : decode cX7_turn 48 = .ok (.aload_n 0, 1) := qd4_6.2.2.2.2.1
theorem dX7_turn_49 : decode cX7_turn 49 = .ok (.getfield 125, 3) := qd4_6.2.2.2.2.2.1
theorem dX7_turn_52 : decode cX7_turn 52 = .ok (.if_icmp .ge 166, 3) := qd4_6.2.2.2.2.2.2.1
theorem dX7_turn_55 : decode cX7_turn 55 = .ok (.aload_n 0, 1) := qd4_6.2.2.2.2.2.2.2.1
theorem dX7_turn_56 : decode cX7_turn 56 = .ok (.getfield 48, 3) := qd4_6.2.2.2.2.2.2.2.2.1
theorem dX7_turn_59 : decode cX7_turn 59 = .ok (.iload 4, 2) := qd4_6.2.2.2.2.2.2.2.2.2.1
theorem dX7_turn_61 : decode cX7_turn 61 = .ok (.aaload, 1) := qd4_6.2.2.2.2.2.2.2.2.2.2.1
theorem dX7_turn_62 : decode cX7_turn 62 = .ok (.iconst 2, 1) := qd4_6.2.2.2.2.2.2.2.2.2.2.2
theorem qd4_7 : (decode cX7_turn 63 = .ok (.iaload, 1)) ∧ (decode cX7_turn 64 = .ok (.istore 5, 2)) ∧ (decode cX7_turn 66 = .ok (.aload_n 0, 1)) ∧ (decode cX7_turn 67 = .ok (.aload_n 0, 1)) ∧ (decode cX7_turn 68 = .ok (.getfield 48, 3)) ∧ (decode cX7_turn 71 = .ok (.iload 4, 2)) ∧ (decode cX7_turn 73 = .ok (.aaload, 1)) ∧ (decode cX7_turn 74 = .ok (.iconst 0, 1)) ∧ (decode cX7_turn 75 = .ok (.iaload, 1)) ∧ (decode cX7_turn 76 = .ok (.aload_n 0, 1)) ∧ (decode cX7_turn 77 = .ok (.getfield 48, 3)) ∧ (decode cX7_turn 80 = .ok (.iload 4, 2)) := by decide +kernel
theorem dX7_turn_63 : decode cX7_turn 63 = .ok (.iaload, 1) := qd4_7.1
theorem dX7_turn_64 : decode cX7_turn 64 = .ok (.istore 5, 2) := qd4_7.2.1
theorem dX7_turn_66 : decode cX7_turn 66 = .ok (.aload_n 0, 1) := qd4_7.2.2.1
theorem dX7_turn_67 : decode cX7_turn 67 = .ok (.aload_n 0, 1) := qd4_7.2.2.2.1
theorem dX7_turn_68 : decode cX7_turn 68 = .ok (.getfield 48, 3) := qd4_7.2.2.2.2.1
theorem dX7_turn_71 : decode cX7_turn 71 = .ok (.iload 4, 2) := qd4_7.2.2.2.2.2.1
theorem dX7_turn_73 : decode cX7_turn 73 = .ok (.aaload, 1) := qd4_7.2.2.2.2.2.2.1
theorem dX7_turn_74 : decode cX7_turn 74 = .ok (.iconst 0, 1) := qd4_7.2.2.2.2.2.2.2.1
theorem dX7_turn_75 : decode cX7_turn 75 = .ok (.iaload, 1) := qd4_7.2.2.2.2.2.2.2.2.1
theorem dX7_turn_76 : decode cX7_turn 76 = .ok (.aload_n 0, 1) := qd4_7.2.2.2.2.2.2.2.2.2.1
theorem dX7_turn_77 : decode cX7_turn 77 = .ok (.getfield 48, 3) := qd4_7.2.2.2.2.2.2.2.2.2.2.1
theorem dX7_turn_80 : decode cX7_turn 80 = .ok (.iload 4, 2) := qd4_7.2.2.2.2.2.2.2.2.2.2.2
theorem qd4_8 : (decode cX7_turn 82 = .ok (.aaload, 1)) ∧ (decode cX7_turn 83 = .ok (.iconst 1, 1)) ∧ (decode cX7_turn 84 = .ok (.iaload, 1)) ∧ (decode cX7_turn 85 = .ok (.iload 5, 2)) ∧ (decode cX7_turn 87 = .ok (.invokevirtual 279, 3)) ∧ (decode cX7_turn 90 = .ok (.ifCond .ne 20, 3)) ∧ (decode cX7_turn 93 = .ok (.iload_n 2, 1)) ∧ (decode cX7_turn 94 = .ok (.sipush 999, 3)) ∧ (decode cX7_turn 97 = .ok (.iload 5, 2)) ∧ (decode cX7_turn 99 = .ok (.imul, 1)) ∧ (decode cX7_turn 100 = .ok (.iadd, 1)) ∧ (decode cX7_turn 101 = .ok (.istore_n 2, 1)) := by decide +kernel
theorem dX7_turn_82 : decode cX7_turn 82 = .ok (.aaload, 1) := qd4_8.1
theorem dX7_turn_83 : decode cX7_turn 83 = .ok (.iconst 1, 1) := qd4_8.2.1
theorem dX7_turn_84 : decode cX7_turn 84 = .ok (.iaload, 1) := qd4_8.2.2.1
theorem dX7_turn_85 : decode cX7_turn 85 = .ok (.iload 5, 2) := qd4_8.2.2.2.1
theorem dX7_turn_87 : decode cX7_turn 87 = .ok (.invokevirtual 279, 3) := qd4_8.2.2.2.2.1
theorem dX7_turn_90 : decode cX7_turn 90 = .ok (.ifCond .ne 20, 3) := qd4_8.2.2.2.2.2.1
theorem dX7_turn_93 : decode cX7_turn 93 = .ok (.iload_n 2, 1) := qd4_8.2.2.2.2.2.2.1
theorem dX7_turn_94 : decode cX7_turn 94 = .ok (.sipush 999, 3) := qd4_8.2.2.2.2.2.2.2.1
theorem dX7_turn_97 : decode cX7_turn 97 = .ok (.iload 5, 2) := qd4_8.2.2.2.2.2.2.2.2.1
theorem dX7_turn_99 : decode cX7_turn 99 = .ok (.imul, 1) := qd4_8.2.2.2.2.2.2.2.2.2.1
theorem dX7_turn_100 : decode cX7_turn 100 = .ok (.iadd, 1) := qd4_8.2.2.2.2.2.2.2.2.2.2.1
theorem dX7_turn_101 : decode cX7_turn 101 = .ok (.istore_n 2, 1) := qd4_8.2.2.2.2.2.2.2.2.2.2.2
theorem qd4_9 : (decode cX7_turn 102 = .ok (.iload_n 3, 1)) ∧ (decode cX7_turn 103 = .ok (.iload 5, 2)) ∧ (decode cX7_turn 105 = .ok (.iadd, 1)) ∧ (decode cX7_turn 106 = .ok (.istore_n 3, 1)) ∧ (decode cX7_turn 107 = .ok (.goto 105, 3)) ∧ (decode cX7_turn 110 = .ok (.iload_n 2, 1)) ∧ (decode cX7_turn 111 = .ok (.iload 5, 2)) ∧ (decode cX7_turn 113 = .ok (.aload_n 0, 1)) ∧ (decode cX7_turn 114 = .ok (.aload_n 0, 1)) ∧ (decode cX7_turn 115 = .ok (.getfield 48, 3)) ∧ (decode cX7_turn 118 = .ok (.iload 4, 2)) ∧ (decode cX7_turn 120 = .ok (.aaload, 1)) := by decide +kernel
theorem dX7_turn_102 : decode cX7_turn 102 = .ok (.iload_n 3, 1) := qd4_9.1
theorem dX7_turn_103 : decode cX7_turn 103 = .ok (.iload 5, 2) := qd4_9.2.1
theorem dX7_turn_105 : decode cX7_turn 105 = .ok (.iadd, 1) := qd4_9.2.2.1
theorem dX7_turn_106 : decode cX7_turn 106 = .ok (.istore_n 3, 1) := qd4_9.2.2.2.1
theorem dX7_turn_107 : decode cX7_turn 107 = .ok (.goto 105, 3) := qd4_9.2.2.2.2.1
theorem dX7_turn_110 : decode cX7_turn 110 = .ok (.iload_n 2, 1) := qd4_9.2.2.2.2.2.1
theorem dX7_turn_111 : decode cX7_turn 111 = .ok (.iload 5, 2) := qd4_9.2.2.2.2.2.2.1
theorem dX7_turn_113 : decode cX7_turn 113 = .ok (.aload_n 0, 1) := qd4_9.2.2.2.2.2.2.2.1
theorem dX7_turn_114 : decode cX7_turn 114 = .ok (.aload_n 0, 1) := qd4_9.2.2.2.2.2.2.2.2.1
theorem dX7_turn_115 : decode cX7_turn 115 = .ok (.getfield 48, 3) := qd4_9.2.2.2.2.2.2.2.2.2.1
theorem dX7_turn_118 : decode cX7_turn 118 = .ok (.iload 4, 2) := qd4_9.2.2.2.2.2.2.2.2.2.2.1
theorem dX7_turn_120 : decode cX7_turn 120 = .ok (.aaload, 1) := qd4_9.2.2.2.2.2.2.2.2.2.2.2
theorem qd4_10 : (decode cX7_turn 121 = .ok (.iconst 0, 1)) ∧ (decode cX7_turn 122 = .ok (.iaload, 1)) ∧ (decode cX7_turn 123 = .ok (.invokevirtual 270, 3)) ∧ (decode cX7_turn 126 = .ok (.imul, 1)) ∧ (decode cX7_turn 127 = .ok (.iadd, 1)) ∧ (decode cX7_turn 128 = .ok (.istore_n 2, 1)) ∧ (decode cX7_turn 129 = .ok (.iconst 1, 1)) ∧ (decode cX7_turn 130 = .ok (.istore 6, 2)) ∧ (decode cX7_turn 132 = .ok (.iload 6, 2)) ∧ (decode cX7_turn 134 = .ok (.aload_n 0, 1)) ∧ (decode cX7_turn 135 = .ok (.getfield 267, 3)) ∧ (decode cX7_turn 138 = .ok (.if_icmp .ge 74, 3)) := by decide +kernel
theorem dX7_turn_121 : decode cX7_turn 121 = .ok (.iconst 0, 1) := qd4_10.1
theorem dX7_turn_122 : decode cX7_turn 122 = .ok (.iaload, 1) := qd4_10.2.1
theorem dX7_turn_123 : decode cX7_turn 123 = .ok (.invokevirtual 270, 3) := qd4_10.2.2.1
theorem dX7_turn_126 : decode cX7_turn 126 = .ok (.imul, 1) := qd4_10.2.2.2.1
theorem dX7_turn_127 : decode cX7_turn 127 = .ok (.iadd, 1) := qd4_10.2.2.2.2.1
theorem dX7_turn_128 : decode cX7_turn 128 = .ok (.istore_n 2, 1) := qd4_10.2.2.2.2.2.1
theorem dX7_turn_129 : decode cX7_turn 129 = .ok (.iconst 1, 1) := qd4_10.2.2.2.2.2.2.1
theorem dX7_turn_130 : decode cX7_turn 130 = .ok (.istore 6, 2) := qd4_10.2.2.2.2.2.2.2.1
theorem dX7_turn_132 : decode cX7_turn 132 = .ok (.iload 6, 2) := qd4_10.2.2.2.2.2.2.2.2.1
theorem dX7_turn_134 : decode cX7_turn 134 = .ok (.aload_n 0, 1) := qd4_10.2.2.2.2.2.2.2.2.2.1
theorem dX7_turn_135 : decode cX7_turn 135 = .ok (.getfield 267, 3) := qd4_10.2.2.2.2.2.2.2.2.2.2.1
theorem dX7_turn_138 : decode cX7_turn 138 = .ok (.if_icmp .ge 74, 3) := qd4_10.2.2.2.2.2.2.2.2.2.2.2
theorem qd4_11 : (decode cX7_turn 141 = .ok (.aload_n 0, 1)) ∧ (decode cX7_turn 142 = .ok (.getfield 67, 3)) ∧ (decode cX7_turn 145 = .ok (.iload 6, 2)) ∧ (decode cX7_turn 147 = .ok (.iaload, 1)) ∧ (decode cX7_turn 148 = .ok (.iconst 3, 1)) ∧ (decode cX7_turn 149 = .ok (.if_icmp .lt 57, 3)) ∧ (decode cX7_turn 152 = .ok (.aload_n 0, 1)) ∧ (decode cX7_turn 153 = .ok (.getfield 61, 3)) ∧ (decode cX7_turn 156 = .ok (.aload_n 0, 1)) ∧ (decode cX7_turn 157 = .ok (.getfield 67, 3)) ∧ (decode cX7_turn 160 = .ok (.iload 6, 2)) ∧ (decode cX7_turn 162 = .ok (.iaload, 1)) := by decide +kernel
theorem dX7_turn_141 : decode cX7_turn 141 = .ok (.aload_n 0, 1) := qd4_11.1
theorem dX7_turn_142 : decode cX7_turn 142 = .ok (.getfield 67, 3) := qd4_11.2.1
theorem dX7_turn_145 : decode cX7_turn 145 = .ok (.iload 6, 2) := qd4_11.2.2.1
theorem dX7_turn_147 : decode cX7_turn 147 = .ok (.iaload, 1) := qd4_11.2.2.2.1
theorem dX7_turn_148 : decode cX7_turn 148 = .ok (.iconst 3, 1) := qd4_11.2.2.2.2.1
theorem dX7_turn_149 : decode cX7_turn 149 = .ok (.if_icmp .lt 57, 3) := qd4_11.2.2.2.2.2.1
theorem dX7_turn_152 : decode cX7_turn 152 = .ok (.aload_n 0, 1) := qd4_11.2.2.2.2.2.2.1
theorem dX7_turn_153 : decode cX7_turn 153 = .ok (.getfield 61, 3) := qd4_11.2.2.2.2.2.2.2.1
theorem dX7_turn_156 : decode cX7_turn 156 = .ok (.aload_n 0, 1) := qd4_11.2.2.2.2.2.2.2.2.1
theorem dX7_turn_157 : decode cX7_turn 157 = .ok (.getfield 67, 3) := qd4_11.2.2.2.2.2.2.2.2.2.1
theorem dX7_turn_160 : decode cX7_turn 160 = .ok (.iload 6, 2) := qd4_11.2.2.2.2.2.2.2.2.2.2.1
theorem dX7_turn_162 : decode cX7_turn 162 = .ok (.iaload, 1) := qd4_11.2.2.2.2.2.2.2.2.2.2.2
theorem qd4_12 : (decode cX7_turn 163 = .ok (.iconst 3, 1)) ∧ (decode cX7_turn 164 = .ok (.isub, 1)) ∧ (decode cX7_turn 165 = .ok (.aload_n 0, 1)) ∧ (decode cX7_turn 166 = .ok (.getfield 61, 3)) ∧ (decode cX7_turn 169 = .ok (.aload_n 0, 1)) ∧ (decode cX7_turn 170 = .ok (.getfield 67, 3)) ∧ (decode cX7_turn 173 = .ok (.iload 6, 2)) ∧ (decode cX7_turn 175 = .ok (.iaload, 1)) ∧ (decode cX7_turn 176 = .ok (.iconst 3, 1)) ∧ (decode cX7_turn 177 = .ok (.isub, 1)) ∧ (decode cX7_turn 178 = .ok (.iaload, 1)) ∧ (decode cX7_turn 179 = .ok (.iload 5, 2)) := by decide +kernel
theorem dX7_turn_163 : decode cX7_turn 163 = .ok (.iconst 3, 1) := qd4_12.1
theorem dX7_turn_164 : decode cX7_turn 164 = .ok (.isub, 1) := qd4_12.2.1
theorem dX7_turn_165 : decode cX7_turn 165 = .ok (.aload_n 0, 1) := qd4_12.2.2.1
theorem dX7_turn_166 : decode cX7_turn 166 = .ok (.getfield 61, 3) := qd4_12.2.2.2.1
theorem dX7_turn_169 : decode cX7_turn 169 = .ok (.aload_n 0, 1) := qd4_12.2.2.2.2.1
theorem dX7_turn_170 : decode cX7_turn 170 = .ok (.getfield 67, 3) := qd4_12.2.2.2.2.2.1
theorem dX7_turn_173 : decode cX7_turn 173 = .ok (.iload 6, 2) := qd4_12.2.2.2.2.2.2.1
theorem dX7_turn_175 : decode cX7_turn 175 = .ok (.iaload, 1) := qd4_12.2.2.2.2.2.2.2.1
theorem dX7_turn_176 : decode cX7_turn 176 = .ok (.iconst 3, 1) := qd4_12.2.2.2.2.2.2.2.2.1
theorem dX7_turn_177 : decode cX7_turn 177 = .ok (.isub, 1) := qd4_12.2.2.2.2.2.2.2.2.2.1
theorem dX7_turn_178 : decode cX7_turn 178 = .ok (.iaload, 1) := qd4_12.2.2.2.2.2.2.2.2.2.2.1
theorem dX7_turn_179 : decode cX7_turn 179 = .ok (.iload 5, 2) := qd4_12.2.2.2.2.2.2.2.2.2.2.2
theorem qd4_13 : (decode cX7_turn 181 = .ok (.if_icmp .ge 7, 3)) ∧ (decode cX7_turn 184 = .ok (.iconst 0, 1)) ∧ (decode cX7_turn 185 = .ok (.goto 20, 3)) ∧ (decode cX7_turn 188 = .ok (.aload_n 0, 1)) ∧ (decode cX7_turn 189 = .ok (.getfield 61, 3)) ∧ (decode cX7_turn 192 = .ok (.aload_n 0, 1)) ∧ (decode cX7_turn 193 = .ok (.getfield 67, 3)) ∧ (decode cX7_turn 196 = .ok (.iload 6, 2)) ∧ (decode cX7_turn 198 = .ok (.iaload, 1)) ∧ (decode cX7_turn 199 = .ok (.iconst 3, 1)) ∧ (decode cX7_turn 200 = .ok (.isub, 1)) ∧ (decode cX7_turn 201 = .ok (.iaload, 1)) := by decide +kernel
theorem dX7_turn_181 : decode cX7_turn 181 = .ok (.if_icmp .ge 7, 3) := qd4_13.1
theorem dX7_turn_184 : decode cX7_turn 184 = .ok (.iconst 0, 1) := qd4_13.2.1
theorem dX7_turn_185 : decode cX7_turn 185 = .ok (.goto 20, 3) := qd4_13.2.2.1
theorem dX7_turn_188 : decode cX7_turn 188 = .ok (.aload_n 0, 1) := qd4_13.2.2.2.1
theorem dX7_turn_189 : decode cX7_turn 189 = .ok (.getfield 61, 3) := qd4_13.2.2.2.2.1
theorem dX7_turn_192 : decode cX7_turn 192 = .ok (.aload_n 0, 1) := qd4_13.2.2.2.2.2.1
theorem dX7_turn_193 : decode cX7_turn 193 = .ok (.getfield 67, 3) := qd4_13.2.2.2.2.2.2.1
theorem dX7_turn_196 : decode cX7_turn 196 = .ok (.iload 6, 2) := qd4_13.2.2.2.2.2.2.2.1
theorem dX7_turn_198 : decode cX7_turn 198 = .ok (.iaload, 1) := qd4_13.2.2.2.2.2.2.2.2.1
theorem dX7_turn_199 : decode cX7_turn 199 = .ok (.iconst 3, 1) := qd4_13.2.2.2.2.2.2.2.2.2.1
theorem dX7_turn_200 : decode cX7_turn 200 = .ok (.isub, 1) := qd4_13.2.2.2.2.2.2.2.2.2.2.1
theorem dX7_turn_201 : decode cX7_turn 201 = .ok (.iaload, 1) := qd4_13.2.2.2.2.2.2.2.2.2.2.2
theorem qd4_14 : (decode cX7_turn 202 = .ok (.iload 5, 2)) ∧ (decode cX7_turn 204 = .ok (.isub, 1)) ∧ (decode cX7_turn 205 = .ok (.iastore, 1)) ∧ (decode cX7_turn 206 = .ok (.iinc 6 1, 3)) ∧ (decode cX7_turn 209 = .ok (.goto (-77), 3)) ∧ (decode cX7_turn 212 = .ok (.iinc 4 1, 3)) ∧ (decode cX7_turn 215 = .ok (.goto (-169), 3)) ∧ (decode cX7_turn 218 = .ok (.iload_n 1, 1)) ∧ (decode cX7_turn 219 = .ok (.ifCond .ne 7, 3)) ∧ (decode cX7_turn 222 = .ok (.iload_n 2, 1)) ∧ (decode cX7_turn 223 = .ok (.goto 21, 3)) ∧ (decode cX7_turn 226 = .ok (.iload_n 1, 1)) := by decide +kernel
theorem dX7_turn_202 : decode cX7_turn 202 = .ok (.iload 5, 2) := qd4_14.1
theorem dX7_turn_204 : decode cX7_turn 204 = .ok (.isub, 1) := qd4_14.2.1
theorem dX7_turn_205 : decode cX7_turn 205 = .ok (.iastore, 1) := qd4_14.2.2.1
theorem dX7_turn_206 : decode cX7_turn 206 = .ok (.iinc 6 1, 3) := qd4_14.2.2.2.1
theorem dX7_turn_209 : decode cX7_turn 209 = .ok (.goto (-77), 3) := qd4_14.2.2.2.2.1
theorem dX7_turn_212 : decode cX7_turn 212 = .ok (.iinc 4 1, 3) := qd4_14.2.2.2.2.2.1
theorem dX7_turn_215 : decode cX7_turn 215 = .ok (.goto (-169), 3) := qd4_14.2.2.2.2.2.2.1
theorem dX7_turn_218 : decode cX7_turn 218 = .ok (.iload_n 1, 1) := qd4_14.2.2.2.2.2.2.2.1
theorem dX7_turn_219 : decode cX7_turn 219 = .ok (.ifCond .ne 7, 3) := qd4_14.2.2.2.2.2.2.2.2.1
theorem dX7_turn_222 : decode cX7_turn 222 = .ok (.iload_n 2, 1) := qd4_14.2.2.2.2.2.2.2.2.2.1
theorem dX7_turn_223 : decode cX7_turn 223 = .ok (.goto 21, 3) := qd4_14.2.2.2.2.2.2.2.2.2.2.1
theorem dX7_turn_226 : decode cX7_turn 226 = .ok (.iload_n 1, 1) := qd4_14.2.2.2.2.2.2.2.2.2.2.2
theorem qd4_15 : (decode cX7_turn 227 = .ok (.iconst 1, 1)) ∧ (decode cX7_turn 228 = .ok (.if_icmp .ne 7, 3)) ∧ (decode cX7_turn 231 = .ok (.iload_n 3, 1)) ∧ (decode cX7_turn 232 = .ok (.goto 12, 3)) ∧ (decode cX7_turn 235 = .ok (.aload_n 0, 1)) ∧ (decode cX7_turn 236 = .ok (.getfield 61, 3)) ∧ (decode cX7_turn 239 = .ok (.iload_n 1, 1)) ∧ (decode cX7_turn 240 = .ok (.bipush 10, 2)) ∧ (decode cX7_turn 242 = .ok (.isub, 1)) ∧ (decode cX7_turn 243 = .ok (.iaload, 1)) ∧ (decode cX7_turn 244 = .ok (.ireturn, 1)) := by decide +kernel
theorem dX7_turn_227 : decode cX7_turn 227 = .ok (.iconst 1, 1) := qd4_15.1
theorem dX7_turn_228 : decode cX7_turn 228 = .ok (.if_icmp .ne 7, 3) := qd4_15.2.1
theorem dX7_turn_231 : decode cX7_turn 231 = .ok (.iload_n 3, 1) := qd4_15.2.2.1
theorem dX7_turn_232 : decode cX7_turn 232 = .ok (.goto 12, 3) := qd4_15.2.2.2.1
theorem dX7_turn_235 : decode cX7_turn 235 = .ok (.aload_n 0, 1) := qd4_15.2.2.2.2.1
theorem dX7_turn_236 : decode cX7_turn 236 = .ok (.getfield 61, 3) := qd4_15.2.2.2.2.2.1
theorem dX7_turn_239 : decode cX7_turn 239 = .ok (.iload_n 1, 1) := qd4_15.2.2.2.2.2.2.1
theorem dX7_turn_240 : decode cX7_turn 240 = .ok (.bipush 10, 2) := qd4_15.2.2.2.2.2.2.2.1
theorem dX7_turn_242 : decode cX7_turn 242 = .ok (.isub, 1) := qd4_15.2.2.2.2.2.2.2.2.1
theorem dX7_turn_243 : decode cX7_turn 243 = .ok (.iaload, 1) := qd4_15.2.2.2.2.2.2.2.2.2.1
theorem dX7_turn_244 : decode cX7_turn 244 = .ok (.ireturn, 1) := qd4_15.2.2.2.2.2.2.2.2.2.2
theorem qd4_16 : (decode cX7_earned 0 = .ok (.iconst 0, 1)) ∧ (decode cX7_earned 1 = .ok (.istore_n 2, 1)) ∧ (decode cX7_earned 2 = .ok (.iconst 0, 1)) ∧ (decode cX7_earned 3 = .ok (.istore_n 3, 1)) ∧ (decode cX7_earned 4 = .ok (.iload_n 3, 1)) ∧ (decode cX7_earned 5 = .ok (.aload_n 0, 1)) ∧ (decode cX7_earned 6 = .ok (.getfield 125, 3)) ∧ (decode cX7_earned 9 = .ok (.if_icmp .ge 110, 3)) ∧ (decode cX7_earned 12 = .ok (.aload_n 0, 1)) ∧ (decode cX7_earned 13 = .ok (.iload_n 3, 1)) ∧ (decode cX7_earned 14 = .ok (.invokevirtual 282, 3)) ∧ (decode cX7_earned 17 = .ok (.ifCond .eq 96, 3)) := by decide +kernel
theorem dX7_earned_0 : decode cX7_earned 0 = .ok (.iconst 0, 1) := qd4_16.1
theorem dX7_earned_1 : decode cX7_earned 1 = .ok (.istore_n 2, 1) := qd4_16.2.1
theorem dX7_earned_2 : decode cX7_earned 2 = .ok (.iconst 0, 1) := qd4_16.2.2.1
theorem dX7_earned_3 : decode cX7_earned 3 = .ok (.istore_n 3, 1) := qd4_16.2.2.2.1
theorem dX7_earned_4 : decode cX7_earned 4 = .ok (.iload_n 3, 1) := qd4_16.2.2.2.2.1
theorem dX7_earned_5 : decode cX7_earned 5 = .ok (.aload_n 0, 1) := qd4_16.2.2.2.2.2.1
theorem dX7_earned_6 : decode cX7_earned 6 = .ok (.getfield 125, 3) := qd4_16.2.2.2.2.2.2.1
theorem dX7_earned_9 : decode cX7_earned 9 = .ok (.if_icmp .ge 110, 3) := qd4_16.2.2.2.2.2.2.2.1
theorem dX7_earned_12 : decode cX7_earned 12 = .ok (.aload_n 0, 1) := qd4_16.2.2.2.2.2.2.2.2.1
theorem dX7_earned_13 : decode cX7_earned 13 = .ok (.iload_n 3, 1) := qd4_16.2.2.2.2.2.2.2.2.2.1
theorem dX7_earned_14 : decode cX7_earned 14 = .ok (.invokevirtual 282, 3) := qd4_16.2.2.2.2.2.2.2.2.2.2.1
theorem dX7_earned_17 : decode cX7_earned 17 = .ok (.ifCond .eq 96, 3) := qd4_16.2.2.2.2.2.2.2.2.2.2.2
theorem qd4_17 : (decode cX7_earned 20 = .ok (.iconst 1, 1)) ∧ (decode cX7_earned 21 = .ok (.istore 4, 2)) ∧ (decode cX7_earned 23 = .ok (.iload 4, 2)) ∧ (decode cX7_earned 25 = .ok (.aload_n 0, 1)) ∧ (decode cX7_earned 26 = .ok (.getfield 267, 3)) ∧ (decode cX7_earned 29 = .ok (.if_icmp .ge 84, 3)) ∧ (decode cX7_earned 32 = .ok (.aload_n 0, 1)) ∧ (decode cX7_earned 33 = .ok (.getfield 67, 3)) ∧ (decode cX7_earned 36 = .ok (.iload 4, 2)) ∧ (decode cX7_earned 38 = .ok (.iaload, 1)) ∧ (decode cX7_earned 39 = .ok (.iconst 3, 1)) ∧ (decode cX7_earned 40 = .ok (.if_icmp .lt 27, 3)) := by decide +kernel
theorem dX7_earned_20 : decode cX7_earned 20 = .ok (.iconst 1, 1) := qd4_17.1
theorem dX7_earned_21 : decode cX7_earned 21 = .ok (.istore 4, 2) := qd4_17.2.1
theorem dX7_earned_23 : decode cX7_earned 23 = .ok (.iload 4, 2) := qd4_17.2.2.1
theorem dX7_earned_25 : decode cX7_earned 25 = .ok (.aload_n 0, 1) := qd4_17.2.2.2.1
theorem dX7_earned_26 : decode cX7_earned 26 = .ok (.getfield 267, 3) := qd4_17.2.2.2.2.1
theorem dX7_earned_29 : decode cX7_earned 29 = .ok (.if_icmp .ge 84, 3) := qd4_17.2.2.2.2.2.1
theorem dX7_earned_32 : decode cX7_earned 32 = .ok (.aload_n 0, 1) := qd4_17.2.2.2.2.2.2.1
theorem dX7_earned_33 : decode cX7_earned 33 = .ok (.getfield 67, 3) := qd4_17.2.2.2.2.2.2.2.1
theorem dX7_earned_36 : decode cX7_earned 36 = .ok (.iload 4, 2) := qd4_17.2.2.2.2.2.2.2.2.1
theorem dX7_earned_38 : decode cX7_earned 38 = .ok (.iaload, 1) := qd4_17.2.2.2.2.2.2.2.2.2.1
theorem dX7_earned_39 : decode cX7_earned 39 = .ok (.iconst 3, 1) := qd4_17.2.2.2.2.2.2.2.2.2.2.1
theorem dX7_earned_40 : decode cX7_earned 40 = .ok (.if_icmp .lt 27, 3) := qd4_17.2.2.2.2.2.2.2.2.2.2.2
theorem qd4_18 : (decode cX7_earned 43 = .ok (.aload_n 0, 1)) ∧ (decode cX7_earned 44 = .ok (.getfield 39, 3)) ∧ (decode cX7_earned 47 = .ok (.aload_n 0, 1)) ∧ (decode cX7_earned 48 = .ok (.getfield 67, 3)) ∧ (decode cX7_earned 51 = .ok (.iload 4, 2)) ∧ (decode cX7_earned 53 = .ok (.iaload, 1)) ∧ (decode cX7_earned 54 = .ok (.iconst 3, 1)) ∧ (decode cX7_earned 55 = .ok (.isub, 1)) ∧ (decode cX7_earned 56 = .ok (.aaload, 1)) ∧ (decode cX7_earned 57 = .ok (.iconst 5, 1)) ∧ (decode cX7_earned 58 = .ok (.iaload, 1)) ∧ (decode cX7_earned 59 = .ok (.iload_n 1, 1)) := by decide +kernel
theorem dX7_earned_43 : decode cX7_earned 43 = .ok (.aload_n 0, 1) := qd4_18.1
theorem dX7_earned_44 : decode cX7_earned 44 = .ok (.getfield 39, 3) := qd4_18.2.1
theorem dX7_earned_47 : decode cX7_earned 47 = .ok (.aload_n 0, 1) := qd4_18.2.2.1
theorem dX7_earned_48 : decode cX7_earned 48 = .ok (.getfield 67, 3) := qd4_18.2.2.2.1
theorem dX7_earned_51 : decode cX7_earned 51 = .ok (.iload 4, 2) := qd4_18.2.2.2.2.1
theorem dX7_earned_53 : decode cX7_earned 53 = .ok (.iaload, 1) := qd4_18.2.2.2.2.2.1
theorem dX7_earned_54 : decode cX7_earned 54 = .ok (.iconst 3, 1) := qd4_18.2.2.2.2.2.2.1
theorem dX7_earned_55 : decode cX7_earned 55 = .ok (.isub, 1) := qd4_18.2.2.2.2.2.2.2.1
theorem dX7_earned_56 : decode cX7_earned 56 = .ok (.aaload, 1) := qd4_18.2.2.2.2.2.2.2.2.1
theorem dX7_earned_57 : decode cX7_earned 57 = .ok (.iconst 5, 1) := qd4_18.2.2.2.2.2.2.2.2.2.1
theorem dX7_earned_58 : decode cX7_earned 58 = .ok (.iaload, 1) := qd4_18.2.2.2.2.2.2.2.2.2.2.1
theorem dX7_earned_59 : decode cX7_earned 59 = .ok (.iload_n 1, 1) := qd4_18.2.2.2.2.2.2.2.2.2.2.2
theorem qd4_19 : (decode cX7_earned 60 = .ok (.if_icmp .ne 7, 3)) ∧ (decode cX7_earned 63 = .ok (.iconst 1, 1)) ∧ (decode cX7_earned 64 = .ok (.goto 4, 3)) ∧ (decode cX7_earned 67 = .ok (.iconst 0, 1)) ∧ (decode cX7_earned 68 = .ok (.istore 5, 2)) ∧ (decode cX7_earned 70 = .ok (.iload_n 2, 1)) ∧ (decode cX7_earned 71 = .ok (.iload 5, 2)) ∧ (decode cX7_earned 73 = .ok (.ifCond .eq 31, 3)) ∧ (decode cX7_earned 76 = .ok (.aload_n 0, 1)) ∧ (decode cX7_earned 77 = .ok (.getfield 48, 3)) ∧ (decode cX7_earned 80 = .ok (.iload_n 3, 1)) ∧ (decode cX7_earned 81 = .ok (.aaload, 1)) := by decide +kernel
theorem dX7_earned_60 : decode cX7_earned 60 = .ok (.if_icmp .ne 7, 3) := qd4_19.1
theorem dX7_earned_63 : decode cX7_earned 63 = .ok (.iconst 1, 1) := qd4_19.2.1
theorem dX7_earned_64 : decode cX7_earned 64 = .ok (.goto 4, 3) := qd4_19.2.2.1
theorem dX7_earned_67 : decode cX7_earned 67 = .ok (.iconst 0, 1) := qd4_19.2.2.2.1
theorem dX7_earned_68 : decode cX7_earned 68 = .ok (.istore 5, 2) := qd4_19.2.2.2.2.1
theorem dX7_earned_70 : decode cX7_earned 70 = .ok (.iload_n 2, 1) := qd4_19.2.2.2.2.2.1
theorem dX7_earned_71 : decode cX7_earned 71 = .ok (.iload 5, 2) := qd4_19.2.2.2.2.2.2.1
theorem dX7_earned_73 : decode cX7_earned 73 = .ok (.ifCond .eq 31, 3) := qd4_19.2.2.2.2.2.2.2.1
theorem dX7_earned_76 : decode cX7_earned 76 = .ok (.aload_n 0, 1) := qd4_19.2.2.2.2.2.2.2.2.1
theorem dX7_earned_77 : decode cX7_earned 77 = .ok (.getfield 48, 3) := qd4_19.2.2.2.2.2.2.2.2.2.1
theorem dX7_earned_80 : decode cX7_earned 80 = .ok (.iload_n 3, 1) := qd4_19.2.2.2.2.2.2.2.2.2.2.1
theorem dX7_earned_81 : decode cX7_earned 81 = .ok (.aaload, 1) := qd4_19.2.2.2.2.2.2.2.2.2.2.2
theorem qd4_20 : (decode cX7_earned 82 = .ok (.iconst 2, 1)) ∧ (decode cX7_earned 83 = .ok (.iaload, 1)) ∧ (decode cX7_earned 84 = .ok (.aload_n 0, 1)) ∧ (decode cX7_earned 85 = .ok (.getfield 39, 3)) ∧ (decode cX7_earned 88 = .ok (.aload_n 0, 1)) ∧ (decode cX7_earned 89 = .ok (.getfield 67, 3)) ∧ (decode cX7_earned 92 = .ok (.iload 4, 2)) ∧ (decode cX7_earned 94 = .ok (.iaload, 1)) ∧ (decode cX7_earned 95 = .ok (.iconst 3, 1)) ∧ (decode cX7_earned 96 = .ok (.isub, 1)) ∧ (decode cX7_earned 97 = .ok (.aaload, 1)) ∧ (decode cX7_earned 98 = .ok (.iconst 3, 1)) := by decide +kernel
theorem dX7_earned_82 : decode cX7_earned 82 = .ok (.iconst 2, 1) := qd4_20.1
theorem dX7_earned_83 : decode cX7_earned 83 = .ok (.iaload, 1) := qd4_20.2.1
theorem dX7_earned_84 : decode cX7_earned 84 = .ok (.aload_n 0, 1) := qd4_20.2.2.1
theorem dX7_earned_85 : decode cX7_earned 85 = .ok (.getfield 39, 3) := qd4_20.2.2.2.1
theorem dX7_earned_88 : decode cX7_earned 88 = .ok (.aload_n 0, 1) := qd4_20.2.2.2.2.1
theorem dX7_earned_89 : decode cX7_earned 89 = .ok (.getfield 67, 3) := qd4_20.2.2.2.2.2.1
theorem dX7_earned_92 : decode cX7_earned 92 = .ok (.iload 4, 2) := qd4_20.2.2.2.2.2.2.1
theorem dX7_earned_94 : decode cX7_earned 94 = .ok (.iaload, 1) := qd4_20.2.2.2.2.2.2.2.1
theorem dX7_earned_95 : decode cX7_earned 95 = .ok (.iconst 3, 1) := qd4_20.2.2.2.2.2.2.2.2.1
theorem dX7_earned_96 : decode cX7_earned 96 = .ok (.isub, 1) := qd4_20.2.2.2.2.2.2.2.2.2.1
theorem dX7_earned_97 : decode cX7_earned 97 = .ok (.aaload, 1) := qd4_20.2.2.2.2.2.2.2.2.2.2.1
theorem dX7_earned_98 : decode cX7_earned 98 = .ok (.iconst 3, 1) := qd4_20.2.2.2.2.2.2.2.2.2.2.2
theorem qd4_21 : (decode cX7_earned 99 = .ok (.iaload, 1)) ∧ (decode cX7_earned 100 = .ok (.imul, 1)) ∧ (decode cX7_earned 101 = .ok (.goto 4, 3)) ∧ (decode cX7_earned 104 = .ok (.iconst 0, 1)) ∧ (decode cX7_earned 105 = .ok (.iadd, 1)) ∧ (decode cX7_earned 106 = .ok (.istore_n 2, 1)) ∧ (decode cX7_earned 107 = .ok (.iinc 4 1, 3)) ∧ (decode cX7_earned 110 = .ok (.goto (-87), 3)) ∧ (decode cX7_earned 113 = .ok (.iinc 3 1, 3)) ∧ (decode cX7_earned 116 = .ok (.goto (-112), 3)) ∧ (decode cX7_earned 119 = .ok (.iload_n 2, 1)) ∧ (decode cX7_earned 120 = .ok (.ireturn, 1)) := by decide +kernel
theorem dX7_earned_99 : decode cX7_earned 99 = .ok (.iaload, 1) := qd4_21.1
theorem dX7_earned_100 : decode cX7_earned 100 = .ok (.imul, 1) := qd4_21.2.1
theorem dX7_earned_101 : decode cX7_earned 101 = .ok (.goto 4, 3) := qd4_21.2.2.1
theorem dX7_earned_104 : decode cX7_earned 104 = .ok (.iconst 0, 1) := qd4_21.2.2.2.1
theorem dX7_earned_105 : decode cX7_earned 105 = .ok (.iadd, 1) := qd4_21.2.2.2.2.1
theorem dX7_earned_106 : decode cX7_earned 106 = .ok (.istore_n 2, 1) := qd4_21.2.2.2.2.2.1
theorem dX7_earned_107 : decode cX7_earned 107 = .ok (.iinc 4 1, 3) := qd4_21.2.2.2.2.2.2.1
theorem dX7_earned_110 : decode cX7_earned 110 = .ok (.goto (-87), 3) := qd4_21.2.2.2.2.2.2.2.1
theorem dX7_earned_113 : decode cX7_earned 113 = .ok (.iinc 3 1, 3) := qd4_21.2.2.2.2.2.2.2.2.1
theorem dX7_earned_116 : decode cX7_earned 116 = .ok (.goto (-112), 3) := qd4_21.2.2.2.2.2.2.2.2.2.1
theorem dX7_earned_119 : decode cX7_earned 119 = .ok (.iload_n 2, 1) := qd4_21.2.2.2.2.2.2.2.2.2.2.1
theorem dX7_earned_120 : decode cX7_earned 120 = .ok (.ireturn, 1) := qd4_21.2.2.2.2.2.2.2.2.2.2.2
theorem qd4_22 : (decode cX7_earns 0 = .ok (.iload_n 1, 1)) ∧ (decode cX7_earns 1 = .ok (.i2l, 1)) ∧ (decode cX7_earns 2 = .ok (.lconst 0, 1)) ∧ (decode cX7_earns 3 = .ok (.ldc2_w 106, 3)) ∧ (decode cX7_earns 6 = .ok (.invokestatic 78, 3)) ∧ (decode cX7_earns 9 = .ok (.ifCond .eq 11, 3)) ∧ (decode cX7_earns 12 = .ok (.aload_n 0, 1)) ∧ (decode cX7_earns 13 = .ok (.iload_n 1, 1)) ∧ (decode cX7_earns 14 = .ok (.invokevirtual 285, 3)) ∧ (decode cX7_earns 17 = .ok (.goto 9, 3)) ∧ (decode cX7_earns 20 = .ok (.aload_n 0, 1)) ∧ (decode cX7_earns 21 = .ok (.bipush (-2), 2)) := by decide +kernel
theorem dX7_earns_0 : decode cX7_earns 0 = .ok (.iload_n 1, 1) := qd4_22.1
theorem dX7_earns_1 : decode cX7_earns 1 = .ok (.i2l, 1) := qd4_22.2.1
theorem dX7_earns_2 : decode cX7_earns 2 = .ok (.lconst 0, 1) := qd4_22.2.2.1
theorem dX7_earns_3 : decode cX7_earns 3 = .ok (.ldc2_w 106, 3) := qd4_22.2.2.2.1
theorem dX7_earns_6 : decode cX7_earns 6 = .ok (.invokestatic 78, 3) := qd4_22.2.2.2.2.1
theorem dX7_earns_9 : decode cX7_earns 9 = .ok (.ifCond .eq 11, 3) := qd4_22.2.2.2.2.2.1
theorem dX7_earns_12 : decode cX7_earns 12 = .ok (.aload_n 0, 1) := qd4_22.2.2.2.2.2.2.1
theorem dX7_earns_13 : decode cX7_earns 13 = .ok (.iload_n 1, 1) := qd4_22.2.2.2.2.2.2.2.1
theorem dX7_earns_14 : decode cX7_earns 14 = .ok (.invokevirtual 285, 3) := qd4_22.2.2.2.2.2.2.2.2.1
theorem dX7_earns_17 : decode cX7_earns 17 = .ok (.goto 9, 3) := qd4_22.2.2.2.2.2.2.2.2.2.1
theorem dX7_earns_20 : decode cX7_earns 20 = .ok (.aload_n 0, 1) := qd4_22.2.2.2.2.2.2.2.2.2.2.1
theorem dX7_earns_21 : decode cX7_earns 21 = .ok (.bipush (-2), 2) := qd4_22.2.2.2.2.2.2.2.2.2.2.2
theorem qd4_23 : (decode cX7_earns 23 = .ok (.invokevirtual 94, 3)) ∧ (decode cX7_earns 26 = .ok (.ireturn, 1)) := by decide +kernel
theorem dX7_earns_23 : decode cX7_earns 23 = .ok (.invokevirtual 94, 3) := qd4_23.1
theorem dX7_earns_26 : decode cX7_earns 26 = .ok (.ireturn, 1) := qd4_23.2
theorem qd4_24 : (decode cX7_port 0 = .ok (.iload_n 1, 1)) ∧ (decode cX7_port 1 = .ok (.invokestatic 112, 3)) ∧ (decode cX7_port 4 = .ok (.ifCond .ne 10, 3)) ∧ (decode cX7_port 7 = .ok (.aload_n 0, 1)) ∧ (decode cX7_port 8 = .ok (.bipush (-2), 2)) ∧ (decode cX7_port 10 = .ok (.invokevirtual 94, 3)) ∧ (decode cX7_port 13 = .ok (.ireturn, 1)) ∧ (decode cX7_port 14 = .ok (.iconst 0, 1)) ∧ (decode cX7_port 15 = .ok (.istore_n 3, 1)) ∧ (decode cX7_port 16 = .ok (.iconst 0, 1)) ∧ (decode cX7_port 17 = .ok (.istore 4, 2)) ∧ (decode cX7_port 19 = .ok (.iload 4, 2)) := by decide +kernel
theorem dX7_port_0 : decode cX7_port 0 = .ok (.iload_n 1, 1) := qd4_24.1
theorem dX7_port_1 : decode cX7_port 1 = .ok (.invokestatic 112, 3) := qd4_24.2.1
theorem dX7_port_4 : decode cX7_port 4 = .ok (.ifCond .ne 10, 3) := qd4_24.2.2.1
theorem dX7_port_7 : decode cX7_port 7 = .ok (.aload_n 0, 1) := qd4_24.2.2.2.1
theorem dX7_port_8 : decode cX7_port 8 = .ok (.bipush (-2), 2) := qd4_24.2.2.2.2.1
theorem dX7_port_10 : decode cX7_port 10 = .ok (.invokevirtual 94, 3) := qd4_24.2.2.2.2.2.1
theorem dX7_port_13 : decode cX7_port 13 = .ok (.ireturn, 1) := qd4_24.2.2.2.2.2.2.1
theorem dX7_port_14 : decode cX7_port 14 = .ok (.iconst 0, 1) := qd4_24.2.2.2.2.2.2.2.1
theorem dX7_port_15 : decode cX7_port 15 = .ok (.istore_n 3, 1) := qd4_24.2.2.2.2.2.2.2.2.1
theorem dX7_port_16 : decode cX7_port 16 = .ok (.iconst 0, 1) := qd4_24.2.2.2.2.2.2.2.2.2.1
theorem dX7_port_17 : decode cX7_port 17 = .ok (.istore 4, 2) := qd4_24.2.2.2.2.2.2.2.2.2.2.1
theorem dX7_port_19 : decode cX7_port 19 = .ok (.iload 4, 2) := qd4_24.2.2.2.2.2.2.2.2.2.2.2
theorem qd4_25 : (decode cX7_port 21 = .ok (.aload_n 0, 1)) ∧ (decode cX7_port 22 = .ok (.getfield 125, 3)) ∧ (decode cX7_port 25 = .ok (.if_icmp .ge 178, 3)) ∧ (decode cX7_port 28 = .ok (.aload_n 0, 1)) ∧ (decode cX7_port 29 = .ok (.iload 4, 2)) ∧ (decode cX7_port 31 = .ok (.invokevirtual 282, 3)) ∧ (decode cX7_port 34 = .ok (.ifCond .ne 6, 3)) ∧ (decode cX7_port 37 = .ok (.goto 160, 3)) ∧ (decode cX7_port 40 = .ok (.aload_n 0, 1)) ∧ (decode cX7_port 41 = .ok (.getfield 48, 3)) ∧ (decode cX7_port 44 = .ok (.iload 4, 2)) ∧ (decode cX7_port 46 = .ok (.aaload, 1)) := by decide +kernel
theorem dX7_port_21 : decode cX7_port 21 = .ok (.aload_n 0, 1) := qd4_25.1
theorem dX7_port_22 : decode cX7_port 22 = .ok (.getfield 125, 3) := qd4_25.2.1
theorem dX7_port_25 : decode cX7_port 25 = .ok (.if_icmp .ge 178, 3) := qd4_25.2.2.1
theorem dX7_port_28 : decode cX7_port 28 = .ok (.aload_n 0, 1) := qd4_25.2.2.2.1
theorem dX7_port_29 : decode cX7_port 29 = .ok (.iload 4, 2) := qd4_25.2.2.2.2.1
theorem dX7_port_31 : decode cX7_port 31 = .ok (.invokevirtual 282, 3) := qd4_25.2.2.2.2.2.1
theorem dX7_port_34 : decode cX7_port 34 = .ok (.ifCond .ne 6, 3) := qd4_25.2.2.2.2.2.2.1
theorem dX7_port_37 : decode cX7_port 37 = .ok (.goto 160, 3) := qd4_25.2.2.2.2.2.2.2.1
theorem dX7_port_40 : decode cX7_port 40 = .ok (.aload_n 0, 1) := qd4_25.2.2.2.2.2.2.2.2.1
theorem dX7_port_41 : decode cX7_port 41 = .ok (.getfield 48, 3) := qd4_25.2.2.2.2.2.2.2.2.2.1
theorem dX7_port_44 : decode cX7_port 44 = .ok (.iload 4, 2) := qd4_25.2.2.2.2.2.2.2.2.2.2.1
theorem dX7_port_46 : decode cX7_port 46 = .ok (.aaload, 1) := qd4_25.2.2.2.2.2.2.2.2.2.2.2
theorem qd4_26 : (decode cX7_port 47 = .ok (.iconst 0, 1)) ∧ (decode cX7_port 48 = .ok (.iaload, 1)) ∧ (decode cX7_port 49 = .ok (.istore 5, 2)) ∧ (decode cX7_port 51 = .ok (.iload 5, 2)) ∧ (decode cX7_port 53 = .ok (.iload_n 1, 1)) ∧ (decode cX7_port 54 = .ok (.if_icmp .ne 7, 3)) ∧ (decode cX7_port 57 = .ok (.iconst 1, 1)) ∧ (decode cX7_port 58 = .ok (.goto 4, 3)) ∧ (decode cX7_port 61 = .ok (.iconst 0, 1)) ∧ (decode cX7_port 62 = .ok (.istore 6, 2)) ∧ (decode cX7_port 64 = .ok (.iconst 1, 1)) ∧ (decode cX7_port 65 = .ok (.istore 7, 2)) := by decide +kernel
theorem dX7_port_47 : decode cX7_port 47 = .ok (.iconst 0, 1) := qd4_26.1
theorem dX7_port_48 : decode cX7_port 48 = .ok (.iaload, 1) := qd4_26.2.1
theorem dX7_port_49 : decode cX7_port 49 = .ok (.istore 5, 2) := qd4_26.2.2.1
theorem dX7_port_51 : decode cX7_port 51 = .ok (.iload 5, 2) := qd4_26.2.2.2.1
theorem dX7_port_53 : decode cX7_port 53 = .ok (.iload_n 1, 1) := qd4_26.2.2.2.2.1
theorem dX7_port_54 : decode cX7_port 54 = .ok (.if_icmp .ne 7, 3) := qd4_26.2.2.2.2.2.1
theorem dX7_port_57 : decode cX7_port 57 = .ok (.iconst 1, 1) := qd4_26.2.2.2.2.2.2.1
theorem dX7_port_58 : decode cX7_port 58 = .ok (.goto 4, 3) := qd4_26.2.2.2.2.2.2.2.1
theorem dX7_port_61 : decode cX7_port 61 = .ok (.iconst 0, 1) := qd4_26.2.2.2.2.2.2.2.2.1
theorem dX7_port_62 : decode cX7_port 62 = .ok (.istore 6, 2) := qd4_26.2.2.2.2.2.2.2.2.2.1
theorem dX7_port_64 : decode cX7_port 64 = .ok (.iconst 1, 1) := qd4_26.2.2.2.2.2.2.2.2.2.2.1
theorem dX7_port_65 : decode cX7_port 65 = .ok (.istore 7, 2) := qd4_26.2.2.2.2.2.2.2.2.2.2.2
theorem qd4_27 : (decode cX7_port 67 = .ok (.iload 7, 2)) ∧ (decode cX7_port 69 = .ok (.aload_n 0, 1)) ∧ (decode cX7_port 70 = .ok (.getfield 267, 3)) ∧ (decode cX7_port 73 = .ok (.if_icmp .ge 99, 3)) ∧ (decode cX7_port 76 = .ok (.aload_n 0, 1)) ∧ (decode cX7_port 77 = .ok (.getfield 67, 3)) ∧ (decode cX7_port 80 = .ok (.iload 7, 2)) ∧ (decode cX7_port 82 = .ok (.iaload, 1)) ∧ (decode cX7_port 83 = .ok (.iconst 3, 1)) ∧ (decode cX7_port 84 = .ok (.if_icmp .lt 60, 3)) ∧ (decode cX7_port 87 = .ok (.aload_n 0, 1)) ∧ (decode cX7_port 88 = .ok (.getfield 39, 3)) := by decide +kernel
theorem dX7_port_67 : decode cX7_port 67 = .ok (.iload 7, 2) := qd4_27.1
theorem dX7_port_69 : decode cX7_port 69 = .ok (.aload_n 0, 1) := qd4_27.2.1
theorem dX7_port_70 : decode cX7_port 70 = .ok (.getfield 267, 3) := qd4_27.2.2.1
theorem dX7_port_73 : decode cX7_port 73 = .ok (.if_icmp .ge 99, 3) := qd4_27.2.2.2.1
theorem dX7_port_76 : decode cX7_port 76 = .ok (.aload_n 0, 1) := qd4_27.2.2.2.2.1
theorem dX7_port_77 : decode cX7_port 77 = .ok (.getfield 67, 3) := qd4_27.2.2.2.2.2.1
theorem dX7_port_80 : decode cX7_port 80 = .ok (.iload 7, 2) := qd4_27.2.2.2.2.2.2.1
theorem dX7_port_82 : decode cX7_port 82 = .ok (.iaload, 1) := qd4_27.2.2.2.2.2.2.2.1
theorem dX7_port_83 : decode cX7_port 83 = .ok (.iconst 3, 1) := qd4_27.2.2.2.2.2.2.2.2.1
theorem dX7_port_84 : decode cX7_port 84 = .ok (.if_icmp .lt 60, 3) := qd4_27.2.2.2.2.2.2.2.2.2.1
theorem dX7_port_87 : decode cX7_port 87 = .ok (.aload_n 0, 1) := qd4_27.2.2.2.2.2.2.2.2.2.2.1
theorem dX7_port_88 : decode cX7_port 88 = .ok (.getfield 39, 3) := qd4_27.2.2.2.2.2.2.2.2.2.2.2
theorem qd4_28 : (decode cX7_port 91 = .ok (.aload_n 0, 1)) ∧ (decode cX7_port 92 = .ok (.getfield 67, 3)) ∧ (decode cX7_port 95 = .ok (.iload 7, 2)) ∧ (decode cX7_port 97 = .ok (.iaload, 1)) ∧ (decode cX7_port 98 = .ok (.iconst 3, 1)) ∧ (decode cX7_port 99 = .ok (.isub, 1)) ∧ (decode cX7_port 100 = .ok (.aaload, 1)) ∧ (decode cX7_port 101 = .ok (.astore 8, 2)) ∧ (decode cX7_port 103 = .ok (.aload 8, 2)) ∧ (decode cX7_port 105 = .ok (.iconst 0, 1)) ∧ (decode cX7_port 106 = .ok (.iaload, 1)) ∧ (decode cX7_port 107 = .ok (.iload 5, 2)) := by decide +kernel
theorem dX7_port_91 : decode cX7_port 91 = .ok (.aload_n 0, 1) := qd4_28.1
theorem dX7_port_92 : decode cX7_port 92 = .ok (.getfield 67, 3) := qd4_28.2.1
theorem dX7_port_95 : decode cX7_port 95 = .ok (.iload 7, 2) := qd4_28.2.2.1
theorem dX7_port_97 : decode cX7_port 97 = .ok (.iaload, 1) := qd4_28.2.2.2.1
theorem dX7_port_98 : decode cX7_port 98 = .ok (.iconst 3, 1) := qd4_28.2.2.2.2.1
theorem dX7_port_99 : decode cX7_port 99 = .ok (.isub, 1) := qd4_28.2.2.2.2.2.1
theorem dX7_port_100 : decode cX7_port 100 = .ok (.aaload, 1) := qd4_28.2.2.2.2.2.2.1
theorem dX7_port_101 : decode cX7_port 101 = .ok (.astore 8, 2) := qd4_28.2.2.2.2.2.2.2.1
theorem dX7_port_103 : decode cX7_port 103 = .ok (.aload 8, 2) := qd4_28.2.2.2.2.2.2.2.2.1
theorem dX7_port_105 : decode cX7_port 105 = .ok (.iconst 0, 1) := qd4_28.2.2.2.2.2.2.2.2.2.1
theorem dX7_port_106 : decode cX7_port 106 = .ok (.iaload, 1) := qd4_28.2.2.2.2.2.2.2.2.2.2.1
theorem dX7_port_107 : decode cX7_port 107 = .ok (.iload 5, 2) := qd4_28.2.2.2.2.2.2.2.2.2.2.2
theorem qd4_29 : (decode cX7_port 109 = .ok (.if_icmp .ne 10, 3)) ∧ (decode cX7_port 112 = .ok (.aload 8, 2)) ∧ (decode cX7_port 114 = .ok (.iconst 1, 1)) ∧ (decode cX7_port 115 = .ok (.iaload, 1)) ∧ (decode cX7_port 116 = .ok (.goto 7, 3)) ∧ (decode cX7_port 119 = .ok (.aload 8, 2)) ∧ (decode cX7_port 121 = .ok (.iconst 0, 1)) ∧ (decode cX7_port 122 = .ok (.iaload, 1)) ∧ (decode cX7_port 123 = .ok (.istore 5, 2)) ∧ (decode cX7_port 125 = .ok (.iload 6, 2)) ∧ (decode cX7_port 127 = .ok (.iload 5, 2)) ∧ (decode cX7_port 129 = .ok (.iload_n 1, 1)) := by decide +kernel
theorem dX7_port_109 : decode cX7_port 109 = .ok (.if_icmp .ne 10, 3) := qd4_29.1
theorem dX7_port_112 : decode cX7_port 112 = .ok (.aload 8, 2) := qd4_29.2.1
theorem dX7_port_114 : decode cX7_port 114 = .ok (.iconst 1, 1) := qd4_29.2.2.1
theorem dX7_port_115 : decode cX7_port 115 = .ok (.iaload, 1) := qd4_29.2.2.2.1
theorem dX7_port_116 : decode cX7_port 116 = .ok (.goto 7, 3) := qd4_29.2.2.2.2.1
theorem dX7_port_119 : decode cX7_port 119 = .ok (.aload 8, 2) := qd4_29.2.2.2.2.2.1
theorem dX7_port_121 : decode cX7_port 121 = .ok (.iconst 0, 1) := qd4_29.2.2.2.2.2.2.1
theorem dX7_port_122 : decode cX7_port 122 = .ok (.iaload, 1) := qd4_29.2.2.2.2.2.2.2.1
theorem dX7_port_123 : decode cX7_port 123 = .ok (.istore 5, 2) := qd4_29.2.2.2.2.2.2.2.2.1
theorem dX7_port_125 : decode cX7_port 125 = .ok (.iload 6, 2) := qd4_29.2.2.2.2.2.2.2.2.2.1
theorem dX7_port_127 : decode cX7_port 127 = .ok (.iload 5, 2) := qd4_29.2.2.2.2.2.2.2.2.2.2.1
theorem dX7_port_129 : decode cX7_port 129 = .ok (.iload_n 1, 1) := qd4_29.2.2.2.2.2.2.2.2.2.2.2
theorem qd4_30 : (decode cX7_port 130 = .ok (.if_icmp .ne 7, 3)) ∧ (decode cX7_port 133 = .ok (.iconst 1, 1)) ∧ (decode cX7_port 134 = .ok (.goto 4, 3)) ∧ (decode cX7_port 137 = .ok (.iconst 0, 1)) ∧ (decode cX7_port 138 = .ok (.ior, 1)) ∧ (decode cX7_port 139 = .ok (.istore 6, 2)) ∧ (decode cX7_port 141 = .ok (.goto 25, 3)) ∧ (decode cX7_port 144 = .ok (.iload_n 2, 1)) ∧ (decode cX7_port 145 = .ok (.ifCond .eq 21, 3)) ∧ (decode cX7_port 148 = .ok (.iload 5, 2)) ∧ (decode cX7_port 150 = .ok (.iload_n 1, 1)) ∧ (decode cX7_port 151 = .ok (.if_icmp .ne 15, 3)) := by decide +kernel
theorem dX7_port_130 : decode cX7_port 130 = .ok (.if_icmp .ne 7, 3) := qd4_30.1
theorem dX7_port_133 : decode cX7_port 133 = .ok (.iconst 1, 1) := qd4_30.2.1
theorem dX7_port_134 : decode cX7_port 134 = .ok (.goto 4, 3) := qd4_30.2.2.1
theorem dX7_port_137 : decode cX7_port 137 = .ok (.iconst 0, 1) := qd4_30.2.2.2.1
theorem dX7_port_138 : decode cX7_port 138 = .ok (.ior, 1) := qd4_30.2.2.2.2.1
theorem dX7_port_139 : decode cX7_port 139 = .ok (.istore 6, 2) := qd4_30.2.2.2.2.2.1
theorem dX7_port_141 : decode cX7_port 141 = .ok (.goto 25, 3) := qd4_30.2.2.2.2.2.2.1
theorem dX7_port_144 : decode cX7_port 144 = .ok (.iload_n 2, 1) := qd4_30.2.2.2.2.2.2.2.1
theorem dX7_port_145 : decode cX7_port 145 = .ok (.ifCond .eq 21, 3) := qd4_30.2.2.2.2.2.2.2.2.1
theorem dX7_port_148 : decode cX7_port 148 = .ok (.iload 5, 2) := qd4_30.2.2.2.2.2.2.2.2.2.1
theorem dX7_port_150 : decode cX7_port 150 = .ok (.iload_n 1, 1) := qd4_30.2.2.2.2.2.2.2.2.2.2.1
theorem dX7_port_151 : decode cX7_port 151 = .ok (.if_icmp .ne 15, 3) := qd4_30.2.2.2.2.2.2.2.2.2.2.2
theorem qd4_31 : (decode cX7_port 154 = .ok (.iload_n 3, 1)) ∧ (decode cX7_port 155 = .ok (.aload_n 0, 1)) ∧ (decode cX7_port 156 = .ok (.getfield 48, 3)) ∧ (decode cX7_port 159 = .ok (.iload 4, 2)) ∧ (decode cX7_port 161 = .ok (.aaload, 1)) ∧ (decode cX7_port 162 = .ok (.iconst 2, 1)) ∧ (decode cX7_port 163 = .ok (.iaload, 1)) ∧ (decode cX7_port 164 = .ok (.iadd, 1)) ∧ (decode cX7_port 165 = .ok (.istore_n 3, 1)) ∧ (decode cX7_port 166 = .ok (.iinc 7 1, 3)) ∧ (decode cX7_port 169 = .ok (.goto (-102), 3)) ∧ (decode cX7_port 172 = .ok (.iload_n 3, 1)) := by decide +kernel
theorem dX7_port_154 : decode cX7_port 154 = .ok (.iload_n 3, 1) := qd4_31.1
theorem dX7_port_155 : decode cX7_port 155 = .ok (.aload_n 0, 1) := qd4_31.2.1
theorem dX7_port_156 : decode cX7_port 156 = .ok (.getfield 48, 3) := qd4_31.2.2.1
theorem dX7_port_159 : decode cX7_port 159 = .ok (.iload 4, 2) := qd4_31.2.2.2.1
theorem dX7_port_161 : decode cX7_port 161 = .ok (.aaload, 1) := qd4_31.2.2.2.2.1
theorem dX7_port_162 : decode cX7_port 162 = .ok (.iconst 2, 1) := qd4_31.2.2.2.2.2.1
theorem dX7_port_163 : decode cX7_port 163 = .ok (.iaload, 1) := qd4_31.2.2.2.2.2.2.1
theorem dX7_port_164 : decode cX7_port 164 = .ok (.iadd, 1) := qd4_31.2.2.2.2.2.2.2.1
theorem dX7_port_165 : decode cX7_port 165 = .ok (.istore_n 3, 1) := qd4_31.2.2.2.2.2.2.2.2.1
theorem dX7_port_166 : decode cX7_port 166 = .ok (.iinc 7 1, 3) := qd4_31.2.2.2.2.2.2.2.2.2.1
theorem dX7_port_169 : decode cX7_port 169 = .ok (.goto (-102), 3) := qd4_31.2.2.2.2.2.2.2.2.2.2.1
theorem dX7_port_172 : decode cX7_port 172 = .ok (.iload_n 3, 1) := qd4_31.2.2.2.2.2.2.2.2.2.2.2
theorem qd4_32 : (decode cX7_port 173 = .ok (.iload_n 2, 1)) ∧ (decode cX7_port 174 = .ok (.ifCond .ne 20, 3)) ∧ (decode cX7_port 177 = .ok (.iload 6, 2)) ∧ (decode cX7_port 179 = .ok (.ifCond .eq 15, 3)) ∧ (decode cX7_port 182 = .ok (.aload_n 0, 1)) ∧ (decode cX7_port 183 = .ok (.getfield 48, 3)) ∧ (decode cX7_port 186 = .ok (.iload 4, 2)) ∧ (decode cX7_port 188 = .ok (.aaload, 1)) ∧ (decode cX7_port 189 = .ok (.iconst 2, 1)) ∧ (decode cX7_port 190 = .ok (.iaload, 1)) ∧ (decode cX7_port 191 = .ok (.goto 4, 3)) ∧ (decode cX7_port 194 = .ok (.iconst 0, 1)) := by decide +kernel
theorem dX7_port_173 : decode cX7_port 173 = .ok (.iload_n 2, 1) := qd4_32.1
theorem dX7_port_174 : decode cX7_port 174 = .ok (.ifCond .ne 20, 3) := qd4_32.2.1
theorem dX7_port_177 : decode cX7_port 177 = .ok (.iload 6, 2) := qd4_32.2.2.1
theorem dX7_port_179 : decode cX7_port 179 = .ok (.ifCond .eq 15, 3) := qd4_32.2.2.2.1
theorem dX7_port_182 : decode cX7_port 182 = .ok (.aload_n 0, 1) := qd4_32.2.2.2.2.1
theorem dX7_port_183 : decode cX7_port 183 = .ok (.getfield 48, 3) := qd4_32.2.2.2.2.2.1
theorem dX7_port_186 : decode cX7_port 186 = .ok (.iload 4, 2) := qd4_32.2.2.2.2.2.2.1
theorem dX7_port_188 : decode cX7_port 188 = .ok (.aaload, 1) := qd4_32.2.2.2.2.2.2.2.1
theorem dX7_port_189 : decode cX7_port 189 = .ok (.iconst 2, 1) := qd4_32.2.2.2.2.2.2.2.2.1
theorem dX7_port_190 : decode cX7_port 190 = .ok (.iaload, 1) := qd4_32.2.2.2.2.2.2.2.2.2.1
theorem dX7_port_191 : decode cX7_port 191 = .ok (.goto 4, 3) := qd4_32.2.2.2.2.2.2.2.2.2.2.1
theorem dX7_port_194 : decode cX7_port 194 = .ok (.iconst 0, 1) := qd4_32.2.2.2.2.2.2.2.2.2.2.2
theorem qd4_33 : (decode cX7_port 195 = .ok (.iadd, 1)) ∧ (decode cX7_port 196 = .ok (.istore_n 3, 1)) ∧ (decode cX7_port 197 = .ok (.iinc 4 1, 3)) ∧ (decode cX7_port 200 = .ok (.goto (-181), 3)) ∧ (decode cX7_port 203 = .ok (.iload_n 3, 1)) ∧ (decode cX7_port 204 = .ok (.ireturn, 1)) := by decide +kernel
theorem dX7_port_195 : decode cX7_port 195 = .ok (.iadd, 1) := qd4_33.1
theorem dX7_port_196 : decode cX7_port 196 = .ok (.istore_n 3, 1) := qd4_33.2.1
theorem dX7_port_197 : decode cX7_port 197 = .ok (.iinc 4 1, 3) := qd4_33.2.2.1
theorem dX7_port_200 : decode cX7_port 200 = .ok (.goto (-181), 3) := qd4_33.2.2.2.1
theorem dX7_port_203 : decode cX7_port 203 = .ok (.iload_n 3, 1) := qd4_33.2.2.2.2.1
theorem dX7_port_204 : decode cX7_port 204 = .ok (.ireturn, 1) := qd4_33.2.2.2.2.2
theorem qd4_34 : (decode cX7_hangs 0 = .ok (.iconst (-1), 1)) ∧ (decode cX7_hangs 1 = .ok (.istore_n 1, 1)) ∧ (decode cX7_hangs 2 = .ok (.iconst 0, 1)) ∧ (decode cX7_hangs 3 = .ok (.istore_n 2, 1)) ∧ (decode cX7_hangs 4 = .ok (.iconst 0, 1)) ∧ (decode cX7_hangs 5 = .ok (.istore_n 3, 1)) ∧ (decode cX7_hangs 6 = .ok (.iload_n 3, 1)) ∧ (decode cX7_hangs 7 = .ok (.aload_n 0, 1)) ∧ (decode cX7_hangs 8 = .ok (.getfield 82, 3)) ∧ (decode cX7_hangs 11 = .ok (.if_icmp .ge 63, 3)) ∧ (decode cX7_hangs 14 = .ok (.aload_n 0, 1)) ∧ (decode cX7_hangs 15 = .ok (.getfield 39, 3)) := by decide +kernel
theorem dX7_hangs_0 : decode cX7_hangs 0 = .ok (.iconst (-1), 1) := qd4_34.1
theorem dX7_hangs_1 : decode cX7_hangs 1 = .ok (.istore_n 1, 1) := qd4_34.2.1
theorem dX7_hangs_2 : decode cX7_hangs 2 = .ok (.iconst 0, 1) := qd4_34.2.2.1
theorem dX7_hangs_3 : decode cX7_hangs 3 = .ok (.istore_n 2, 1) := qd4_34.2.2.2.1
theorem dX7_hangs_4 : decode cX7_hangs 4 = .ok (.iconst 0, 1) := qd4_34.2.2.2.2.1
theorem dX7_hangs_5 : decode cX7_hangs 5 = .ok (.istore_n 3, 1) := qd4_34.2.2.2.2.2.1
theorem dX7_hangs_6 : decode cX7_hangs 6 = .ok (.iload_n 3, 1) := qd4_34.2.2.2.2.2.2.1
theorem dX7_hangs_7 : decode cX7_hangs 7 = .ok (.aload_n 0, 1) := qd4_34.2.2.2.2.2.2.2.1
theorem dX7_hangs_8 : decode cX7_hangs 8 = .ok (.getfield 82, 3) := qd4_34.2.2.2.2.2.2.2.2.1
theorem dX7_hangs_11 : decode cX7_hangs 11 = .ok (.if_icmp .ge 63, 3) := qd4_34.2.2.2.2.2.2.2.2.2.1
theorem dX7_hangs_14 : decode cX7_hangs 14 = .ok (.aload_n 0, 1) := qd4_34.2.2.2.2.2.2.2.2.2.2.1
theorem dX7_hangs_15 : decode cX7_hangs 15 = .ok (.getfield 39, 3) := qd4_34.2.2.2.2.2.2.2.2.2.2.2
theorem qd4_35 : (decode cX7_hangs 18 = .ok (.iload_n 3, 1)) ∧ (decode cX7_hangs 19 = .ok (.aaload, 1)) ∧ (decode cX7_hangs 20 = .ok (.bipush 6, 2)) ∧ (decode cX7_hangs 22 = .ok (.iaload, 1)) ∧ (decode cX7_hangs 23 = .ok (.ifCond .ne 45, 3)) ∧ (decode cX7_hangs 26 = .ok (.aload_n 0, 1)) ∧ (decode cX7_hangs 27 = .ok (.getfield 39, 3)) ∧ (decode cX7_hangs 30 = .ok (.iload_n 3, 1)) ∧ (decode cX7_hangs 31 = .ok (.aaload, 1)) ∧ (decode cX7_hangs 32 = .ok (.bipush 6, 2)) ∧ (decode cX7_hangs 34 = .ok (.iconst 1, 1)) ∧ (decode cX7_hangs 35 = .ok (.iastore, 1)) := by decide +kernel
theorem dX7_hangs_18 : decode cX7_hangs 18 = .ok (.iload_n 3, 1) := qd4_35.1
theorem dX7_hangs_19 : decode cX7_hangs 19 = .ok (.aaload, 1) := qd4_35.2.1
theorem dX7_hangs_20 : decode cX7_hangs 20 = .ok (.bipush 6, 2) := qd4_35.2.2.1
theorem dX7_hangs_22 : decode cX7_hangs 22 = .ok (.iaload, 1) := qd4_35.2.2.2.1
theorem dX7_hangs_23 : decode cX7_hangs 23 = .ok (.ifCond .ne 45, 3) := qd4_35.2.2.2.2.1
theorem dX7_hangs_26 : decode cX7_hangs 26 = .ok (.aload_n 0, 1) := qd4_35.2.2.2.2.2.1
theorem dX7_hangs_27 : decode cX7_hangs 27 = .ok (.getfield 39, 3) := qd4_35.2.2.2.2.2.2.1
theorem dX7_hangs_30 : decode cX7_hangs 30 = .ok (.iload_n 3, 1) := qd4_35.2.2.2.2.2.2.2.1
theorem dX7_hangs_31 : decode cX7_hangs 31 = .ok (.aaload, 1) := qd4_35.2.2.2.2.2.2.2.2.1
theorem dX7_hangs_32 : decode cX7_hangs 32 = .ok (.bipush 6, 2) := qd4_35.2.2.2.2.2.2.2.2.2.1
theorem dX7_hangs_34 : decode cX7_hangs 34 = .ok (.iconst 1, 1) := qd4_35.2.2.2.2.2.2.2.2.2.2.1
theorem dX7_hangs_35 : decode cX7_hangs 35 = .ok (.iastore, 1) := qd4_35.2.2.2.2.2.2.2.2.2.2.2
theorem qd4_36 : (decode cX7_hangs 36 = .ok (.aload_n 0, 1)) ∧ (decode cX7_hangs 37 = .ok (.invokevirtual 288, 3)) ∧ (decode cX7_hangs 40 = .ok (.istore 4, 2)) ∧ (decode cX7_hangs 42 = .ok (.aload_n 0, 1)) ∧ (decode cX7_hangs 43 = .ok (.getfield 39, 3)) ∧ (decode cX7_hangs 46 = .ok (.iload_n 3, 1)) ∧ (decode cX7_hangs 47 = .ok (.aaload, 1)) ∧ (decode cX7_hangs 48 = .ok (.bipush 6, 2)) ∧ (decode cX7_hangs 50 = .ok (.iconst 0, 1)) ∧ (decode cX7_hangs 51 = .ok (.iastore, 1)) ∧ (decode cX7_hangs 52 = .ok (.iload_n 1, 1)) ∧ (decode cX7_hangs 53 = .ok (.iconst (-1), 1)) := by decide +kernel
theorem dX7_hangs_36 : decode cX7_hangs 36 = .ok (.aload_n 0, 1) := qd4_36.1
theorem dX7_hangs_37 : decode cX7_hangs 37 = .ok (.invokevirtual 288, 3) := qd4_36.2.1
theorem dX7_hangs_40 : decode cX7_hangs 40 = .ok (.istore 4, 2) := qd4_36.2.2.1
theorem dX7_hangs_42 : decode cX7_hangs 42 = .ok (.aload_n 0, 1) := qd4_36.2.2.2.1
theorem dX7_hangs_43 : decode cX7_hangs 43 = .ok (.getfield 39, 3) := qd4_36.2.2.2.2.1
theorem dX7_hangs_46 : decode cX7_hangs 46 = .ok (.iload_n 3, 1) := qd4_36.2.2.2.2.2.1
theorem dX7_hangs_47 : decode cX7_hangs 47 = .ok (.aaload, 1) := qd4_36.2.2.2.2.2.2.1
theorem dX7_hangs_48 : decode cX7_hangs 48 = .ok (.bipush 6, 2) := qd4_36.2.2.2.2.2.2.2.1
theorem dX7_hangs_50 : decode cX7_hangs 50 = .ok (.iconst 0, 1) := qd4_36.2.2.2.2.2.2.2.2.1
theorem dX7_hangs_51 : decode cX7_hangs 51 = .ok (.iastore, 1) := qd4_36.2.2.2.2.2.2.2.2.2.1
theorem dX7_hangs_52 : decode cX7_hangs 52 = .ok (.iload_n 1, 1) := qd4_36.2.2.2.2.2.2.2.2.2.2.1
theorem dX7_hangs_53 : decode cX7_hangs 53 = .ok (.iconst (-1), 1) := qd4_36.2.2.2.2.2.2.2.2.2.2.2
theorem qd4_37 : (decode cX7_hangs 54 = .ok (.if_icmp .eq 9, 3)) ∧ (decode cX7_hangs 57 = .ok (.iload 4, 2)) ∧ (decode cX7_hangs 59 = .ok (.iload_n 2, 1)) ∧ (decode cX7_hangs 60 = .ok (.if_icmp .le 8, 3)) ∧ (decode cX7_hangs 63 = .ok (.iload_n 3, 1)) ∧ (decode cX7_hangs 64 = .ok (.istore_n 1, 1)) ∧ (decode cX7_hangs 65 = .ok (.iload 4, 2)) ∧ (decode cX7_hangs 67 = .ok (.istore_n 2, 1)) ∧ (decode cX7_hangs 68 = .ok (.iinc 3 1, 3)) ∧ (decode cX7_hangs 71 = .ok (.goto (-65), 3)) ∧ (decode cX7_hangs 74 = .ok (.iload_n 1, 1)) ∧ (decode cX7_hangs 75 = .ok (.iconst (-1), 1)) := by decide +kernel
theorem dX7_hangs_54 : decode cX7_hangs 54 = .ok (.if_icmp .eq 9, 3) := qd4_37.1
theorem dX7_hangs_57 : decode cX7_hangs 57 = .ok (.iload 4, 2) := qd4_37.2.1
theorem dX7_hangs_59 : decode cX7_hangs 59 = .ok (.iload_n 2, 1) := qd4_37.2.2.1
theorem dX7_hangs_60 : decode cX7_hangs 60 = .ok (.if_icmp .le 8, 3) := qd4_37.2.2.2.1
theorem dX7_hangs_63 : decode cX7_hangs 63 = .ok (.iload_n 3, 1) := qd4_37.2.2.2.2.1
theorem dX7_hangs_64 : decode cX7_hangs 64 = .ok (.istore_n 1, 1) := qd4_37.2.2.2.2.2.1
theorem dX7_hangs_65 : decode cX7_hangs 65 = .ok (.iload 4, 2) := qd4_37.2.2.2.2.2.2.1
theorem dX7_hangs_67 : decode cX7_hangs 67 = .ok (.istore_n 2, 1) := qd4_37.2.2.2.2.2.2.2.1
theorem dX7_hangs_68 : decode cX7_hangs 68 = .ok (.iinc 3 1, 3) := qd4_37.2.2.2.2.2.2.2.2.1
theorem dX7_hangs_71 : decode cX7_hangs 71 = .ok (.goto (-65), 3) := qd4_37.2.2.2.2.2.2.2.2.2.1
theorem dX7_hangs_74 : decode cX7_hangs 74 = .ok (.iload_n 1, 1) := qd4_37.2.2.2.2.2.2.2.2.2.2.1
theorem dX7_hangs_75 : decode cX7_hangs 75 = .ok (.iconst (-1), 1) := qd4_37.2.2.2.2.2.2.2.2.2.2.2
theorem qd4_38 : (decode cX7_hangs 76 = .ok (.if_icmp .ne 12, 3)) ∧ (decode cX7_hangs 79 = .ok (.aload_n 0, 1)) ∧ (decode cX7_hangs 80 = .ok (.bipush (-5), 2)) ∧ (decode cX7_hangs 82 = .ok (.invokevirtual 94, 3)) ∧ (decode cX7_hangs 85 = .ok (.goto 4, 3)) ∧ (decode cX7_hangs 88 = .ok (.iload_n 1, 1)) ∧ (decode cX7_hangs 89 = .ok (.ireturn, 1)) := by decide +kernel
theorem dX7_hangs_76 : decode cX7_hangs 76 = .ok (.if_icmp .ne 12, 3) := qd4_38.1
theorem dX7_hangs_79 : decode cX7_hangs 79 = .ok (.aload_n 0, 1) := qd4_38.2.1
theorem dX7_hangs_80 : decode cX7_hangs 80 = .ok (.bipush (-5), 2) := qd4_38.2.2.1
theorem dX7_hangs_82 : decode cX7_hangs 82 = .ok (.invokevirtual 94, 3) := qd4_38.2.2.2.1
theorem dX7_hangs_85 : decode cX7_hangs 85 = .ok (.goto 4, 3) := qd4_38.2.2.2.2.1
theorem dX7_hangs_88 : decode cX7_hangs 88 = .ok (.iload_n 1, 1) := qd4_38.2.2.2.2.2.1
theorem dX7_hangs_89 : decode cX7_hangs 89 = .ok (.ireturn, 1) := qd4_38.2.2.2.2.2.2
theorem qd4_39 : (decode cX7_fresh 0 = .ok (.aload_n 0, 1)) ∧ (decode cX7_fresh 1 = .ok (.getfield 291, 3)) ∧ (decode cX7_fresh 4 = .ok (.ifnonnull 14, 3)) ∧ (decode cX7_fresh 7 = .ok (.aload_n 0, 1)) ∧ (decode cX7_fresh 8 = .ok (.new 8, 3)) ∧ (decode cX7_fresh 11 = .ok (.dup, 1)) ∧ (decode cX7_fresh 12 = .ok (.invokespecial 295, 3)) ∧ (decode cX7_fresh 15 = .ok (.putfield 291, 3)) ∧ (decode cX7_fresh 18 = .ok (.aload_n 0, 1)) ∧ (decode cX7_fresh 19 = .ok (.getfield 291, 3)) ∧ (decode cX7_fresh 22 = .ok (.aload_n 0, 1)) ∧ (decode cX7_fresh 23 = .ok (.invokevirtual 245, 3)) := by decide +kernel
theorem dX7_fresh_0 : decode cX7_fresh 0 = .ok (.aload_n 0, 1) := qd4_39.1
theorem dX7_fresh_1 : decode cX7_fresh 1 = .ok (.getfield 291, 3) := qd4_39.2.1
theorem dX7_fresh_4 : decode cX7_fresh 4 = .ok (.ifnonnull 14, 3) := qd4_39.2.2.1
theorem dX7_fresh_7 : decode cX7_fresh 7 = .ok (.aload_n 0, 1) := qd4_39.2.2.2.1
theorem dX7_fresh_8 : decode cX7_fresh 8 = .ok (.new 8, 3) := qd4_39.2.2.2.2.1
theorem dX7_fresh_11 : decode cX7_fresh 11 = .ok (.dup, 1) := qd4_39.2.2.2.2.2.1
theorem dX7_fresh_12 : decode cX7_fresh 12 = .ok (.invokespecial 295, 3) := qd4_39.2.2.2.2.2.2.1
theorem dX7_fresh_15 : decode cX7_fresh 15 = .ok (.putfield 291, 3) := qd4_39.2.2.2.2.2.2.2.1
theorem dX7_fresh_18 : decode cX7_fresh 18 = .ok (.aload_n 0, 1) := qd4_39.2.2.2.2.2.2.2.2.1
theorem dX7_fresh_19 : decode cX7_fresh 19 = .ok (.getfield 291, 3) := qd4_39.2.2.2.2.2.2.2.2.2.1
theorem dX7_fresh_22 : decode cX7_fresh 22 = .ok (.aload_n 0, 1) := qd4_39.2.2.2.2.2.2.2.2.2.2.1
theorem dX7_fresh_23 : decode cX7_fresh 23 = .ok (.invokevirtual 245, 3) := qd4_39.2.2.2.2.2.2.2.2.2.2.2
theorem qd4_40 : (decode cX7_fresh 26 = .ok (.aload_n 0, 1)) ∧ (decode cX7_fresh 27 = .ok (.getfield 291, 3)) ∧ (decode cX7_fresh 30 = .ok (.areturn, 1)) := by decide +kernel
theorem dX7_fresh_26 : decode cX7_fresh 26 = .ok (.aload_n 0, 1) := qd4_40.1
theorem dX7_fresh_27 : decode cX7_fresh 27 = .ok (.getfield 291, 3) := qd4_40.2.1
theorem dX7_fresh_30 : decode cX7_fresh 30 = .ok (.areturn, 1) := qd4_40.2.2
theorem qd4_41 : (decode cX7_does 0 = .ok (.aload_n 0, 1)) ∧ (decode cX7_does 1 = .ok (.getfield 51, 3)) ∧ (decode cX7_does 4 = .ok (.iload_n 1, 1)) ∧ (decode cX7_does 5 = .ok (.aaload, 1)) ∧ (decode cX7_does 6 = .ok (.astore_n 2, 1)) ∧ (decode cX7_does 7 = .ok (.aload_n 2, 1)) ∧ (decode cX7_does 8 = .ok (.iconst 4, 1)) ∧ (decode cX7_does 9 = .ok (.iconst 1, 1)) ∧ (decode cX7_does 10 = .ok (.iastore, 1)) ∧ (decode cX7_does 11 = .ok (.aload_n 2, 1)) ∧ (decode cX7_does 12 = .ok (.iconst 0, 1)) ∧ (decode cX7_does 13 = .ok (.iaload, 1)) := by decide +kernel
theorem dX7_does_0 : decode cX7_does 0 = .ok (.aload_n 0, 1) := qd4_41.1
theorem dX7_does_1 : decode cX7_does 1 = .ok (.getfield 51, 3) := qd4_41.2.1
theorem dX7_does_4 : decode cX7_does 4 = .ok (.iload_n 1, 1) := qd4_41.2.2.1
theorem dX7_does_5 : decode cX7_does 5 = .ok (.aaload, 1) := qd4_41.2.2.2.1
theorem dX7_does_6 : decode cX7_does 6 = .ok (.astore_n 2, 1) := qd4_41.2.2.2.2.1
theorem dX7_does_7 : decode cX7_does 7 = .ok (.aload_n 2, 1) := qd4_41.2.2.2.2.2.1
theorem dX7_does_8 : decode cX7_does 8 = .ok (.iconst 4, 1) := qd4_41.2.2.2.2.2.2.1
theorem dX7_does_9 : decode cX7_does 9 = .ok (.iconst 1, 1) := qd4_41.2.2.2.2.2.2.2.1
theorem dX7_does_10 : decode cX7_does 10 = .ok (.iastore, 1) := qd4_41.2.2.2.2.2.2.2.2.1
theorem dX7_does_11 : decode cX7_does 11 = .ok (.aload_n 2, 1) := qd4_41.2.2.2.2.2.2.2.2.2.1
theorem dX7_does_12 : decode cX7_does 12 = .ok (.iconst 0, 1) := qd4_41.2.2.2.2.2.2.2.2.2.2.1
theorem dX7_does_13 : decode cX7_does 13 = .ok (.iaload, 1) := qd4_41.2.2.2.2.2.2.2.2.2.2.2
theorem qd4_42 : (decode cX7_does 14 = .ok (.tableswitch 79 1 3 #[26, 44, 65], 26)) ∧ (decode cX7_does 40 = .ok (.aload_n 0, 1)) ∧ (decode cX7_does 41 = .ok (.getfield 39, 3)) ∧ (decode cX7_does 44 = .ok (.aload_n 2, 1)) ∧ (decode cX7_does 45 = .ok (.iconst 1, 1)) ∧ (decode cX7_does 46 = .ok (.iaload, 1)) ∧ (decode cX7_does 47 = .ok (.aaload, 1)) ∧ (decode cX7_does 48 = .ok (.iconst 2, 1)) ∧ (decode cX7_does 49 = .ok (.iconst 1, 1)) ∧ (decode cX7_does 50 = .ok (.aload_n 2, 1)) ∧ (decode cX7_does 51 = .ok (.iconst 2, 1)) ∧ (decode cX7_does 52 = .ok (.iaload, 1)) := by decide +kernel
theorem dX7_does_14 : decode cX7_does 14 = .ok (.tableswitch 79 1 3 #[26, 44, 65], 26) := qd4_42.1
theorem dX7_does_40 : decode cX7_does 40 = .ok (.aload_n 0, 1) := qd4_42.2.1
theorem dX7_does_41 : decode cX7_does 41 = .ok (.getfield 39, 3) := qd4_42.2.2.1
theorem dX7_does_44 : decode cX7_does 44 = .ok (.aload_n 2, 1) := qd4_42.2.2.2.1
theorem dX7_does_45 : decode cX7_does 45 = .ok (.iconst 1, 1) := qd4_42.2.2.2.2.1
theorem dX7_does_46 : decode cX7_does 46 = .ok (.iaload, 1) := qd4_42.2.2.2.2.2.1
theorem dX7_does_47 : decode cX7_does 47 = .ok (.aaload, 1) := qd4_42.2.2.2.2.2.2.1
theorem dX7_does_48 : decode cX7_does 48 = .ok (.iconst 2, 1) := qd4_42.2.2.2.2.2.2.2.1
theorem dX7_does_49 : decode cX7_does 49 = .ok (.iconst 1, 1) := qd4_42.2.2.2.2.2.2.2.2.1
theorem dX7_does_50 : decode cX7_does 50 = .ok (.aload_n 2, 1) := qd4_42.2.2.2.2.2.2.2.2.2.1
theorem dX7_does_51 : decode cX7_does 51 = .ok (.iconst 2, 1) := qd4_42.2.2.2.2.2.2.2.2.2.2.1
theorem dX7_does_52 : decode cX7_does 52 = .ok (.iaload, 1) := qd4_42.2.2.2.2.2.2.2.2.2.2.2
theorem qd4_43 : (decode cX7_does 53 = .ok (.ishl, 1)) ∧ (decode cX7_does 54 = .ok (.iastore, 1)) ∧ (decode cX7_does 55 = .ok (.goto 93, 3)) ∧ (decode cX7_does 58 = .ok (.aload_n 0, 1)) ∧ (decode cX7_does 59 = .ok (.getfield 39, 3)) ∧ (decode cX7_does 62 = .ok (.aload_n 2, 1)) ∧ (decode cX7_does 63 = .ok (.iconst 1, 1)) ∧ (decode cX7_does 64 = .ok (.iaload, 1)) ∧ (decode cX7_does 65 = .ok (.aaload, 1)) ∧ (decode cX7_does 66 = .ok (.iconst 2, 1)) ∧ (decode cX7_does 67 = .ok (.dup2, 1)) ∧ (decode cX7_does 68 = .ok (.iaload, 1)) := by decide +kernel
theorem dX7_does_53 : decode cX7_does 53 = .ok (.ishl, 1) := qd4_43.1
theorem dX7_does_54 : decode cX7_does 54 = .ok (.iastore, 1) := qd4_43.2.1
theorem dX7_does_55 : decode cX7_does 55 = .ok (.goto 93, 3) := qd4_43.2.2.1
theorem dX7_does_58 : decode cX7_does 58 = .ok (.aload_n 0, 1) := qd4_43.2.2.2.1
theorem dX7_does_59 : decode cX7_does 59 = .ok (.getfield 39, 3) := qd4_43.2.2.2.2.1
theorem dX7_does_62 : decode cX7_does 62 = .ok (.aload_n 2, 1) := qd4_43.2.2.2.2.2.1
theorem dX7_does_63 : decode cX7_does 63 = .ok (.iconst 1, 1) := qd4_43.2.2.2.2.2.2.1
theorem dX7_does_64 : decode cX7_does 64 = .ok (.iaload, 1) := qd4_43.2.2.2.2.2.2.2.1
theorem dX7_does_65 : decode cX7_does 65 = .ok (.aaload, 1) := qd4_43.2.2.2.2.2.2.2.2.1
theorem dX7_does_66 : decode cX7_does 66 = .ok (.iconst 2, 1) := qd4_43.2.2.2.2.2.2.2.2.2.1
theorem dX7_does_67 : decode cX7_does 67 = .ok (.dup2, 1) := qd4_43.2.2.2.2.2.2.2.2.2.2.1
theorem dX7_does_68 : decode cX7_does 68 = .ok (.iaload, 1) := qd4_43.2.2.2.2.2.2.2.2.2.2.2
theorem qd4_44 : (decode cX7_does 69 = .ok (.iconst 1, 1)) ∧ (decode cX7_does 70 = .ok (.aload_n 2, 1)) ∧ (decode cX7_does 71 = .ok (.iconst 2, 1)) ∧ (decode cX7_does 72 = .ok (.iaload, 1)) ∧ (decode cX7_does 73 = .ok (.ishl, 1)) ∧ (decode cX7_does 74 = .ok (.ior, 1)) ∧ (decode cX7_does 75 = .ok (.iastore, 1)) ∧ (decode cX7_does 76 = .ok (.goto 72, 3)) ∧ (decode cX7_does 79 = .ok (.aload_n 0, 1)) ∧ (decode cX7_does 80 = .ok (.getfield 42, 3)) ∧ (decode cX7_does 83 = .ok (.aload_n 2, 1)) ∧ (decode cX7_does 84 = .ok (.iconst 1, 1)) := by decide +kernel
theorem dX7_does_69 : decode cX7_does 69 = .ok (.iconst 1, 1) := qd4_44.1
theorem dX7_does_70 : decode cX7_does 70 = .ok (.aload_n 2, 1) := qd4_44.2.1
theorem dX7_does_71 : decode cX7_does 71 = .ok (.iconst 2, 1) := qd4_44.2.2.1
theorem dX7_does_72 : decode cX7_does 72 = .ok (.iaload, 1) := qd4_44.2.2.2.1
theorem dX7_does_73 : decode cX7_does 73 = .ok (.ishl, 1) := qd4_44.2.2.2.2.1
theorem dX7_does_74 : decode cX7_does 74 = .ok (.ior, 1) := qd4_44.2.2.2.2.2.1
theorem dX7_does_75 : decode cX7_does 75 = .ok (.iastore, 1) := qd4_44.2.2.2.2.2.2.1
theorem dX7_does_76 : decode cX7_does 76 = .ok (.goto 72, 3) := qd4_44.2.2.2.2.2.2.2.1
theorem dX7_does_79 : decode cX7_does 79 = .ok (.aload_n 0, 1) := qd4_44.2.2.2.2.2.2.2.2.1
theorem dX7_does_80 : decode cX7_does 80 = .ok (.getfield 42, 3) := qd4_44.2.2.2.2.2.2.2.2.2.1
theorem dX7_does_83 : decode cX7_does 83 = .ok (.aload_n 2, 1) := qd4_44.2.2.2.2.2.2.2.2.2.2.1
theorem dX7_does_84 : decode cX7_does 84 = .ok (.iconst 1, 1) := qd4_44.2.2.2.2.2.2.2.2.2.2.2
theorem qd4_45 : (decode cX7_does 85 = .ok (.iaload, 1)) ∧ (decode cX7_does 86 = .ok (.aload_n 2, 1)) ∧ (decode cX7_does 87 = .ok (.iconst 2, 1)) ∧ (decode cX7_does 88 = .ok (.iaload, 1)) ∧ (decode cX7_does 89 = .ok (.iastore, 1)) ∧ (decode cX7_does 90 = .ok (.goto 58, 3)) ∧ (decode cX7_does 93 = .ok (.aload_n 0, 1)) ∧ (decode cX7_does 94 = .ok (.getfield 82, 3)) ∧ (decode cX7_does 97 = .ok (.bipush 20, 2)) ∧ (decode cX7_does 99 = .ok (.if_icmp .ge 49, 3)) ∧ (decode cX7_does 102 = .ok (.aload_n 0, 1)) ∧ (decode cX7_does 103 = .ok (.aload_n 2, 1)) := by decide +kernel
theorem dX7_does_85 : decode cX7_does 85 = .ok (.iaload, 1) := qd4_45.1
theorem dX7_does_86 : decode cX7_does 86 = .ok (.aload_n 2, 1) := qd4_45.2.1
theorem dX7_does_87 : decode cX7_does 87 = .ok (.iconst 2, 1) := qd4_45.2.2.1
theorem dX7_does_88 : decode cX7_does 88 = .ok (.iaload, 1) := qd4_45.2.2.2.1
theorem dX7_does_89 : decode cX7_does 89 = .ok (.iastore, 1) := qd4_45.2.2.2.2.1
theorem dX7_does_90 : decode cX7_does 90 = .ok (.goto 58, 3) := qd4_45.2.2.2.2.2.1
theorem dX7_does_93 : decode cX7_does 93 = .ok (.aload_n 0, 1) := qd4_45.2.2.2.2.2.2.1
theorem dX7_does_94 : decode cX7_does 94 = .ok (.getfield 82, 3) := qd4_45.2.2.2.2.2.2.2.1
theorem dX7_does_97 : decode cX7_does 97 = .ok (.bipush 20, 2) := qd4_45.2.2.2.2.2.2.2.2.1
theorem dX7_does_99 : decode cX7_does 99 = .ok (.if_icmp .ge 49, 3) := qd4_45.2.2.2.2.2.2.2.2.2.1
theorem dX7_does_102 : decode cX7_does 102 = .ok (.aload_n 0, 1) := qd4_45.2.2.2.2.2.2.2.2.2.2.1
theorem dX7_does_103 : decode cX7_does 103 = .ok (.aload_n 2, 1) := qd4_45.2.2.2.2.2.2.2.2.2.2.2
theorem qd4_46 : (decode cX7_does 104 = .ok (.iconst 1, 1)) ∧ (decode cX7_does 105 = .ok (.iaload, 1)) ∧ (decode cX7_does 106 = .ok (.aload_n 2, 1)) ∧ (decode cX7_does 107 = .ok (.iconst 2, 1)) ∧ (decode cX7_does 108 = .ok (.iaload, 1)) ∧ (decode cX7_does 109 = .ok (.invokevirtual 119, 3)) ∧ (decode cX7_does 112 = .ok (.aload_n 0, 1)) ∧ (decode cX7_does 113 = .ok (.getfield 39, 3)) ∧ (decode cX7_does 116 = .ok (.aload_n 0, 1)) ∧ (decode cX7_does 117 = .ok (.getfield 82, 3)) ∧ (decode cX7_does 120 = .ok (.aaload, 1)) ∧ (decode cX7_does 121 = .ok (.iconst 4, 1)) := by decide +kernel
theorem dX7_does_104 : decode cX7_does 104 = .ok (.iconst 1, 1) := qd4_46.1
theorem dX7_does_105 : decode cX7_does 105 = .ok (.iaload, 1) := qd4_46.2.1
theorem dX7_does_106 : decode cX7_does 106 = .ok (.aload_n 2, 1) := qd4_46.2.2.1
theorem dX7_does_107 : decode cX7_does 107 = .ok (.iconst 2, 1) := qd4_46.2.2.2.1
theorem dX7_does_108 : decode cX7_does 108 = .ok (.iaload, 1) := qd4_46.2.2.2.2.1
theorem dX7_does_109 : decode cX7_does 109 = .ok (.invokevirtual 119, 3) := qd4_46.2.2.2.2.2.1
theorem dX7_does_112 : decode cX7_does 112 = .ok (.aload_n 0, 1) := qd4_46.2.2.2.2.2.2.1
theorem dX7_does_113 : decode cX7_does 113 = .ok (.getfield 39, 3) := qd4_46.2.2.2.2.2.2.2.1
theorem dX7_does_116 : decode cX7_does 116 = .ok (.aload_n 0, 1) := qd4_46.2.2.2.2.2.2.2.2.1
theorem dX7_does_117 : decode cX7_does 117 = .ok (.getfield 82, 3) := qd4_46.2.2.2.2.2.2.2.2.2.1
theorem dX7_does_120 : decode cX7_does 120 = .ok (.aaload, 1) := qd4_46.2.2.2.2.2.2.2.2.2.2.1
theorem dX7_does_121 : decode cX7_does 121 = .ok (.iconst 4, 1) := qd4_46.2.2.2.2.2.2.2.2.2.2.2
theorem qd4_47 : (decode cX7_does 122 = .ok (.aload_n 2, 1)) ∧ (decode cX7_does 123 = .ok (.iconst 0, 1)) ∧ (decode cX7_does 124 = .ok (.iaload, 1)) ∧ (decode cX7_does 125 = .ok (.iconst 4, 1)) ∧ (decode cX7_does 126 = .ok (.if_icmp .ne 8, 3)) ∧ (decode cX7_does 129 = .ok (.bipush 99, 2)) ∧ (decode cX7_does 131 = .ok (.goto 6, 3)) ∧ (decode cX7_does 134 = .ok (.sipush 198, 3)) ∧ (decode cX7_does 137 = .ok (.iastore, 1)) ∧ (decode cX7_does 138 = .ok (.aload_n 0, 1)) ∧ (decode cX7_does 139 = .ok (.dup, 1)) ∧ (decode cX7_does 140 = .ok (.getfield 82, 3)) := by decide +kernel
theorem dX7_does_122 : decode cX7_does 122 = .ok (.aload_n 2, 1) := qd4_47.1
theorem dX7_does_123 : decode cX7_does 123 = .ok (.iconst 0, 1) := qd4_47.2.1
theorem dX7_does_124 : decode cX7_does 124 = .ok (.iaload, 1) := qd4_47.2.2.1
theorem dX7_does_125 : decode cX7_does 125 = .ok (.iconst 4, 1) := qd4_47.2.2.2.1
theorem dX7_does_126 : decode cX7_does 126 = .ok (.if_icmp .ne 8, 3) := qd4_47.2.2.2.2.1
theorem dX7_does_129 : decode cX7_does 129 = .ok (.bipush 99, 2) := qd4_47.2.2.2.2.2.1
theorem dX7_does_131 : decode cX7_does 131 = .ok (.goto 6, 3) := qd4_47.2.2.2.2.2.2.1
theorem dX7_does_134 : decode cX7_does 134 = .ok (.sipush 198, 3) := qd4_47.2.2.2.2.2.2.2.1
theorem dX7_does_137 : decode cX7_does 137 = .ok (.iastore, 1) := qd4_47.2.2.2.2.2.2.2.2.1
theorem dX7_does_138 : decode cX7_does 138 = .ok (.aload_n 0, 1) := qd4_47.2.2.2.2.2.2.2.2.2.1
theorem dX7_does_139 : decode cX7_does 139 = .ok (.dup, 1) := qd4_47.2.2.2.2.2.2.2.2.2.2.1
theorem dX7_does_140 : decode cX7_does 140 = .ok (.getfield 82, 3) := qd4_47.2.2.2.2.2.2.2.2.2.2.2
theorem qd4_48 : (decode cX7_does 143 = .ok (.iconst 1, 1)) ∧ (decode cX7_does 144 = .ok (.iadd, 1)) ∧ (decode cX7_does 145 = .ok (.putfield 82, 3)) ∧ (decode cX7_does 148 = .ok (.return_, 1)) := by decide +kernel
theorem dX7_does_143 : decode cX7_does 143 = .ok (.iconst 1, 1) := qd4_48.1
theorem dX7_does_144 : decode cX7_does 144 = .ok (.iadd, 1) := qd4_48.2.1
theorem dX7_does_145 : decode cX7_does 145 = .ok (.putfield 82, 3) := qd4_48.2.2.1
theorem dX7_does_148 : decode cX7_does 148 = .ok (.return_, 1) := qd4_48.2.2.2
theorem qd4_49 : (decode cX7_totalOf 0 = .ok (.aload_n 0, 1)) ∧ (decode cX7_totalOf 1 = .ok (.invokevirtual 238, 3)) ∧ (decode cX7_totalOf 4 = .ok (.astore_n 2, 1)) ∧ (decode cX7_totalOf 5 = .ok (.iconst 0, 1)) ∧ (decode cX7_totalOf 6 = .ok (.istore_n 3, 1)) ∧ (decode cX7_totalOf 7 = .ok (.iconst 0, 1)) ∧ (decode cX7_totalOf 8 = .ok (.istore 4, 2)) ∧ (decode cX7_totalOf 10 = .ok (.iload 4, 2)) ∧ (decode cX7_totalOf 12 = .ok (.aload_n 0, 1)) ∧ (decode cX7_totalOf 13 = .ok (.getfield 85, 3)) ∧ (decode cX7_totalOf 16 = .ok (.if_icmp .ge 48, 3)) ∧ (decode cX7_totalOf 19 = .ok (.iload_n 1, 1)) := by decide +kernel
theorem dX7_totalOf_0 : decode cX7_totalOf 0 = .ok (.aload_n 0, 1) := qd4_49.1
theorem dX7_totalOf_1 : decode cX7_totalOf 1 = .ok (.invokevirtual 238, 3) := qd4_49.2.1
theorem dX7_totalOf_4 : decode cX7_totalOf 4 = .ok (.astore_n 2, 1) := qd4_49.2.2.1
theorem dX7_totalOf_5 : decode cX7_totalOf 5 = .ok (.iconst 0, 1) := qd4_49.2.2.2.1
theorem dX7_totalOf_6 : decode cX7_totalOf 6 = .ok (.istore_n 3, 1) := qd4_49.2.2.2.2.1
theorem dX7_totalOf_7 : decode cX7_totalOf 7 = .ok (.iconst 0, 1) := qd4_49.2.2.2.2.2.1
theorem dX7_totalOf_8 : decode cX7_totalOf 8 = .ok (.istore 4, 2) := qd4_49.2.2.2.2.2.2.1
theorem dX7_totalOf_10 : decode cX7_totalOf 10 = .ok (.iload 4, 2) := qd4_49.2.2.2.2.2.2.2.1
theorem dX7_totalOf_12 : decode cX7_totalOf 12 = .ok (.aload_n 0, 1) := qd4_49.2.2.2.2.2.2.2.2.1
theorem dX7_totalOf_13 : decode cX7_totalOf 13 = .ok (.getfield 85, 3) := qd4_49.2.2.2.2.2.2.2.2.2.1
theorem dX7_totalOf_16 : decode cX7_totalOf 16 = .ok (.if_icmp .ge 48, 3) := qd4_49.2.2.2.2.2.2.2.2.2.2.1
theorem dX7_totalOf_19 : decode cX7_totalOf 19 = .ok (.iload_n 1, 1) := qd4_49.2.2.2.2.2.2.2.2.2.2.2
theorem qd4_50 : (decode cX7_totalOf 20 = .ok (.iload 4, 2)) ∧ (decode cX7_totalOf 22 = .ok (.ishr, 1)) ∧ (decode cX7_totalOf 23 = .ok (.iconst 1, 1)) ∧ (decode cX7_totalOf 24 = .ok (.iand, 1)) ∧ (decode cX7_totalOf 25 = .ok (.ifCond .eq 33, 3)) ∧ (decode cX7_totalOf 28 = .ok (.aload_n 2, 1)) ∧ (decode cX7_totalOf 29 = .ok (.getfield 51, 3)) ∧ (decode cX7_totalOf 32 = .ok (.iload 4, 2)) ∧ (decode cX7_totalOf 34 = .ok (.aaload, 1)) ∧ (decode cX7_totalOf 35 = .ok (.iconst 4, 1)) ∧ (decode cX7_totalOf 36 = .ok (.iaload, 1)) ∧ (decode cX7_totalOf 37 = .ok (.ifCond .ne 21, 3)) := by decide +kernel
theorem dX7_totalOf_20 : decode cX7_totalOf 20 = .ok (.iload 4, 2) := qd4_50.1
theorem dX7_totalOf_22 : decode cX7_totalOf 22 = .ok (.ishr, 1) := qd4_50.2.1
theorem dX7_totalOf_23 : decode cX7_totalOf 23 = .ok (.iconst 1, 1) := qd4_50.2.2.1
theorem dX7_totalOf_24 : decode cX7_totalOf 24 = .ok (.iand, 1) := qd4_50.2.2.2.1
theorem dX7_totalOf_25 : decode cX7_totalOf 25 = .ok (.ifCond .eq 33, 3) := qd4_50.2.2.2.2.1
theorem dX7_totalOf_28 : decode cX7_totalOf 28 = .ok (.aload_n 2, 1) := qd4_50.2.2.2.2.2.1
theorem dX7_totalOf_29 : decode cX7_totalOf 29 = .ok (.getfield 51, 3) := qd4_50.2.2.2.2.2.2.1
theorem dX7_totalOf_32 : decode cX7_totalOf 32 = .ok (.iload 4, 2) := qd4_50.2.2.2.2.2.2.2.1
theorem dX7_totalOf_34 : decode cX7_totalOf 34 = .ok (.aaload, 1) := qd4_50.2.2.2.2.2.2.2.2.1
theorem dX7_totalOf_35 : decode cX7_totalOf 35 = .ok (.iconst 4, 1) := qd4_50.2.2.2.2.2.2.2.2.2.1
theorem dX7_totalOf_36 : decode cX7_totalOf 36 = .ok (.iaload, 1) := qd4_50.2.2.2.2.2.2.2.2.2.2.1
theorem dX7_totalOf_37 : decode cX7_totalOf 37 = .ok (.ifCond .ne 21, 3) := qd4_50.2.2.2.2.2.2.2.2.2.2.2
theorem qd4_51 : (decode cX7_totalOf 40 = .ok (.iload_n 3, 1)) ∧ (decode cX7_totalOf 41 = .ok (.aload_n 2, 1)) ∧ (decode cX7_totalOf 42 = .ok (.getfield 51, 3)) ∧ (decode cX7_totalOf 45 = .ok (.iload 4, 2)) ∧ (decode cX7_totalOf 47 = .ok (.aaload, 1)) ∧ (decode cX7_totalOf 48 = .ok (.iconst 3, 1)) ∧ (decode cX7_totalOf 49 = .ok (.iaload, 1)) ∧ (decode cX7_totalOf 50 = .ok (.iadd, 1)) ∧ (decode cX7_totalOf 51 = .ok (.istore_n 3, 1)) ∧ (decode cX7_totalOf 52 = .ok (.aload_n 2, 1)) ∧ (decode cX7_totalOf 53 = .ok (.iload 4, 2)) ∧ (decode cX7_totalOf 55 = .ok (.invokevirtual 296, 3)) := by decide +kernel
theorem dX7_totalOf_40 : decode cX7_totalOf 40 = .ok (.iload_n 3, 1) := qd4_51.1
theorem dX7_totalOf_41 : decode cX7_totalOf 41 = .ok (.aload_n 2, 1) := qd4_51.2.1
theorem dX7_totalOf_42 : decode cX7_totalOf 42 = .ok (.getfield 51, 3) := qd4_51.2.2.1
theorem dX7_totalOf_45 : decode cX7_totalOf 45 = .ok (.iload 4, 2) := qd4_51.2.2.2.1
theorem dX7_totalOf_47 : decode cX7_totalOf 47 = .ok (.aaload, 1) := qd4_51.2.2.2.2.1
theorem dX7_totalOf_48 : decode cX7_totalOf 48 = .ok (.iconst 3, 1) := qd4_51.2.2.2.2.2.1
theorem dX7_totalOf_49 : decode cX7_totalOf 49 = .ok (.iaload, 1) := qd4_51.2.2.2.2.2.2.1
theorem dX7_totalOf_50 : decode cX7_totalOf 50 = .ok (.iadd, 1) := qd4_51.2.2.2.2.2.2.2.1
theorem dX7_totalOf_51 : decode cX7_totalOf 51 = .ok (.istore_n 3, 1) := qd4_51.2.2.2.2.2.2.2.2.1
theorem dX7_totalOf_52 : decode cX7_totalOf 52 = .ok (.aload_n 2, 1) := qd4_51.2.2.2.2.2.2.2.2.2.1
theorem dX7_totalOf_53 : decode cX7_totalOf 53 = .ok (.iload 4, 2) := qd4_51.2.2.2.2.2.2.2.2.2.2.1
theorem dX7_totalOf_55 : decode cX7_totalOf 55 = .ok (.invokevirtual 296, 3) := qd4_51.2.2.2.2.2.2.2.2.2.2.2
theorem qd4_52 : (decode cX7_totalOf 58 = .ok (.iinc 4 1, 3)) ∧ (decode cX7_totalOf 61 = .ok (.goto (-51), 3)) ∧ (decode cX7_totalOf 64 = .ok (.iload_n 3, 1)) ∧ (decode cX7_totalOf 65 = .ok (.aload_n 0, 1)) ∧ (decode cX7_totalOf 66 = .ok (.getfield 54, 3)) ∧ (decode cX7_totalOf 69 = .ok (.aload_n 2, 1)) ∧ (decode cX7_totalOf 70 = .ok (.invokevirtual 288, 3)) ∧ (decode cX7_totalOf 73 = .ok (.imul, 1)) ∧ (decode cX7_totalOf 74 = .ok (.iadd, 1)) ∧ (decode cX7_totalOf 75 = .ok (.ireturn, 1)) := by decide +kernel
theorem dX7_totalOf_58 : decode cX7_totalOf 58 = .ok (.iinc 4 1, 3) := qd4_52.1
theorem dX7_totalOf_61 : decode cX7_totalOf 61 = .ok (.goto (-51), 3) := qd4_52.2.1
theorem dX7_totalOf_64 : decode cX7_totalOf 64 = .ok (.iload_n 3, 1) := qd4_52.2.2.1
theorem dX7_totalOf_65 : decode cX7_totalOf 65 = .ok (.aload_n 0, 1) := qd4_52.2.2.2.1
theorem dX7_totalOf_66 : decode cX7_totalOf 66 = .ok (.getfield 54, 3) := qd4_52.2.2.2.2.1
theorem dX7_totalOf_69 : decode cX7_totalOf 69 = .ok (.aload_n 2, 1) := qd4_52.2.2.2.2.2.1
theorem dX7_totalOf_70 : decode cX7_totalOf 70 = .ok (.invokevirtual 288, 3) := qd4_52.2.2.2.2.2.2.1
theorem dX7_totalOf_73 : decode cX7_totalOf 73 = .ok (.imul, 1) := qd4_52.2.2.2.2.2.2.2.1
theorem dX7_totalOf_74 : decode cX7_totalOf 74 = .ok (.iadd, 1) := qd4_52.2.2.2.2.2.2.2.2.1
theorem dX7_totalOf_75 : decode cX7_totalOf 75 = .ok (.ireturn, 1) := qd4_52.2.2.2.2.2.2.2.2.2
theorem qd4_53 : (decode cX7_total 0 = .ok (.iload_n 1, 1)) ∧ (decode cX7_total 1 = .ok (.i2l, 1)) ∧ (decode cX7_total 2 = .ok (.lconst 0, 1)) ∧ (decode cX7_total 3 = .ok (.iconst 1, 1)) ∧ (decode cX7_total 4 = .ok (.aload_n 0, 1)) ∧ (decode cX7_total 5 = .ok (.getfield 85, 3)) ∧ (decode cX7_total 8 = .ok (.ishl, 1)) ∧ (decode cX7_total 9 = .ok (.iconst 1, 1)) ∧ (decode cX7_total 10 = .ok (.isub, 1)) ∧ (decode cX7_total 11 = .ok (.i2l, 1)) ∧ (decode cX7_total 12 = .ok (.invokestatic 78, 3)) ∧ (decode cX7_total 15 = .ok (.ifCond .eq 11, 3)) := by decide +kernel
theorem dX7_total_0 : decode cX7_total 0 = .ok (.iload_n 1, 1) := qd4_53.1
theorem dX7_total_1 : decode cX7_total 1 = .ok (.i2l, 1) := qd4_53.2.1
theorem dX7_total_2 : decode cX7_total 2 = .ok (.lconst 0, 1) := qd4_53.2.2.1
theorem dX7_total_3 : decode cX7_total 3 = .ok (.iconst 1, 1) := qd4_53.2.2.2.1
theorem dX7_total_4 : decode cX7_total 4 = .ok (.aload_n 0, 1) := qd4_53.2.2.2.2.1
theorem dX7_total_5 : decode cX7_total 5 = .ok (.getfield 85, 3) := qd4_53.2.2.2.2.2.1
theorem dX7_total_8 : decode cX7_total 8 = .ok (.ishl, 1) := qd4_53.2.2.2.2.2.2.1
theorem dX7_total_9 : decode cX7_total 9 = .ok (.iconst 1, 1) := qd4_53.2.2.2.2.2.2.2.1
theorem dX7_total_10 : decode cX7_total 10 = .ok (.isub, 1) := qd4_53.2.2.2.2.2.2.2.2.1
theorem dX7_total_11 : decode cX7_total 11 = .ok (.i2l, 1) := qd4_53.2.2.2.2.2.2.2.2.2.1
theorem dX7_total_12 : decode cX7_total 12 = .ok (.invokestatic 78, 3) := qd4_53.2.2.2.2.2.2.2.2.2.2.1
theorem dX7_total_15 : decode cX7_total 15 = .ok (.ifCond .eq 11, 3) := qd4_53.2.2.2.2.2.2.2.2.2.2.2
theorem qd4_54 : (decode cX7_total 18 = .ok (.aload_n 0, 1)) ∧ (decode cX7_total 19 = .ok (.iload_n 1, 1)) ∧ (decode cX7_total 20 = .ok (.invokevirtual 300, 3)) ∧ (decode cX7_total 23 = .ok (.goto 9, 3)) ∧ (decode cX7_total 26 = .ok (.aload_n 0, 1)) ∧ (decode cX7_total 27 = .ok (.bipush (-2), 2)) ∧ (decode cX7_total 29 = .ok (.invokevirtual 94, 3)) ∧ (decode cX7_total 32 = .ok (.ireturn, 1)) := by decide +kernel
theorem dX7_total_18 : decode cX7_total 18 = .ok (.aload_n 0, 1) := qd4_54.1
theorem dX7_total_19 : decode cX7_total 19 = .ok (.iload_n 1, 1) := qd4_54.2.1
theorem dX7_total_20 : decode cX7_total 20 = .ok (.invokevirtual 300, 3) := qd4_54.2.2.1
theorem dX7_total_23 : decode cX7_total 23 = .ok (.goto 9, 3) := qd4_54.2.2.2.1
theorem dX7_total_26 : decode cX7_total 26 = .ok (.aload_n 0, 1) := qd4_54.2.2.2.2.1
theorem dX7_total_27 : decode cX7_total 27 = .ok (.bipush (-2), 2) := qd4_54.2.2.2.2.2.1
theorem dX7_total_29 : decode cX7_total 29 = .ok (.invokevirtual 94, 3) := qd4_54.2.2.2.2.2.2.1
theorem dX7_total_32 : decode cX7_total 32 = .ok (.ireturn, 1) := qd4_54.2.2.2.2.2.2.2
theorem qd4_55 : (decode cX7_best 0 = .ok (.iconst 0, 1)) ∧ (decode cX7_best 1 = .ok (.istore_n 1, 1)) ∧ (decode cX7_best 2 = .ok (.aload_n 0, 1)) ∧ (decode cX7_best 3 = .ok (.iconst 0, 1)) ∧ (decode cX7_best 4 = .ok (.invokevirtual 300, 3)) ∧ (decode cX7_best 7 = .ok (.istore_n 2, 1)) ∧ (decode cX7_best 8 = .ok (.iconst 1, 1)) ∧ (decode cX7_best 9 = .ok (.istore_n 3, 1)) ∧ (decode cX7_best 10 = .ok (.iload_n 3, 1)) ∧ (decode cX7_best 11 = .ok (.iconst 1, 1)) ∧ (decode cX7_best 12 = .ok (.aload_n 0, 1)) ∧ (decode cX7_best 13 = .ok (.getfield 85, 3)) := by decide +kernel
theorem dX7_best_0 : decode cX7_best 0 = .ok (.iconst 0, 1) := qd4_55.1
theorem dX7_best_1 : decode cX7_best 1 = .ok (.istore_n 1, 1) := qd4_55.2.1
theorem dX7_best_2 : decode cX7_best 2 = .ok (.aload_n 0, 1) := qd4_55.2.2.1
theorem dX7_best_3 : decode cX7_best 3 = .ok (.iconst 0, 1) := qd4_55.2.2.2.1
theorem dX7_best_4 : decode cX7_best 4 = .ok (.invokevirtual 300, 3) := qd4_55.2.2.2.2.1
theorem dX7_best_7 : decode cX7_best 7 = .ok (.istore_n 2, 1) := qd4_55.2.2.2.2.2.1
theorem dX7_best_8 : decode cX7_best 8 = .ok (.iconst 1, 1) := qd4_55.2.2.2.2.2.2.1
theorem dX7_best_9 : decode cX7_best 9 = .ok (.istore_n 3, 1) := qd4_55.2.2.2.2.2.2.2.1
theorem dX7_best_10 : decode cX7_best 10 = .ok (.iload_n 3, 1) := qd4_55.2.2.2.2.2.2.2.2.1
theorem dX7_best_11 : decode cX7_best 11 = .ok (.iconst 1, 1) := qd4_55.2.2.2.2.2.2.2.2.2.1
theorem dX7_best_12 : decode cX7_best 12 = .ok (.aload_n 0, 1) := qd4_55.2.2.2.2.2.2.2.2.2.2.1
theorem dX7_best_13 : decode cX7_best 13 = .ok (.getfield 85, 3) := qd4_55.2.2.2.2.2.2.2.2.2.2.2
theorem qd4_56 : (decode cX7_best 16 = .ok (.ishl, 1)) ∧ (decode cX7_best 17 = .ok (.if_icmp .ge 27, 3)) ∧ (decode cX7_best 20 = .ok (.aload_n 0, 1)) ∧ (decode cX7_best 21 = .ok (.iload_n 3, 1)) ∧ (decode cX7_best 22 = .ok (.invokevirtual 300, 3)) ∧ (decode cX7_best 25 = .ok (.istore 4, 2)) ∧ (decode cX7_best 27 = .ok (.iload 4, 2)) ∧ (decode cX7_best 29 = .ok (.iload_n 2, 1)) ∧ (decode cX7_best 30 = .ok (.if_icmp .ge 8, 3)) ∧ (decode cX7_best 33 = .ok (.iload 4, 2)) ∧ (decode cX7_best 35 = .ok (.istore_n 2, 1)) ∧ (decode cX7_best 36 = .ok (.iload_n 3, 1)) := by decide +kernel
theorem dX7_best_16 : decode cX7_best 16 = .ok (.ishl, 1) := qd4_56.1
theorem dX7_best_17 : decode cX7_best 17 = .ok (.if_icmp .ge 27, 3) := qd4_56.2.1
theorem dX7_best_20 : decode cX7_best 20 = .ok (.aload_n 0, 1) := qd4_56.2.2.1
theorem dX7_best_21 : decode cX7_best 21 = .ok (.iload_n 3, 1) := qd4_56.2.2.2.1
theorem dX7_best_22 : decode cX7_best 22 = .ok (.invokevirtual 300, 3) := qd4_56.2.2.2.2.1
theorem dX7_best_25 : decode cX7_best 25 = .ok (.istore 4, 2) := qd4_56.2.2.2.2.2.1
theorem dX7_best_27 : decode cX7_best 27 = .ok (.iload 4, 2) := qd4_56.2.2.2.2.2.2.1
theorem dX7_best_29 : decode cX7_best 29 = .ok (.iload_n 2, 1) := qd4_56.2.2.2.2.2.2.2.1
theorem dX7_best_30 : decode cX7_best 30 = .ok (.if_icmp .ge 8, 3) := qd4_56.2.2.2.2.2.2.2.2.1
theorem dX7_best_33 : decode cX7_best 33 = .ok (.iload 4, 2) := qd4_56.2.2.2.2.2.2.2.2.2.1
theorem dX7_best_35 : decode cX7_best 35 = .ok (.istore_n 2, 1) := qd4_56.2.2.2.2.2.2.2.2.2.2.1
theorem dX7_best_36 : decode cX7_best 36 = .ok (.iload_n 3, 1) := qd4_56.2.2.2.2.2.2.2.2.2.2.2
theorem qd4_57 : (decode cX7_best 37 = .ok (.istore_n 1, 1)) ∧ (decode cX7_best 38 = .ok (.iinc 3 1, 3)) ∧ (decode cX7_best 41 = .ok (.goto (-31), 3)) ∧ (decode cX7_best 44 = .ok (.iload_n 1, 1)) ∧ (decode cX7_best 45 = .ok (.ireturn, 1)) := by decide +kernel
theorem dX7_best_37 : decode cX7_best 37 = .ok (.istore_n 1, 1) := qd4_57.1
theorem dX7_best_38 : decode cX7_best 38 = .ok (.iinc 3 1, 3) := qd4_57.2.1
theorem dX7_best_41 : decode cX7_best 41 = .ok (.goto (-31), 3) := qd4_57.2.2.1
theorem dX7_best_44 : decode cX7_best 44 = .ok (.iload_n 1, 1) := qd4_57.2.2.2.1
theorem dX7_best_45 : decode cX7_best 45 = .ok (.ireturn, 1) := qd4_57.2.2.2.2
theorem qd4_58 : (decode cX7_saves 0 = .ok (.aload_n 0, 1)) ∧ (decode cX7_saves 1 = .ok (.invokevirtual 238, 3)) ∧ (decode cX7_saves 4 = .ok (.astore_n 2, 1)) ∧ (decode cX7_saves 5 = .ok (.aload_n 2, 1)) ∧ (decode cX7_saves 6 = .ok (.invokevirtual 288, 3)) ∧ (decode cX7_saves 9 = .ok (.istore_n 3, 1)) ∧ (decode cX7_saves 10 = .ok (.aload_n 2, 1)) ∧ (decode cX7_saves 11 = .ok (.iload_n 1, 1)) ∧ (decode cX7_saves 12 = .ok (.invokevirtual 296, 3)) ∧ (decode cX7_saves 15 = .ok (.iload_n 3, 1)) ∧ (decode cX7_saves 16 = .ok (.aload_n 2, 1)) ∧ (decode cX7_saves 17 = .ok (.invokevirtual 288, 3)) := by decide +kernel
theorem dX7_saves_0 : decode cX7_saves 0 = .ok (.aload_n 0, 1) := qd4_58.1
theorem dX7_saves_1 : decode cX7_saves 1 = .ok (.invokevirtual 238, 3) := qd4_58.2.1
theorem dX7_saves_4 : decode cX7_saves 4 = .ok (.astore_n 2, 1) := qd4_58.2.2.1
theorem dX7_saves_5 : decode cX7_saves 5 = .ok (.aload_n 2, 1) := qd4_58.2.2.2.1
theorem dX7_saves_6 : decode cX7_saves 6 = .ok (.invokevirtual 288, 3) := qd4_58.2.2.2.2.1
theorem dX7_saves_9 : decode cX7_saves 9 = .ok (.istore_n 3, 1) := qd4_58.2.2.2.2.2.1
theorem dX7_saves_10 : decode cX7_saves 10 = .ok (.aload_n 2, 1) := qd4_58.2.2.2.2.2.2.1
theorem dX7_saves_11 : decode cX7_saves 11 = .ok (.iload_n 1, 1) := qd4_58.2.2.2.2.2.2.2.1
theorem dX7_saves_12 : decode cX7_saves 12 = .ok (.invokevirtual 296, 3) := qd4_58.2.2.2.2.2.2.2.2.1
theorem dX7_saves_15 : decode cX7_saves 15 = .ok (.iload_n 3, 1) := qd4_58.2.2.2.2.2.2.2.2.2.1
theorem dX7_saves_16 : decode cX7_saves 16 = .ok (.aload_n 2, 1) := qd4_58.2.2.2.2.2.2.2.2.2.2.1
theorem dX7_saves_17 : decode cX7_saves 17 = .ok (.invokevirtual 288, 3) := qd4_58.2.2.2.2.2.2.2.2.2.2.2
theorem qd4_59 : (decode cX7_saves 20 = .ok (.isub, 1)) ∧ (decode cX7_saves 21 = .ok (.ireturn, 1)) := by decide +kernel
theorem dX7_saves_20 : decode cX7_saves 20 = .ok (.isub, 1) := qd4_59.1
theorem dX7_saves_21 : decode cX7_saves 21 = .ok (.ireturn, 1) := qd4_59.2
theorem qd4_60 : (decode cX7_worthOf 0 = .ok (.aload_n 0, 1)) ∧ (decode cX7_worthOf 1 = .ok (.getfield 54, 3)) ∧ (decode cX7_worthOf 4 = .ok (.aload_n 0, 1)) ∧ (decode cX7_worthOf 5 = .ok (.iload_n 1, 1)) ∧ (decode cX7_worthOf 6 = .ok (.invokevirtual 303, 3)) ∧ (decode cX7_worthOf 9 = .ok (.imul, 1)) ∧ (decode cX7_worthOf 10 = .ok (.aload_n 0, 1)) ∧ (decode cX7_worthOf 11 = .ok (.getfield 51, 3)) ∧ (decode cX7_worthOf 14 = .ok (.iload_n 1, 1)) ∧ (decode cX7_worthOf 15 = .ok (.aaload, 1)) ∧ (decode cX7_worthOf 16 = .ok (.iconst 3, 1)) ∧ (decode cX7_worthOf 17 = .ok (.iaload, 1)) := by decide +kernel
theorem dX7_worthOf_0 : decode cX7_worthOf 0 = .ok (.aload_n 0, 1) := qd4_60.1
theorem dX7_worthOf_1 : decode cX7_worthOf 1 = .ok (.getfield 54, 3) := qd4_60.2.1
theorem dX7_worthOf_4 : decode cX7_worthOf 4 = .ok (.aload_n 0, 1) := qd4_60.2.2.1
theorem dX7_worthOf_5 : decode cX7_worthOf 5 = .ok (.iload_n 1, 1) := qd4_60.2.2.2.1
theorem dX7_worthOf_6 : decode cX7_worthOf 6 = .ok (.invokevirtual 303, 3) := qd4_60.2.2.2.2.1
theorem dX7_worthOf_9 : decode cX7_worthOf 9 = .ok (.imul, 1) := qd4_60.2.2.2.2.2.1
theorem dX7_worthOf_10 : decode cX7_worthOf 10 = .ok (.aload_n 0, 1) := qd4_60.2.2.2.2.2.2.1
theorem dX7_worthOf_11 : decode cX7_worthOf 11 = .ok (.getfield 51, 3) := qd4_60.2.2.2.2.2.2.2.1
theorem dX7_worthOf_14 : decode cX7_worthOf 14 = .ok (.iload_n 1, 1) := qd4_60.2.2.2.2.2.2.2.2.1
theorem dX7_worthOf_15 : decode cX7_worthOf 15 = .ok (.aaload, 1) := qd4_60.2.2.2.2.2.2.2.2.2.1
theorem dX7_worthOf_16 : decode cX7_worthOf 16 = .ok (.iconst 3, 1) := qd4_60.2.2.2.2.2.2.2.2.2.2.1
theorem dX7_worthOf_17 : decode cX7_worthOf 17 = .ok (.iaload, 1) := qd4_60.2.2.2.2.2.2.2.2.2.2.2
theorem qd4_61 : (decode cX7_worthOf 18 = .ok (.isub, 1)) ∧ (decode cX7_worthOf 19 = .ok (.ireturn, 1)) := by decide +kernel
theorem dX7_worthOf_18 : decode cX7_worthOf 18 = .ok (.isub, 1) := qd4_61.1
theorem dX7_worthOf_19 : decode cX7_worthOf 19 = .ok (.ireturn, 1) := qd4_61.2
theorem qd4_62 : (decode cX7_worth 0 = .ok (.aload_n 0, 1)) ∧ (decode cX7_worth 1 = .ok (.iload_n 1, 1)) ∧ (decode cX7_worth 2 = .ok (.invokevirtual 102, 3)) ∧ (decode cX7_worth 5 = .ok (.ifCond .ne 14, 3)) ∧ (decode cX7_worth 8 = .ok (.aload_n 0, 1)) ∧ (decode cX7_worth 9 = .ok (.bipush (-2), 2)) ∧ (decode cX7_worth 11 = .ok (.invokevirtual 94, 3)) ∧ (decode cX7_worth 14 = .ok (.ldc_w 306, 3)) ∧ (decode cX7_worth 17 = .ok (.isub, 1)) ∧ (decode cX7_worth 18 = .ok (.ireturn, 1)) ∧ (decode cX7_worth 19 = .ok (.aload_n 0, 1)) ∧ (decode cX7_worth 20 = .ok (.getfield 51, 3)) := by decide +kernel
theorem dX7_worth_0 : decode cX7_worth 0 = .ok (.aload_n 0, 1) := qd4_62.1
theorem dX7_worth_1 : decode cX7_worth 1 = .ok (.iload_n 1, 1) := qd4_62.2.1
theorem dX7_worth_2 : decode cX7_worth 2 = .ok (.invokevirtual 102, 3) := qd4_62.2.2.1
theorem dX7_worth_5 : decode cX7_worth 5 = .ok (.ifCond .ne 14, 3) := qd4_62.2.2.2.1
theorem dX7_worth_8 : decode cX7_worth 8 = .ok (.aload_n 0, 1) := qd4_62.2.2.2.2.1
theorem dX7_worth_9 : decode cX7_worth 9 = .ok (.bipush (-2), 2) := qd4_62.2.2.2.2.2.1
theorem dX7_worth_11 : decode cX7_worth 11 = .ok (.invokevirtual 94, 3) := qd4_62.2.2.2.2.2.2.1
theorem dX7_worth_14 : decode cX7_worth 14 = .ok (.ldc_w 306, 3) := qd4_62.2.2.2.2.2.2.2.1
theorem dX7_worth_17 : decode cX7_worth 17 = .ok (.isub, 1) := qd4_62.2.2.2.2.2.2.2.2.1
theorem dX7_worth_18 : decode cX7_worth 18 = .ok (.ireturn, 1) := qd4_62.2.2.2.2.2.2.2.2.2.1
theorem dX7_worth_19 : decode cX7_worth 19 = .ok (.aload_n 0, 1) := qd4_62.2.2.2.2.2.2.2.2.2.2.1
theorem dX7_worth_20 : decode cX7_worth 20 = .ok (.getfield 51, 3) := qd4_62.2.2.2.2.2.2.2.2.2.2.2
theorem qd4_63 : (decode cX7_worth 23 = .ok (.iload_n 1, 1)) ∧ (decode cX7_worth 24 = .ok (.aaload, 1)) ∧ (decode cX7_worth 25 = .ok (.iconst 4, 1)) ∧ (decode cX7_worth 26 = .ok (.iaload, 1)) ∧ (decode cX7_worth 27 = .ok (.iconst 1, 1)) ∧ (decode cX7_worth 28 = .ok (.if_icmp .ne 16, 3)) ∧ (decode cX7_worth 31 = .ok (.aload_n 0, 1)) ∧ (decode cX7_worth 32 = .ok (.bipush (-5), 2)) ∧ (decode cX7_worth 34 = .ok (.invokevirtual 94, 3)) ∧ (decode cX7_worth 37 = .ok (.ldc_w 306, 3)) ∧ (decode cX7_worth 40 = .ok (.isub, 1)) ∧ (decode cX7_worth 41 = .ok (.goto 8, 3)) := by decide +kernel
theorem dX7_worth_23 : decode cX7_worth 23 = .ok (.iload_n 1, 1) := qd4_63.1
theorem dX7_worth_24 : decode cX7_worth 24 = .ok (.aaload, 1) := qd4_63.2.1
theorem dX7_worth_25 : decode cX7_worth 25 = .ok (.iconst 4, 1) := qd4_63.2.2.1
theorem dX7_worth_26 : decode cX7_worth 26 = .ok (.iaload, 1) := qd4_63.2.2.2.1
theorem dX7_worth_27 : decode cX7_worth 27 = .ok (.iconst 1, 1) := qd4_63.2.2.2.2.1
theorem dX7_worth_28 : decode cX7_worth 28 = .ok (.if_icmp .ne 16, 3) := qd4_63.2.2.2.2.2.1
theorem dX7_worth_31 : decode cX7_worth 31 = .ok (.aload_n 0, 1) := qd4_63.2.2.2.2.2.2.1
theorem dX7_worth_32 : decode cX7_worth 32 = .ok (.bipush (-5), 2) := qd4_63.2.2.2.2.2.2.2.1
theorem dX7_worth_34 : decode cX7_worth 34 = .ok (.invokevirtual 94, 3) := qd4_63.2.2.2.2.2.2.2.2.1
theorem dX7_worth_37 : decode cX7_worth 37 = .ok (.ldc_w 306, 3) := qd4_63.2.2.2.2.2.2.2.2.2.1
theorem dX7_worth_40 : decode cX7_worth 40 = .ok (.isub, 1) := qd4_63.2.2.2.2.2.2.2.2.2.2.1
theorem dX7_worth_41 : decode cX7_worth 41 = .ok (.goto 8, 3) := qd4_63.2.2.2.2.2.2.2.2.2.2.2
theorem qd4_64 : (decode cX7_worth 44 = .ok (.aload_n 0, 1)) ∧ (decode cX7_worth 45 = .ok (.iload_n 1, 1)) ∧ (decode cX7_worth 46 = .ok (.invokevirtual 307, 3)) ∧ (decode cX7_worth 49 = .ok (.ireturn, 1)) := by decide +kernel
theorem dX7_worth_44 : decode cX7_worth 44 = .ok (.aload_n 0, 1) := qd4_64.1
theorem dX7_worth_45 : decode cX7_worth 45 = .ok (.iload_n 1, 1) := qd4_64.2.1
theorem dX7_worth_46 : decode cX7_worth 46 = .ok (.invokevirtual 307, 3) := qd4_64.2.2.1
theorem dX7_worth_49 : decode cX7_worth 49 = .ok (.ireturn, 1) := qd4_64.2.2.2
theorem qd4_65 : (decode cX7_first 0 = .ok (.iconst (-1), 1)) ∧ (decode cX7_first 1 = .ok (.istore_n 1, 1)) ∧ (decode cX7_first 2 = .ok (.iconst 0, 1)) ∧ (decode cX7_first 3 = .ok (.istore_n 2, 1)) ∧ (decode cX7_first 4 = .ok (.iconst 0, 1)) ∧ (decode cX7_first 5 = .ok (.istore_n 3, 1)) ∧ (decode cX7_first 6 = .ok (.iload_n 3, 1)) ∧ (decode cX7_first 7 = .ok (.aload_n 0, 1)) ∧ (decode cX7_first 8 = .ok (.getfield 85, 3)) ∧ (decode cX7_first 11 = .ok (.if_icmp .ge 42, 3)) ∧ (decode cX7_first 14 = .ok (.aload_n 0, 1)) ∧ (decode cX7_first 15 = .ok (.getfield 51, 3)) := by decide +kernel
theorem dX7_first_0 : decode cX7_first 0 = .ok (.iconst (-1), 1) := qd4_65.1
theorem dX7_first_1 : decode cX7_first 1 = .ok (.istore_n 1, 1) := qd4_65.2.1
theorem dX7_first_2 : decode cX7_first 2 = .ok (.iconst 0, 1) := qd4_65.2.2.1
theorem dX7_first_3 : decode cX7_first 3 = .ok (.istore_n 2, 1) := qd4_65.2.2.2.1
theorem dX7_first_4 : decode cX7_first 4 = .ok (.iconst 0, 1) := qd4_65.2.2.2.2.1
theorem dX7_first_5 : decode cX7_first 5 = .ok (.istore_n 3, 1) := qd4_65.2.2.2.2.2.1
theorem dX7_first_6 : decode cX7_first 6 = .ok (.iload_n 3, 1) := qd4_65.2.2.2.2.2.2.1
theorem dX7_first_7 : decode cX7_first 7 = .ok (.aload_n 0, 1) := qd4_65.2.2.2.2.2.2.2.1
theorem dX7_first_8 : decode cX7_first 8 = .ok (.getfield 85, 3) := qd4_65.2.2.2.2.2.2.2.2.1
theorem dX7_first_11 : decode cX7_first 11 = .ok (.if_icmp .ge 42, 3) := qd4_65.2.2.2.2.2.2.2.2.2.1
theorem dX7_first_14 : decode cX7_first 14 = .ok (.aload_n 0, 1) := qd4_65.2.2.2.2.2.2.2.2.2.2.1
theorem dX7_first_15 : decode cX7_first 15 = .ok (.getfield 51, 3) := qd4_65.2.2.2.2.2.2.2.2.2.2.2
theorem qd4_66 : (decode cX7_first 18 = .ok (.iload_n 3, 1)) ∧ (decode cX7_first 19 = .ok (.aaload, 1)) ∧ (decode cX7_first 20 = .ok (.iconst 4, 1)) ∧ (decode cX7_first 21 = .ok (.iaload, 1)) ∧ (decode cX7_first 22 = .ok (.ifCond .ne 11, 3)) ∧ (decode cX7_first 25 = .ok (.aload_n 0, 1)) ∧ (decode cX7_first 26 = .ok (.iload_n 3, 1)) ∧ (decode cX7_first 27 = .ok (.invokevirtual 307, 3)) ∧ (decode cX7_first 30 = .ok (.goto 4, 3)) ∧ (decode cX7_first 33 = .ok (.iconst 0, 1)) ∧ (decode cX7_first 34 = .ok (.istore 4, 2)) ∧ (decode cX7_first 36 = .ok (.iload 4, 2)) := by decide +kernel
theorem dX7_first_18 : decode cX7_first 18 = .ok (.iload_n 3, 1) := qd4_66.1
theorem dX7_first_19 : decode cX7_first 19 = .ok (.aaload, 1) := qd4_66.2.1
theorem dX7_first_20 : decode cX7_first 20 = .ok (.iconst 4, 1) := qd4_66.2.2.1
theorem dX7_first_21 : decode cX7_first 21 = .ok (.iaload, 1) := qd4_66.2.2.2.1
theorem dX7_first_22 : decode cX7_first 22 = .ok (.ifCond .ne 11, 3) := qd4_66.2.2.2.2.1
theorem dX7_first_25 : decode cX7_first 25 = .ok (.aload_n 0, 1) := qd4_66.2.2.2.2.2.1
theorem dX7_first_26 : decode cX7_first 26 = .ok (.iload_n 3, 1) := qd4_66.2.2.2.2.2.2.1
theorem dX7_first_27 : decode cX7_first 27 = .ok (.invokevirtual 307, 3) := qd4_66.2.2.2.2.2.2.2.1
theorem dX7_first_30 : decode cX7_first 30 = .ok (.goto 4, 3) := qd4_66.2.2.2.2.2.2.2.2.1
theorem dX7_first_33 : decode cX7_first 33 = .ok (.iconst 0, 1) := qd4_66.2.2.2.2.2.2.2.2.2.1
theorem dX7_first_34 : decode cX7_first 34 = .ok (.istore 4, 2) := qd4_66.2.2.2.2.2.2.2.2.2.2.1
theorem dX7_first_36 : decode cX7_first 36 = .ok (.iload 4, 2) := qd4_66.2.2.2.2.2.2.2.2.2.2.2
theorem qd4_67 : (decode cX7_first 38 = .ok (.iload_n 2, 1)) ∧ (decode cX7_first 39 = .ok (.if_icmp .le 8, 3)) ∧ (decode cX7_first 42 = .ok (.iload_n 3, 1)) ∧ (decode cX7_first 43 = .ok (.istore_n 1, 1)) ∧ (decode cX7_first 44 = .ok (.iload 4, 2)) ∧ (decode cX7_first 46 = .ok (.istore_n 2, 1)) ∧ (decode cX7_first 47 = .ok (.iinc 3 1, 3)) ∧ (decode cX7_first 50 = .ok (.goto (-44), 3)) ∧ (decode cX7_first 53 = .ok (.iload_n 1, 1)) ∧ (decode cX7_first 54 = .ok (.ireturn, 1)) := by decide +kernel
theorem dX7_first_38 : decode cX7_first 38 = .ok (.iload_n 2, 1) := qd4_67.1
theorem dX7_first_39 : decode cX7_first 39 = .ok (.if_icmp .le 8, 3) := qd4_67.2.1
theorem dX7_first_42 : decode cX7_first 42 = .ok (.iload_n 3, 1) := qd4_67.2.2.1
theorem dX7_first_43 : decode cX7_first 43 = .ok (.istore_n 1, 1) := qd4_67.2.2.2.1
theorem dX7_first_44 : decode cX7_first 44 = .ok (.iload 4, 2) := qd4_67.2.2.2.2.1
theorem dX7_first_46 : decode cX7_first 46 = .ok (.istore_n 2, 1) := qd4_67.2.2.2.2.2.1
theorem dX7_first_47 : decode cX7_first 47 = .ok (.iinc 3 1, 3) := qd4_67.2.2.2.2.2.2.1
theorem dX7_first_50 : decode cX7_first 50 = .ok (.goto (-44), 3) := qd4_67.2.2.2.2.2.2.2.1
theorem dX7_first_53 : decode cX7_first 53 = .ok (.iload_n 1, 1) := qd4_67.2.2.2.2.2.2.2.2.1
theorem dX7_first_54 : decode cX7_first 54 = .ok (.ireturn, 1) := qd4_67.2.2.2.2.2.2.2.2.2
theorem qd4_68 : (decode cX7_greedy 0 = .ok (.aload_n 0, 1)) ∧ (decode cX7_greedy 1 = .ok (.getfield 310, 3)) ∧ (decode cX7_greedy 4 = .ok (.ifnonnull 14, 3)) ∧ (decode cX7_greedy 7 = .ok (.aload_n 0, 1)) ∧ (decode cX7_greedy 8 = .ok (.new 8, 3)) ∧ (decode cX7_greedy 11 = .ok (.dup, 1)) ∧ (decode cX7_greedy 12 = .ok (.invokespecial 295, 3)) ∧ (decode cX7_greedy 15 = .ok (.putfield 310, 3)) ∧ (decode cX7_greedy 18 = .ok (.aload_n 0, 1)) ∧ (decode cX7_greedy 19 = .ok (.getfield 310, 3)) ∧ (decode cX7_greedy 22 = .ok (.astore_n 1, 1)) ∧ (decode cX7_greedy 23 = .ok (.aload_n 1, 1)) := by decide +kernel
theorem dX7_greedy_0 : decode cX7_greedy 0 = .ok (.aload_n 0, 1) := qd4_68.1
theorem dX7_greedy_1 : decode cX7_greedy 1 = .ok (.getfield 310, 3) := qd4_68.2.1
theorem dX7_greedy_4 : decode cX7_greedy 4 = .ok (.ifnonnull 14, 3) := qd4_68.2.2.1
theorem dX7_greedy_7 : decode cX7_greedy 7 = .ok (.aload_n 0, 1) := qd4_68.2.2.2.1
theorem dX7_greedy_8 : decode cX7_greedy 8 = .ok (.new 8, 3) := qd4_68.2.2.2.2.1
theorem dX7_greedy_11 : decode cX7_greedy 11 = .ok (.dup, 1) := qd4_68.2.2.2.2.2.1
theorem dX7_greedy_12 : decode cX7_greedy 12 = .ok (.invokespecial 295, 3) := qd4_68.2.2.2.2.2.2.1
theorem dX7_greedy_15 : decode cX7_greedy 15 = .ok (.putfield 310, 3) := qd4_68.2.2.2.2.2.2.2.1
theorem dX7_greedy_18 : decode cX7_greedy 18 = .ok (.aload_n 0, 1) := qd4_68.2.2.2.2.2.2.2.2.1
theorem dX7_greedy_19 : decode cX7_greedy 19 = .ok (.getfield 310, 3) := qd4_68.2.2.2.2.2.2.2.2.2.1
theorem dX7_greedy_22 : decode cX7_greedy 22 = .ok (.astore_n 1, 1) := qd4_68.2.2.2.2.2.2.2.2.2.2.1
theorem dX7_greedy_23 : decode cX7_greedy 23 = .ok (.aload_n 1, 1) := qd4_68.2.2.2.2.2.2.2.2.2.2.2
theorem qd4_69 : (decode cX7_greedy 24 = .ok (.aload_n 0, 1)) ∧ (decode cX7_greedy 25 = .ok (.invokevirtual 245, 3)) ∧ (decode cX7_greedy 28 = .ok (.iconst 0, 1)) ∧ (decode cX7_greedy 29 = .ok (.istore_n 2, 1)) ∧ (decode cX7_greedy 30 = .ok (.aload_n 1, 1)) ∧ (decode cX7_greedy 31 = .ok (.invokevirtual 313, 3)) ∧ (decode cX7_greedy 34 = .ok (.istore_n 3, 1)) ∧ (decode cX7_greedy 35 = .ok (.iload_n 3, 1)) ∧ (decode cX7_greedy 36 = .ok (.iconst (-1), 1)) ∧ (decode cX7_greedy 37 = .ok (.if_icmp .eq 22, 3)) ∧ (decode cX7_greedy 40 = .ok (.iload_n 2, 1)) ∧ (decode cX7_greedy 41 = .ok (.iconst 1, 1)) := by decide +kernel
theorem dX7_greedy_24 : decode cX7_greedy 24 = .ok (.aload_n 0, 1) := qd4_69.1
theorem dX7_greedy_25 : decode cX7_greedy 25 = .ok (.invokevirtual 245, 3) := qd4_69.2.1
theorem dX7_greedy_28 : decode cX7_greedy 28 = .ok (.iconst 0, 1) := qd4_69.2.2.1
theorem dX7_greedy_29 : decode cX7_greedy 29 = .ok (.istore_n 2, 1) := qd4_69.2.2.2.1
theorem dX7_greedy_30 : decode cX7_greedy 30 = .ok (.aload_n 1, 1) := qd4_69.2.2.2.2.1
theorem dX7_greedy_31 : decode cX7_greedy 31 = .ok (.invokevirtual 313, 3) := qd4_69.2.2.2.2.2.1
theorem dX7_greedy_34 : decode cX7_greedy 34 = .ok (.istore_n 3, 1) := qd4_69.2.2.2.2.2.2.1
theorem dX7_greedy_35 : decode cX7_greedy 35 = .ok (.iload_n 3, 1) := qd4_69.2.2.2.2.2.2.2.1
theorem dX7_greedy_36 : decode cX7_greedy 36 = .ok (.iconst (-1), 1) := qd4_69.2.2.2.2.2.2.2.2.1
theorem dX7_greedy_37 : decode cX7_greedy 37 = .ok (.if_icmp .eq 22, 3) := qd4_69.2.2.2.2.2.2.2.2.2.1
theorem dX7_greedy_40 : decode cX7_greedy 40 = .ok (.iload_n 2, 1) := qd4_69.2.2.2.2.2.2.2.2.2.2.1
theorem dX7_greedy_41 : decode cX7_greedy 41 = .ok (.iconst 1, 1) := qd4_69.2.2.2.2.2.2.2.2.2.2.2
theorem qd4_70 : (decode cX7_greedy 42 = .ok (.iload_n 3, 1)) ∧ (decode cX7_greedy 43 = .ok (.ishl, 1)) ∧ (decode cX7_greedy 44 = .ok (.ior, 1)) ∧ (decode cX7_greedy 45 = .ok (.istore_n 2, 1)) ∧ (decode cX7_greedy 46 = .ok (.aload_n 1, 1)) ∧ (decode cX7_greedy 47 = .ok (.iload_n 3, 1)) ∧ (decode cX7_greedy 48 = .ok (.invokevirtual 296, 3)) ∧ (decode cX7_greedy 51 = .ok (.aload_n 1, 1)) ∧ (decode cX7_greedy 52 = .ok (.invokevirtual 313, 3)) ∧ (decode cX7_greedy 55 = .ok (.istore_n 3, 1)) ∧ (decode cX7_greedy 56 = .ok (.goto (-21), 3)) ∧ (decode cX7_greedy 59 = .ok (.iload_n 2, 1)) := by decide +kernel
theorem dX7_greedy_42 : decode cX7_greedy 42 = .ok (.iload_n 3, 1) := qd4_70.1
theorem dX7_greedy_43 : decode cX7_greedy 43 = .ok (.ishl, 1) := qd4_70.2.1
theorem dX7_greedy_44 : decode cX7_greedy 44 = .ok (.ior, 1) := qd4_70.2.2.1
theorem dX7_greedy_45 : decode cX7_greedy 45 = .ok (.istore_n 2, 1) := qd4_70.2.2.2.1
theorem dX7_greedy_46 : decode cX7_greedy 46 = .ok (.aload_n 1, 1) := qd4_70.2.2.2.2.1
theorem dX7_greedy_47 : decode cX7_greedy 47 = .ok (.iload_n 3, 1) := qd4_70.2.2.2.2.2.1
theorem dX7_greedy_48 : decode cX7_greedy 48 = .ok (.invokevirtual 296, 3) := qd4_70.2.2.2.2.2.2.1
theorem dX7_greedy_51 : decode cX7_greedy 51 = .ok (.aload_n 1, 1) := qd4_70.2.2.2.2.2.2.2.1
theorem dX7_greedy_52 : decode cX7_greedy 52 = .ok (.invokevirtual 313, 3) := qd4_70.2.2.2.2.2.2.2.2.1
theorem dX7_greedy_55 : decode cX7_greedy 55 = .ok (.istore_n 3, 1) := qd4_70.2.2.2.2.2.2.2.2.2.1
theorem dX7_greedy_56 : decode cX7_greedy 56 = .ok (.goto (-21), 3) := qd4_70.2.2.2.2.2.2.2.2.2.2.1
theorem dX7_greedy_59 : decode cX7_greedy 59 = .ok (.iload_n 2, 1) := qd4_70.2.2.2.2.2.2.2.2.2.2.2
theorem dX7_greedy_60 : decode cX7_greedy 60 = .ok (.ireturn, 1) := by decide +kernel
theorem qd4_71 : (decode cX7_gap 0 = .ok (.aload_n 0, 1)) ∧ (decode cX7_gap 1 = .ok (.aload_n 0, 1)) ∧ (decode cX7_gap 2 = .ok (.invokevirtual 316, 3)) ∧ (decode cX7_gap 5 = .ok (.invokevirtual 300, 3)) ∧ (decode cX7_gap 8 = .ok (.aload_n 0, 1)) ∧ (decode cX7_gap 9 = .ok (.aload_n 0, 1)) ∧ (decode cX7_gap 10 = .ok (.invokevirtual 319, 3)) ∧ (decode cX7_gap 13 = .ok (.invokevirtual 300, 3)) ∧ (decode cX7_gap 16 = .ok (.isub, 1)) ∧ (decode cX7_gap 17 = .ok (.ireturn, 1)) := by decide +kernel
theorem dX7_gap_0 : decode cX7_gap 0 = .ok (.aload_n 0, 1) := qd4_71.1
theorem dX7_gap_1 : decode cX7_gap 1 = .ok (.aload_n 0, 1) := qd4_71.2.1
theorem dX7_gap_2 : decode cX7_gap 2 = .ok (.invokevirtual 316, 3) := qd4_71.2.2.1
theorem dX7_gap_5 : decode cX7_gap 5 = .ok (.invokevirtual 300, 3) := qd4_71.2.2.2.1
theorem dX7_gap_8 : decode cX7_gap 8 = .ok (.aload_n 0, 1) := qd4_71.2.2.2.2.1
theorem dX7_gap_9 : decode cX7_gap 9 = .ok (.aload_n 0, 1) := qd4_71.2.2.2.2.2.1
theorem dX7_gap_10 : decode cX7_gap 10 = .ok (.invokevirtual 319, 3) := qd4_71.2.2.2.2.2.2.1
theorem dX7_gap_13 : decode cX7_gap 13 = .ok (.invokevirtual 300, 3) := qd4_71.2.2.2.2.2.2.2.1
theorem dX7_gap_16 : decode cX7_gap 16 = .ok (.isub, 1) := qd4_71.2.2.2.2.2.2.2.2.1
theorem dX7_gap_17 : decode cX7_gap 17 = .ok (.ireturn, 1) := qd4_71.2.2.2.2.2.2.2.2.2
theorem qd4_72 : (decode cX7_edge 0 = .ok (.aload_n 0, 1)) ∧ (decode cX7_edge 1 = .ok (.iload_n 1, 1)) ∧ (decode cX7_edge 2 = .ok (.invokevirtual 102, 3)) ∧ (decode cX7_edge 5 = .ok (.ifCond .ne 10, 3)) ∧ (decode cX7_edge 8 = .ok (.aload_n 0, 1)) ∧ (decode cX7_edge 9 = .ok (.bipush (-2), 2)) ∧ (decode cX7_edge 11 = .ok (.invokevirtual 94, 3)) ∧ (decode cX7_edge 14 = .ok (.ireturn, 1)) ∧ (decode cX7_edge 15 = .ok (.aload_n 0, 1)) ∧ (decode cX7_edge 16 = .ok (.getfield 51, 3)) ∧ (decode cX7_edge 19 = .ok (.iload_n 1, 1)) ∧ (decode cX7_edge 20 = .ok (.aaload, 1)) := by decide +kernel
theorem dX7_edge_0 : decode cX7_edge 0 = .ok (.aload_n 0, 1) := qd4_72.1
theorem dX7_edge_1 : decode cX7_edge 1 = .ok (.iload_n 1, 1) := qd4_72.2.1
theorem dX7_edge_2 : decode cX7_edge 2 = .ok (.invokevirtual 102, 3) := qd4_72.2.2.1
theorem dX7_edge_5 : decode cX7_edge 5 = .ok (.ifCond .ne 10, 3) := qd4_72.2.2.2.1
theorem dX7_edge_8 : decode cX7_edge 8 = .ok (.aload_n 0, 1) := qd4_72.2.2.2.2.1
theorem dX7_edge_9 : decode cX7_edge 9 = .ok (.bipush (-2), 2) := qd4_72.2.2.2.2.2.1
theorem dX7_edge_11 : decode cX7_edge 11 = .ok (.invokevirtual 94, 3) := qd4_72.2.2.2.2.2.2.1
theorem dX7_edge_14 : decode cX7_edge 14 = .ok (.ireturn, 1) := qd4_72.2.2.2.2.2.2.2.1
theorem dX7_edge_15 : decode cX7_edge 15 = .ok (.aload_n 0, 1) := qd4_72.2.2.2.2.2.2.2.2.1
theorem dX7_edge_16 : decode cX7_edge 16 = .ok (.getfield 51, 3) := qd4_72.2.2.2.2.2.2.2.2.2.1
theorem dX7_edge_19 : decode cX7_edge 19 = .ok (.iload_n 1, 1) := qd4_72.2.2.2.2.2.2.2.2.2.2.1
theorem dX7_edge_20 : decode cX7_edge 20 = .ok (.aaload, 1) := qd4_72.2.2.2.2.2.2.2.2.2.2.2
theorem qd4_73 : (decode cX7_edge 21 = .ok (.iconst 4, 1)) ∧ (decode cX7_edge 22 = .ok (.iaload, 1)) ∧ (decode cX7_edge 23 = .ok (.iconst 1, 1)) ∧ (decode cX7_edge 24 = .ok (.if_icmp .ne 10, 3)) ∧ (decode cX7_edge 27 = .ok (.aload_n 0, 1)) ∧ (decode cX7_edge 28 = .ok (.bipush (-5), 2)) ∧ (decode cX7_edge 30 = .ok (.invokevirtual 94, 3)) ∧ (decode cX7_edge 33 = .ok (.ireturn, 1)) ∧ (decode cX7_edge 34 = .ok (.aload_n 0, 1)) ∧ (decode cX7_edge 35 = .ok (.iload_n 1, 1)) ∧ (decode cX7_edge 36 = .ok (.invokevirtual 303, 3)) ∧ (decode cX7_edge 39 = .ok (.istore_n 2, 1)) := by decide +kernel
theorem dX7_edge_21 : decode cX7_edge 21 = .ok (.iconst 4, 1) := qd4_73.1
theorem dX7_edge_22 : decode cX7_edge 22 = .ok (.iaload, 1) := qd4_73.2.1
theorem dX7_edge_23 : decode cX7_edge 23 = .ok (.iconst 1, 1) := qd4_73.2.2.1
theorem dX7_edge_24 : decode cX7_edge 24 = .ok (.if_icmp .ne 10, 3) := qd4_73.2.2.2.1
theorem dX7_edge_27 : decode cX7_edge 27 = .ok (.aload_n 0, 1) := qd4_73.2.2.2.2.1
theorem dX7_edge_28 : decode cX7_edge 28 = .ok (.bipush (-5), 2) := qd4_73.2.2.2.2.2.1
theorem dX7_edge_30 : decode cX7_edge 30 = .ok (.invokevirtual 94, 3) := qd4_73.2.2.2.2.2.2.1
theorem dX7_edge_33 : decode cX7_edge 33 = .ok (.ireturn, 1) := qd4_73.2.2.2.2.2.2.2.1
theorem dX7_edge_34 : decode cX7_edge 34 = .ok (.aload_n 0, 1) := qd4_73.2.2.2.2.2.2.2.2.1
theorem dX7_edge_35 : decode cX7_edge 35 = .ok (.iload_n 1, 1) := qd4_73.2.2.2.2.2.2.2.2.2.1
theorem dX7_edge_36 : decode cX7_edge 36 = .ok (.invokevirtual 303, 3) := qd4_73.2.2.2.2.2.2.2.2.2.2.1
theorem dX7_edge_39 : decode cX7_edge 39 = .ok (.istore_n 2, 1) := qd4_73.2.2.2.2.2.2.2.2.2.2.2
theorem qd4_74 : (decode cX7_edge 40 = .ok (.iconst 1, 1)) ∧ (decode cX7_edge 41 = .ok (.istore_n 3, 1)) ∧ (decode cX7_edge 42 = .ok (.iload_n 3, 1)) ∧ (decode cX7_edge 43 = .ok (.bipush 30, 2)) ∧ (decode cX7_edge 45 = .ok (.if_icmp .gt 25, 3)) ∧ (decode cX7_edge 48 = .ok (.iload_n 3, 1)) ∧ (decode cX7_edge 49 = .ok (.iload_n 2, 1)) ∧ (decode cX7_edge 50 = .ok (.imul, 1)) ∧ (decode cX7_edge 51 = .ok (.aload_n 0, 1)) ∧ (decode cX7_edge 52 = .ok (.getfield 51, 3)) ∧ (decode cX7_edge 55 = .ok (.iload_n 1, 1)) ∧ (decode cX7_edge 56 = .ok (.aaload, 1)) := by decide +kernel
theorem dX7_edge_40 : decode cX7_edge 40 = .ok (.iconst 1, 1) := qd4_74.1
theorem dX7_edge_41 : decode cX7_edge 41 = .ok (.istore_n 3, 1) := qd4_74.2.1
theorem dX7_edge_42 : decode cX7_edge 42 = .ok (.iload_n 3, 1) := qd4_74.2.2.1
theorem dX7_edge_43 : decode cX7_edge 43 = .ok (.bipush 30, 2) := qd4_74.2.2.2.1
theorem dX7_edge_45 : decode cX7_edge 45 = .ok (.if_icmp .gt 25, 3) := qd4_74.2.2.2.2.1
theorem dX7_edge_48 : decode cX7_edge 48 = .ok (.iload_n 3, 1) := qd4_74.2.2.2.2.2.1
theorem dX7_edge_49 : decode cX7_edge 49 = .ok (.iload_n 2, 1) := qd4_74.2.2.2.2.2.2.1
theorem dX7_edge_50 : decode cX7_edge 50 = .ok (.imul, 1) := qd4_74.2.2.2.2.2.2.2.1
theorem dX7_edge_51 : decode cX7_edge 51 = .ok (.aload_n 0, 1) := qd4_74.2.2.2.2.2.2.2.2.1
theorem dX7_edge_52 : decode cX7_edge 52 = .ok (.getfield 51, 3) := qd4_74.2.2.2.2.2.2.2.2.2.1
theorem dX7_edge_55 : decode cX7_edge 55 = .ok (.iload_n 1, 1) := qd4_74.2.2.2.2.2.2.2.2.2.2.1
theorem dX7_edge_56 : decode cX7_edge 56 = .ok (.aaload, 1) := qd4_74.2.2.2.2.2.2.2.2.2.2.2
theorem qd4_75 : (decode cX7_edge 57 = .ok (.iconst 3, 1)) ∧ (decode cX7_edge 58 = .ok (.iaload, 1)) ∧ (decode cX7_edge 59 = .ok (.if_icmp .le 5, 3)) ∧ (decode cX7_edge 62 = .ok (.iload_n 3, 1)) ∧ (decode cX7_edge 63 = .ok (.ireturn, 1)) ∧ (decode cX7_edge 64 = .ok (.iinc 3 1, 3)) ∧ (decode cX7_edge 67 = .ok (.goto (-25), 3)) ∧ (decode cX7_edge 70 = .ok (.iconst (-1), 1)) ∧ (decode cX7_edge 71 = .ok (.ireturn, 1)) := by decide +kernel
theorem dX7_edge_57 : decode cX7_edge 57 = .ok (.iconst 3, 1) := qd4_75.1
theorem dX7_edge_58 : decode cX7_edge 58 = .ok (.iaload, 1) := qd4_75.2.1
theorem dX7_edge_59 : decode cX7_edge 59 = .ok (.if_icmp .le 5, 3) := qd4_75.2.2.1
theorem dX7_edge_62 : decode cX7_edge 62 = .ok (.iload_n 3, 1) := qd4_75.2.2.2.1
theorem dX7_edge_63 : decode cX7_edge 63 = .ok (.ireturn, 1) := qd4_75.2.2.2.2.1
theorem dX7_edge_64 : decode cX7_edge 64 = .ok (.iinc 3 1, 3) := qd4_75.2.2.2.2.2.1
theorem dX7_edge_67 : decode cX7_edge 67 = .ok (.goto (-25), 3) := qd4_75.2.2.2.2.2.2.1
theorem dX7_edge_70 : decode cX7_edge 70 = .ok (.iconst (-1), 1) := qd4_75.2.2.2.2.2.2.2.1
theorem dX7_edge_71 : decode cX7_edge 71 = .ok (.ireturn, 1) := qd4_75.2.2.2.2.2.2.2.2
theorem qd4_76 : (decode cX7_never 0 = .ok (.iconst 0, 1)) ∧ (decode cX7_never 1 = .ok (.istore_n 1, 1)) ∧ (decode cX7_never 2 = .ok (.iconst 0, 1)) ∧ (decode cX7_never 3 = .ok (.istore_n 2, 1)) ∧ (decode cX7_never 4 = .ok (.iload_n 2, 1)) ∧ (decode cX7_never 5 = .ok (.aload_n 0, 1)) ∧ (decode cX7_never 6 = .ok (.getfield 85, 3)) ∧ (decode cX7_never 9 = .ok (.if_icmp .ge 31, 3)) ∧ (decode cX7_never 12 = .ok (.iload_n 1, 1)) ∧ (decode cX7_never 13 = .ok (.aload_n 0, 1)) ∧ (decode cX7_never 14 = .ok (.getfield 51, 3)) ∧ (decode cX7_never 17 = .ok (.iload_n 2, 1)) := by decide +kernel
theorem dX7_never_0 : decode cX7_never 0 = .ok (.iconst 0, 1) := qd4_76.1
theorem dX7_never_1 : decode cX7_never 1 = .ok (.istore_n 1, 1) := qd4_76.2.1
theorem dX7_never_2 : decode cX7_never 2 = .ok (.iconst 0, 1) := qd4_76.2.2.1
theorem dX7_never_3 : decode cX7_never 3 = .ok (.istore_n 2, 1) := qd4_76.2.2.2.1
theorem dX7_never_4 : decode cX7_never 4 = .ok (.iload_n 2, 1) := qd4_76.2.2.2.2.1
theorem dX7_never_5 : decode cX7_never 5 = .ok (.aload_n 0, 1) := qd4_76.2.2.2.2.2.1
theorem dX7_never_6 : decode cX7_never 6 = .ok (.getfield 85, 3) := qd4_76.2.2.2.2.2.2.1
theorem dX7_never_9 : decode cX7_never 9 = .ok (.if_icmp .ge 31, 3) := qd4_76.2.2.2.2.2.2.2.1
theorem dX7_never_12 : decode cX7_never 12 = .ok (.iload_n 1, 1) := qd4_76.2.2.2.2.2.2.2.2.1
theorem dX7_never_13 : decode cX7_never 13 = .ok (.aload_n 0, 1) := qd4_76.2.2.2.2.2.2.2.2.2.1
theorem dX7_never_14 : decode cX7_never 14 = .ok (.getfield 51, 3) := qd4_76.2.2.2.2.2.2.2.2.2.2.1
theorem dX7_never_17 : decode cX7_never 17 = .ok (.iload_n 2, 1) := qd4_76.2.2.2.2.2.2.2.2.2.2.2
theorem qd4_77 : (decode cX7_never 18 = .ok (.aaload, 1)) ∧ (decode cX7_never 19 = .ok (.iconst 4, 1)) ∧ (decode cX7_never 20 = .ok (.iaload, 1)) ∧ (decode cX7_never 21 = .ok (.iconst 1, 1)) ∧ (decode cX7_never 22 = .ok (.if_icmp .ne 9, 3)) ∧ (decode cX7_never 25 = .ok (.iconst 1, 1)) ∧ (decode cX7_never 26 = .ok (.iload_n 2, 1)) ∧ (decode cX7_never 27 = .ok (.ishl, 1)) ∧ (decode cX7_never 28 = .ok (.goto 4, 3)) ∧ (decode cX7_never 31 = .ok (.iconst 0, 1)) ∧ (decode cX7_never 32 = .ok (.ior, 1)) ∧ (decode cX7_never 33 = .ok (.istore_n 1, 1)) := by decide +kernel
theorem dX7_never_18 : decode cX7_never 18 = .ok (.aaload, 1) := qd4_77.1
theorem dX7_never_19 : decode cX7_never 19 = .ok (.iconst 4, 1) := qd4_77.2.1
theorem dX7_never_20 : decode cX7_never 20 = .ok (.iaload, 1) := qd4_77.2.2.1
theorem dX7_never_21 : decode cX7_never 21 = .ok (.iconst 1, 1) := qd4_77.2.2.2.1
theorem dX7_never_22 : decode cX7_never 22 = .ok (.if_icmp .ne 9, 3) := qd4_77.2.2.2.2.1
theorem dX7_never_25 : decode cX7_never 25 = .ok (.iconst 1, 1) := qd4_77.2.2.2.2.2.1
theorem dX7_never_26 : decode cX7_never 26 = .ok (.iload_n 2, 1) := qd4_77.2.2.2.2.2.2.1
theorem dX7_never_27 : decode cX7_never 27 = .ok (.ishl, 1) := qd4_77.2.2.2.2.2.2.2.1
theorem dX7_never_28 : decode cX7_never 28 = .ok (.goto 4, 3) := qd4_77.2.2.2.2.2.2.2.2.1
theorem dX7_never_31 : decode cX7_never 31 = .ok (.iconst 0, 1) := qd4_77.2.2.2.2.2.2.2.2.2.1
theorem dX7_never_32 : decode cX7_never 32 = .ok (.ior, 1) := qd4_77.2.2.2.2.2.2.2.2.2.2.1
theorem dX7_never_33 : decode cX7_never 33 = .ok (.istore_n 1, 1) := qd4_77.2.2.2.2.2.2.2.2.2.2.2
theorem qd4_78 : (decode cX7_never 34 = .ok (.iinc 2 1, 3)) ∧ (decode cX7_never 37 = .ok (.goto (-33), 3)) ∧ (decode cX7_never 40 = .ok (.iconst 0, 1)) ∧ (decode cX7_never 41 = .ok (.istore_n 2, 1)) ∧ (decode cX7_never 42 = .ok (.iload_n 2, 1)) ∧ (decode cX7_never 43 = .ok (.iconst 1, 1)) ∧ (decode cX7_never 44 = .ok (.aload_n 0, 1)) ∧ (decode cX7_never 45 = .ok (.getfield 85, 3)) ∧ (decode cX7_never 48 = .ok (.ishl, 1)) ∧ (decode cX7_never 49 = .ok (.if_icmp .ge 30, 3)) ∧ (decode cX7_never 52 = .ok (.aload_n 0, 1)) ∧ (decode cX7_never 53 = .ok (.getfield 73, 3)) := by decide +kernel
theorem dX7_never_34 : decode cX7_never 34 = .ok (.iinc 2 1, 3) := qd4_78.1
theorem dX7_never_37 : decode cX7_never 37 = .ok (.goto (-33), 3) := qd4_78.2.1
theorem dX7_never_40 : decode cX7_never 40 = .ok (.iconst 0, 1) := qd4_78.2.2.1
theorem dX7_never_41 : decode cX7_never 41 = .ok (.istore_n 2, 1) := qd4_78.2.2.2.1
theorem dX7_never_42 : decode cX7_never 42 = .ok (.iload_n 2, 1) := qd4_78.2.2.2.2.1
theorem dX7_never_43 : decode cX7_never 43 = .ok (.iconst 1, 1) := qd4_78.2.2.2.2.2.1
theorem dX7_never_44 : decode cX7_never 44 = .ok (.aload_n 0, 1) := qd4_78.2.2.2.2.2.2.1
theorem dX7_never_45 : decode cX7_never 45 = .ok (.getfield 85, 3) := qd4_78.2.2.2.2.2.2.2.1
theorem dX7_never_48 : decode cX7_never 48 = .ok (.ishl, 1) := qd4_78.2.2.2.2.2.2.2.2.1
theorem dX7_never_49 : decode cX7_never 49 = .ok (.if_icmp .ge 30, 3) := qd4_78.2.2.2.2.2.2.2.2.2.1
theorem dX7_never_52 : decode cX7_never 52 = .ok (.aload_n 0, 1) := qd4_78.2.2.2.2.2.2.2.2.2.2.1
theorem dX7_never_53 : decode cX7_never 53 = .ok (.getfield 73, 3) := qd4_78.2.2.2.2.2.2.2.2.2.2.2
theorem qd4_79 : (decode cX7_never 56 = .ok (.iload_n 2, 1)) ∧ (decode cX7_never 57 = .ok (.iload_n 2, 1)) ∧ (decode cX7_never 58 = .ok (.iload_n 1, 1)) ∧ (decode cX7_never 59 = .ok (.iand, 1)) ∧ (decode cX7_never 60 = .ok (.ifCond .ne 11, 3)) ∧ (decode cX7_never 63 = .ok (.aload_n 0, 1)) ∧ (decode cX7_never 64 = .ok (.iload_n 2, 1)) ∧ (decode cX7_never 65 = .ok (.invokevirtual 300, 3)) ∧ (decode cX7_never 68 = .ok (.goto 4, 3)) ∧ (decode cX7_never 71 = .ok (.iconst 0, 1)) ∧ (decode cX7_never 72 = .ok (.iastore, 1)) ∧ (decode cX7_never 73 = .ok (.iinc 2 1, 3)) := by decide +kernel
theorem dX7_never_56 : decode cX7_never 56 = .ok (.iload_n 2, 1) := qd4_79.1
theorem dX7_never_57 : decode cX7_never 57 = .ok (.iload_n 2, 1) := qd4_79.2.1
theorem dX7_never_58 : decode cX7_never 58 = .ok (.iload_n 1, 1) := qd4_79.2.2.1
theorem dX7_never_59 : decode cX7_never 59 = .ok (.iand, 1) := qd4_79.2.2.2.1
theorem dX7_never_60 : decode cX7_never 60 = .ok (.ifCond .ne 11, 3) := qd4_79.2.2.2.2.1
theorem dX7_never_63 : decode cX7_never 63 = .ok (.aload_n 0, 1) := qd4_79.2.2.2.2.2.1
theorem dX7_never_64 : decode cX7_never 64 = .ok (.iload_n 2, 1) := qd4_79.2.2.2.2.2.2.1
theorem dX7_never_65 : decode cX7_never 65 = .ok (.invokevirtual 300, 3) := qd4_79.2.2.2.2.2.2.2.1
theorem dX7_never_68 : decode cX7_never 68 = .ok (.goto 4, 3) := qd4_79.2.2.2.2.2.2.2.2.1
theorem dX7_never_71 : decode cX7_never 71 = .ok (.iconst 0, 1) := qd4_79.2.2.2.2.2.2.2.2.2.1
theorem dX7_never_72 : decode cX7_never 72 = .ok (.iastore, 1) := qd4_79.2.2.2.2.2.2.2.2.2.2.1
theorem dX7_never_73 : decode cX7_never 73 = .ok (.iinc 2 1, 3) := qd4_79.2.2.2.2.2.2.2.2.2.2.2
theorem qd4_80 : (decode cX7_never 76 = .ok (.goto (-34), 3)) ∧ (decode cX7_never 79 = .ok (.iconst 0, 1)) ∧ (decode cX7_never 80 = .ok (.istore_n 2, 1)) ∧ (decode cX7_never 81 = .ok (.iconst 0, 1)) ∧ (decode cX7_never 82 = .ok (.istore_n 3, 1)) ∧ (decode cX7_never 83 = .ok (.iload_n 3, 1)) ∧ (decode cX7_never 84 = .ok (.aload_n 0, 1)) ∧ (decode cX7_never 85 = .ok (.getfield 85, 3)) ∧ (decode cX7_never 88 = .ok (.if_icmp .ge 133, 3)) ∧ (decode cX7_never 91 = .ok (.aload_n 0, 1)) ∧ (decode cX7_never 92 = .ok (.getfield 51, 3)) ∧ (decode cX7_never 95 = .ok (.iload_n 3, 1)) := by decide +kernel
theorem dX7_never_76 : decode cX7_never 76 = .ok (.goto (-34), 3) := qd4_80.1
theorem dX7_never_79 : decode cX7_never 79 = .ok (.iconst 0, 1) := qd4_80.2.1
theorem dX7_never_80 : decode cX7_never 80 = .ok (.istore_n 2, 1) := qd4_80.2.2.1
theorem dX7_never_81 : decode cX7_never 81 = .ok (.iconst 0, 1) := qd4_80.2.2.2.1
theorem dX7_never_82 : decode cX7_never 82 = .ok (.istore_n 3, 1) := qd4_80.2.2.2.2.1
theorem dX7_never_83 : decode cX7_never 83 = .ok (.iload_n 3, 1) := qd4_80.2.2.2.2.2.1
theorem dX7_never_84 : decode cX7_never 84 = .ok (.aload_n 0, 1) := qd4_80.2.2.2.2.2.2.1
theorem dX7_never_85 : decode cX7_never 85 = .ok (.getfield 85, 3) := qd4_80.2.2.2.2.2.2.2.1
theorem dX7_never_88 : decode cX7_never 88 = .ok (.if_icmp .ge 133, 3) := qd4_80.2.2.2.2.2.2.2.2.1
theorem dX7_never_91 : decode cX7_never 91 = .ok (.aload_n 0, 1) := qd4_80.2.2.2.2.2.2.2.2.2.1
theorem dX7_never_92 : decode cX7_never 92 = .ok (.getfield 51, 3) := qd4_80.2.2.2.2.2.2.2.2.2.2.1
theorem dX7_never_95 : decode cX7_never 95 = .ok (.iload_n 3, 1) := qd4_80.2.2.2.2.2.2.2.2.2.2.2
theorem qd4_81 : (decode cX7_never 96 = .ok (.aaload, 1)) ∧ (decode cX7_never 97 = .ok (.iconst 4, 1)) ∧ (decode cX7_never 98 = .ok (.iaload, 1)) ∧ (decode cX7_never 99 = .ok (.ifCond .ne 7, 3)) ∧ (decode cX7_never 102 = .ok (.iconst 1, 1)) ∧ (decode cX7_never 103 = .ok (.goto 4, 3)) ∧ (decode cX7_never 106 = .ok (.iconst 0, 1)) ∧ (decode cX7_never 107 = .ok (.istore 4, 2)) ∧ (decode cX7_never 109 = .ok (.iconst 0, 1)) ∧ (decode cX7_never 110 = .ok (.istore 5, 2)) ∧ (decode cX7_never 112 = .ok (.iload 5, 2)) ∧ (decode cX7_never 114 = .ok (.iconst 1, 1)) := by decide +kernel
theorem dX7_never_96 : decode cX7_never 96 = .ok (.aaload, 1) := qd4_81.1
theorem dX7_never_97 : decode cX7_never 97 = .ok (.iconst 4, 1) := qd4_81.2.1
theorem dX7_never_98 : decode cX7_never 98 = .ok (.iaload, 1) := qd4_81.2.2.1
theorem dX7_never_99 : decode cX7_never 99 = .ok (.ifCond .ne 7, 3) := qd4_81.2.2.2.1
theorem dX7_never_102 : decode cX7_never 102 = .ok (.iconst 1, 1) := qd4_81.2.2.2.2.1
theorem dX7_never_103 : decode cX7_never 103 = .ok (.goto 4, 3) := qd4_81.2.2.2.2.2.1
theorem dX7_never_106 : decode cX7_never 106 = .ok (.iconst 0, 1) := qd4_81.2.2.2.2.2.2.1
theorem dX7_never_107 : decode cX7_never 107 = .ok (.istore 4, 2) := qd4_81.2.2.2.2.2.2.2.1
theorem dX7_never_109 : decode cX7_never 109 = .ok (.iconst 0, 1) := qd4_81.2.2.2.2.2.2.2.2.1
theorem dX7_never_110 : decode cX7_never 110 = .ok (.istore 5, 2) := qd4_81.2.2.2.2.2.2.2.2.2.1
theorem dX7_never_112 : decode cX7_never 112 = .ok (.iload 5, 2) := qd4_81.2.2.2.2.2.2.2.2.2.2.1
theorem dX7_never_114 : decode cX7_never 114 = .ok (.iconst 1, 1) := qd4_81.2.2.2.2.2.2.2.2.2.2.2
theorem qd4_82 : (decode cX7_never 115 = .ok (.aload_n 0, 1)) ∧ (decode cX7_never 116 = .ok (.getfield 85, 3)) ∧ (decode cX7_never 119 = .ok (.ishl, 1)) ∧ (decode cX7_never 120 = .ok (.if_icmp .ge 80, 3)) ∧ (decode cX7_never 123 = .ok (.iload 5, 2)) ∧ (decode cX7_never 125 = .ok (.iload_n 1, 1)) ∧ (decode cX7_never 126 = .ok (.iand, 1)) ∧ (decode cX7_never 127 = .ok (.ifCond .ne 16, 3)) ∧ (decode cX7_never 130 = .ok (.iload 5, 2)) ∧ (decode cX7_never 132 = .ok (.iload_n 3, 1)) ∧ (decode cX7_never 133 = .ok (.ishr, 1)) ∧ (decode cX7_never 134 = .ok (.iconst 1, 1)) := by decide +kernel
theorem dX7_never_115 : decode cX7_never 115 = .ok (.aload_n 0, 1) := qd4_82.1
theorem dX7_never_116 : decode cX7_never 116 = .ok (.getfield 85, 3) := qd4_82.2.1
theorem dX7_never_119 : decode cX7_never 119 = .ok (.ishl, 1) := qd4_82.2.2.1
theorem dX7_never_120 : decode cX7_never 120 = .ok (.if_icmp .ge 80, 3) := qd4_82.2.2.2.1
theorem dX7_never_123 : decode cX7_never 123 = .ok (.iload 5, 2) := qd4_82.2.2.2.2.1
theorem dX7_never_125 : decode cX7_never 125 = .ok (.iload_n 1, 1) := qd4_82.2.2.2.2.2.1
theorem dX7_never_126 : decode cX7_never 126 = .ok (.iand, 1) := qd4_82.2.2.2.2.2.2.1
theorem dX7_never_127 : decode cX7_never 127 = .ok (.ifCond .ne 16, 3) := qd4_82.2.2.2.2.2.2.2.1
theorem dX7_never_130 : decode cX7_never 130 = .ok (.iload 5, 2) := qd4_82.2.2.2.2.2.2.2.2.1
theorem dX7_never_132 : decode cX7_never 132 = .ok (.iload_n 3, 1) := qd4_82.2.2.2.2.2.2.2.2.2.1
theorem dX7_never_133 : decode cX7_never 133 = .ok (.ishr, 1) := qd4_82.2.2.2.2.2.2.2.2.2.2.1
theorem dX7_never_134 : decode cX7_never 134 = .ok (.iconst 1, 1) := qd4_82.2.2.2.2.2.2.2.2.2.2.2
theorem qd4_83 : (decode cX7_never 135 = .ok (.iand, 1)) ∧ (decode cX7_never 136 = .ok (.ifCond .ne 7, 3)) ∧ (decode cX7_never 139 = .ok (.iconst 1, 1)) ∧ (decode cX7_never 140 = .ok (.goto 4, 3)) ∧ (decode cX7_never 143 = .ok (.iconst 0, 1)) ∧ (decode cX7_never 144 = .ok (.istore 6, 2)) ∧ (decode cX7_never 146 = .ok (.iload 4, 2)) ∧ (decode cX7_never 148 = .ok (.iload 6, 2)) ∧ (decode cX7_never 150 = .ok (.ifCond .eq 36, 3)) ∧ (decode cX7_never 153 = .ok (.aload_n 0, 1)) ∧ (decode cX7_never 154 = .ok (.getfield 51, 3)) ∧ (decode cX7_never 157 = .ok (.iload_n 3, 1)) := by decide +kernel
theorem dX7_never_135 : decode cX7_never 135 = .ok (.iand, 1) := qd4_83.1
theorem dX7_never_136 : decode cX7_never 136 = .ok (.ifCond .ne 7, 3) := qd4_83.2.1
theorem dX7_never_139 : decode cX7_never 139 = .ok (.iconst 1, 1) := qd4_83.2.2.1
theorem dX7_never_140 : decode cX7_never 140 = .ok (.goto 4, 3) := qd4_83.2.2.2.1
theorem dX7_never_143 : decode cX7_never 143 = .ok (.iconst 0, 1) := qd4_83.2.2.2.2.1
theorem dX7_never_144 : decode cX7_never 144 = .ok (.istore 6, 2) := qd4_83.2.2.2.2.2.1
theorem dX7_never_146 : decode cX7_never 146 = .ok (.iload 4, 2) := qd4_83.2.2.2.2.2.2.1
theorem dX7_never_148 : decode cX7_never 148 = .ok (.iload 6, 2) := qd4_83.2.2.2.2.2.2.2.1
theorem dX7_never_150 : decode cX7_never 150 = .ok (.ifCond .eq 36, 3) := qd4_83.2.2.2.2.2.2.2.2.1
theorem dX7_never_153 : decode cX7_never 153 = .ok (.aload_n 0, 1) := qd4_83.2.2.2.2.2.2.2.2.2.1
theorem dX7_never_154 : decode cX7_never 154 = .ok (.getfield 51, 3) := qd4_83.2.2.2.2.2.2.2.2.2.2.1
theorem dX7_never_157 : decode cX7_never 157 = .ok (.iload_n 3, 1) := qd4_83.2.2.2.2.2.2.2.2.2.2.2
theorem qd4_84 : (decode cX7_never 158 = .ok (.aaload, 1)) ∧ (decode cX7_never 159 = .ok (.iconst 4, 1)) ∧ (decode cX7_never 160 = .ok (.iaload, 1)) ∧ (decode cX7_never 161 = .ok (.iconst 1, 1)) ∧ (decode cX7_never 162 = .ok (.if_icmp .eq 24, 3)) ∧ (decode cX7_never 165 = .ok (.aload_n 0, 1)) ∧ (decode cX7_never 166 = .ok (.getfield 73, 3)) ∧ (decode cX7_never 169 = .ok (.iload 5, 2)) ∧ (decode cX7_never 171 = .ok (.iconst 1, 1)) ∧ (decode cX7_never 172 = .ok (.iload_n 3, 1)) ∧ (decode cX7_never 173 = .ok (.ishl, 1)) ∧ (decode cX7_never 174 = .ok (.ior, 1)) := by decide +kernel
theorem dX7_never_158 : decode cX7_never 158 = .ok (.aaload, 1) := qd4_84.1
theorem dX7_never_159 : decode cX7_never 159 = .ok (.iconst 4, 1) := qd4_84.2.1
theorem dX7_never_160 : decode cX7_never 160 = .ok (.iaload, 1) := qd4_84.2.2.1
theorem dX7_never_161 : decode cX7_never 161 = .ok (.iconst 1, 1) := qd4_84.2.2.2.1
theorem dX7_never_162 : decode cX7_never 162 = .ok (.if_icmp .eq 24, 3) := qd4_84.2.2.2.2.1
theorem dX7_never_165 : decode cX7_never 165 = .ok (.aload_n 0, 1) := qd4_84.2.2.2.2.2.1
theorem dX7_never_166 : decode cX7_never 166 = .ok (.getfield 73, 3) := qd4_84.2.2.2.2.2.2.1
theorem dX7_never_169 : decode cX7_never 169 = .ok (.iload 5, 2) := qd4_84.2.2.2.2.2.2.2.1
theorem dX7_never_171 : decode cX7_never 171 = .ok (.iconst 1, 1) := qd4_84.2.2.2.2.2.2.2.2.1
theorem dX7_never_172 : decode cX7_never 172 = .ok (.iload_n 3, 1) := qd4_84.2.2.2.2.2.2.2.2.2.1
theorem dX7_never_173 : decode cX7_never 173 = .ok (.ishl, 1) := qd4_84.2.2.2.2.2.2.2.2.2.2.1
theorem dX7_never_174 : decode cX7_never 174 = .ok (.ior, 1) := qd4_84.2.2.2.2.2.2.2.2.2.2.2
theorem qd4_85 : (decode cX7_never 175 = .ok (.iaload, 1)) ∧ (decode cX7_never 176 = .ok (.aload_n 0, 1)) ∧ (decode cX7_never 177 = .ok (.getfield 73, 3)) ∧ (decode cX7_never 180 = .ok (.iload 5, 2)) ∧ (decode cX7_never 182 = .ok (.iaload, 1)) ∧ (decode cX7_never 183 = .ok (.if_icmp .le 7, 3)) ∧ (decode cX7_never 186 = .ok (.iconst 1, 1)) ∧ (decode cX7_never 187 = .ok (.goto 4, 3)) ∧ (decode cX7_never 190 = .ok (.iconst 0, 1)) ∧ (decode cX7_never 191 = .ok (.iand, 1)) ∧ (decode cX7_never 192 = .ok (.istore 4, 2)) ∧ (decode cX7_never 194 = .ok (.iinc 5 1, 3)) := by decide +kernel
theorem dX7_never_175 : decode cX7_never 175 = .ok (.iaload, 1) := qd4_85.1
theorem dX7_never_176 : decode cX7_never 176 = .ok (.aload_n 0, 1) := qd4_85.2.1
theorem dX7_never_177 : decode cX7_never 177 = .ok (.getfield 73, 3) := qd4_85.2.2.1
theorem dX7_never_180 : decode cX7_never 180 = .ok (.iload 5, 2) := qd4_85.2.2.2.1
theorem dX7_never_182 : decode cX7_never 182 = .ok (.iaload, 1) := qd4_85.2.2.2.2.1
theorem dX7_never_183 : decode cX7_never 183 = .ok (.if_icmp .le 7, 3) := qd4_85.2.2.2.2.2.1
theorem dX7_never_186 : decode cX7_never 186 = .ok (.iconst 1, 1) := qd4_85.2.2.2.2.2.2.1
theorem dX7_never_187 : decode cX7_never 187 = .ok (.goto 4, 3) := qd4_85.2.2.2.2.2.2.2.1
theorem dX7_never_190 : decode cX7_never 190 = .ok (.iconst 0, 1) := qd4_85.2.2.2.2.2.2.2.2.1
theorem dX7_never_191 : decode cX7_never 191 = .ok (.iand, 1) := qd4_85.2.2.2.2.2.2.2.2.2.1
theorem dX7_never_192 : decode cX7_never 192 = .ok (.istore 4, 2) := qd4_85.2.2.2.2.2.2.2.2.2.2.1
theorem dX7_never_194 : decode cX7_never 194 = .ok (.iinc 5 1, 3) := qd4_85.2.2.2.2.2.2.2.2.2.2.2
theorem qd4_86 : (decode cX7_never 197 = .ok (.goto (-85), 3)) ∧ (decode cX7_never 200 = .ok (.iload_n 2, 1)) ∧ (decode cX7_never 201 = .ok (.iload 4, 2)) ∧ (decode cX7_never 203 = .ok (.ifCond .eq 9, 3)) ∧ (decode cX7_never 206 = .ok (.iconst 1, 1)) ∧ (decode cX7_never 207 = .ok (.iload_n 3, 1)) ∧ (decode cX7_never 208 = .ok (.ishl, 1)) ∧ (decode cX7_never 209 = .ok (.goto 4, 3)) ∧ (decode cX7_never 212 = .ok (.iconst 0, 1)) ∧ (decode cX7_never 213 = .ok (.ior, 1)) ∧ (decode cX7_never 214 = .ok (.istore_n 2, 1)) ∧ (decode cX7_never 215 = .ok (.iinc 3 1, 3)) := by decide +kernel
theorem dX7_never_197 : decode cX7_never 197 = .ok (.goto (-85), 3) := qd4_86.1
theorem dX7_never_200 : decode cX7_never 200 = .ok (.iload_n 2, 1) := qd4_86.2.1
theorem dX7_never_201 : decode cX7_never 201 = .ok (.iload 4, 2) := qd4_86.2.2.1
theorem dX7_never_203 : decode cX7_never 203 = .ok (.ifCond .eq 9, 3) := qd4_86.2.2.2.1
theorem dX7_never_206 : decode cX7_never 206 = .ok (.iconst 1, 1) := qd4_86.2.2.2.2.1
theorem dX7_never_207 : decode cX7_never 207 = .ok (.iload_n 3, 1) := qd4_86.2.2.2.2.2.1
theorem dX7_never_208 : decode cX7_never 208 = .ok (.ishl, 1) := qd4_86.2.2.2.2.2.2.1
theorem dX7_never_209 : decode cX7_never 209 = .ok (.goto 4, 3) := qd4_86.2.2.2.2.2.2.2.1
theorem dX7_never_212 : decode cX7_never 212 = .ok (.iconst 0, 1) := qd4_86.2.2.2.2.2.2.2.2.1
theorem dX7_never_213 : decode cX7_never 213 = .ok (.ior, 1) := qd4_86.2.2.2.2.2.2.2.2.2.1
theorem dX7_never_214 : decode cX7_never 214 = .ok (.istore_n 2, 1) := qd4_86.2.2.2.2.2.2.2.2.2.2.1
theorem dX7_never_215 : decode cX7_never 215 = .ok (.iinc 3 1, 3) := qd4_86.2.2.2.2.2.2.2.2.2.2.2
theorem qd4_87 : (decode cX7_never 218 = .ok (.goto (-135), 3)) ∧ (decode cX7_never 221 = .ok (.iload_n 2, 1)) ∧ (decode cX7_never 222 = .ok (.ireturn, 1)) := by decide +kernel
theorem dX7_never_218 : decode cX7_never 218 = .ok (.goto (-135), 3) := qd4_87.1
theorem dX7_never_221 : decode cX7_never 221 = .ok (.iload_n 2, 1) := qd4_87.2.1
theorem dX7_never_222 : decode cX7_never 222 = .ok (.ireturn, 1) := qd4_87.2.2
theorem qd4_88 : (decode cX7_oneWidth 0 = .ok (.aload_n 0, 1)) ∧ (decode cX7_oneWidth 1 = .ok (.invokevirtual 238, 3)) ∧ (decode cX7_oneWidth 4 = .ok (.astore_n 3, 1)) ∧ (decode cX7_oneWidth 5 = .ok (.iconst 0, 1)) ∧ (decode cX7_oneWidth 6 = .ok (.istore 4, 2)) ∧ (decode cX7_oneWidth 8 = .ok (.iconst 0, 1)) ∧ (decode cX7_oneWidth 9 = .ok (.istore 5, 2)) ∧ (decode cX7_oneWidth 11 = .ok (.iload 5, 2)) ∧ (decode cX7_oneWidth 13 = .ok (.aload_n 0, 1)) ∧ (decode cX7_oneWidth 14 = .ok (.getfield 82, 3)) ∧ (decode cX7_oneWidth 17 = .ok (.if_icmp .ge 70, 3)) ∧ (decode cX7_oneWidth 20 = .ok (.aload_n 3, 1)) := by decide +kernel
theorem dX7_oneWidth_0 : decode cX7_oneWidth 0 = .ok (.aload_n 0, 1) := qd4_88.1
theorem dX7_oneWidth_1 : decode cX7_oneWidth 1 = .ok (.invokevirtual 238, 3) := qd4_88.2.1
theorem dX7_oneWidth_4 : decode cX7_oneWidth 4 = .ok (.astore_n 3, 1) := qd4_88.2.2.1
theorem dX7_oneWidth_5 : decode cX7_oneWidth 5 = .ok (.iconst 0, 1) := qd4_88.2.2.2.1
theorem dX7_oneWidth_6 : decode cX7_oneWidth 6 = .ok (.istore 4, 2) := qd4_88.2.2.2.2.1
theorem dX7_oneWidth_8 : decode cX7_oneWidth 8 = .ok (.iconst 0, 1) := qd4_88.2.2.2.2.2.1
theorem dX7_oneWidth_9 : decode cX7_oneWidth 9 = .ok (.istore 5, 2) := qd4_88.2.2.2.2.2.2.1
theorem dX7_oneWidth_11 : decode cX7_oneWidth 11 = .ok (.iload 5, 2) := qd4_88.2.2.2.2.2.2.2.1
theorem dX7_oneWidth_13 : decode cX7_oneWidth 13 = .ok (.aload_n 0, 1) := qd4_88.2.2.2.2.2.2.2.2.1
theorem dX7_oneWidth_14 : decode cX7_oneWidth 14 = .ok (.getfield 82, 3) := qd4_88.2.2.2.2.2.2.2.2.2.1
theorem dX7_oneWidth_17 : decode cX7_oneWidth 17 = .ok (.if_icmp .ge 70, 3) := qd4_88.2.2.2.2.2.2.2.2.2.2.1
theorem dX7_oneWidth_20 : decode cX7_oneWidth 20 = .ok (.aload_n 3, 1) := qd4_88.2.2.2.2.2.2.2.2.2.2.2
theorem qd4_89 : (decode cX7_oneWidth 21 = .ok (.getfield 39, 3)) ∧ (decode cX7_oneWidth 24 = .ok (.iload 5, 2)) ∧ (decode cX7_oneWidth 26 = .ok (.aaload, 1)) ∧ (decode cX7_oneWidth 27 = .ok (.bipush 6, 2)) ∧ (decode cX7_oneWidth 29 = .ok (.iaload, 1)) ∧ (decode cX7_oneWidth 30 = .ok (.ifCond .ne 51, 3)) ∧ (decode cX7_oneWidth 33 = .ok (.iload 4, 2)) ∧ (decode cX7_oneWidth 35 = .ok (.aload_n 3, 1)) ∧ (decode cX7_oneWidth 36 = .ok (.getfield 39, 3)) ∧ (decode cX7_oneWidth 39 = .ok (.iload 5, 2)) ∧ (decode cX7_oneWidth 41 = .ok (.aaload, 1)) ∧ (decode cX7_oneWidth 42 = .ok (.iconst 2, 1)) := by decide +kernel
theorem dX7_oneWidth_21 : decode cX7_oneWidth 21 = .ok (.getfield 39, 3) := qd4_89.1
theorem dX7_oneWidth_24 : decode cX7_oneWidth 24 = .ok (.iload 5, 2) := qd4_89.2.1
theorem dX7_oneWidth_26 : decode cX7_oneWidth 26 = .ok (.aaload, 1) := qd4_89.2.2.1
theorem dX7_oneWidth_27 : decode cX7_oneWidth 27 = .ok (.bipush 6, 2) := qd4_89.2.2.2.1
theorem dX7_oneWidth_29 : decode cX7_oneWidth 29 = .ok (.iaload, 1) := qd4_89.2.2.2.2.1
theorem dX7_oneWidth_30 : decode cX7_oneWidth 30 = .ok (.ifCond .ne 51, 3) := qd4_89.2.2.2.2.2.1
theorem dX7_oneWidth_33 : decode cX7_oneWidth 33 = .ok (.iload 4, 2) := qd4_89.2.2.2.2.2.2.1
theorem dX7_oneWidth_35 : decode cX7_oneWidth 35 = .ok (.aload_n 3, 1) := qd4_89.2.2.2.2.2.2.2.1
theorem dX7_oneWidth_36 : decode cX7_oneWidth 36 = .ok (.getfield 39, 3) := qd4_89.2.2.2.2.2.2.2.2.1
theorem dX7_oneWidth_39 : decode cX7_oneWidth 39 = .ok (.iload 5, 2) := qd4_89.2.2.2.2.2.2.2.2.2.1
theorem dX7_oneWidth_41 : decode cX7_oneWidth 41 = .ok (.aaload, 1) := qd4_89.2.2.2.2.2.2.2.2.2.2.1
theorem dX7_oneWidth_42 : decode cX7_oneWidth 42 = .ok (.iconst 2, 1) := qd4_89.2.2.2.2.2.2.2.2.2.2.2
theorem qd4_90 : (decode cX7_oneWidth 43 = .ok (.iaload, 1)) ∧ (decode cX7_oneWidth 44 = .ok (.iload_n 1, 1)) ∧ (decode cX7_oneWidth 45 = .ok (.ishr, 1)) ∧ (decode cX7_oneWidth 46 = .ok (.iconst 1, 1)) ∧ (decode cX7_oneWidth 47 = .ok (.iand, 1)) ∧ (decode cX7_oneWidth 48 = .ok (.ifCond .ne 17, 3)) ∧ (decode cX7_oneWidth 51 = .ok (.iload_n 2, 1)) ∧ (decode cX7_oneWidth 52 = .ok (.aload_n 3, 1)) ∧ (decode cX7_oneWidth 53 = .ok (.getfield 39, 3)) ∧ (decode cX7_oneWidth 56 = .ok (.iload 5, 2)) ∧ (decode cX7_oneWidth 58 = .ok (.aaload, 1)) ∧ (decode cX7_oneWidth 59 = .ok (.iconst 3, 1)) := by decide +kernel
theorem dX7_oneWidth_43 : decode cX7_oneWidth 43 = .ok (.iaload, 1) := qd4_90.1
theorem dX7_oneWidth_44 : decode cX7_oneWidth 44 = .ok (.iload_n 1, 1) := qd4_90.2.1
theorem dX7_oneWidth_45 : decode cX7_oneWidth 45 = .ok (.ishr, 1) := qd4_90.2.2.1
theorem dX7_oneWidth_46 : decode cX7_oneWidth 46 = .ok (.iconst 1, 1) := qd4_90.2.2.2.1
theorem dX7_oneWidth_47 : decode cX7_oneWidth 47 = .ok (.iand, 1) := qd4_90.2.2.2.2.1
theorem dX7_oneWidth_48 : decode cX7_oneWidth 48 = .ok (.ifCond .ne 17, 3) := qd4_90.2.2.2.2.2.1
theorem dX7_oneWidth_51 : decode cX7_oneWidth 51 = .ok (.iload_n 2, 1) := qd4_90.2.2.2.2.2.2.1
theorem dX7_oneWidth_52 : decode cX7_oneWidth 52 = .ok (.aload_n 3, 1) := qd4_90.2.2.2.2.2.2.2.1
theorem dX7_oneWidth_53 : decode cX7_oneWidth 53 = .ok (.getfield 39, 3) := qd4_90.2.2.2.2.2.2.2.2.1
theorem dX7_oneWidth_56 : decode cX7_oneWidth 56 = .ok (.iload 5, 2) := qd4_90.2.2.2.2.2.2.2.2.2.1
theorem dX7_oneWidth_58 : decode cX7_oneWidth 58 = .ok (.aaload, 1) := qd4_90.2.2.2.2.2.2.2.2.2.2.1
theorem dX7_oneWidth_59 : decode cX7_oneWidth 59 = .ok (.iconst 3, 1) := qd4_90.2.2.2.2.2.2.2.2.2.2.2
theorem qd4_91 : (decode cX7_oneWidth 60 = .ok (.iaload, 1)) ∧ (decode cX7_oneWidth 61 = .ok (.imul, 1)) ∧ (decode cX7_oneWidth 62 = .ok (.goto 4, 3)) ∧ (decode cX7_oneWidth 65 = .ok (.iconst 0, 1)) ∧ (decode cX7_oneWidth 66 = .ok (.iadd, 1)) ∧ (decode cX7_oneWidth 67 = .ok (.istore 4, 2)) ∧ (decode cX7_oneWidth 69 = .ok (.aload_n 3, 1)) ∧ (decode cX7_oneWidth 70 = .ok (.getfield 39, 3)) ∧ (decode cX7_oneWidth 73 = .ok (.iload 5, 2)) ∧ (decode cX7_oneWidth 75 = .ok (.aaload, 1)) ∧ (decode cX7_oneWidth 76 = .ok (.iconst 2, 1)) ∧ (decode cX7_oneWidth 77 = .ok (.iconst 1, 1)) := by decide +kernel
theorem dX7_oneWidth_60 : decode cX7_oneWidth 60 = .ok (.iaload, 1) := qd4_91.1
theorem dX7_oneWidth_61 : decode cX7_oneWidth 61 = .ok (.imul, 1) := qd4_91.2.1
theorem dX7_oneWidth_62 : decode cX7_oneWidth 62 = .ok (.goto 4, 3) := qd4_91.2.2.1
theorem dX7_oneWidth_65 : decode cX7_oneWidth 65 = .ok (.iconst 0, 1) := qd4_91.2.2.2.1
theorem dX7_oneWidth_66 : decode cX7_oneWidth 66 = .ok (.iadd, 1) := qd4_91.2.2.2.2.1
theorem dX7_oneWidth_67 : decode cX7_oneWidth 67 = .ok (.istore 4, 2) := qd4_91.2.2.2.2.2.1
theorem dX7_oneWidth_69 : decode cX7_oneWidth 69 = .ok (.aload_n 3, 1) := qd4_91.2.2.2.2.2.2.1
theorem dX7_oneWidth_70 : decode cX7_oneWidth 70 = .ok (.getfield 39, 3) := qd4_91.2.2.2.2.2.2.2.1
theorem dX7_oneWidth_73 : decode cX7_oneWidth 73 = .ok (.iload 5, 2) := qd4_91.2.2.2.2.2.2.2.2.1
theorem dX7_oneWidth_75 : decode cX7_oneWidth 75 = .ok (.aaload, 1) := qd4_91.2.2.2.2.2.2.2.2.2.1
theorem dX7_oneWidth_76 : decode cX7_oneWidth 76 = .ok (.iconst 2, 1) := qd4_91.2.2.2.2.2.2.2.2.2.2.1
theorem dX7_oneWidth_77 : decode cX7_oneWidth 77 = .ok (.iconst 1, 1) := qd4_91.2.2.2.2.2.2.2.2.2.2.2
theorem qd4_92 : (decode cX7_oneWidth 78 = .ok (.iload_n 1, 1)) ∧ (decode cX7_oneWidth 79 = .ok (.ishl, 1)) ∧ (decode cX7_oneWidth 80 = .ok (.iastore, 1)) ∧ (decode cX7_oneWidth 81 = .ok (.iinc 5 1, 3)) ∧ (decode cX7_oneWidth 84 = .ok (.goto (-73), 3)) ∧ (decode cX7_oneWidth 87 = .ok (.iload 4, 2)) ∧ (decode cX7_oneWidth 89 = .ok (.aload_n 0, 1)) ∧ (decode cX7_oneWidth 90 = .ok (.getfield 54, 3)) ∧ (decode cX7_oneWidth 93 = .ok (.aload_n 3, 1)) ∧ (decode cX7_oneWidth 94 = .ok (.invokevirtual 288, 3)) ∧ (decode cX7_oneWidth 97 = .ok (.imul, 1)) ∧ (decode cX7_oneWidth 98 = .ok (.iadd, 1)) := by decide +kernel
theorem dX7_oneWidth_78 : decode cX7_oneWidth 78 = .ok (.iload_n 1, 1) := qd4_92.1
theorem dX7_oneWidth_79 : decode cX7_oneWidth 79 = .ok (.ishl, 1) := qd4_92.2.1
theorem dX7_oneWidth_80 : decode cX7_oneWidth 80 = .ok (.iastore, 1) := qd4_92.2.2.1
theorem dX7_oneWidth_81 : decode cX7_oneWidth 81 = .ok (.iinc 5 1, 3) := qd4_92.2.2.2.1
theorem dX7_oneWidth_84 : decode cX7_oneWidth 84 = .ok (.goto (-73), 3) := qd4_92.2.2.2.2.1
theorem dX7_oneWidth_87 : decode cX7_oneWidth 87 = .ok (.iload 4, 2) := qd4_92.2.2.2.2.2.1
theorem dX7_oneWidth_89 : decode cX7_oneWidth 89 = .ok (.aload_n 0, 1) := qd4_92.2.2.2.2.2.2.1
theorem dX7_oneWidth_90 : decode cX7_oneWidth 90 = .ok (.getfield 54, 3) := qd4_92.2.2.2.2.2.2.2.1
theorem dX7_oneWidth_93 : decode cX7_oneWidth 93 = .ok (.aload_n 3, 1) := qd4_92.2.2.2.2.2.2.2.2.1
theorem dX7_oneWidth_94 : decode cX7_oneWidth 94 = .ok (.invokevirtual 288, 3) := qd4_92.2.2.2.2.2.2.2.2.2.1
theorem dX7_oneWidth_97 : decode cX7_oneWidth 97 = .ok (.imul, 1) := qd4_92.2.2.2.2.2.2.2.2.2.2.1
theorem dX7_oneWidth_98 : decode cX7_oneWidth 98 = .ok (.iadd, 1) := qd4_92.2.2.2.2.2.2.2.2.2.2.2
theorem dX7_oneWidth_99 : decode cX7_oneWidth 99 = .ok (.ireturn, 1) := by decide +kernel
theorem qd4_93 : (decode cX7_one 0 = .ok (.iload_n 1, 1)) ∧ (decode cX7_one 1 = .ok (.i2l, 1)) ∧ (decode cX7_one 2 = .ok (.lconst 0, 1)) ∧ (decode cX7_one 3 = .ok (.ldc2_w 131, 3)) ∧ (decode cX7_one 6 = .ok (.invokestatic 78, 3)) ∧ (decode cX7_one 9 = .ok (.ifCond .eq 24, 3)) ∧ (decode cX7_one 12 = .ok (.iload_n 2, 1)) ∧ (decode cX7_one 13 = .ok (.i2l, 1)) ∧ (decode cX7_one 14 = .ok (.lconst 0, 1)) ∧ (decode cX7_one 15 = .ok (.ldc2_w 123, 3)) ∧ (decode cX7_one 18 = .ok (.invokestatic 78, 3)) ∧ (decode cX7_one 21 = .ok (.ifCond .eq 12, 3)) := by decide +kernel
theorem dX7_one_0 : decode cX7_one 0 = .ok (.iload_n 1, 1) := qd4_93.1
theorem dX7_one_1 : decode cX7_one 1 = .ok (.i2l, 1) := qd4_93.2.1
theorem dX7_one_2 : decode cX7_one 2 = .ok (.lconst 0, 1) := qd4_93.2.2.1
theorem dX7_one_3 : decode cX7_one 3 = .ok (.ldc2_w 131, 3) := qd4_93.2.2.2.1
theorem dX7_one_6 : decode cX7_one 6 = .ok (.invokestatic 78, 3) := qd4_93.2.2.2.2.1
theorem dX7_one_9 : decode cX7_one 9 = .ok (.ifCond .eq 24, 3) := qd4_93.2.2.2.2.2.1
theorem dX7_one_12 : decode cX7_one 12 = .ok (.iload_n 2, 1) := qd4_93.2.2.2.2.2.2.1
theorem dX7_one_13 : decode cX7_one 13 = .ok (.i2l, 1) := qd4_93.2.2.2.2.2.2.2.1
theorem dX7_one_14 : decode cX7_one 14 = .ok (.lconst 0, 1) := qd4_93.2.2.2.2.2.2.2.2.1
theorem dX7_one_15 : decode cX7_one 15 = .ok (.ldc2_w 123, 3) := qd4_93.2.2.2.2.2.2.2.2.2.1
theorem dX7_one_18 : decode cX7_one 18 = .ok (.invokestatic 78, 3) := qd4_93.2.2.2.2.2.2.2.2.2.2.1
theorem dX7_one_21 : decode cX7_one 21 = .ok (.ifCond .eq 12, 3) := qd4_93.2.2.2.2.2.2.2.2.2.2.2
theorem qd4_94 : (decode cX7_one 24 = .ok (.aload_n 0, 1)) ∧ (decode cX7_one 25 = .ok (.iload_n 1, 1)) ∧ (decode cX7_one 26 = .ok (.iload_n 2, 1)) ∧ (decode cX7_one 27 = .ok (.invokevirtual 322, 3)) ∧ (decode cX7_one 30 = .ok (.goto 9, 3)) ∧ (decode cX7_one 33 = .ok (.aload_n 0, 1)) ∧ (decode cX7_one 34 = .ok (.bipush (-2), 2)) ∧ (decode cX7_one 36 = .ok (.invokevirtual 94, 3)) ∧ (decode cX7_one 39 = .ok (.ireturn, 1)) := by decide +kernel
theorem dX7_one_24 : decode cX7_one 24 = .ok (.aload_n 0, 1) := qd4_94.1
theorem dX7_one_25 : decode cX7_one 25 = .ok (.iload_n 1, 1) := qd4_94.2.1
theorem dX7_one_26 : decode cX7_one 26 = .ok (.iload_n 2, 1) := qd4_94.2.2.1
theorem dX7_one_27 : decode cX7_one 27 = .ok (.invokevirtual 322, 3) := qd4_94.2.2.2.1
theorem dX7_one_30 : decode cX7_one 30 = .ok (.goto 9, 3) := qd4_94.2.2.2.2.1
theorem dX7_one_33 : decode cX7_one 33 = .ok (.aload_n 0, 1) := qd4_94.2.2.2.2.2.1
theorem dX7_one_34 : decode cX7_one 34 = .ok (.bipush (-2), 2) := qd4_94.2.2.2.2.2.2.1
theorem dX7_one_36 : decode cX7_one 36 = .ok (.invokevirtual 94, 3) := qd4_94.2.2.2.2.2.2.2.1
theorem dX7_one_39 : decode cX7_one 39 = .ok (.ireturn, 1) := qd4_94.2.2.2.2.2.2.2.2
theorem qd4_95 : (decode cX7_which 0 = .ok (.iload_n 1, 1)) ∧ (decode cX7_which 1 = .ok (.i2l, 1)) ∧ (decode cX7_which 2 = .ok (.lconst 0, 1)) ∧ (decode cX7_which 3 = .ok (.ldc2_w 123, 3)) ∧ (decode cX7_which 6 = .ok (.invokestatic 78, 3)) ∧ (decode cX7_which 9 = .ok (.ifCond .ne 10, 3)) ∧ (decode cX7_which 12 = .ok (.aload_n 0, 1)) ∧ (decode cX7_which 13 = .ok (.bipush (-2), 2)) ∧ (decode cX7_which 15 = .ok (.invokevirtual 94, 3)) ∧ (decode cX7_which 18 = .ok (.ireturn, 1)) ∧ (decode cX7_which 19 = .ok (.iconst 0, 1)) ∧ (decode cX7_which 20 = .ok (.istore_n 2, 1)) := by decide +kernel
theorem dX7_which_0 : decode cX7_which 0 = .ok (.iload_n 1, 1) := qd4_95.1
theorem dX7_which_1 : decode cX7_which 1 = .ok (.i2l, 1) := qd4_95.2.1
theorem dX7_which_2 : decode cX7_which 2 = .ok (.lconst 0, 1) := qd4_95.2.2.1
theorem dX7_which_3 : decode cX7_which 3 = .ok (.ldc2_w 123, 3) := qd4_95.2.2.2.1
theorem dX7_which_6 : decode cX7_which 6 = .ok (.invokestatic 78, 3) := qd4_95.2.2.2.2.1
theorem dX7_which_9 : decode cX7_which 9 = .ok (.ifCond .ne 10, 3) := qd4_95.2.2.2.2.2.1
theorem dX7_which_12 : decode cX7_which 12 = .ok (.aload_n 0, 1) := qd4_95.2.2.2.2.2.2.1
theorem dX7_which_13 : decode cX7_which 13 = .ok (.bipush (-2), 2) := qd4_95.2.2.2.2.2.2.2.1
theorem dX7_which_15 : decode cX7_which 15 = .ok (.invokevirtual 94, 3) := qd4_95.2.2.2.2.2.2.2.2.1
theorem dX7_which_18 : decode cX7_which 18 = .ok (.ireturn, 1) := qd4_95.2.2.2.2.2.2.2.2.2.1
theorem dX7_which_19 : decode cX7_which 19 = .ok (.iconst 0, 1) := qd4_95.2.2.2.2.2.2.2.2.2.2.1
theorem dX7_which_20 : decode cX7_which 20 = .ok (.istore_n 2, 1) := qd4_95.2.2.2.2.2.2.2.2.2.2.2
theorem qd4_96 : (decode cX7_which 21 = .ok (.iconst 1, 1)) ∧ (decode cX7_which 22 = .ok (.istore_n 3, 1)) ∧ (decode cX7_which 23 = .ok (.iload_n 3, 1)) ∧ (decode cX7_which 24 = .ok (.iconst 3, 1)) ∧ (decode cX7_which 25 = .ok (.if_icmp .ge 30, 3)) ∧ (decode cX7_which 28 = .ok (.aload_n 0, 1)) ∧ (decode cX7_which 29 = .ok (.iload_n 3, 1)) ∧ (decode cX7_which 30 = .ok (.iload_n 1, 1)) ∧ (decode cX7_which 31 = .ok (.invokevirtual 322, 3)) ∧ (decode cX7_which 34 = .ok (.aload_n 0, 1)) ∧ (decode cX7_which 35 = .ok (.iload_n 2, 1)) ∧ (decode cX7_which 36 = .ok (.iload_n 1, 1)) := by decide +kernel
theorem dX7_which_21 : decode cX7_which 21 = .ok (.iconst 1, 1) := qd4_96.1
theorem dX7_which_22 : decode cX7_which 22 = .ok (.istore_n 3, 1) := qd4_96.2.1
theorem dX7_which_23 : decode cX7_which 23 = .ok (.iload_n 3, 1) := qd4_96.2.2.1
theorem dX7_which_24 : decode cX7_which 24 = .ok (.iconst 3, 1) := qd4_96.2.2.2.1
theorem dX7_which_25 : decode cX7_which 25 = .ok (.if_icmp .ge 30, 3) := qd4_96.2.2.2.2.1
theorem dX7_which_28 : decode cX7_which 28 = .ok (.aload_n 0, 1) := qd4_96.2.2.2.2.2.1
theorem dX7_which_29 : decode cX7_which 29 = .ok (.iload_n 3, 1) := qd4_96.2.2.2.2.2.2.1
theorem dX7_which_30 : decode cX7_which 30 = .ok (.iload_n 1, 1) := qd4_96.2.2.2.2.2.2.2.1
theorem dX7_which_31 : decode cX7_which 31 = .ok (.invokevirtual 322, 3) := qd4_96.2.2.2.2.2.2.2.2.1
theorem dX7_which_34 : decode cX7_which 34 = .ok (.aload_n 0, 1) := qd4_96.2.2.2.2.2.2.2.2.2.1
theorem dX7_which_35 : decode cX7_which 35 = .ok (.iload_n 2, 1) := qd4_96.2.2.2.2.2.2.2.2.2.2.1
theorem dX7_which_36 : decode cX7_which 36 = .ok (.iload_n 1, 1) := qd4_96.2.2.2.2.2.2.2.2.2.2.2
theorem qd4_97 : (decode cX7_which 37 = .ok (.invokevirtual 322, 3)) ∧ (decode cX7_which 40 = .ok (.if_icmp .ge 7, 3)) ∧ (decode cX7_which 43 = .ok (.iload_n 3, 1)) ∧ (decode cX7_which 44 = .ok (.goto 4, 3)) ∧ (decode cX7_which 47 = .ok (.iload_n 2, 1)) ∧ (decode cX7_which 48 = .ok (.istore_n 2, 1)) ∧ (decode cX7_which 49 = .ok (.iinc 3 1, 3)) ∧ (decode cX7_which 52 = .ok (.goto (-29), 3)) ∧ (decode cX7_which 55 = .ok (.iload_n 2, 1)) ∧ (decode cX7_which 56 = .ok (.ireturn, 1)) := by decide +kernel
theorem dX7_which_37 : decode cX7_which 37 = .ok (.invokevirtual 322, 3) := qd4_97.1
theorem dX7_which_40 : decode cX7_which 40 = .ok (.if_icmp .ge 7, 3) := qd4_97.2.1
theorem dX7_which_43 : decode cX7_which 43 = .ok (.iload_n 3, 1) := qd4_97.2.2.1
theorem dX7_which_44 : decode cX7_which 44 = .ok (.goto 4, 3) := qd4_97.2.2.2.1
theorem dX7_which_47 : decode cX7_which 47 = .ok (.iload_n 2, 1) := qd4_97.2.2.2.2.1
theorem dX7_which_48 : decode cX7_which 48 = .ok (.istore_n 2, 1) := qd4_97.2.2.2.2.2.1
theorem dX7_which_49 : decode cX7_which 49 = .ok (.iinc 3 1, 3) := qd4_97.2.2.2.2.2.2.1
theorem dX7_which_52 : decode cX7_which 52 = .ok (.goto (-29), 3) := qd4_97.2.2.2.2.2.2.2.1
theorem dX7_which_55 : decode cX7_which 55 = .ok (.iload_n 2, 1) := qd4_97.2.2.2.2.2.2.2.2.1
theorem dX7_which_56 : decode cX7_which 56 = .ok (.ireturn, 1) := qd4_97.2.2.2.2.2.2.2.2.2
theorem qd4_98 : (decode cX7_gainOf 0 = .ok (.aload_n 0, 1)) ∧ (decode cX7_gainOf 1 = .ok (.invokevirtual 238, 3)) ∧ (decode cX7_gainOf 4 = .ok (.astore_n 3, 1)) ∧ (decode cX7_gainOf 5 = .ok (.aload_n 3, 1)) ∧ (decode cX7_gainOf 6 = .ok (.iload_n 2, 1)) ∧ (decode cX7_gainOf 7 = .ok (.invokevirtual 296, 3)) ∧ (decode cX7_gainOf 10 = .ok (.aload_n 3, 1)) ∧ (decode cX7_gainOf 11 = .ok (.iload_n 1, 1)) ∧ (decode cX7_gainOf 12 = .ok (.invokevirtual 285, 3)) ∧ (decode cX7_gainOf 15 = .ok (.aload_n 0, 1)) ∧ (decode cX7_gainOf 16 = .ok (.iload_n 1, 1)) ∧ (decode cX7_gainOf 17 = .ok (.invokevirtual 285, 3)) := by decide +kernel
theorem dX7_gainOf_0 : decode cX7_gainOf 0 = .ok (.aload_n 0, 1) := qd4_98.1
theorem dX7_gainOf_1 : decode cX7_gainOf 1 = .ok (.invokevirtual 238, 3) := qd4_98.2.1
theorem dX7_gainOf_4 : decode cX7_gainOf 4 = .ok (.astore_n 3, 1) := qd4_98.2.2.1
theorem dX7_gainOf_5 : decode cX7_gainOf 5 = .ok (.aload_n 3, 1) := qd4_98.2.2.2.1
theorem dX7_gainOf_6 : decode cX7_gainOf 6 = .ok (.iload_n 2, 1) := qd4_98.2.2.2.2.1
theorem dX7_gainOf_7 : decode cX7_gainOf 7 = .ok (.invokevirtual 296, 3) := qd4_98.2.2.2.2.2.1
theorem dX7_gainOf_10 : decode cX7_gainOf 10 = .ok (.aload_n 3, 1) := qd4_98.2.2.2.2.2.2.1
theorem dX7_gainOf_11 : decode cX7_gainOf 11 = .ok (.iload_n 1, 1) := qd4_98.2.2.2.2.2.2.2.1
theorem dX7_gainOf_12 : decode cX7_gainOf 12 = .ok (.invokevirtual 285, 3) := qd4_98.2.2.2.2.2.2.2.2.1
theorem dX7_gainOf_15 : decode cX7_gainOf 15 = .ok (.aload_n 0, 1) := qd4_98.2.2.2.2.2.2.2.2.2.1
theorem dX7_gainOf_16 : decode cX7_gainOf 16 = .ok (.iload_n 1, 1) := qd4_98.2.2.2.2.2.2.2.2.2.2.1
theorem dX7_gainOf_17 : decode cX7_gainOf 17 = .ok (.invokevirtual 285, 3) := qd4_98.2.2.2.2.2.2.2.2.2.2.2
theorem qd4_99 : (decode cX7_gainOf 20 = .ok (.isub, 1)) ∧ (decode cX7_gainOf 21 = .ok (.ireturn, 1)) := by decide +kernel
theorem dX7_gainOf_20 : decode cX7_gainOf 20 = .ok (.isub, 1) := qd4_99.1
theorem dX7_gainOf_21 : decode cX7_gainOf 21 = .ok (.ireturn, 1) := qd4_99.2
theorem qd4_100 : (decode cX7_gains 0 = .ok (.iload_n 1, 1)) ∧ (decode cX7_gains 1 = .ok (.i2l, 1)) ∧ (decode cX7_gains 2 = .ok (.lconst 0, 1)) ∧ (decode cX7_gains 3 = .ok (.ldc2_w 106, 3)) ∧ (decode cX7_gains 6 = .ok (.invokestatic 78, 3)) ∧ (decode cX7_gains 9 = .ok (.ifCond .eq 11, 3)) ∧ (decode cX7_gains 12 = .ok (.aload_n 0, 1)) ∧ (decode cX7_gains 13 = .ok (.iload_n 2, 1)) ∧ (decode cX7_gains 14 = .ok (.invokevirtual 102, 3)) ∧ (decode cX7_gains 17 = .ok (.ifCond .ne 14, 3)) ∧ (decode cX7_gains 20 = .ok (.aload_n 0, 1)) ∧ (decode cX7_gains 21 = .ok (.bipush (-2), 2)) := by decide +kernel
theorem dX7_gains_0 : decode cX7_gains 0 = .ok (.iload_n 1, 1) := qd4_100.1
theorem dX7_gains_1 : decode cX7_gains 1 = .ok (.i2l, 1) := qd4_100.2.1
theorem dX7_gains_2 : decode cX7_gains 2 = .ok (.lconst 0, 1) := qd4_100.2.2.1
theorem dX7_gains_3 : decode cX7_gains 3 = .ok (.ldc2_w 106, 3) := qd4_100.2.2.2.1
theorem dX7_gains_6 : decode cX7_gains 6 = .ok (.invokestatic 78, 3) := qd4_100.2.2.2.2.1
theorem dX7_gains_9 : decode cX7_gains 9 = .ok (.ifCond .eq 11, 3) := qd4_100.2.2.2.2.2.1
theorem dX7_gains_12 : decode cX7_gains 12 = .ok (.aload_n 0, 1) := qd4_100.2.2.2.2.2.2.1
theorem dX7_gains_13 : decode cX7_gains 13 = .ok (.iload_n 2, 1) := qd4_100.2.2.2.2.2.2.2.1
theorem dX7_gains_14 : decode cX7_gains 14 = .ok (.invokevirtual 102, 3) := qd4_100.2.2.2.2.2.2.2.2.1
theorem dX7_gains_17 : decode cX7_gains 17 = .ok (.ifCond .ne 14, 3) := qd4_100.2.2.2.2.2.2.2.2.2.1
theorem dX7_gains_20 : decode cX7_gains 20 = .ok (.aload_n 0, 1) := qd4_100.2.2.2.2.2.2.2.2.2.2.1
theorem dX7_gains_21 : decode cX7_gains 21 = .ok (.bipush (-2), 2) := qd4_100.2.2.2.2.2.2.2.2.2.2.2
theorem qd4_101 : (decode cX7_gains 23 = .ok (.invokevirtual 94, 3)) ∧ (decode cX7_gains 26 = .ok (.ldc_w 306, 3)) ∧ (decode cX7_gains 29 = .ok (.isub, 1)) ∧ (decode cX7_gains 30 = .ok (.ireturn, 1)) ∧ (decode cX7_gains 31 = .ok (.aload_n 0, 1)) ∧ (decode cX7_gains 32 = .ok (.getfield 51, 3)) ∧ (decode cX7_gains 35 = .ok (.iload_n 2, 1)) ∧ (decode cX7_gains 36 = .ok (.aaload, 1)) ∧ (decode cX7_gains 37 = .ok (.iconst 4, 1)) ∧ (decode cX7_gains 38 = .ok (.iaload, 1)) ∧ (decode cX7_gains 39 = .ok (.iconst 1, 1)) ∧ (decode cX7_gains 40 = .ok (.if_icmp .ne 16, 3)) := by decide +kernel
theorem dX7_gains_23 : decode cX7_gains 23 = .ok (.invokevirtual 94, 3) := qd4_101.1
theorem dX7_gains_26 : decode cX7_gains 26 = .ok (.ldc_w 306, 3) := qd4_101.2.1
theorem dX7_gains_29 : decode cX7_gains 29 = .ok (.isub, 1) := qd4_101.2.2.1
theorem dX7_gains_30 : decode cX7_gains 30 = .ok (.ireturn, 1) := qd4_101.2.2.2.1
theorem dX7_gains_31 : decode cX7_gains 31 = .ok (.aload_n 0, 1) := qd4_101.2.2.2.2.1
theorem dX7_gains_32 : decode cX7_gains 32 = .ok (.getfield 51, 3) := qd4_101.2.2.2.2.2.1
theorem dX7_gains_35 : decode cX7_gains 35 = .ok (.iload_n 2, 1) := qd4_101.2.2.2.2.2.2.1
theorem dX7_gains_36 : decode cX7_gains 36 = .ok (.aaload, 1) := qd4_101.2.2.2.2.2.2.2.1
theorem dX7_gains_37 : decode cX7_gains 37 = .ok (.iconst 4, 1) := qd4_101.2.2.2.2.2.2.2.2.1
theorem dX7_gains_38 : decode cX7_gains 38 = .ok (.iaload, 1) := qd4_101.2.2.2.2.2.2.2.2.2.1
theorem dX7_gains_39 : decode cX7_gains 39 = .ok (.iconst 1, 1) := qd4_101.2.2.2.2.2.2.2.2.2.2.1
theorem dX7_gains_40 : decode cX7_gains 40 = .ok (.if_icmp .ne 16, 3) := qd4_101.2.2.2.2.2.2.2.2.2.2.2
theorem qd4_102 : (decode cX7_gains 43 = .ok (.aload_n 0, 1)) ∧ (decode cX7_gains 44 = .ok (.bipush (-5), 2)) ∧ (decode cX7_gains 46 = .ok (.invokevirtual 94, 3)) ∧ (decode cX7_gains 49 = .ok (.ldc_w 306, 3)) ∧ (decode cX7_gains 52 = .ok (.isub, 1)) ∧ (decode cX7_gains 53 = .ok (.goto 9, 3)) ∧ (decode cX7_gains 56 = .ok (.aload_n 0, 1)) ∧ (decode cX7_gains 57 = .ok (.iload_n 1, 1)) ∧ (decode cX7_gains 58 = .ok (.iload_n 2, 1)) ∧ (decode cX7_gains 59 = .ok (.invokevirtual 325, 3)) ∧ (decode cX7_gains 62 = .ok (.ireturn, 1)) := by decide +kernel
theorem dX7_gains_43 : decode cX7_gains 43 = .ok (.aload_n 0, 1) := qd4_102.1
theorem dX7_gains_44 : decode cX7_gains 44 = .ok (.bipush (-5), 2) := qd4_102.2.1
theorem dX7_gains_46 : decode cX7_gains 46 = .ok (.invokevirtual 94, 3) := qd4_102.2.2.1
theorem dX7_gains_49 : decode cX7_gains 49 = .ok (.ldc_w 306, 3) := qd4_102.2.2.2.1
theorem dX7_gains_52 : decode cX7_gains 52 = .ok (.isub, 1) := qd4_102.2.2.2.2.1
theorem dX7_gains_53 : decode cX7_gains 53 = .ok (.goto 9, 3) := qd4_102.2.2.2.2.2.1
theorem dX7_gains_56 : decode cX7_gains 56 = .ok (.aload_n 0, 1) := qd4_102.2.2.2.2.2.2.1
theorem dX7_gains_57 : decode cX7_gains 57 = .ok (.iload_n 1, 1) := qd4_102.2.2.2.2.2.2.2.1
theorem dX7_gains_58 : decode cX7_gains 58 = .ok (.iload_n 2, 1) := qd4_102.2.2.2.2.2.2.2.2.1
theorem dX7_gains_59 : decode cX7_gains 59 = .ok (.invokevirtual 325, 3) := qd4_102.2.2.2.2.2.2.2.2.2.1
theorem dX7_gains_62 : decode cX7_gains 62 = .ok (.ireturn, 1) := qd4_102.2.2.2.2.2.2.2.2.2.2
theorem qd4_103 : (decode cX7_losers 0 = .ok (.aload_n 0, 1)) ∧ (decode cX7_losers 1 = .ok (.iload_n 1, 1)) ∧ (decode cX7_losers 2 = .ok (.invokevirtual 102, 3)) ∧ (decode cX7_losers 5 = .ok (.ifCond .ne 10, 3)) ∧ (decode cX7_losers 8 = .ok (.aload_n 0, 1)) ∧ (decode cX7_losers 9 = .ok (.bipush (-2), 2)) ∧ (decode cX7_losers 11 = .ok (.invokevirtual 94, 3)) ∧ (decode cX7_losers 14 = .ok (.ireturn, 1)) ∧ (decode cX7_losers 15 = .ok (.aload_n 0, 1)) ∧ (decode cX7_losers 16 = .ok (.getfield 51, 3)) ∧ (decode cX7_losers 19 = .ok (.iload_n 1, 1)) ∧ (decode cX7_losers 20 = .ok (.aaload, 1)) := by decide +kernel
theorem dX7_losers_0 : decode cX7_losers 0 = .ok (.aload_n 0, 1) := qd4_103.1
theorem dX7_losers_1 : decode cX7_losers 1 = .ok (.iload_n 1, 1) := qd4_103.2.1
theorem dX7_losers_2 : decode cX7_losers 2 = .ok (.invokevirtual 102, 3) := qd4_103.2.2.1
theorem dX7_losers_5 : decode cX7_losers 5 = .ok (.ifCond .ne 10, 3) := qd4_103.2.2.2.1
theorem dX7_losers_8 : decode cX7_losers 8 = .ok (.aload_n 0, 1) := qd4_103.2.2.2.2.1
theorem dX7_losers_9 : decode cX7_losers 9 = .ok (.bipush (-2), 2) := qd4_103.2.2.2.2.2.1
theorem dX7_losers_11 : decode cX7_losers 11 = .ok (.invokevirtual 94, 3) := qd4_103.2.2.2.2.2.2.1
theorem dX7_losers_14 : decode cX7_losers 14 = .ok (.ireturn, 1) := qd4_103.2.2.2.2.2.2.2.1
theorem dX7_losers_15 : decode cX7_losers 15 = .ok (.aload_n 0, 1) := qd4_103.2.2.2.2.2.2.2.2.1
theorem dX7_losers_16 : decode cX7_losers 16 = .ok (.getfield 51, 3) := qd4_103.2.2.2.2.2.2.2.2.2.1
theorem dX7_losers_19 : decode cX7_losers 19 = .ok (.iload_n 1, 1) := qd4_103.2.2.2.2.2.2.2.2.2.2.1
theorem dX7_losers_20 : decode cX7_losers 20 = .ok (.aaload, 1) := qd4_103.2.2.2.2.2.2.2.2.2.2.2
theorem qd4_104 : (decode cX7_losers 21 = .ok (.iconst 4, 1)) ∧ (decode cX7_losers 22 = .ok (.iaload, 1)) ∧ (decode cX7_losers 23 = .ok (.iconst 1, 1)) ∧ (decode cX7_losers 24 = .ok (.if_icmp .ne 10, 3)) ∧ (decode cX7_losers 27 = .ok (.aload_n 0, 1)) ∧ (decode cX7_losers 28 = .ok (.bipush (-5), 2)) ∧ (decode cX7_losers 30 = .ok (.invokevirtual 94, 3)) ∧ (decode cX7_losers 33 = .ok (.ireturn, 1)) ∧ (decode cX7_losers 34 = .ok (.iconst 0, 1)) ∧ (decode cX7_losers 35 = .ok (.istore_n 2, 1)) ∧ (decode cX7_losers 36 = .ok (.iconst 0, 1)) ∧ (decode cX7_losers 37 = .ok (.istore_n 3, 1)) := by decide +kernel
theorem dX7_losers_21 : decode cX7_losers 21 = .ok (.iconst 4, 1) := qd4_104.1
theorem dX7_losers_22 : decode cX7_losers 22 = .ok (.iaload, 1) := qd4_104.2.1
theorem dX7_losers_23 : decode cX7_losers 23 = .ok (.iconst 1, 1) := qd4_104.2.2.1
theorem dX7_losers_24 : decode cX7_losers 24 = .ok (.if_icmp .ne 10, 3) := qd4_104.2.2.2.1
theorem dX7_losers_27 : decode cX7_losers 27 = .ok (.aload_n 0, 1) := qd4_104.2.2.2.2.1
theorem dX7_losers_28 : decode cX7_losers 28 = .ok (.bipush (-5), 2) := qd4_104.2.2.2.2.2.1
theorem dX7_losers_30 : decode cX7_losers 30 = .ok (.invokevirtual 94, 3) := qd4_104.2.2.2.2.2.2.1
theorem dX7_losers_33 : decode cX7_losers 33 = .ok (.ireturn, 1) := qd4_104.2.2.2.2.2.2.2.1
theorem dX7_losers_34 : decode cX7_losers 34 = .ok (.iconst 0, 1) := qd4_104.2.2.2.2.2.2.2.2.1
theorem dX7_losers_35 : decode cX7_losers 35 = .ok (.istore_n 2, 1) := qd4_104.2.2.2.2.2.2.2.2.2.1
theorem dX7_losers_36 : decode cX7_losers 36 = .ok (.iconst 0, 1) := qd4_104.2.2.2.2.2.2.2.2.2.2.1
theorem dX7_losers_37 : decode cX7_losers 37 = .ok (.istore_n 3, 1) := qd4_104.2.2.2.2.2.2.2.2.2.2.2
theorem qd4_105 : (decode cX7_losers 38 = .ok (.iload_n 3, 1)) ∧ (decode cX7_losers 39 = .ok (.bipush 6, 2)) ∧ (decode cX7_losers 41 = .ok (.if_icmp .ge 28, 3)) ∧ (decode cX7_losers 44 = .ok (.iload_n 2, 1)) ∧ (decode cX7_losers 45 = .ok (.aload_n 0, 1)) ∧ (decode cX7_losers 46 = .ok (.iload_n 3, 1)) ∧ (decode cX7_losers 47 = .ok (.iload_n 1, 1)) ∧ (decode cX7_losers 48 = .ok (.invokevirtual 325, 3)) ∧ (decode cX7_losers 51 = .ok (.ifCond .ge 9, 3)) ∧ (decode cX7_losers 54 = .ok (.iconst 1, 1)) ∧ (decode cX7_losers 55 = .ok (.iload_n 3, 1)) ∧ (decode cX7_losers 56 = .ok (.ishl, 1)) := by decide +kernel
theorem dX7_losers_38 : decode cX7_losers 38 = .ok (.iload_n 3, 1) := qd4_105.1
theorem dX7_losers_39 : decode cX7_losers 39 = .ok (.bipush 6, 2) := qd4_105.2.1
theorem dX7_losers_41 : decode cX7_losers 41 = .ok (.if_icmp .ge 28, 3) := qd4_105.2.2.1
theorem dX7_losers_44 : decode cX7_losers 44 = .ok (.iload_n 2, 1) := qd4_105.2.2.2.1
theorem dX7_losers_45 : decode cX7_losers 45 = .ok (.aload_n 0, 1) := qd4_105.2.2.2.2.1
theorem dX7_losers_46 : decode cX7_losers 46 = .ok (.iload_n 3, 1) := qd4_105.2.2.2.2.2.1
theorem dX7_losers_47 : decode cX7_losers 47 = .ok (.iload_n 1, 1) := qd4_105.2.2.2.2.2.2.1
theorem dX7_losers_48 : decode cX7_losers 48 = .ok (.invokevirtual 325, 3) := qd4_105.2.2.2.2.2.2.2.1
theorem dX7_losers_51 : decode cX7_losers 51 = .ok (.ifCond .ge 9, 3) := qd4_105.2.2.2.2.2.2.2.2.1
theorem dX7_losers_54 : decode cX7_losers 54 = .ok (.iconst 1, 1) := qd4_105.2.2.2.2.2.2.2.2.2.1
theorem dX7_losers_55 : decode cX7_losers 55 = .ok (.iload_n 3, 1) := qd4_105.2.2.2.2.2.2.2.2.2.2.1
theorem dX7_losers_56 : decode cX7_losers 56 = .ok (.ishl, 1) := qd4_105.2.2.2.2.2.2.2.2.2.2.2
theorem qd4_106 : (decode cX7_losers 57 = .ok (.goto 4, 3)) ∧ (decode cX7_losers 60 = .ok (.iconst 0, 1)) ∧ (decode cX7_losers 61 = .ok (.ior, 1)) ∧ (decode cX7_losers 62 = .ok (.istore_n 2, 1)) ∧ (decode cX7_losers 63 = .ok (.iinc 3 1, 3)) ∧ (decode cX7_losers 66 = .ok (.goto (-28), 3)) ∧ (decode cX7_losers 69 = .ok (.iload_n 2, 1)) ∧ (decode cX7_losers 70 = .ok (.ireturn, 1)) := by decide +kernel
theorem dX7_losers_57 : decode cX7_losers 57 = .ok (.goto 4, 3) := qd4_106.1
theorem dX7_losers_60 : decode cX7_losers 60 = .ok (.iconst 0, 1) := qd4_106.2.1
theorem dX7_losers_61 : decode cX7_losers 61 = .ok (.ior, 1) := qd4_106.2.2.1
theorem dX7_losers_62 : decode cX7_losers 62 = .ok (.istore_n 2, 1) := qd4_106.2.2.2.1
theorem dX7_losers_63 : decode cX7_losers 63 = .ok (.iinc 3 1, 3) := qd4_106.2.2.2.2.1
theorem dX7_losers_66 : decode cX7_losers 66 = .ok (.goto (-28), 3) := qd4_106.2.2.2.2.2.1
theorem dX7_losers_69 : decode cX7_losers 69 = .ok (.iload_n 2, 1) := qd4_106.2.2.2.2.2.2.1
theorem dX7_losers_70 : decode cX7_losers 70 = .ok (.ireturn, 1) := qd4_106.2.2.2.2.2.2.2
theorem qd4_107 : (decode cX7_noRow 0 = .ok (.iload_n 1, 1)) ∧ (decode cX7_noRow 1 = .ok (.i2l, 1)) ∧ (decode cX7_noRow 2 = .ok (.lconst 0, 1)) ∧ (decode cX7_noRow 3 = .ok (.ldc2_w 88, 3)) ∧ (decode cX7_noRow 6 = .ok (.invokestatic 78, 3)) ∧ (decode cX7_noRow 9 = .ok (.ifCond .eq 15, 3)) ∧ (decode cX7_noRow 12 = .ok (.iload_n 2, 1)) ∧ (decode cX7_noRow 13 = .ok (.i2l, 1)) ∧ (decode cX7_noRow 14 = .ok (.lconst 0, 1)) ∧ (decode cX7_noRow 15 = .ok (.ldc2_w 144, 3)) ∧ (decode cX7_noRow 18 = .ok (.invokestatic 78, 3)) ∧ (decode cX7_noRow 21 = .ok (.ifCond .ne 10, 3)) := by decide +kernel
theorem dX7_noRow_0 : decode cX7_noRow 0 = .ok (.iload_n 1, 1) := qd4_107.1
theorem dX7_noRow_1 : decode cX7_noRow 1 = .ok (.i2l, 1) := qd4_107.2.1
theorem dX7_noRow_2 : decode cX7_noRow 2 = .ok (.lconst 0, 1) := qd4_107.2.2.1
theorem dX7_noRow_3 : decode cX7_noRow 3 = .ok (.ldc2_w 88, 3) := qd4_107.2.2.2.1
theorem dX7_noRow_6 : decode cX7_noRow 6 = .ok (.invokestatic 78, 3) := qd4_107.2.2.2.2.1
theorem dX7_noRow_9 : decode cX7_noRow 9 = .ok (.ifCond .eq 15, 3) := qd4_107.2.2.2.2.2.1
theorem dX7_noRow_12 : decode cX7_noRow 12 = .ok (.iload_n 2, 1) := qd4_107.2.2.2.2.2.2.1
theorem dX7_noRow_13 : decode cX7_noRow 13 = .ok (.i2l, 1) := qd4_107.2.2.2.2.2.2.2.1
theorem dX7_noRow_14 : decode cX7_noRow 14 = .ok (.lconst 0, 1) := qd4_107.2.2.2.2.2.2.2.2.1
theorem dX7_noRow_15 : decode cX7_noRow 15 = .ok (.ldc2_w 144, 3) := qd4_107.2.2.2.2.2.2.2.2.2.1
theorem dX7_noRow_18 : decode cX7_noRow 18 = .ok (.invokestatic 78, 3) := qd4_107.2.2.2.2.2.2.2.2.2.2.1
theorem dX7_noRow_21 : decode cX7_noRow 21 = .ok (.ifCond .ne 10, 3) := qd4_107.2.2.2.2.2.2.2.2.2.2.2
theorem qd4_108 : (decode cX7_noRow 24 = .ok (.aload_n 0, 1)) ∧ (decode cX7_noRow 25 = .ok (.bipush (-2), 2)) ∧ (decode cX7_noRow 27 = .ok (.invokevirtual 94, 3)) ∧ (decode cX7_noRow 30 = .ok (.ireturn, 1)) ∧ (decode cX7_noRow 31 = .ok (.aload_n 0, 1)) ∧ (decode cX7_noRow 32 = .ok (.getfield 7, 3)) ∧ (decode cX7_noRow 35 = .ok (.iload_n 1, 1)) ∧ (decode cX7_noRow 36 = .ok (.iaload, 1)) ∧ (decode cX7_noRow 37 = .ok (.iconst 2, 1)) ∧ (decode cX7_noRow 38 = .ok (.if_icmp .ne 10, 3)) ∧ (decode cX7_noRow 41 = .ok (.aload_n 0, 1)) ∧ (decode cX7_noRow 42 = .ok (.bipush (-3), 2)) := by decide +kernel
theorem dX7_noRow_24 : decode cX7_noRow 24 = .ok (.aload_n 0, 1) := qd4_108.1
theorem dX7_noRow_25 : decode cX7_noRow 25 = .ok (.bipush (-2), 2) := qd4_108.2.1
theorem dX7_noRow_27 : decode cX7_noRow 27 = .ok (.invokevirtual 94, 3) := qd4_108.2.2.1
theorem dX7_noRow_30 : decode cX7_noRow 30 = .ok (.ireturn, 1) := qd4_108.2.2.2.1
theorem dX7_noRow_31 : decode cX7_noRow 31 = .ok (.aload_n 0, 1) := qd4_108.2.2.2.2.1
theorem dX7_noRow_32 : decode cX7_noRow 32 = .ok (.getfield 7, 3) := qd4_108.2.2.2.2.2.1
theorem dX7_noRow_35 : decode cX7_noRow 35 = .ok (.iload_n 1, 1) := qd4_108.2.2.2.2.2.2.1
theorem dX7_noRow_36 : decode cX7_noRow 36 = .ok (.iaload, 1) := qd4_108.2.2.2.2.2.2.2.1
theorem dX7_noRow_37 : decode cX7_noRow 37 = .ok (.iconst 2, 1) := qd4_108.2.2.2.2.2.2.2.2.1
theorem dX7_noRow_38 : decode cX7_noRow 38 = .ok (.if_icmp .ne 10, 3) := qd4_108.2.2.2.2.2.2.2.2.2.1
theorem dX7_noRow_41 : decode cX7_noRow 41 = .ok (.aload_n 0, 1) := qd4_108.2.2.2.2.2.2.2.2.2.2.1
theorem dX7_noRow_42 : decode cX7_noRow 42 = .ok (.bipush (-3), 2) := qd4_108.2.2.2.2.2.2.2.2.2.2.2
theorem qd4_109 : (decode cX7_noRow 44 = .ok (.invokevirtual 94, 3)) ∧ (decode cX7_noRow 47 = .ok (.ireturn, 1)) ∧ (decode cX7_noRow 48 = .ok (.aload_n 0, 1)) ∧ (decode cX7_noRow 49 = .ok (.getfield 7, 3)) ∧ (decode cX7_noRow 52 = .ok (.iload_n 1, 1)) ∧ (decode cX7_noRow 53 = .ok (.iaload, 1)) ∧ (decode cX7_noRow 54 = .ok (.ifCond .ne 10, 3)) ∧ (decode cX7_noRow 57 = .ok (.aload_n 0, 1)) ∧ (decode cX7_noRow 58 = .ok (.bipush (-4), 2)) ∧ (decode cX7_noRow 60 = .ok (.invokevirtual 94, 3)) ∧ (decode cX7_noRow 63 = .ok (.ireturn, 1)) ∧ (decode cX7_noRow 64 = .ok (.aload_n 0, 1)) := by decide +kernel
theorem dX7_noRow_44 : decode cX7_noRow 44 = .ok (.invokevirtual 94, 3) := qd4_109.1
theorem dX7_noRow_47 : decode cX7_noRow 47 = .ok (.ireturn, 1) := qd4_109.2.1
theorem dX7_noRow_48 : decode cX7_noRow 48 = .ok (.aload_n 0, 1) := qd4_109.2.2.1
theorem dX7_noRow_49 : decode cX7_noRow 49 = .ok (.getfield 7, 3) := qd4_109.2.2.2.1
theorem dX7_noRow_52 : decode cX7_noRow 52 = .ok (.iload_n 1, 1) := qd4_109.2.2.2.2.1
theorem dX7_noRow_53 : decode cX7_noRow 53 = .ok (.iaload, 1) := qd4_109.2.2.2.2.2.1
theorem dX7_noRow_54 : decode cX7_noRow 54 = .ok (.ifCond .ne 10, 3) := qd4_109.2.2.2.2.2.2.1
theorem dX7_noRow_57 : decode cX7_noRow 57 = .ok (.aload_n 0, 1) := qd4_109.2.2.2.2.2.2.2.1
theorem dX7_noRow_58 : decode cX7_noRow 58 = .ok (.bipush (-4), 2) := qd4_109.2.2.2.2.2.2.2.2.1
theorem dX7_noRow_60 : decode cX7_noRow 60 = .ok (.invokevirtual 94, 3) := qd4_109.2.2.2.2.2.2.2.2.2.1
theorem dX7_noRow_63 : decode cX7_noRow 63 = .ok (.ireturn, 1) := qd4_109.2.2.2.2.2.2.2.2.2.2.1
theorem dX7_noRow_64 : decode cX7_noRow 64 = .ok (.aload_n 0, 1) := qd4_109.2.2.2.2.2.2.2.2.2.2.2
theorem qd4_110 : (decode cX7_noRow 65 = .ok (.getfield 16, 3)) ∧ (decode cX7_noRow 68 = .ok (.iload_n 1, 1)) ∧ (decode cX7_noRow 69 = .ok (.iaload, 1)) ∧ (decode cX7_noRow 70 = .ok (.iload_n 2, 1)) ∧ (decode cX7_noRow 71 = .ok (.if_icmp .ge 12, 3)) ∧ (decode cX7_noRow 74 = .ok (.aload_n 0, 1)) ∧ (decode cX7_noRow 75 = .ok (.bipush (-2), 2)) ∧ (decode cX7_noRow 77 = .ok (.invokevirtual 94, 3)) ∧ (decode cX7_noRow 80 = .ok (.goto 4, 3)) ∧ (decode cX7_noRow 83 = .ok (.iconst 0, 1)) ∧ (decode cX7_noRow 84 = .ok (.ireturn, 1)) := by decide +kernel
theorem dX7_noRow_65 : decode cX7_noRow 65 = .ok (.getfield 16, 3) := qd4_110.1
theorem dX7_noRow_68 : decode cX7_noRow 68 = .ok (.iload_n 1, 1) := qd4_110.2.1
theorem dX7_noRow_69 : decode cX7_noRow 69 = .ok (.iaload, 1) := qd4_110.2.2.1
theorem dX7_noRow_70 : decode cX7_noRow 70 = .ok (.iload_n 2, 1) := qd4_110.2.2.2.1
theorem dX7_noRow_71 : decode cX7_noRow 71 = .ok (.if_icmp .ge 12, 3) := qd4_110.2.2.2.2.1
theorem dX7_noRow_74 : decode cX7_noRow 74 = .ok (.aload_n 0, 1) := qd4_110.2.2.2.2.2.1
theorem dX7_noRow_75 : decode cX7_noRow 75 = .ok (.bipush (-2), 2) := qd4_110.2.2.2.2.2.2.1
theorem dX7_noRow_77 : decode cX7_noRow 77 = .ok (.invokevirtual 94, 3) := qd4_110.2.2.2.2.2.2.2.1
theorem dX7_noRow_80 : decode cX7_noRow 80 = .ok (.goto 4, 3) := qd4_110.2.2.2.2.2.2.2.2.1
theorem dX7_noRow_83 : decode cX7_noRow 83 = .ok (.iconst 0, 1) := qd4_110.2.2.2.2.2.2.2.2.2.1
theorem dX7_noRow_84 : decode cX7_noRow 84 = .ok (.ireturn, 1) := qd4_110.2.2.2.2.2.2.2.2.2.2
theorem qd4_111 : (decode cX7_wrongAt 0 = .ok (.iconst 0, 1)) ∧ (decode cX7_wrongAt 1 = .ok (.istore_n 3, 1)) ∧ (decode cX7_wrongAt 2 = .ok (.iload_n 3, 1)) ∧ (decode cX7_wrongAt 3 = .ok (.iload_n 2, 1)) ∧ (decode cX7_wrongAt 4 = .ok (.if_icmp .ge 69, 3)) ∧ (decode cX7_wrongAt 7 = .ok (.iconst 0, 1)) ∧ (decode cX7_wrongAt 8 = .ok (.istore 4, 2)) ∧ (decode cX7_wrongAt 10 = .ok (.iload 4, 2)) ∧ (decode cX7_wrongAt 12 = .ok (.iload_n 3, 1)) ∧ (decode cX7_wrongAt 13 = .ok (.if_icmp .ge 54, 3)) ∧ (decode cX7_wrongAt 16 = .ok (.aload_n 0, 1)) ∧ (decode cX7_wrongAt 17 = .ok (.getfield 21, 3)) := by decide +kernel
theorem dX7_wrongAt_0 : decode cX7_wrongAt 0 = .ok (.iconst 0, 1) := qd4_111.1
theorem dX7_wrongAt_1 : decode cX7_wrongAt 1 = .ok (.istore_n 3, 1) := qd4_111.2.1
theorem dX7_wrongAt_2 : decode cX7_wrongAt 2 = .ok (.iload_n 3, 1) := qd4_111.2.2.1
theorem dX7_wrongAt_3 : decode cX7_wrongAt 3 = .ok (.iload_n 2, 1) := qd4_111.2.2.2.1
theorem dX7_wrongAt_4 : decode cX7_wrongAt 4 = .ok (.if_icmp .ge 69, 3) := qd4_111.2.2.2.2.1
theorem dX7_wrongAt_7 : decode cX7_wrongAt 7 = .ok (.iconst 0, 1) := qd4_111.2.2.2.2.2.1
theorem dX7_wrongAt_8 : decode cX7_wrongAt 8 = .ok (.istore 4, 2) := qd4_111.2.2.2.2.2.2.1
theorem dX7_wrongAt_10 : decode cX7_wrongAt 10 = .ok (.iload 4, 2) := qd4_111.2.2.2.2.2.2.2.1
theorem dX7_wrongAt_12 : decode cX7_wrongAt 12 = .ok (.iload_n 3, 1) := qd4_111.2.2.2.2.2.2.2.2.1
theorem dX7_wrongAt_13 : decode cX7_wrongAt 13 = .ok (.if_icmp .ge 54, 3) := qd4_111.2.2.2.2.2.2.2.2.2.1
theorem dX7_wrongAt_16 : decode cX7_wrongAt 16 = .ok (.aload_n 0, 1) := qd4_111.2.2.2.2.2.2.2.2.2.2.1
theorem dX7_wrongAt_17 : decode cX7_wrongAt 17 = .ok (.getfield 21, 3) := qd4_111.2.2.2.2.2.2.2.2.2.2.2
theorem qd4_112 : (decode cX7_wrongAt 20 = .ok (.iload_n 1, 1)) ∧ (decode cX7_wrongAt 21 = .ok (.aaload, 1)) ∧ (decode cX7_wrongAt 22 = .ok (.iload_n 3, 1)) ∧ (decode cX7_wrongAt 23 = .ok (.laload, 1)) ∧ (decode cX7_wrongAt 24 = .ok (.aload_n 0, 1)) ∧ (decode cX7_wrongAt 25 = .ok (.getfield 21, 3)) ∧ (decode cX7_wrongAt 28 = .ok (.iload_n 1, 1)) ∧ (decode cX7_wrongAt 29 = .ok (.aaload, 1)) ∧ (decode cX7_wrongAt 30 = .ok (.iload 4, 2)) ∧ (decode cX7_wrongAt 32 = .ok (.laload, 1)) ∧ (decode cX7_wrongAt 33 = .ok (.lcmp, 1)) ∧ (decode cX7_wrongAt 34 = .ok (.ifCond .ne 27, 3)) := by decide +kernel
theorem dX7_wrongAt_20 : decode cX7_wrongAt 20 = .ok (.iload_n 1, 1) := qd4_112.1
theorem dX7_wrongAt_21 : decode cX7_wrongAt 21 = .ok (.aaload, 1) := qd4_112.2.1
theorem dX7_wrongAt_22 : decode cX7_wrongAt 22 = .ok (.iload_n 3, 1) := qd4_112.2.2.1
theorem dX7_wrongAt_23 : decode cX7_wrongAt 23 = .ok (.laload, 1) := qd4_112.2.2.2.1
theorem dX7_wrongAt_24 : decode cX7_wrongAt 24 = .ok (.aload_n 0, 1) := qd4_112.2.2.2.2.1
theorem dX7_wrongAt_25 : decode cX7_wrongAt 25 = .ok (.getfield 21, 3) := qd4_112.2.2.2.2.2.1
theorem dX7_wrongAt_28 : decode cX7_wrongAt 28 = .ok (.iload_n 1, 1) := qd4_112.2.2.2.2.2.2.1
theorem dX7_wrongAt_29 : decode cX7_wrongAt 29 = .ok (.aaload, 1) := qd4_112.2.2.2.2.2.2.2.1
theorem dX7_wrongAt_30 : decode cX7_wrongAt 30 = .ok (.iload 4, 2) := qd4_112.2.2.2.2.2.2.2.2.1
theorem dX7_wrongAt_32 : decode cX7_wrongAt 32 = .ok (.laload, 1) := qd4_112.2.2.2.2.2.2.2.2.2.1
theorem dX7_wrongAt_33 : decode cX7_wrongAt 33 = .ok (.lcmp, 1) := qd4_112.2.2.2.2.2.2.2.2.2.2.1
theorem dX7_wrongAt_34 : decode cX7_wrongAt 34 = .ok (.ifCond .ne 27, 3) := qd4_112.2.2.2.2.2.2.2.2.2.2.2
theorem qd4_113 : (decode cX7_wrongAt 37 = .ok (.aload_n 0, 1)) ∧ (decode cX7_wrongAt 38 = .ok (.getfield 21, 3)) ∧ (decode cX7_wrongAt 41 = .ok (.iload_n 1, 1)) ∧ (decode cX7_wrongAt 42 = .ok (.aaload, 1)) ∧ (decode cX7_wrongAt 43 = .ok (.iload_n 3, 1)) ∧ (decode cX7_wrongAt 44 = .ok (.laload, 1)) ∧ (decode cX7_wrongAt 45 = .ok (.lconst 0, 1)) ∧ (decode cX7_wrongAt 46 = .ok (.aload_n 0, 1)) ∧ (decode cX7_wrongAt 47 = .ok (.getfield 85, 3)) ∧ (decode cX7_wrongAt 50 = .ok (.iconst 1, 1)) ∧ (decode cX7_wrongAt 51 = .ok (.isub, 1)) ∧ (decode cX7_wrongAt 52 = .ok (.i2l, 1)) := by decide +kernel
theorem dX7_wrongAt_37 : decode cX7_wrongAt 37 = .ok (.aload_n 0, 1) := qd4_113.1
theorem dX7_wrongAt_38 : decode cX7_wrongAt 38 = .ok (.getfield 21, 3) := qd4_113.2.1
theorem dX7_wrongAt_41 : decode cX7_wrongAt 41 = .ok (.iload_n 1, 1) := qd4_113.2.2.1
theorem dX7_wrongAt_42 : decode cX7_wrongAt 42 = .ok (.aaload, 1) := qd4_113.2.2.2.1
theorem dX7_wrongAt_43 : decode cX7_wrongAt 43 = .ok (.iload_n 3, 1) := qd4_113.2.2.2.2.1
theorem dX7_wrongAt_44 : decode cX7_wrongAt 44 = .ok (.laload, 1) := qd4_113.2.2.2.2.2.1
theorem dX7_wrongAt_45 : decode cX7_wrongAt 45 = .ok (.lconst 0, 1) := qd4_113.2.2.2.2.2.2.1
theorem dX7_wrongAt_46 : decode cX7_wrongAt 46 = .ok (.aload_n 0, 1) := qd4_113.2.2.2.2.2.2.2.1
theorem dX7_wrongAt_47 : decode cX7_wrongAt 47 = .ok (.getfield 85, 3) := qd4_113.2.2.2.2.2.2.2.2.1
theorem dX7_wrongAt_50 : decode cX7_wrongAt 50 = .ok (.iconst 1, 1) := qd4_113.2.2.2.2.2.2.2.2.2.1
theorem dX7_wrongAt_51 : decode cX7_wrongAt 51 = .ok (.isub, 1) := qd4_113.2.2.2.2.2.2.2.2.2.2.1
theorem dX7_wrongAt_52 : decode cX7_wrongAt 52 = .ok (.i2l, 1) := qd4_113.2.2.2.2.2.2.2.2.2.2.2
theorem qd4_114 : (decode cX7_wrongAt 53 = .ok (.invokestatic 78, 3)) ∧ (decode cX7_wrongAt 56 = .ok (.ifCond .eq 5, 3)) ∧ (decode cX7_wrongAt 59 = .ok (.iload_n 3, 1)) ∧ (decode cX7_wrongAt 60 = .ok (.ireturn, 1)) ∧ (decode cX7_wrongAt 61 = .ok (.iinc 4 1, 3)) ∧ (decode cX7_wrongAt 64 = .ok (.goto (-54), 3)) ∧ (decode cX7_wrongAt 67 = .ok (.iinc 3 1, 3)) ∧ (decode cX7_wrongAt 70 = .ok (.goto (-68), 3)) ∧ (decode cX7_wrongAt 73 = .ok (.iconst (-1), 1)) ∧ (decode cX7_wrongAt 74 = .ok (.ireturn, 1)) := by decide +kernel
theorem dX7_wrongAt_53 : decode cX7_wrongAt 53 = .ok (.invokestatic 78, 3) := qd4_114.1
theorem dX7_wrongAt_56 : decode cX7_wrongAt 56 = .ok (.ifCond .eq 5, 3) := qd4_114.2.1
theorem dX7_wrongAt_59 : decode cX7_wrongAt 59 = .ok (.iload_n 3, 1) := qd4_114.2.2.1
theorem dX7_wrongAt_60 : decode cX7_wrongAt 60 = .ok (.ireturn, 1) := qd4_114.2.2.2.1
theorem dX7_wrongAt_61 : decode cX7_wrongAt 61 = .ok (.iinc 4 1, 3) := qd4_114.2.2.2.2.1
theorem dX7_wrongAt_64 : decode cX7_wrongAt 64 = .ok (.goto (-54), 3) := qd4_114.2.2.2.2.2.1
theorem dX7_wrongAt_67 : decode cX7_wrongAt 67 = .ok (.iinc 3 1, 3) := qd4_114.2.2.2.2.2.2.1
theorem dX7_wrongAt_70 : decode cX7_wrongAt 70 = .ok (.goto (-68), 3) := qd4_114.2.2.2.2.2.2.2.1
theorem dX7_wrongAt_73 : decode cX7_wrongAt 73 = .ok (.iconst (-1), 1) := qd4_114.2.2.2.2.2.2.2.2.1
theorem dX7_wrongAt_74 : decode cX7_wrongAt 74 = .ok (.ireturn, 1) := qd4_114.2.2.2.2.2.2.2.2.2
theorem qd4_115 : (decode cX7_plan 0 = .ok (.aload_n 0, 1)) ∧ (decode cX7_plan 1 = .ok (.iload_n 1, 1)) ∧ (decode cX7_plan 2 = .ok (.iload_n 2, 1)) ∧ (decode cX7_plan 3 = .ok (.invokevirtual 328, 3)) ∧ (decode cX7_plan 6 = .ok (.istore_n 3, 1)) ∧ (decode cX7_plan 7 = .ok (.iload_n 3, 1)) ∧ (decode cX7_plan 8 = .ok (.ifCond .eq 5, 3)) ∧ (decode cX7_plan 11 = .ok (.iload_n 3, 1)) ∧ (decode cX7_plan 12 = .ok (.ireturn, 1)) ∧ (decode cX7_plan 13 = .ok (.aload_n 0, 1)) ∧ (decode cX7_plan 14 = .ok (.iload_n 1, 1)) ∧ (decode cX7_plan 15 = .ok (.iload_n 2, 1)) := by decide +kernel
theorem dX7_plan_0 : decode cX7_plan 0 = .ok (.aload_n 0, 1) := qd4_115.1
theorem dX7_plan_1 : decode cX7_plan 1 = .ok (.iload_n 1, 1) := qd4_115.2.1
theorem dX7_plan_2 : decode cX7_plan 2 = .ok (.iload_n 2, 1) := qd4_115.2.2.1
theorem dX7_plan_3 : decode cX7_plan 3 = .ok (.invokevirtual 328, 3) := qd4_115.2.2.2.1
theorem dX7_plan_6 : decode cX7_plan 6 = .ok (.istore_n 3, 1) := qd4_115.2.2.2.2.1
theorem dX7_plan_7 : decode cX7_plan 7 = .ok (.iload_n 3, 1) := qd4_115.2.2.2.2.2.1
theorem dX7_plan_8 : decode cX7_plan 8 = .ok (.ifCond .eq 5, 3) := qd4_115.2.2.2.2.2.2.1
theorem dX7_plan_11 : decode cX7_plan 11 = .ok (.iload_n 3, 1) := qd4_115.2.2.2.2.2.2.2.1
theorem dX7_plan_12 : decode cX7_plan 12 = .ok (.ireturn, 1) := qd4_115.2.2.2.2.2.2.2.2.1
theorem dX7_plan_13 : decode cX7_plan 13 = .ok (.aload_n 0, 1) := qd4_115.2.2.2.2.2.2.2.2.2.1
theorem dX7_plan_14 : decode cX7_plan 14 = .ok (.iload_n 1, 1) := qd4_115.2.2.2.2.2.2.2.2.2.2.1
theorem dX7_plan_15 : decode cX7_plan 15 = .ok (.iload_n 2, 1) := qd4_115.2.2.2.2.2.2.2.2.2.2.2
theorem qd4_116 : (decode cX7_plan 16 = .ok (.invokevirtual 331, 3)) ∧ (decode cX7_plan 19 = .ok (.iconst (-1), 1)) ∧ (decode cX7_plan 20 = .ok (.if_icmp .eq 10, 3)) ∧ (decode cX7_plan 23 = .ok (.aload_n 0, 1)) ∧ (decode cX7_plan 24 = .ok (.bipush (-5), 2)) ∧ (decode cX7_plan 26 = .ok (.invokevirtual 94, 3)) ∧ (decode cX7_plan 29 = .ok (.ireturn, 1)) ∧ (decode cX7_plan 30 = .ok (.aload_n 0, 1)) ∧ (decode cX7_plan 31 = .ok (.invokevirtual 238, 3)) ∧ (decode cX7_plan 34 = .ok (.astore 4, 2)) ∧ (decode cX7_plan 36 = .ok (.iconst 0, 1)) ∧ (decode cX7_plan 37 = .ok (.istore 5, 2)) := by decide +kernel
theorem dX7_plan_16 : decode cX7_plan 16 = .ok (.invokevirtual 331, 3) := qd4_116.1
theorem dX7_plan_19 : decode cX7_plan 19 = .ok (.iconst (-1), 1) := qd4_116.2.1
theorem dX7_plan_20 : decode cX7_plan 20 = .ok (.if_icmp .eq 10, 3) := qd4_116.2.2.1
theorem dX7_plan_23 : decode cX7_plan 23 = .ok (.aload_n 0, 1) := qd4_116.2.2.2.1
theorem dX7_plan_24 : decode cX7_plan 24 = .ok (.bipush (-5), 2) := qd4_116.2.2.2.2.1
theorem dX7_plan_26 : decode cX7_plan 26 = .ok (.invokevirtual 94, 3) := qd4_116.2.2.2.2.2.1
theorem dX7_plan_29 : decode cX7_plan 29 = .ok (.ireturn, 1) := qd4_116.2.2.2.2.2.2.1
theorem dX7_plan_30 : decode cX7_plan 30 = .ok (.aload_n 0, 1) := qd4_116.2.2.2.2.2.2.2.1
theorem dX7_plan_31 : decode cX7_plan 31 = .ok (.invokevirtual 238, 3) := qd4_116.2.2.2.2.2.2.2.2.1
theorem dX7_plan_34 : decode cX7_plan 34 = .ok (.astore 4, 2) := qd4_116.2.2.2.2.2.2.2.2.2.1
theorem dX7_plan_36 : decode cX7_plan 36 = .ok (.iconst 0, 1) := qd4_116.2.2.2.2.2.2.2.2.2.2.1
theorem dX7_plan_37 : decode cX7_plan 37 = .ok (.istore 5, 2) := qd4_116.2.2.2.2.2.2.2.2.2.2.2
theorem qd4_117 : (decode cX7_plan 39 = .ok (.iconst 0, 1)) ∧ (decode cX7_plan 40 = .ok (.istore 6, 2)) ∧ (decode cX7_plan 42 = .ok (.iload 6, 2)) ∧ (decode cX7_plan 44 = .ok (.iload_n 2, 1)) ∧ (decode cX7_plan 45 = .ok (.if_icmp .ge 101, 3)) ∧ (decode cX7_plan 48 = .ok (.aload_n 0, 1)) ∧ (decode cX7_plan 49 = .ok (.getfield 21, 3)) ∧ (decode cX7_plan 52 = .ok (.iload_n 1, 1)) ∧ (decode cX7_plan 53 = .ok (.aaload, 1)) ∧ (decode cX7_plan 54 = .ok (.iload 6, 2)) ∧ (decode cX7_plan 56 = .ok (.laload, 1)) ∧ (decode cX7_plan 57 = .ok (.lconst 0, 1)) := by decide +kernel
theorem dX7_plan_39 : decode cX7_plan 39 = .ok (.iconst 0, 1) := qd4_117.1
theorem dX7_plan_40 : decode cX7_plan 40 = .ok (.istore 6, 2) := qd4_117.2.1
theorem dX7_plan_42 : decode cX7_plan 42 = .ok (.iload 6, 2) := qd4_117.2.2.1
theorem dX7_plan_44 : decode cX7_plan 44 = .ok (.iload_n 2, 1) := qd4_117.2.2.2.1
theorem dX7_plan_45 : decode cX7_plan 45 = .ok (.if_icmp .ge 101, 3) := qd4_117.2.2.2.2.1
theorem dX7_plan_48 : decode cX7_plan 48 = .ok (.aload_n 0, 1) := qd4_117.2.2.2.2.2.1
theorem dX7_plan_49 : decode cX7_plan 49 = .ok (.getfield 21, 3) := qd4_117.2.2.2.2.2.2.1
theorem dX7_plan_52 : decode cX7_plan 52 = .ok (.iload_n 1, 1) := qd4_117.2.2.2.2.2.2.2.1
theorem dX7_plan_53 : decode cX7_plan 53 = .ok (.aaload, 1) := qd4_117.2.2.2.2.2.2.2.2.1
theorem dX7_plan_54 : decode cX7_plan 54 = .ok (.iload 6, 2) := qd4_117.2.2.2.2.2.2.2.2.2.1
theorem dX7_plan_56 : decode cX7_plan 56 = .ok (.laload, 1) := qd4_117.2.2.2.2.2.2.2.2.2.2.1
theorem dX7_plan_57 : decode cX7_plan 57 = .ok (.lconst 0, 1) := qd4_117.2.2.2.2.2.2.2.2.2.2.2
theorem qd4_118 : (decode cX7_plan 58 = .ok (.aload_n 0, 1)) ∧ (decode cX7_plan 59 = .ok (.getfield 85, 3)) ∧ (decode cX7_plan 62 = .ok (.iconst 1, 1)) ∧ (decode cX7_plan 63 = .ok (.isub, 1)) ∧ (decode cX7_plan 64 = .ok (.i2l, 1)) ∧ (decode cX7_plan 65 = .ok (.invokestatic 78, 3)) ∧ (decode cX7_plan 68 = .ok (.ifCond .eq 62, 3)) ∧ (decode cX7_plan 71 = .ok (.aload 4, 2)) ∧ (decode cX7_plan 73 = .ok (.getfield 51, 3)) ∧ (decode cX7_plan 76 = .ok (.aload_n 0, 1)) ∧ (decode cX7_plan 77 = .ok (.getfield 21, 3)) ∧ (decode cX7_plan 80 = .ok (.iload_n 1, 1)) := by decide +kernel
theorem dX7_plan_58 : decode cX7_plan 58 = .ok (.aload_n 0, 1) := qd4_118.1
theorem dX7_plan_59 : decode cX7_plan 59 = .ok (.getfield 85, 3) := qd4_118.2.1
theorem dX7_plan_62 : decode cX7_plan 62 = .ok (.iconst 1, 1) := qd4_118.2.2.1
theorem dX7_plan_63 : decode cX7_plan 63 = .ok (.isub, 1) := qd4_118.2.2.2.1
theorem dX7_plan_64 : decode cX7_plan 64 = .ok (.i2l, 1) := qd4_118.2.2.2.2.1
theorem dX7_plan_65 : decode cX7_plan 65 = .ok (.invokestatic 78, 3) := qd4_118.2.2.2.2.2.1
theorem dX7_plan_68 : decode cX7_plan 68 = .ok (.ifCond .eq 62, 3) := qd4_118.2.2.2.2.2.2.1
theorem dX7_plan_71 : decode cX7_plan 71 = .ok (.aload 4, 2) := qd4_118.2.2.2.2.2.2.2.1
theorem dX7_plan_73 : decode cX7_plan 73 = .ok (.getfield 51, 3) := qd4_118.2.2.2.2.2.2.2.2.1
theorem dX7_plan_76 : decode cX7_plan 76 = .ok (.aload_n 0, 1) := qd4_118.2.2.2.2.2.2.2.2.2.1
theorem dX7_plan_77 : decode cX7_plan 77 = .ok (.getfield 21, 3) := qd4_118.2.2.2.2.2.2.2.2.2.2.1
theorem dX7_plan_80 : decode cX7_plan 80 = .ok (.iload_n 1, 1) := qd4_118.2.2.2.2.2.2.2.2.2.2.2
theorem qd4_119 : (decode cX7_plan 81 = .ok (.aaload, 1)) ∧ (decode cX7_plan 82 = .ok (.iload 6, 2)) ∧ (decode cX7_plan 84 = .ok (.laload, 1)) ∧ (decode cX7_plan 85 = .ok (.l2i, 1)) ∧ (decode cX7_plan 86 = .ok (.aaload, 1)) ∧ (decode cX7_plan 87 = .ok (.iconst 4, 1)) ∧ (decode cX7_plan 88 = .ok (.iaload, 1)) ∧ (decode cX7_plan 89 = .ok (.ifCond .ne 41, 3)) ∧ (decode cX7_plan 92 = .ok (.iload 5, 2)) ∧ (decode cX7_plan 94 = .ok (.aload 4, 2)) ∧ (decode cX7_plan 96 = .ok (.getfield 51, 3)) ∧ (decode cX7_plan 99 = .ok (.aload_n 0, 1)) := by decide +kernel
theorem dX7_plan_81 : decode cX7_plan 81 = .ok (.aaload, 1) := qd4_119.1
theorem dX7_plan_82 : decode cX7_plan 82 = .ok (.iload 6, 2) := qd4_119.2.1
theorem dX7_plan_84 : decode cX7_plan 84 = .ok (.laload, 1) := qd4_119.2.2.1
theorem dX7_plan_85 : decode cX7_plan 85 = .ok (.l2i, 1) := qd4_119.2.2.2.1
theorem dX7_plan_86 : decode cX7_plan 86 = .ok (.aaload, 1) := qd4_119.2.2.2.2.1
theorem dX7_plan_87 : decode cX7_plan 87 = .ok (.iconst 4, 1) := qd4_119.2.2.2.2.2.1
theorem dX7_plan_88 : decode cX7_plan 88 = .ok (.iaload, 1) := qd4_119.2.2.2.2.2.2.1
theorem dX7_plan_89 : decode cX7_plan 89 = .ok (.ifCond .ne 41, 3) := qd4_119.2.2.2.2.2.2.2.1
theorem dX7_plan_92 : decode cX7_plan 92 = .ok (.iload 5, 2) := qd4_119.2.2.2.2.2.2.2.2.1
theorem dX7_plan_94 : decode cX7_plan 94 = .ok (.aload 4, 2) := qd4_119.2.2.2.2.2.2.2.2.2.1
theorem dX7_plan_96 : decode cX7_plan 96 = .ok (.getfield 51, 3) := qd4_119.2.2.2.2.2.2.2.2.2.2.1
theorem dX7_plan_99 : decode cX7_plan 99 = .ok (.aload_n 0, 1) := qd4_119.2.2.2.2.2.2.2.2.2.2.2
theorem qd4_120 : (decode cX7_plan 100 = .ok (.getfield 21, 3)) ∧ (decode cX7_plan 103 = .ok (.iload_n 1, 1)) ∧ (decode cX7_plan 104 = .ok (.aaload, 1)) ∧ (decode cX7_plan 105 = .ok (.iload 6, 2)) ∧ (decode cX7_plan 107 = .ok (.laload, 1)) ∧ (decode cX7_plan 108 = .ok (.l2i, 1)) ∧ (decode cX7_plan 109 = .ok (.aaload, 1)) ∧ (decode cX7_plan 110 = .ok (.iconst 3, 1)) ∧ (decode cX7_plan 111 = .ok (.iaload, 1)) ∧ (decode cX7_plan 112 = .ok (.iadd, 1)) ∧ (decode cX7_plan 113 = .ok (.istore 5, 2)) ∧ (decode cX7_plan 115 = .ok (.aload 4, 2)) := by decide +kernel
theorem dX7_plan_100 : decode cX7_plan 100 = .ok (.getfield 21, 3) := qd4_120.1
theorem dX7_plan_103 : decode cX7_plan 103 = .ok (.iload_n 1, 1) := qd4_120.2.1
theorem dX7_plan_104 : decode cX7_plan 104 = .ok (.aaload, 1) := qd4_120.2.2.1
theorem dX7_plan_105 : decode cX7_plan 105 = .ok (.iload 6, 2) := qd4_120.2.2.2.1
theorem dX7_plan_107 : decode cX7_plan 107 = .ok (.laload, 1) := qd4_120.2.2.2.2.1
theorem dX7_plan_108 : decode cX7_plan 108 = .ok (.l2i, 1) := qd4_120.2.2.2.2.2.1
theorem dX7_plan_109 : decode cX7_plan 109 = .ok (.aaload, 1) := qd4_120.2.2.2.2.2.2.1
theorem dX7_plan_110 : decode cX7_plan 110 = .ok (.iconst 3, 1) := qd4_120.2.2.2.2.2.2.2.1
theorem dX7_plan_111 : decode cX7_plan 111 = .ok (.iaload, 1) := qd4_120.2.2.2.2.2.2.2.2.1
theorem dX7_plan_112 : decode cX7_plan 112 = .ok (.iadd, 1) := qd4_120.2.2.2.2.2.2.2.2.2.1
theorem dX7_plan_113 : decode cX7_plan 113 = .ok (.istore 5, 2) := qd4_120.2.2.2.2.2.2.2.2.2.2.1
theorem dX7_plan_115 : decode cX7_plan 115 = .ok (.aload 4, 2) := qd4_120.2.2.2.2.2.2.2.2.2.2.2
theorem qd4_121 : (decode cX7_plan 117 = .ok (.aload_n 0, 1)) ∧ (decode cX7_plan 118 = .ok (.getfield 21, 3)) ∧ (decode cX7_plan 121 = .ok (.iload_n 1, 1)) ∧ (decode cX7_plan 122 = .ok (.aaload, 1)) ∧ (decode cX7_plan 123 = .ok (.iload 6, 2)) ∧ (decode cX7_plan 125 = .ok (.laload, 1)) ∧ (decode cX7_plan 126 = .ok (.l2i, 1)) ∧ (decode cX7_plan 127 = .ok (.invokevirtual 296, 3)) ∧ (decode cX7_plan 130 = .ok (.iload 5, 2)) ∧ (decode cX7_plan 132 = .ok (.aload 4, 2)) ∧ (decode cX7_plan 134 = .ok (.invokevirtual 288, 3)) ∧ (decode cX7_plan 137 = .ok (.iadd, 1)) := by decide +kernel
theorem dX7_plan_117 : decode cX7_plan 117 = .ok (.aload_n 0, 1) := qd4_121.1
theorem dX7_plan_118 : decode cX7_plan 118 = .ok (.getfield 21, 3) := qd4_121.2.1
theorem dX7_plan_121 : decode cX7_plan 121 = .ok (.iload_n 1, 1) := qd4_121.2.2.1
theorem dX7_plan_122 : decode cX7_plan 122 = .ok (.aaload, 1) := qd4_121.2.2.2.1
theorem dX7_plan_123 : decode cX7_plan 123 = .ok (.iload 6, 2) := qd4_121.2.2.2.2.1
theorem dX7_plan_125 : decode cX7_plan 125 = .ok (.laload, 1) := qd4_121.2.2.2.2.2.1
theorem dX7_plan_126 : decode cX7_plan 126 = .ok (.l2i, 1) := qd4_121.2.2.2.2.2.2.1
theorem dX7_plan_127 : decode cX7_plan 127 = .ok (.invokevirtual 296, 3) := qd4_121.2.2.2.2.2.2.2.1
theorem dX7_plan_130 : decode cX7_plan 130 = .ok (.iload 5, 2) := qd4_121.2.2.2.2.2.2.2.2.1
theorem dX7_plan_132 : decode cX7_plan 132 = .ok (.aload 4, 2) := qd4_121.2.2.2.2.2.2.2.2.2.1
theorem dX7_plan_134 : decode cX7_plan 134 = .ok (.invokevirtual 288, 3) := qd4_121.2.2.2.2.2.2.2.2.2.2.1
theorem dX7_plan_137 : decode cX7_plan 137 = .ok (.iadd, 1) := qd4_121.2.2.2.2.2.2.2.2.2.2.2
theorem qd4_122 : (decode cX7_plan 138 = .ok (.istore 5, 2)) ∧ (decode cX7_plan 140 = .ok (.iinc 6 1, 3)) ∧ (decode cX7_plan 143 = .ok (.goto (-101), 3)) ∧ (decode cX7_plan 146 = .ok (.iload 5, 2)) ∧ (decode cX7_plan 148 = .ok (.ireturn, 1)) := by decide +kernel
theorem dX7_plan_138 : decode cX7_plan 138 = .ok (.istore 5, 2) := qd4_122.1
theorem dX7_plan_140 : decode cX7_plan 140 = .ok (.iinc 6 1, 3) := qd4_122.2.1
theorem dX7_plan_143 : decode cX7_plan 143 = .ok (.goto (-101), 3) := qd4_122.2.2.1
theorem dX7_plan_146 : decode cX7_plan 146 = .ok (.iload 5, 2) := qd4_122.2.2.2.1
theorem dX7_plan_148 : decode cX7_plan 148 = .ok (.ireturn, 1) := qd4_122.2.2.2.2
theorem qd4_123 : (decode cX7_judge 0 = .ok (.aload_n 0, 1)) ∧ (decode cX7_judge 1 = .ok (.iload_n 1, 1)) ∧ (decode cX7_judge 2 = .ok (.iload_n 2, 1)) ∧ (decode cX7_judge 3 = .ok (.invokevirtual 328, 3)) ∧ (decode cX7_judge 6 = .ok (.istore_n 3, 1)) ∧ (decode cX7_judge 7 = .ok (.iload_n 3, 1)) ∧ (decode cX7_judge 8 = .ok (.ifCond .eq 7, 3)) ∧ (decode cX7_judge 11 = .ok (.iload_n 3, 1)) ∧ (decode cX7_judge 12 = .ok (.goto 9, 3)) ∧ (decode cX7_judge 15 = .ok (.aload_n 0, 1)) ∧ (decode cX7_judge 16 = .ok (.iload_n 1, 1)) ∧ (decode cX7_judge 17 = .ok (.iload_n 2, 1)) := by decide +kernel
theorem dX7_judge_0 : decode cX7_judge 0 = .ok (.aload_n 0, 1) := qd4_123.1
theorem dX7_judge_1 : decode cX7_judge 1 = .ok (.iload_n 1, 1) := qd4_123.2.1
theorem dX7_judge_2 : decode cX7_judge 2 = .ok (.iload_n 2, 1) := qd4_123.2.2.1
theorem dX7_judge_3 : decode cX7_judge 3 = .ok (.invokevirtual 328, 3) := qd4_123.2.2.2.1
theorem dX7_judge_6 : decode cX7_judge 6 = .ok (.istore_n 3, 1) := qd4_123.2.2.2.2.1
theorem dX7_judge_7 : decode cX7_judge 7 = .ok (.iload_n 3, 1) := qd4_123.2.2.2.2.2.1
theorem dX7_judge_8 : decode cX7_judge 8 = .ok (.ifCond .eq 7, 3) := qd4_123.2.2.2.2.2.2.1
theorem dX7_judge_11 : decode cX7_judge 11 = .ok (.iload_n 3, 1) := qd4_123.2.2.2.2.2.2.2.1
theorem dX7_judge_12 : decode cX7_judge 12 = .ok (.goto 9, 3) := qd4_123.2.2.2.2.2.2.2.2.1
theorem dX7_judge_15 : decode cX7_judge 15 = .ok (.aload_n 0, 1) := qd4_123.2.2.2.2.2.2.2.2.2.1
theorem dX7_judge_16 : decode cX7_judge 16 = .ok (.iload_n 1, 1) := qd4_123.2.2.2.2.2.2.2.2.2.2.1
theorem dX7_judge_17 : decode cX7_judge 17 = .ok (.iload_n 2, 1) := qd4_123.2.2.2.2.2.2.2.2.2.2.2
theorem qd4_124 : (decode cX7_judge 18 = .ok (.invokevirtual 331, 3)) ∧ (decode cX7_judge 21 = .ok (.ireturn, 1)) := by decide +kernel
theorem dX7_judge_18 : decode cX7_judge 18 = .ok (.invokevirtual 331, 3) := qd4_124.1
theorem dX7_judge_21 : decode cX7_judge 21 = .ok (.ireturn, 1) := qd4_124.2
theorem qd4_125 : (decode cX7_goes 0 = .ok (.iload_n 1, 1)) ∧ (decode cX7_goes 1 = .ok (.iconst (-1), 1)) ∧ (decode cX7_goes 2 = .ok (.if_icmp .ne 7, 3)) ∧ (decode cX7_goes 5 = .ok (.iconst 0, 1)) ∧ (decode cX7_goes 6 = .ok (.goto 11, 3)) ∧ (decode cX7_goes 9 = .ok (.aload_n 0, 1)) ∧ (decode cX7_goes 10 = .ok (.getfield 51, 3)) ∧ (decode cX7_goes 13 = .ok (.iload_n 1, 1)) ∧ (decode cX7_goes 14 = .ok (.aaload, 1)) ∧ (decode cX7_goes 15 = .ok (.iconst 3, 1)) ∧ (decode cX7_goes 16 = .ok (.iaload, 1)) ∧ (decode cX7_goes 17 = .ok (.istore_n 2, 1)) := by decide +kernel
theorem dX7_goes_0 : decode cX7_goes 0 = .ok (.iload_n 1, 1) := qd4_125.1
theorem dX7_goes_1 : decode cX7_goes 1 = .ok (.iconst (-1), 1) := qd4_125.2.1
theorem dX7_goes_2 : decode cX7_goes 2 = .ok (.if_icmp .ne 7, 3) := qd4_125.2.2.1
theorem dX7_goes_5 : decode cX7_goes 5 = .ok (.iconst 0, 1) := qd4_125.2.2.2.1
theorem dX7_goes_6 : decode cX7_goes 6 = .ok (.goto 11, 3) := qd4_125.2.2.2.2.1
theorem dX7_goes_9 : decode cX7_goes 9 = .ok (.aload_n 0, 1) := qd4_125.2.2.2.2.2.1
theorem dX7_goes_10 : decode cX7_goes 10 = .ok (.getfield 51, 3) := qd4_125.2.2.2.2.2.2.1
theorem dX7_goes_13 : decode cX7_goes 13 = .ok (.iload_n 1, 1) := qd4_125.2.2.2.2.2.2.2.1
theorem dX7_goes_14 : decode cX7_goes 14 = .ok (.aaload, 1) := qd4_125.2.2.2.2.2.2.2.2.1
theorem dX7_goes_15 : decode cX7_goes 15 = .ok (.iconst 3, 1) := qd4_125.2.2.2.2.2.2.2.2.2.1
theorem dX7_goes_16 : decode cX7_goes 16 = .ok (.iaload, 1) := qd4_125.2.2.2.2.2.2.2.2.2.2.1
theorem dX7_goes_17 : decode cX7_goes 17 = .ok (.istore_n 2, 1) := qd4_125.2.2.2.2.2.2.2.2.2.2.2
theorem qd4_126 : (decode cX7_goes 18 = .ok (.iload_n 1, 1)) ∧ (decode cX7_goes 19 = .ok (.iconst (-1), 1)) ∧ (decode cX7_goes 20 = .ok (.if_icmp .eq 8, 3)) ∧ (decode cX7_goes 23 = .ok (.aload_n 0, 1)) ∧ (decode cX7_goes 24 = .ok (.iload_n 1, 1)) ∧ (decode cX7_goes 25 = .ok (.invokevirtual 296, 3)) ∧ (decode cX7_goes 28 = .ok (.iload_n 2, 1)) ∧ (decode cX7_goes 29 = .ok (.aload_n 0, 1)) ∧ (decode cX7_goes 30 = .ok (.invokevirtual 288, 3)) ∧ (decode cX7_goes 33 = .ok (.iadd, 1)) ∧ (decode cX7_goes 34 = .ok (.istore_n 2, 1)) ∧ (decode cX7_goes 35 = .ok (.aload_n 0, 1)) := by decide +kernel
theorem dX7_goes_18 : decode cX7_goes 18 = .ok (.iload_n 1, 1) := qd4_126.1
theorem dX7_goes_19 : decode cX7_goes 19 = .ok (.iconst (-1), 1) := qd4_126.2.1
theorem dX7_goes_20 : decode cX7_goes 20 = .ok (.if_icmp .eq 8, 3) := qd4_126.2.2.1
theorem dX7_goes_23 : decode cX7_goes 23 = .ok (.aload_n 0, 1) := qd4_126.2.2.2.1
theorem dX7_goes_24 : decode cX7_goes 24 = .ok (.iload_n 1, 1) := qd4_126.2.2.2.2.1
theorem dX7_goes_25 : decode cX7_goes 25 = .ok (.invokevirtual 296, 3) := qd4_126.2.2.2.2.2.1
theorem dX7_goes_28 : decode cX7_goes 28 = .ok (.iload_n 2, 1) := qd4_126.2.2.2.2.2.2.1
theorem dX7_goes_29 : decode cX7_goes 29 = .ok (.aload_n 0, 1) := qd4_126.2.2.2.2.2.2.2.1
theorem dX7_goes_30 : decode cX7_goes 30 = .ok (.invokevirtual 288, 3) := qd4_126.2.2.2.2.2.2.2.2.1
theorem dX7_goes_33 : decode cX7_goes 33 = .ok (.iadd, 1) := qd4_126.2.2.2.2.2.2.2.2.2.1
theorem dX7_goes_34 : decode cX7_goes 34 = .ok (.istore_n 2, 1) := qd4_126.2.2.2.2.2.2.2.2.2.2.1
theorem dX7_goes_35 : decode cX7_goes 35 = .ok (.aload_n 0, 1) := qd4_126.2.2.2.2.2.2.2.2.2.2.2
theorem qd4_127 : (decode cX7_goes 36 = .ok (.dup, 1)) ∧ (decode cX7_goes 37 = .ok (.getfield 334, 3)) ∧ (decode cX7_goes 40 = .ok (.iconst 1, 1)) ∧ (decode cX7_goes 41 = .ok (.iadd, 1)) ∧ (decode cX7_goes 42 = .ok (.putfield 334, 3)) ∧ (decode cX7_goes 45 = .ok (.aload_n 0, 1)) ∧ (decode cX7_goes 46 = .ok (.dup, 1)) ∧ (decode cX7_goes 47 = .ok (.getfield 337, 3)) ∧ (decode cX7_goes 50 = .ok (.iload_n 2, 1)) ∧ (decode cX7_goes 51 = .ok (.iadd, 1)) ∧ (decode cX7_goes 52 = .ok (.putfield 337, 3)) ∧ (decode cX7_goes 55 = .ok (.iload_n 2, 1)) := by decide +kernel
theorem dX7_goes_36 : decode cX7_goes 36 = .ok (.dup, 1) := qd4_127.1
theorem dX7_goes_37 : decode cX7_goes 37 = .ok (.getfield 334, 3) := qd4_127.2.1
theorem dX7_goes_40 : decode cX7_goes 40 = .ok (.iconst 1, 1) := qd4_127.2.2.1
theorem dX7_goes_41 : decode cX7_goes 41 = .ok (.iadd, 1) := qd4_127.2.2.2.1
theorem dX7_goes_42 : decode cX7_goes 42 = .ok (.putfield 334, 3) := qd4_127.2.2.2.2.1
theorem dX7_goes_45 : decode cX7_goes 45 = .ok (.aload_n 0, 1) := qd4_127.2.2.2.2.2.1
theorem dX7_goes_46 : decode cX7_goes 46 = .ok (.dup, 1) := qd4_127.2.2.2.2.2.2.1
theorem dX7_goes_47 : decode cX7_goes 47 = .ok (.getfield 337, 3) := qd4_127.2.2.2.2.2.2.2.1
theorem dX7_goes_50 : decode cX7_goes 50 = .ok (.iload_n 2, 1) := qd4_127.2.2.2.2.2.2.2.2.1
theorem dX7_goes_51 : decode cX7_goes 51 = .ok (.iadd, 1) := qd4_127.2.2.2.2.2.2.2.2.2.1
theorem dX7_goes_52 : decode cX7_goes 52 = .ok (.putfield 337, 3) := qd4_127.2.2.2.2.2.2.2.2.2.2.1
theorem dX7_goes_55 : decode cX7_goes 55 = .ok (.iload_n 2, 1) := qd4_127.2.2.2.2.2.2.2.2.2.2.2
theorem dX7_goes_56 : decode cX7_goes 56 = .ok (.ireturn, 1) := by decide +kernel
theorem qd4_128 : (decode cX7_year 0 = .ok (.iload_n 1, 1)) ∧ (decode cX7_year 1 = .ok (.iconst (-1), 1)) ∧ (decode cX7_year 2 = .ok (.if_icmp .eq 18, 3)) ∧ (decode cX7_year 5 = .ok (.aload_n 0, 1)) ∧ (decode cX7_year 6 = .ok (.iload_n 1, 1)) ∧ (decode cX7_year 7 = .ok (.invokevirtual 102, 3)) ∧ (decode cX7_year 10 = .ok (.ifCond .ne 10, 3)) ∧ (decode cX7_year 13 = .ok (.aload_n 0, 1)) ∧ (decode cX7_year 14 = .ok (.bipush (-2), 2)) ∧ (decode cX7_year 16 = .ok (.invokevirtual 94, 3)) ∧ (decode cX7_year 19 = .ok (.ireturn, 1)) ∧ (decode cX7_year 20 = .ok (.iload_n 1, 1)) := by decide +kernel
theorem dX7_year_0 : decode cX7_year 0 = .ok (.iload_n 1, 1) := qd4_128.1
theorem dX7_year_1 : decode cX7_year 1 = .ok (.iconst (-1), 1) := qd4_128.2.1
theorem dX7_year_2 : decode cX7_year 2 = .ok (.if_icmp .eq 18, 3) := qd4_128.2.2.1
theorem dX7_year_5 : decode cX7_year 5 = .ok (.aload_n 0, 1) := qd4_128.2.2.2.1
theorem dX7_year_6 : decode cX7_year 6 = .ok (.iload_n 1, 1) := qd4_128.2.2.2.2.1
theorem dX7_year_7 : decode cX7_year 7 = .ok (.invokevirtual 102, 3) := qd4_128.2.2.2.2.2.1
theorem dX7_year_10 : decode cX7_year 10 = .ok (.ifCond .ne 10, 3) := qd4_128.2.2.2.2.2.2.1
theorem dX7_year_13 : decode cX7_year 13 = .ok (.aload_n 0, 1) := qd4_128.2.2.2.2.2.2.2.1
theorem dX7_year_14 : decode cX7_year 14 = .ok (.bipush (-2), 2) := qd4_128.2.2.2.2.2.2.2.2.1
theorem dX7_year_16 : decode cX7_year 16 = .ok (.invokevirtual 94, 3) := qd4_128.2.2.2.2.2.2.2.2.2.1
theorem dX7_year_19 : decode cX7_year 19 = .ok (.ireturn, 1) := qd4_128.2.2.2.2.2.2.2.2.2.2.1
theorem dX7_year_20 : decode cX7_year 20 = .ok (.iload_n 1, 1) := qd4_128.2.2.2.2.2.2.2.2.2.2.2
theorem qd4_129 : (decode cX7_year 21 = .ok (.iconst (-1), 1)) ∧ (decode cX7_year 22 = .ok (.if_icmp .eq 22, 3)) ∧ (decode cX7_year 25 = .ok (.aload_n 0, 1)) ∧ (decode cX7_year 26 = .ok (.getfield 51, 3)) ∧ (decode cX7_year 29 = .ok (.iload_n 1, 1)) ∧ (decode cX7_year 30 = .ok (.aaload, 1)) ∧ (decode cX7_year 31 = .ok (.iconst 4, 1)) ∧ (decode cX7_year 32 = .ok (.iaload, 1)) ∧ (decode cX7_year 33 = .ok (.iconst 1, 1)) ∧ (decode cX7_year 34 = .ok (.if_icmp .ne 10, 3)) ∧ (decode cX7_year 37 = .ok (.aload_n 0, 1)) ∧ (decode cX7_year 38 = .ok (.bipush (-5), 2)) := by decide +kernel
theorem dX7_year_21 : decode cX7_year 21 = .ok (.iconst (-1), 1) := qd4_129.1
theorem dX7_year_22 : decode cX7_year 22 = .ok (.if_icmp .eq 22, 3) := qd4_129.2.1
theorem dX7_year_25 : decode cX7_year 25 = .ok (.aload_n 0, 1) := qd4_129.2.2.1
theorem dX7_year_26 : decode cX7_year 26 = .ok (.getfield 51, 3) := qd4_129.2.2.2.1
theorem dX7_year_29 : decode cX7_year 29 = .ok (.iload_n 1, 1) := qd4_129.2.2.2.2.1
theorem dX7_year_30 : decode cX7_year 30 = .ok (.aaload, 1) := qd4_129.2.2.2.2.2.1
theorem dX7_year_31 : decode cX7_year 31 = .ok (.iconst 4, 1) := qd4_129.2.2.2.2.2.2.1
theorem dX7_year_32 : decode cX7_year 32 = .ok (.iaload, 1) := qd4_129.2.2.2.2.2.2.2.1
theorem dX7_year_33 : decode cX7_year 33 = .ok (.iconst 1, 1) := qd4_129.2.2.2.2.2.2.2.2.1
theorem dX7_year_34 : decode cX7_year 34 = .ok (.if_icmp .ne 10, 3) := qd4_129.2.2.2.2.2.2.2.2.2.1
theorem dX7_year_37 : decode cX7_year 37 = .ok (.aload_n 0, 1) := qd4_129.2.2.2.2.2.2.2.2.2.2.1
theorem dX7_year_38 : decode cX7_year 38 = .ok (.bipush (-5), 2) := qd4_129.2.2.2.2.2.2.2.2.2.2.2
theorem qd4_130 : (decode cX7_year 40 = .ok (.invokevirtual 94, 3)) ∧ (decode cX7_year 43 = .ok (.ireturn, 1)) ∧ (decode cX7_year 44 = .ok (.aload_n 0, 1)) ∧ (decode cX7_year 45 = .ok (.iload_n 1, 1)) ∧ (decode cX7_year 46 = .ok (.invokevirtual 340, 3)) ∧ (decode cX7_year 49 = .ok (.ireturn, 1)) := by decide +kernel
theorem dX7_year_40 : decode cX7_year 40 = .ok (.invokevirtual 94, 3) := qd4_130.1
theorem dX7_year_43 : decode cX7_year 43 = .ok (.ireturn, 1) := qd4_130.2.1
theorem dX7_year_44 : decode cX7_year 44 = .ok (.aload_n 0, 1) := qd4_130.2.2.1
theorem dX7_year_45 : decode cX7_year 45 = .ok (.iload_n 1, 1) := qd4_130.2.2.2.1
theorem dX7_year_46 : decode cX7_year 46 = .ok (.invokevirtual 340, 3) := qd4_130.2.2.2.2.1
theorem dX7_year_49 : decode cX7_year 49 = .ok (.ireturn, 1) := qd4_130.2.2.2.2.2
theorem qd4_131 : (decode cX7_run 0 = .ok (.iload_n 1, 1)) ∧ (decode cX7_run 1 = .ok (.i2l, 1)) ∧ (decode cX7_run 2 = .ok (.lconst 1, 1)) ∧ (decode cX7_run 3 = .ok (.ldc2_w 343, 3)) ∧ (decode cX7_run 6 = .ok (.invokestatic 78, 3)) ∧ (decode cX7_run 9 = .ok (.ifCond .ne 10, 3)) ∧ (decode cX7_run 12 = .ok (.aload_n 0, 1)) ∧ (decode cX7_run 13 = .ok (.bipush (-2), 2)) ∧ (decode cX7_run 15 = .ok (.invokevirtual 94, 3)) ∧ (decode cX7_run 18 = .ok (.ireturn, 1)) ∧ (decode cX7_run 19 = .ok (.iconst 0, 1)) ∧ (decode cX7_run 20 = .ok (.istore_n 2, 1)) := by decide +kernel
theorem dX7_run_0 : decode cX7_run 0 = .ok (.iload_n 1, 1) := qd4_131.1
theorem dX7_run_1 : decode cX7_run 1 = .ok (.i2l, 1) := qd4_131.2.1
theorem dX7_run_2 : decode cX7_run 2 = .ok (.lconst 1, 1) := qd4_131.2.2.1
theorem dX7_run_3 : decode cX7_run 3 = .ok (.ldc2_w 343, 3) := qd4_131.2.2.2.1
theorem dX7_run_6 : decode cX7_run 6 = .ok (.invokestatic 78, 3) := qd4_131.2.2.2.2.1
theorem dX7_run_9 : decode cX7_run 9 = .ok (.ifCond .ne 10, 3) := qd4_131.2.2.2.2.2.1
theorem dX7_run_12 : decode cX7_run 12 = .ok (.aload_n 0, 1) := qd4_131.2.2.2.2.2.2.1
theorem dX7_run_13 : decode cX7_run 13 = .ok (.bipush (-2), 2) := qd4_131.2.2.2.2.2.2.2.1
theorem dX7_run_15 : decode cX7_run 15 = .ok (.invokevirtual 94, 3) := qd4_131.2.2.2.2.2.2.2.2.1
theorem dX7_run_18 : decode cX7_run 18 = .ok (.ireturn, 1) := qd4_131.2.2.2.2.2.2.2.2.2.1
theorem dX7_run_19 : decode cX7_run 19 = .ok (.iconst 0, 1) := qd4_131.2.2.2.2.2.2.2.2.2.2.1
theorem dX7_run_20 : decode cX7_run 20 = .ok (.istore_n 2, 1) := qd4_131.2.2.2.2.2.2.2.2.2.2.2
theorem qd4_132 : (decode cX7_run 21 = .ok (.iconst 0, 1)) ∧ (decode cX7_run 22 = .ok (.istore_n 3, 1)) ∧ (decode cX7_run 23 = .ok (.iload_n 3, 1)) ∧ (decode cX7_run 24 = .ok (.iload_n 1, 1)) ∧ (decode cX7_run 25 = .ok (.if_icmp .ge 20, 3)) ∧ (decode cX7_run 28 = .ok (.iload_n 2, 1)) ∧ (decode cX7_run 29 = .ok (.aload_n 0, 1)) ∧ (decode cX7_run 30 = .ok (.aload_n 0, 1)) ∧ (decode cX7_run 31 = .ok (.invokevirtual 313, 3)) ∧ (decode cX7_run 34 = .ok (.invokevirtual 340, 3)) ∧ (decode cX7_run 37 = .ok (.iadd, 1)) ∧ (decode cX7_run 38 = .ok (.istore_n 2, 1)) := by decide +kernel
theorem dX7_run_21 : decode cX7_run 21 = .ok (.iconst 0, 1) := qd4_132.1
theorem dX7_run_22 : decode cX7_run 22 = .ok (.istore_n 3, 1) := qd4_132.2.1
theorem dX7_run_23 : decode cX7_run 23 = .ok (.iload_n 3, 1) := qd4_132.2.2.1
theorem dX7_run_24 : decode cX7_run 24 = .ok (.iload_n 1, 1) := qd4_132.2.2.2.1
theorem dX7_run_25 : decode cX7_run 25 = .ok (.if_icmp .ge 20, 3) := qd4_132.2.2.2.2.1
theorem dX7_run_28 : decode cX7_run 28 = .ok (.iload_n 2, 1) := qd4_132.2.2.2.2.2.1
theorem dX7_run_29 : decode cX7_run 29 = .ok (.aload_n 0, 1) := qd4_132.2.2.2.2.2.2.1
theorem dX7_run_30 : decode cX7_run 30 = .ok (.aload_n 0, 1) := qd4_132.2.2.2.2.2.2.2.1
theorem dX7_run_31 : decode cX7_run 31 = .ok (.invokevirtual 313, 3) := qd4_132.2.2.2.2.2.2.2.2.1
theorem dX7_run_34 : decode cX7_run 34 = .ok (.invokevirtual 340, 3) := qd4_132.2.2.2.2.2.2.2.2.2.1
theorem dX7_run_37 : decode cX7_run 37 = .ok (.iadd, 1) := qd4_132.2.2.2.2.2.2.2.2.2.2.1
theorem dX7_run_38 : decode cX7_run 38 = .ok (.istore_n 2, 1) := qd4_132.2.2.2.2.2.2.2.2.2.2.2
theorem qd4_133 : (decode cX7_run 39 = .ok (.iinc 3 1, 3)) ∧ (decode cX7_run 42 = .ok (.goto (-19), 3)) ∧ (decode cX7_run 45 = .ok (.iload_n 2, 1)) ∧ (decode cX7_run 46 = .ok (.ireturn, 1)) := by decide +kernel
theorem dX7_run_39 : decode cX7_run 39 = .ok (.iinc 3 1, 3) := qd4_133.1
theorem dX7_run_42 : decode cX7_run 42 = .ok (.goto (-19), 3) := qd4_133.2.1
theorem dX7_run_45 : decode cX7_run 45 = .ok (.iload_n 2, 1) := qd4_133.2.2.1
theorem dX7_run_46 : decode cX7_run 46 = .ok (.ireturn, 1) := qd4_133.2.2.2
theorem qd4_134 : (decode cX7_over 0 = .ok (.iconst 0, 1)) ∧ (decode cX7_over 1 = .ok (.istore_n 2, 1)) ∧ (decode cX7_over 2 = .ok (.iload_n 2, 1)) ∧ (decode cX7_over 3 = .ok (.aload_n 0, 1)) ∧ (decode cX7_over 4 = .ok (.arraylength, 1)) ∧ (decode cX7_over 5 = .ok (.if_icmp .ge 15, 3)) ∧ (decode cX7_over 8 = .ok (.aload_n 1, 1)) ∧ (decode cX7_over 9 = .ok (.iload_n 2, 1)) ∧ (decode cX7_over 10 = .ok (.aload_n 0, 1)) ∧ (decode cX7_over 11 = .ok (.iload_n 2, 1)) ∧ (decode cX7_over 12 = .ok (.iaload, 1)) ∧ (decode cX7_over 13 = .ok (.iastore, 1)) := by decide +kernel
theorem dX7_over_0 : decode cX7_over 0 = .ok (.iconst 0, 1) := qd4_134.1
theorem dX7_over_1 : decode cX7_over 1 = .ok (.istore_n 2, 1) := qd4_134.2.1
theorem dX7_over_2 : decode cX7_over 2 = .ok (.iload_n 2, 1) := qd4_134.2.2.1
theorem dX7_over_3 : decode cX7_over 3 = .ok (.aload_n 0, 1) := qd4_134.2.2.2.1
theorem dX7_over_4 : decode cX7_over 4 = .ok (.arraylength, 1) := qd4_134.2.2.2.2.1
theorem dX7_over_5 : decode cX7_over 5 = .ok (.if_icmp .ge 15, 3) := qd4_134.2.2.2.2.2.1
theorem dX7_over_8 : decode cX7_over 8 = .ok (.aload_n 1, 1) := qd4_134.2.2.2.2.2.2.1
theorem dX7_over_9 : decode cX7_over 9 = .ok (.iload_n 2, 1) := qd4_134.2.2.2.2.2.2.2.1
theorem dX7_over_10 : decode cX7_over 10 = .ok (.aload_n 0, 1) := qd4_134.2.2.2.2.2.2.2.2.1
theorem dX7_over_11 : decode cX7_over 11 = .ok (.iload_n 2, 1) := qd4_134.2.2.2.2.2.2.2.2.2.1
theorem dX7_over_12 : decode cX7_over 12 = .ok (.iaload, 1) := qd4_134.2.2.2.2.2.2.2.2.2.2.1
theorem dX7_over_13 : decode cX7_over 13 = .ok (.iastore, 1) := qd4_134.2.2.2.2.2.2.2.2.2.2.2
theorem qd4_135 : (decode cX7_over 14 = .ok (.iinc 2 1, 3)) ∧ (decode cX7_over 17 = .ok (.goto (-15), 3)) ∧ (decode cX7_over 20 = .ok (.return_, 1)) := by decide +kernel
theorem dX7_over_14 : decode cX7_over 14 = .ok (.iinc 2 1, 3) := qd4_135.1
theorem dX7_over_17 : decode cX7_over 17 = .ok (.goto (-15), 3) := qd4_135.2.1
theorem dX7_over_20 : decode cX7_over 20 = .ok (.return_, 1) := qd4_135.2.2
theorem qd4_136 : (decode cX7_overAll 0 = .ok (.iconst 0, 1)) ∧ (decode cX7_overAll 1 = .ok (.istore_n 2, 1)) ∧ (decode cX7_overAll 2 = .ok (.iload_n 2, 1)) ∧ (decode cX7_overAll 3 = .ok (.aload_n 0, 1)) ∧ (decode cX7_overAll 4 = .ok (.arraylength, 1)) ∧ (decode cX7_overAll 5 = .ok (.if_icmp .ge 18, 3)) ∧ (decode cX7_overAll 8 = .ok (.aload_n 0, 1)) ∧ (decode cX7_overAll 9 = .ok (.iload_n 2, 1)) ∧ (decode cX7_overAll 10 = .ok (.aaload, 1)) ∧ (decode cX7_overAll 11 = .ok (.aload_n 1, 1)) ∧ (decode cX7_overAll 12 = .ok (.iload_n 2, 1)) ∧ (decode cX7_overAll 13 = .ok (.aaload, 1)) := by decide +kernel
theorem dX7_overAll_0 : decode cX7_overAll 0 = .ok (.iconst 0, 1) := qd4_136.1
theorem dX7_overAll_1 : decode cX7_overAll 1 = .ok (.istore_n 2, 1) := qd4_136.2.1
theorem dX7_overAll_2 : decode cX7_overAll 2 = .ok (.iload_n 2, 1) := qd4_136.2.2.1
theorem dX7_overAll_3 : decode cX7_overAll 3 = .ok (.aload_n 0, 1) := qd4_136.2.2.2.1
theorem dX7_overAll_4 : decode cX7_overAll 4 = .ok (.arraylength, 1) := qd4_136.2.2.2.2.1
theorem dX7_overAll_5 : decode cX7_overAll 5 = .ok (.if_icmp .ge 18, 3) := qd4_136.2.2.2.2.2.1
theorem dX7_overAll_8 : decode cX7_overAll 8 = .ok (.aload_n 0, 1) := qd4_136.2.2.2.2.2.2.1
theorem dX7_overAll_9 : decode cX7_overAll 9 = .ok (.iload_n 2, 1) := qd4_136.2.2.2.2.2.2.2.1
theorem dX7_overAll_10 : decode cX7_overAll 10 = .ok (.aaload, 1) := qd4_136.2.2.2.2.2.2.2.2.1
theorem dX7_overAll_11 : decode cX7_overAll 11 = .ok (.aload_n 1, 1) := qd4_136.2.2.2.2.2.2.2.2.2.1
theorem dX7_overAll_12 : decode cX7_overAll 12 = .ok (.iload_n 2, 1) := qd4_136.2.2.2.2.2.2.2.2.2.2.1
theorem dX7_overAll_13 : decode cX7_overAll 13 = .ok (.aaload, 1) := qd4_136.2.2.2.2.2.2.2.2.2.2.2
theorem qd4_137 : (decode cX7_overAll 14 = .ok (.invokestatic 345, 3)) ∧ (decode cX7_overAll 17 = .ok (.iinc 2 1, 3)) ∧ (decode cX7_overAll 20 = .ok (.goto (-18), 3)) ∧ (decode cX7_overAll 23 = .ok (.return_, 1)) := by decide +kernel
theorem dX7_overAll_14 : decode cX7_overAll 14 = .ok (.invokestatic 345, 3) := qd4_137.1
theorem dX7_overAll_17 : decode cX7_overAll 17 = .ok (.iinc 2 1, 3) := qd4_137.2.1
theorem dX7_overAll_20 : decode cX7_overAll 20 = .ok (.goto (-18), 3) := qd4_137.2.2.1
theorem dX7_overAll_23 : decode cX7_overAll 23 = .ok (.return_, 1) := qd4_137.2.2.2
theorem qd4_138 : (decode cX7_takeFrom 0 = .ok (.aload_n 0, 1)) ∧ (decode cX7_takeFrom 1 = .ok (.aload_n 1, 1)) ∧ (decode cX7_takeFrom 2 = .ok (.getfield 82, 3)) ∧ (decode cX7_takeFrom 5 = .ok (.putfield 82, 3)) ∧ (decode cX7_takeFrom 8 = .ok (.aload_n 1, 1)) ∧ (decode cX7_takeFrom 9 = .ok (.getfield 39, 3)) ∧ (decode cX7_takeFrom 12 = .ok (.aload_n 0, 1)) ∧ (decode cX7_takeFrom 13 = .ok (.getfield 39, 3)) ∧ (decode cX7_takeFrom 16 = .ok (.invokestatic 349, 3)) ∧ (decode cX7_takeFrom 19 = .ok (.aload_n 1, 1)) ∧ (decode cX7_takeFrom 20 = .ok (.getfield 42, 3)) ∧ (decode cX7_takeFrom 23 = .ok (.aload_n 0, 1)) := by decide +kernel
theorem dX7_takeFrom_0 : decode cX7_takeFrom 0 = .ok (.aload_n 0, 1) := qd4_138.1
theorem dX7_takeFrom_1 : decode cX7_takeFrom 1 = .ok (.aload_n 1, 1) := qd4_138.2.1
theorem dX7_takeFrom_2 : decode cX7_takeFrom 2 = .ok (.getfield 82, 3) := qd4_138.2.2.1
theorem dX7_takeFrom_5 : decode cX7_takeFrom 5 = .ok (.putfield 82, 3) := qd4_138.2.2.2.1
theorem dX7_takeFrom_8 : decode cX7_takeFrom 8 = .ok (.aload_n 1, 1) := qd4_138.2.2.2.2.1
theorem dX7_takeFrom_9 : decode cX7_takeFrom 9 = .ok (.getfield 39, 3) := qd4_138.2.2.2.2.2.1
theorem dX7_takeFrom_12 : decode cX7_takeFrom 12 = .ok (.aload_n 0, 1) := qd4_138.2.2.2.2.2.2.1
theorem dX7_takeFrom_13 : decode cX7_takeFrom 13 = .ok (.getfield 39, 3) := qd4_138.2.2.2.2.2.2.2.1
theorem dX7_takeFrom_16 : decode cX7_takeFrom 16 = .ok (.invokestatic 349, 3) := qd4_138.2.2.2.2.2.2.2.2.1
theorem dX7_takeFrom_19 : decode cX7_takeFrom 19 = .ok (.aload_n 1, 1) := qd4_138.2.2.2.2.2.2.2.2.2.1
theorem dX7_takeFrom_20 : decode cX7_takeFrom 20 = .ok (.getfield 42, 3) := qd4_138.2.2.2.2.2.2.2.2.2.2.1
theorem dX7_takeFrom_23 : decode cX7_takeFrom 23 = .ok (.aload_n 0, 1) := qd4_138.2.2.2.2.2.2.2.2.2.2.2
theorem qd4_139 : (decode cX7_takeFrom 24 = .ok (.getfield 42, 3)) ∧ (decode cX7_takeFrom 27 = .ok (.invokestatic 345, 3)) ∧ (decode cX7_takeFrom 30 = .ok (.aload_n 1, 1)) ∧ (decode cX7_takeFrom 31 = .ok (.getfield 45, 3)) ∧ (decode cX7_takeFrom 34 = .ok (.aload_n 0, 1)) ∧ (decode cX7_takeFrom 35 = .ok (.getfield 45, 3)) ∧ (decode cX7_takeFrom 38 = .ok (.invokestatic 345, 3)) ∧ (decode cX7_takeFrom 41 = .ok (.aload_n 0, 1)) ∧ (decode cX7_takeFrom 42 = .ok (.aload_n 1, 1)) ∧ (decode cX7_takeFrom 43 = .ok (.getfield 125, 3)) ∧ (decode cX7_takeFrom 46 = .ok (.putfield 125, 3)) ∧ (decode cX7_takeFrom 49 = .ok (.aload_n 1, 1)) := by decide +kernel
theorem dX7_takeFrom_24 : decode cX7_takeFrom 24 = .ok (.getfield 42, 3) := qd4_139.1
theorem dX7_takeFrom_27 : decode cX7_takeFrom 27 = .ok (.invokestatic 345, 3) := qd4_139.2.1
theorem dX7_takeFrom_30 : decode cX7_takeFrom 30 = .ok (.aload_n 1, 1) := qd4_139.2.2.1
theorem dX7_takeFrom_31 : decode cX7_takeFrom 31 = .ok (.getfield 45, 3) := qd4_139.2.2.2.1
theorem dX7_takeFrom_34 : decode cX7_takeFrom 34 = .ok (.aload_n 0, 1) := qd4_139.2.2.2.2.1
theorem dX7_takeFrom_35 : decode cX7_takeFrom 35 = .ok (.getfield 45, 3) := qd4_139.2.2.2.2.2.1
theorem dX7_takeFrom_38 : decode cX7_takeFrom 38 = .ok (.invokestatic 345, 3) := qd4_139.2.2.2.2.2.2.1
theorem dX7_takeFrom_41 : decode cX7_takeFrom 41 = .ok (.aload_n 0, 1) := qd4_139.2.2.2.2.2.2.2.1
theorem dX7_takeFrom_42 : decode cX7_takeFrom 42 = .ok (.aload_n 1, 1) := qd4_139.2.2.2.2.2.2.2.2.1
theorem dX7_takeFrom_43 : decode cX7_takeFrom 43 = .ok (.getfield 125, 3) := qd4_139.2.2.2.2.2.2.2.2.2.1
theorem dX7_takeFrom_46 : decode cX7_takeFrom 46 = .ok (.putfield 125, 3) := qd4_139.2.2.2.2.2.2.2.2.2.2.1
theorem dX7_takeFrom_49 : decode cX7_takeFrom 49 = .ok (.aload_n 1, 1) := qd4_139.2.2.2.2.2.2.2.2.2.2.2
theorem qd4_140 : (decode cX7_takeFrom 50 = .ok (.getfield 48, 3)) ∧ (decode cX7_takeFrom 53 = .ok (.aload_n 0, 1)) ∧ (decode cX7_takeFrom 54 = .ok (.getfield 48, 3)) ∧ (decode cX7_takeFrom 57 = .ok (.invokestatic 349, 3)) ∧ (decode cX7_takeFrom 60 = .ok (.aload_n 0, 1)) ∧ (decode cX7_takeFrom 61 = .ok (.aload_n 1, 1)) ∧ (decode cX7_takeFrom 62 = .ok (.getfield 85, 3)) ∧ (decode cX7_takeFrom 65 = .ok (.putfield 85, 3)) ∧ (decode cX7_takeFrom 68 = .ok (.aload_n 1, 1)) ∧ (decode cX7_takeFrom 69 = .ok (.getfield 51, 3)) ∧ (decode cX7_takeFrom 72 = .ok (.aload_n 0, 1)) ∧ (decode cX7_takeFrom 73 = .ok (.getfield 51, 3)) := by decide +kernel
theorem dX7_takeFrom_50 : decode cX7_takeFrom 50 = .ok (.getfield 48, 3) := qd4_140.1
theorem dX7_takeFrom_53 : decode cX7_takeFrom 53 = .ok (.aload_n 0, 1) := qd4_140.2.1
theorem dX7_takeFrom_54 : decode cX7_takeFrom 54 = .ok (.getfield 48, 3) := qd4_140.2.2.1
theorem dX7_takeFrom_57 : decode cX7_takeFrom 57 = .ok (.invokestatic 349, 3) := qd4_140.2.2.2.1
theorem dX7_takeFrom_60 : decode cX7_takeFrom 60 = .ok (.aload_n 0, 1) := qd4_140.2.2.2.2.1
theorem dX7_takeFrom_61 : decode cX7_takeFrom 61 = .ok (.aload_n 1, 1) := qd4_140.2.2.2.2.2.1
theorem dX7_takeFrom_62 : decode cX7_takeFrom 62 = .ok (.getfield 85, 3) := qd4_140.2.2.2.2.2.2.1
theorem dX7_takeFrom_65 : decode cX7_takeFrom 65 = .ok (.putfield 85, 3) := qd4_140.2.2.2.2.2.2.2.1
theorem dX7_takeFrom_68 : decode cX7_takeFrom 68 = .ok (.aload_n 1, 1) := qd4_140.2.2.2.2.2.2.2.2.1
theorem dX7_takeFrom_69 : decode cX7_takeFrom 69 = .ok (.getfield 51, 3) := qd4_140.2.2.2.2.2.2.2.2.2.1
theorem dX7_takeFrom_72 : decode cX7_takeFrom 72 = .ok (.aload_n 0, 1) := qd4_140.2.2.2.2.2.2.2.2.2.2.1
theorem dX7_takeFrom_73 : decode cX7_takeFrom 73 = .ok (.getfield 51, 3) := qd4_140.2.2.2.2.2.2.2.2.2.2.2
theorem qd4_141 : (decode cX7_takeFrom 76 = .ok (.invokestatic 349, 3)) ∧ (decode cX7_takeFrom 79 = .ok (.aload_n 0, 1)) ∧ (decode cX7_takeFrom 80 = .ok (.aload_n 1, 1)) ∧ (decode cX7_takeFrom 81 = .ok (.getfield 54, 3)) ∧ (decode cX7_takeFrom 84 = .ok (.putfield 54, 3)) ∧ (decode cX7_takeFrom 87 = .ok (.aload_n 0, 1)) ∧ (decode cX7_takeFrom 88 = .ok (.aload_n 1, 1)) ∧ (decode cX7_takeFrom 89 = .ok (.getfield 334, 3)) ∧ (decode cX7_takeFrom 92 = .ok (.putfield 334, 3)) ∧ (decode cX7_takeFrom 95 = .ok (.aload_n 0, 1)) ∧ (decode cX7_takeFrom 96 = .ok (.aload_n 1, 1)) ∧ (decode cX7_takeFrom 97 = .ok (.getfield 337, 3)) := by decide +kernel
theorem dX7_takeFrom_76 : decode cX7_takeFrom 76 = .ok (.invokestatic 349, 3) := qd4_141.1
theorem dX7_takeFrom_79 : decode cX7_takeFrom 79 = .ok (.aload_n 0, 1) := qd4_141.2.1
theorem dX7_takeFrom_80 : decode cX7_takeFrom 80 = .ok (.aload_n 1, 1) := qd4_141.2.2.1
theorem dX7_takeFrom_81 : decode cX7_takeFrom 81 = .ok (.getfield 54, 3) := qd4_141.2.2.2.1
theorem dX7_takeFrom_84 : decode cX7_takeFrom 84 = .ok (.putfield 54, 3) := qd4_141.2.2.2.2.1
theorem dX7_takeFrom_87 : decode cX7_takeFrom 87 = .ok (.aload_n 0, 1) := qd4_141.2.2.2.2.2.1
theorem dX7_takeFrom_88 : decode cX7_takeFrom 88 = .ok (.aload_n 1, 1) := qd4_141.2.2.2.2.2.2.1
theorem dX7_takeFrom_89 : decode cX7_takeFrom 89 = .ok (.getfield 334, 3) := qd4_141.2.2.2.2.2.2.2.1
theorem dX7_takeFrom_92 : decode cX7_takeFrom 92 = .ok (.putfield 334, 3) := qd4_141.2.2.2.2.2.2.2.2.1
theorem dX7_takeFrom_95 : decode cX7_takeFrom 95 = .ok (.aload_n 0, 1) := qd4_141.2.2.2.2.2.2.2.2.2.1
theorem dX7_takeFrom_96 : decode cX7_takeFrom 96 = .ok (.aload_n 1, 1) := qd4_141.2.2.2.2.2.2.2.2.2.2.1
theorem dX7_takeFrom_97 : decode cX7_takeFrom 97 = .ok (.getfield 337, 3) := qd4_141.2.2.2.2.2.2.2.2.2.2.2
theorem qd4_142 : (decode cX7_takeFrom 100 = .ok (.putfield 337, 3)) ∧ (decode cX7_takeFrom 103 = .ok (.return_, 1)) := by decide +kernel
theorem dX7_takeFrom_100 : decode cX7_takeFrom 100 = .ok (.putfield 337, 3) := qd4_142.1
theorem dX7_takeFrom_103 : decode cX7_takeFrom 103 = .ok (.return_, 1) := qd4_142.2
theorem qd4_143 : (decode cX7_image 0 = .ok (.aload_n 0, 1)) ∧ (decode cX7_image 1 = .ok (.getfield 353, 3)) ∧ (decode cX7_image 4 = .ok (.ifnonnull 14, 3)) ∧ (decode cX7_image 7 = .ok (.aload_n 0, 1)) ∧ (decode cX7_image 8 = .ok (.new 8, 3)) ∧ (decode cX7_image 11 = .ok (.dup, 1)) ∧ (decode cX7_image 12 = .ok (.invokespecial 295, 3)) ∧ (decode cX7_image 15 = .ok (.putfield 353, 3)) ∧ (decode cX7_image 18 = .ok (.aload_n 0, 1)) ∧ (decode cX7_image 19 = .ok (.getfield 353, 3)) ∧ (decode cX7_image 22 = .ok (.aload_n 0, 1)) ∧ (decode cX7_image 23 = .ok (.invokevirtual 245, 3)) := by decide +kernel
theorem dX7_image_0 : decode cX7_image 0 = .ok (.aload_n 0, 1) := qd4_143.1
theorem dX7_image_1 : decode cX7_image 1 = .ok (.getfield 353, 3) := qd4_143.2.1
theorem dX7_image_4 : decode cX7_image 4 = .ok (.ifnonnull 14, 3) := qd4_143.2.2.1
theorem dX7_image_7 : decode cX7_image 7 = .ok (.aload_n 0, 1) := qd4_143.2.2.2.1
theorem dX7_image_8 : decode cX7_image 8 = .ok (.new 8, 3) := qd4_143.2.2.2.2.1
theorem dX7_image_11 : decode cX7_image 11 = .ok (.dup, 1) := qd4_143.2.2.2.2.2.1
theorem dX7_image_12 : decode cX7_image 12 = .ok (.invokespecial 295, 3) := qd4_143.2.2.2.2.2.2.1
theorem dX7_image_15 : decode cX7_image 15 = .ok (.putfield 353, 3) := qd4_143.2.2.2.2.2.2.2.1
theorem dX7_image_18 : decode cX7_image 18 = .ok (.aload_n 0, 1) := qd4_143.2.2.2.2.2.2.2.2.1
theorem dX7_image_19 : decode cX7_image 19 = .ok (.getfield 353, 3) := qd4_143.2.2.2.2.2.2.2.2.2.1
theorem dX7_image_22 : decode cX7_image 22 = .ok (.aload_n 0, 1) := qd4_143.2.2.2.2.2.2.2.2.2.2.1
theorem dX7_image_23 : decode cX7_image 23 = .ok (.invokevirtual 245, 3) := qd4_143.2.2.2.2.2.2.2.2.2.2.2
theorem qd4_144 : (decode cX7_image 26 = .ok (.iconst 1, 1)) ∧ (decode cX7_image 27 = .ok (.ireturn, 1)) := by decide +kernel
theorem dX7_image_26 : decode cX7_image 26 = .ok (.iconst 1, 1) := qd4_144.1
theorem dX7_image_27 : decode cX7_image 27 = .ok (.ireturn, 1) := qd4_144.2
theorem qd4_145 : (decode cX7_back 0 = .ok (.aload_n 0, 1)) ∧ (decode cX7_back 1 = .ok (.getfield 353, 3)) ∧ (decode cX7_back 4 = .ok (.ifnonnull 10, 3)) ∧ (decode cX7_back 7 = .ok (.aload_n 0, 1)) ∧ (decode cX7_back 8 = .ok (.bipush (-5), 2)) ∧ (decode cX7_back 10 = .ok (.invokevirtual 94, 3)) ∧ (decode cX7_back 13 = .ok (.ireturn, 1)) ∧ (decode cX7_back 14 = .ok (.aload_n 0, 1)) ∧ (decode cX7_back 15 = .ok (.aload_n 0, 1)) ∧ (decode cX7_back 16 = .ok (.getfield 353, 3)) ∧ (decode cX7_back 19 = .ok (.invokevirtual 245, 3)) ∧ (decode cX7_back 22 = .ok (.iconst 0, 1)) := by decide +kernel
theorem dX7_back_0 : decode cX7_back 0 = .ok (.aload_n 0, 1) := qd4_145.1
theorem dX7_back_1 : decode cX7_back 1 = .ok (.getfield 353, 3) := qd4_145.2.1
theorem dX7_back_4 : decode cX7_back 4 = .ok (.ifnonnull 10, 3) := qd4_145.2.2.1
theorem dX7_back_7 : decode cX7_back 7 = .ok (.aload_n 0, 1) := qd4_145.2.2.2.1
theorem dX7_back_8 : decode cX7_back 8 = .ok (.bipush (-5), 2) := qd4_145.2.2.2.2.1
theorem dX7_back_10 : decode cX7_back 10 = .ok (.invokevirtual 94, 3) := qd4_145.2.2.2.2.2.1
theorem dX7_back_13 : decode cX7_back 13 = .ok (.ireturn, 1) := qd4_145.2.2.2.2.2.2.1
theorem dX7_back_14 : decode cX7_back 14 = .ok (.aload_n 0, 1) := qd4_145.2.2.2.2.2.2.2.1
theorem dX7_back_15 : decode cX7_back 15 = .ok (.aload_n 0, 1) := qd4_145.2.2.2.2.2.2.2.2.1
theorem dX7_back_16 : decode cX7_back 16 = .ok (.getfield 353, 3) := qd4_145.2.2.2.2.2.2.2.2.2.1
theorem dX7_back_19 : decode cX7_back 19 = .ok (.invokevirtual 245, 3) := qd4_145.2.2.2.2.2.2.2.2.2.2.1
theorem dX7_back_22 : decode cX7_back 22 = .ok (.iconst 0, 1) := qd4_145.2.2.2.2.2.2.2.2.2.2.2
theorem qd4_146 : (decode cX7_back 23 = .ok (.istore_n 1, 1)) ∧ (decode cX7_back 24 = .ok (.iload_n 1, 1)) ∧ (decode cX7_back 25 = .ok (.bipush 8, 2)) ∧ (decode cX7_back 27 = .ok (.if_icmp .ge 39, 3)) ∧ (decode cX7_back 30 = .ok (.aload_n 0, 1)) ∧ (decode cX7_back 31 = .ok (.getfield 7, 3)) ∧ (decode cX7_back 34 = .ok (.iload_n 1, 1)) ∧ (decode cX7_back 35 = .ok (.iaload, 1)) ∧ (decode cX7_back 36 = .ok (.iconst 2, 1)) ∧ (decode cX7_back 37 = .ok (.if_icmp .ne 23, 3)) ∧ (decode cX7_back 40 = .ok (.aload_n 0, 1)) ∧ (decode cX7_back 41 = .ok (.getfield 28, 3)) := by decide +kernel
theorem dX7_back_23 : decode cX7_back 23 = .ok (.istore_n 1, 1) := qd4_146.1
theorem dX7_back_24 : decode cX7_back 24 = .ok (.iload_n 1, 1) := qd4_146.2.1
theorem dX7_back_25 : decode cX7_back 25 = .ok (.bipush 8, 2) := qd4_146.2.2.1
theorem dX7_back_27 : decode cX7_back 27 = .ok (.if_icmp .ge 39, 3) := qd4_146.2.2.2.1
theorem dX7_back_30 : decode cX7_back 30 = .ok (.aload_n 0, 1) := qd4_146.2.2.2.2.1
theorem dX7_back_31 : decode cX7_back 31 = .ok (.getfield 7, 3) := qd4_146.2.2.2.2.2.1
theorem dX7_back_34 : decode cX7_back 34 = .ok (.iload_n 1, 1) := qd4_146.2.2.2.2.2.2.1
theorem dX7_back_35 : decode cX7_back 35 = .ok (.iaload, 1) := qd4_146.2.2.2.2.2.2.2.1
theorem dX7_back_36 : decode cX7_back 36 = .ok (.iconst 2, 1) := qd4_146.2.2.2.2.2.2.2.2.1
theorem dX7_back_37 : decode cX7_back 37 = .ok (.if_icmp .ne 23, 3) := qd4_146.2.2.2.2.2.2.2.2.2.1
theorem dX7_back_40 : decode cX7_back 40 = .ok (.aload_n 0, 1) := qd4_146.2.2.2.2.2.2.2.2.2.2.1
theorem dX7_back_41 : decode cX7_back 41 = .ok (.getfield 28, 3) := qd4_146.2.2.2.2.2.2.2.2.2.2.2
theorem qd4_147 : (decode cX7_back 44 = .ok (.iload_n 1, 1)) ∧ (decode cX7_back 45 = .ok (.iaload, 1)) ∧ (decode cX7_back 46 = .ok (.aload_n 0, 1)) ∧ (decode cX7_back 47 = .ok (.getfield 85, 3)) ∧ (decode cX7_back 50 = .ok (.if_icmp .lt 10, 3)) ∧ (decode cX7_back 53 = .ok (.aload_n 0, 1)) ∧ (decode cX7_back 54 = .ok (.getfield 7, 3)) ∧ (decode cX7_back 57 = .ok (.iload_n 1, 1)) ∧ (decode cX7_back 58 = .ok (.iconst 0, 1)) ∧ (decode cX7_back 59 = .ok (.iastore, 1)) ∧ (decode cX7_back 60 = .ok (.iinc 1 1, 3)) ∧ (decode cX7_back 63 = .ok (.goto (-39), 3)) := by decide +kernel
theorem dX7_back_44 : decode cX7_back 44 = .ok (.iload_n 1, 1) := qd4_147.1
theorem dX7_back_45 : decode cX7_back 45 = .ok (.iaload, 1) := qd4_147.2.1
theorem dX7_back_46 : decode cX7_back 46 = .ok (.aload_n 0, 1) := qd4_147.2.2.1
theorem dX7_back_47 : decode cX7_back 47 = .ok (.getfield 85, 3) := qd4_147.2.2.2.1
theorem dX7_back_50 : decode cX7_back 50 = .ok (.if_icmp .lt 10, 3) := qd4_147.2.2.2.2.1
theorem dX7_back_53 : decode cX7_back 53 = .ok (.aload_n 0, 1) := qd4_147.2.2.2.2.2.1
theorem dX7_back_54 : decode cX7_back 54 = .ok (.getfield 7, 3) := qd4_147.2.2.2.2.2.2.1
theorem dX7_back_57 : decode cX7_back 57 = .ok (.iload_n 1, 1) := qd4_147.2.2.2.2.2.2.2.1
theorem dX7_back_58 : decode cX7_back 58 = .ok (.iconst 0, 1) := qd4_147.2.2.2.2.2.2.2.2.1
theorem dX7_back_59 : decode cX7_back 59 = .ok (.iastore, 1) := qd4_147.2.2.2.2.2.2.2.2.2.1
theorem dX7_back_60 : decode cX7_back 60 = .ok (.iinc 1 1, 3) := qd4_147.2.2.2.2.2.2.2.2.2.2.1
theorem dX7_back_63 : decode cX7_back 63 = .ok (.goto (-39), 3) := qd4_147.2.2.2.2.2.2.2.2.2.2.2
theorem qd4_148 : (decode cX7_back 66 = .ok (.iconst 1, 1)) ∧ (decode cX7_back 67 = .ok (.ireturn, 1)) := by decide +kernel
theorem dX7_back_66 : decode cX7_back 66 = .ok (.iconst 1, 1) := qd4_148.1
theorem dX7_back_67 : decode cX7_back 67 = .ok (.ireturn, 1) := qd4_148.2
theorem qd4_149 : (decode cX7_status 0 = .ok (.iconst 0, 1)) ∧ (decode cX7_status 1 = .ok (.istore_n 2, 1)) ∧ (decode cX7_status 2 = .ok (.iload_n 1, 1)) ∧ (decode cX7_status 3 = .ok (.tableswitch 146 0 8 #[49, 54, 59, 64, 93, 98, 103, 108, 113], 49)) ∧ (decode cX7_status 52 = .ok (.aload_n 0, 1)) ∧ (decode cX7_status 53 = .ok (.getfield 82, 3)) ∧ (decode cX7_status 56 = .ok (.ireturn, 1)) ∧ (decode cX7_status 57 = .ok (.aload_n 0, 1)) ∧ (decode cX7_status 58 = .ok (.getfield 125, 3)) ∧ (decode cX7_status 61 = .ok (.ireturn, 1)) ∧ (decode cX7_status 62 = .ok (.aload_n 0, 1)) ∧ (decode cX7_status 63 = .ok (.getfield 85, 3)) := by decide +kernel
theorem dX7_status_0 : decode cX7_status 0 = .ok (.iconst 0, 1) := qd4_149.1
theorem dX7_status_1 : decode cX7_status 1 = .ok (.istore_n 2, 1) := qd4_149.2.1
theorem dX7_status_2 : decode cX7_status 2 = .ok (.iload_n 1, 1) := qd4_149.2.2.1
theorem dX7_status_3 : decode cX7_status 3 = .ok (.tableswitch 146 0 8 #[49, 54, 59, 64, 93, 98, 103, 108, 113], 49) := qd4_149.2.2.2.1
theorem dX7_status_52 : decode cX7_status 52 = .ok (.aload_n 0, 1) := qd4_149.2.2.2.2.1
theorem dX7_status_53 : decode cX7_status 53 = .ok (.getfield 82, 3) := qd4_149.2.2.2.2.2.1
theorem dX7_status_56 : decode cX7_status 56 = .ok (.ireturn, 1) := qd4_149.2.2.2.2.2.2.1
theorem dX7_status_57 : decode cX7_status 57 = .ok (.aload_n 0, 1) := qd4_149.2.2.2.2.2.2.2.1
theorem dX7_status_58 : decode cX7_status 58 = .ok (.getfield 125, 3) := qd4_149.2.2.2.2.2.2.2.2.1
theorem dX7_status_61 : decode cX7_status 61 = .ok (.ireturn, 1) := qd4_149.2.2.2.2.2.2.2.2.2.1
theorem dX7_status_62 : decode cX7_status 62 = .ok (.aload_n 0, 1) := qd4_149.2.2.2.2.2.2.2.2.2.2.1
theorem dX7_status_63 : decode cX7_status 63 = .ok (.getfield 85, 3) := qd4_149.2.2.2.2.2.2.2.2.2.2.2
theorem qd4_150 : (decode cX7_status 66 = .ok (.ireturn, 1)) ∧ (decode cX7_status 67 = .ok (.iconst 0, 1)) ∧ (decode cX7_status 68 = .ok (.istore_n 3, 1)) ∧ (decode cX7_status 69 = .ok (.iload_n 3, 1)) ∧ (decode cX7_status 70 = .ok (.aload_n 0, 1)) ∧ (decode cX7_status 71 = .ok (.getfield 85, 3)) ∧ (decode cX7_status 74 = .ok (.if_icmp .ge 20, 3)) ∧ (decode cX7_status 77 = .ok (.iload_n 2, 1)) ∧ (decode cX7_status 78 = .ok (.aload_n 0, 1)) ∧ (decode cX7_status 79 = .ok (.getfield 51, 3)) ∧ (decode cX7_status 82 = .ok (.iload_n 3, 1)) ∧ (decode cX7_status 83 = .ok (.aaload, 1)) := by decide +kernel
theorem dX7_status_66 : decode cX7_status 66 = .ok (.ireturn, 1) := qd4_150.1
theorem dX7_status_67 : decode cX7_status 67 = .ok (.iconst 0, 1) := qd4_150.2.1
theorem dX7_status_68 : decode cX7_status 68 = .ok (.istore_n 3, 1) := qd4_150.2.2.1
theorem dX7_status_69 : decode cX7_status 69 = .ok (.iload_n 3, 1) := qd4_150.2.2.2.1
theorem dX7_status_70 : decode cX7_status 70 = .ok (.aload_n 0, 1) := qd4_150.2.2.2.2.1
theorem dX7_status_71 : decode cX7_status 71 = .ok (.getfield 85, 3) := qd4_150.2.2.2.2.2.1
theorem dX7_status_74 : decode cX7_status 74 = .ok (.if_icmp .ge 20, 3) := qd4_150.2.2.2.2.2.2.1
theorem dX7_status_77 : decode cX7_status 77 = .ok (.iload_n 2, 1) := qd4_150.2.2.2.2.2.2.2.1
theorem dX7_status_78 : decode cX7_status 78 = .ok (.aload_n 0, 1) := qd4_150.2.2.2.2.2.2.2.2.1
theorem dX7_status_79 : decode cX7_status 79 = .ok (.getfield 51, 3) := qd4_150.2.2.2.2.2.2.2.2.2.1
theorem dX7_status_82 : decode cX7_status 82 = .ok (.iload_n 3, 1) := qd4_150.2.2.2.2.2.2.2.2.2.2.1
theorem dX7_status_83 : decode cX7_status 83 = .ok (.aaload, 1) := qd4_150.2.2.2.2.2.2.2.2.2.2.2
theorem qd4_151 : (decode cX7_status 84 = .ok (.iconst 4, 1)) ∧ (decode cX7_status 85 = .ok (.iaload, 1)) ∧ (decode cX7_status 86 = .ok (.iadd, 1)) ∧ (decode cX7_status 87 = .ok (.istore_n 2, 1)) ∧ (decode cX7_status 88 = .ok (.iinc 3 1, 3)) ∧ (decode cX7_status 91 = .ok (.goto (-22), 3)) ∧ (decode cX7_status 94 = .ok (.iload_n 2, 1)) ∧ (decode cX7_status 95 = .ok (.ireturn, 1)) ∧ (decode cX7_status 96 = .ok (.aload_n 0, 1)) ∧ (decode cX7_status 97 = .ok (.getfield 334, 3)) ∧ (decode cX7_status 100 = .ok (.ireturn, 1)) ∧ (decode cX7_status 101 = .ok (.aload_n 0, 1)) := by decide +kernel
theorem dX7_status_84 : decode cX7_status 84 = .ok (.iconst 4, 1) := qd4_151.1
theorem dX7_status_85 : decode cX7_status 85 = .ok (.iaload, 1) := qd4_151.2.1
theorem dX7_status_86 : decode cX7_status 86 = .ok (.iadd, 1) := qd4_151.2.2.1
theorem dX7_status_87 : decode cX7_status 87 = .ok (.istore_n 2, 1) := qd4_151.2.2.2.1
theorem dX7_status_88 : decode cX7_status 88 = .ok (.iinc 3 1, 3) := qd4_151.2.2.2.2.1
theorem dX7_status_91 : decode cX7_status 91 = .ok (.goto (-22), 3) := qd4_151.2.2.2.2.2.1
theorem dX7_status_94 : decode cX7_status 94 = .ok (.iload_n 2, 1) := qd4_151.2.2.2.2.2.2.1
theorem dX7_status_95 : decode cX7_status 95 = .ok (.ireturn, 1) := qd4_151.2.2.2.2.2.2.2.1
theorem dX7_status_96 : decode cX7_status 96 = .ok (.aload_n 0, 1) := qd4_151.2.2.2.2.2.2.2.2.1
theorem dX7_status_97 : decode cX7_status 97 = .ok (.getfield 334, 3) := qd4_151.2.2.2.2.2.2.2.2.2.1
theorem dX7_status_100 : decode cX7_status 100 = .ok (.ireturn, 1) := qd4_151.2.2.2.2.2.2.2.2.2.2.1
theorem dX7_status_101 : decode cX7_status 101 = .ok (.aload_n 0, 1) := qd4_151.2.2.2.2.2.2.2.2.2.2.2
theorem qd4_152 : (decode cX7_status 102 = .ok (.getfield 337, 3)) ∧ (decode cX7_status 105 = .ok (.ireturn, 1)) ∧ (decode cX7_status 106 = .ok (.aload_n 0, 1)) ∧ (decode cX7_status 107 = .ok (.getfield 54, 3)) ∧ (decode cX7_status 110 = .ok (.ireturn, 1)) ∧ (decode cX7_status 111 = .ok (.aload_n 0, 1)) ∧ (decode cX7_status 112 = .ok (.getfield 146, 3)) ∧ (decode cX7_status 115 = .ok (.ireturn, 1)) ∧ (decode cX7_status 116 = .ok (.iconst 0, 1)) ∧ (decode cX7_status 117 = .ok (.istore_n 3, 1)) ∧ (decode cX7_status 118 = .ok (.iload_n 3, 1)) ∧ (decode cX7_status 119 = .ok (.bipush 8, 2)) := by decide +kernel
theorem dX7_status_102 : decode cX7_status 102 = .ok (.getfield 337, 3) := qd4_152.1
theorem dX7_status_105 : decode cX7_status 105 = .ok (.ireturn, 1) := qd4_152.2.1
theorem dX7_status_106 : decode cX7_status 106 = .ok (.aload_n 0, 1) := qd4_152.2.2.1
theorem dX7_status_107 : decode cX7_status 107 = .ok (.getfield 54, 3) := qd4_152.2.2.2.1
theorem dX7_status_110 : decode cX7_status 110 = .ok (.ireturn, 1) := qd4_152.2.2.2.2.1
theorem dX7_status_111 : decode cX7_status 111 = .ok (.aload_n 0, 1) := qd4_152.2.2.2.2.2.1
theorem dX7_status_112 : decode cX7_status 112 = .ok (.getfield 146, 3) := qd4_152.2.2.2.2.2.2.1
theorem dX7_status_115 : decode cX7_status 115 = .ok (.ireturn, 1) := qd4_152.2.2.2.2.2.2.2.1
theorem dX7_status_116 : decode cX7_status 116 = .ok (.iconst 0, 1) := qd4_152.2.2.2.2.2.2.2.2.1
theorem dX7_status_117 : decode cX7_status 117 = .ok (.istore_n 3, 1) := qd4_152.2.2.2.2.2.2.2.2.2.1
theorem dX7_status_118 : decode cX7_status 118 = .ok (.iload_n 3, 1) := qd4_152.2.2.2.2.2.2.2.2.2.2.1
theorem dX7_status_119 : decode cX7_status 119 = .ok (.bipush 8, 2) := qd4_152.2.2.2.2.2.2.2.2.2.2.2
theorem qd4_153 : (decode cX7_status 121 = .ok (.if_icmp .ge 26, 3)) ∧ (decode cX7_status 124 = .ok (.iload_n 2, 1)) ∧ (decode cX7_status 125 = .ok (.aload_n 0, 1)) ∧ (decode cX7_status 126 = .ok (.getfield 7, 3)) ∧ (decode cX7_status 129 = .ok (.iload_n 3, 1)) ∧ (decode cX7_status 130 = .ok (.iaload, 1)) ∧ (decode cX7_status 131 = .ok (.ifCond .eq 7, 3)) ∧ (decode cX7_status 134 = .ok (.iconst 1, 1)) ∧ (decode cX7_status 135 = .ok (.goto 4, 3)) ∧ (decode cX7_status 138 = .ok (.iconst 0, 1)) ∧ (decode cX7_status 139 = .ok (.iadd, 1)) ∧ (decode cX7_status 140 = .ok (.istore_n 2, 1)) := by decide +kernel
theorem dX7_status_121 : decode cX7_status 121 = .ok (.if_icmp .ge 26, 3) := qd4_153.1
theorem dX7_status_124 : decode cX7_status 124 = .ok (.iload_n 2, 1) := qd4_153.2.1
theorem dX7_status_125 : decode cX7_status 125 = .ok (.aload_n 0, 1) := qd4_153.2.2.1
theorem dX7_status_126 : decode cX7_status 126 = .ok (.getfield 7, 3) := qd4_153.2.2.2.1
theorem dX7_status_129 : decode cX7_status 129 = .ok (.iload_n 3, 1) := qd4_153.2.2.2.2.1
theorem dX7_status_130 : decode cX7_status 130 = .ok (.iaload, 1) := qd4_153.2.2.2.2.2.1
theorem dX7_status_131 : decode cX7_status 131 = .ok (.ifCond .eq 7, 3) := qd4_153.2.2.2.2.2.2.1
theorem dX7_status_134 : decode cX7_status 134 = .ok (.iconst 1, 1) := qd4_153.2.2.2.2.2.2.2.1
theorem dX7_status_135 : decode cX7_status 135 = .ok (.goto 4, 3) := qd4_153.2.2.2.2.2.2.2.2.1
theorem dX7_status_138 : decode cX7_status 138 = .ok (.iconst 0, 1) := qd4_153.2.2.2.2.2.2.2.2.2.1
theorem dX7_status_139 : decode cX7_status 139 = .ok (.iadd, 1) := qd4_153.2.2.2.2.2.2.2.2.2.2.1
theorem dX7_status_140 : decode cX7_status 140 = .ok (.istore_n 2, 1) := qd4_153.2.2.2.2.2.2.2.2.2.2.2
theorem qd4_154 : (decode cX7_status 141 = .ok (.iinc 3 1, 3)) ∧ (decode cX7_status 144 = .ok (.goto (-26), 3)) ∧ (decode cX7_status 147 = .ok (.iload_n 2, 1)) ∧ (decode cX7_status 148 = .ok (.ireturn, 1)) ∧ (decode cX7_status 149 = .ok (.iload_n 1, 1)) ∧ (decode cX7_status 150 = .ok (.i2l, 1)) ∧ (decode cX7_status 151 = .ok (.ldc2_w 356, 3)) ∧ (decode cX7_status 154 = .ok (.ldc2_w 358, 3)) ∧ (decode cX7_status 157 = .ok (.invokestatic 78, 3)) ∧ (decode cX7_status 160 = .ok (.ifCond .eq 15, 3)) ∧ (decode cX7_status 163 = .ok (.aload_n 0, 1)) ∧ (decode cX7_status 164 = .ok (.getfield 34, 3)) := by decide +kernel
theorem dX7_status_141 : decode cX7_status 141 = .ok (.iinc 3 1, 3) := qd4_154.1
theorem dX7_status_144 : decode cX7_status 144 = .ok (.goto (-26), 3) := qd4_154.2.1
theorem dX7_status_147 : decode cX7_status 147 = .ok (.iload_n 2, 1) := qd4_154.2.2.1
theorem dX7_status_148 : decode cX7_status 148 = .ok (.ireturn, 1) := qd4_154.2.2.2.1
theorem dX7_status_149 : decode cX7_status 149 = .ok (.iload_n 1, 1) := qd4_154.2.2.2.2.1
theorem dX7_status_150 : decode cX7_status 150 = .ok (.i2l, 1) := qd4_154.2.2.2.2.2.1
theorem dX7_status_151 : decode cX7_status 151 = .ok (.ldc2_w 356, 3) := qd4_154.2.2.2.2.2.2.1
theorem dX7_status_154 : decode cX7_status 154 = .ok (.ldc2_w 358, 3) := qd4_154.2.2.2.2.2.2.2.1
theorem dX7_status_157 : decode cX7_status 157 = .ok (.invokestatic 78, 3) := qd4_154.2.2.2.2.2.2.2.2.1
theorem dX7_status_160 : decode cX7_status 160 = .ok (.ifCond .eq 15, 3) := qd4_154.2.2.2.2.2.2.2.2.2.1
theorem dX7_status_163 : decode cX7_status 163 = .ok (.aload_n 0, 1) := qd4_154.2.2.2.2.2.2.2.2.2.2.1
theorem dX7_status_164 : decode cX7_status 164 = .ok (.getfield 34, 3) := qd4_154.2.2.2.2.2.2.2.2.2.2.2
theorem qd4_155 : (decode cX7_status 167 = .ok (.iload_n 1, 1)) ∧ (decode cX7_status 168 = .ok (.bipush 10, 2)) ∧ (decode cX7_status 170 = .ok (.isub, 1)) ∧ (decode cX7_status 171 = .ok (.iaload, 1)) ∧ (decode cX7_status 172 = .ok (.goto 4, 3)) ∧ (decode cX7_status 175 = .ok (.iconst (-1), 1)) ∧ (decode cX7_status 176 = .ok (.ireturn, 1)) := by decide +kernel
theorem dX7_status_167 : decode cX7_status 167 = .ok (.iload_n 1, 1) := qd4_155.1
theorem dX7_status_168 : decode cX7_status 168 = .ok (.bipush 10, 2) := qd4_155.2.1
theorem dX7_status_170 : decode cX7_status 170 = .ok (.isub, 1) := qd4_155.2.2.1
theorem dX7_status_171 : decode cX7_status 171 = .ok (.iaload, 1) := qd4_155.2.2.2.1
theorem dX7_status_172 : decode cX7_status 172 = .ok (.goto 4, 3) := qd4_155.2.2.2.2.1
theorem dX7_status_175 : decode cX7_status 175 = .ok (.iconst (-1), 1) := qd4_155.2.2.2.2.2.1
theorem dX7_status_176 : decode cX7_status 176 = .ok (.ireturn, 1) := qd4_155.2.2.2.2.2.2
theorem qd4_156 : (decode cJ6_bitCount_0f7a4 0 = .ok (.iload_n 0, 1)) ∧ (decode cJ6_bitCount_0f7a4 1 = .ok (.iload_n 0, 1)) ∧ (decode cJ6_bitCount_0f7a4 2 = .ok (.iconst 1, 1)) ∧ (decode cJ6_bitCount_0f7a4 3 = .ok (.iushr, 1)) ∧ (decode cJ6_bitCount_0f7a4 4 = .ok (.ldc_w 265, 3)) ∧ (decode cJ6_bitCount_0f7a4 7 = .ok (.iand, 1)) ∧ (decode cJ6_bitCount_0f7a4 8 = .ok (.isub, 1)) ∧ (decode cJ6_bitCount_0f7a4 9 = .ok (.istore_n 0, 1)) ∧ (decode cJ6_bitCount_0f7a4 10 = .ok (.iload_n 0, 1)) ∧ (decode cJ6_bitCount_0f7a4 11 = .ok (.ldc_w 266, 3)) ∧ (decode cJ6_bitCount_0f7a4 14 = .ok (.iand, 1)) ∧ (decode cJ6_bitCount_0f7a4 15 = .ok (.iload_n 0, 1)) := by decide +kernel
theorem dJ6_bitCount_0f7a4_0 : decode cJ6_bitCount_0f7a4 0 = .ok (.iload_n 0, 1) := qd4_156.1
theorem dJ6_bitCount_0f7a4_1 : decode cJ6_bitCount_0f7a4 1 = .ok (.iload_n 0, 1) := qd4_156.2.1
theorem dJ6_bitCount_0f7a4_2 : decode cJ6_bitCount_0f7a4 2 = .ok (.iconst 1, 1) := qd4_156.2.2.1
theorem dJ6_bitCount_0f7a4_3 : decode cJ6_bitCount_0f7a4 3 = .ok (.iushr, 1) := qd4_156.2.2.2.1
theorem dJ6_bitCount_0f7a4_4 : decode cJ6_bitCount_0f7a4 4 = .ok (.ldc_w 265, 3) := qd4_156.2.2.2.2.1
theorem dJ6_bitCount_0f7a4_7 : decode cJ6_bitCount_0f7a4 7 = .ok (.iand, 1) := qd4_156.2.2.2.2.2.1
theorem dJ6_bitCount_0f7a4_8 : decode cJ6_bitCount_0f7a4 8 = .ok (.isub, 1) := qd4_156.2.2.2.2.2.2.1
theorem dJ6_bitCount_0f7a4_9 : decode cJ6_bitCount_0f7a4 9 = .ok (.istore_n 0, 1) := qd4_156.2.2.2.2.2.2.2.1
theorem dJ6_bitCount_0f7a4_10 : decode cJ6_bitCount_0f7a4 10 = .ok (.iload_n 0, 1) := qd4_156.2.2.2.2.2.2.2.2.1
theorem dJ6_bitCount_0f7a4_11 : decode cJ6_bitCount_0f7a4 11 = .ok (.ldc_w 266, 3) := qd4_156.2.2.2.2.2.2.2.2.2.1
theorem dJ6_bitCount_0f7a4_14 : decode cJ6_bitCount_0f7a4 14 = .ok (.iand, 1) := qd4_156.2.2.2.2.2.2.2.2.2.2.1
theorem dJ6_bitCount_0f7a4_15 : decode cJ6_bitCount_0f7a4 15 = .ok (.iload_n 0, 1) := qd4_156.2.2.2.2.2.2.2.2.2.2.2
theorem qd4_157 : (decode cJ6_bitCount_0f7a4 16 = .ok (.iconst 2, 1)) ∧ (decode cJ6_bitCount_0f7a4 17 = .ok (.iushr, 1)) ∧ (decode cJ6_bitCount_0f7a4 18 = .ok (.ldc_w 266, 3)) ∧ (decode cJ6_bitCount_0f7a4 21 = .ok (.iand, 1)) ∧ (decode cJ6_bitCount_0f7a4 22 = .ok (.iadd, 1)) ∧ (decode cJ6_bitCount_0f7a4 23 = .ok (.istore_n 0, 1)) ∧ (decode cJ6_bitCount_0f7a4 24 = .ok (.iload_n 0, 1)) ∧ (decode cJ6_bitCount_0f7a4 25 = .ok (.iload_n 0, 1)) ∧ (decode cJ6_bitCount_0f7a4 26 = .ok (.iconst 4, 1)) ∧ (decode cJ6_bitCount_0f7a4 27 = .ok (.iushr, 1)) ∧ (decode cJ6_bitCount_0f7a4 28 = .ok (.iadd, 1)) ∧ (decode cJ6_bitCount_0f7a4 29 = .ok (.ldc_w 267, 3)) := by decide +kernel
theorem dJ6_bitCount_0f7a4_16 : decode cJ6_bitCount_0f7a4 16 = .ok (.iconst 2, 1) := qd4_157.1
theorem dJ6_bitCount_0f7a4_17 : decode cJ6_bitCount_0f7a4 17 = .ok (.iushr, 1) := qd4_157.2.1
theorem dJ6_bitCount_0f7a4_18 : decode cJ6_bitCount_0f7a4 18 = .ok (.ldc_w 266, 3) := qd4_157.2.2.1
theorem dJ6_bitCount_0f7a4_21 : decode cJ6_bitCount_0f7a4 21 = .ok (.iand, 1) := qd4_157.2.2.2.1
theorem dJ6_bitCount_0f7a4_22 : decode cJ6_bitCount_0f7a4 22 = .ok (.iadd, 1) := qd4_157.2.2.2.2.1
theorem dJ6_bitCount_0f7a4_23 : decode cJ6_bitCount_0f7a4 23 = .ok (.istore_n 0, 1) := qd4_157.2.2.2.2.2.1
theorem dJ6_bitCount_0f7a4_24 : decode cJ6_bitCount_0f7a4 24 = .ok (.iload_n 0, 1) := qd4_157.2.2.2.2.2.2.1
theorem dJ6_bitCount_0f7a4_25 : decode cJ6_bitCount_0f7a4 25 = .ok (.iload_n 0, 1) := qd4_157.2.2.2.2.2.2.2.1
theorem dJ6_bitCount_0f7a4_26 : decode cJ6_bitCount_0f7a4 26 = .ok (.iconst 4, 1) := qd4_157.2.2.2.2.2.2.2.2.1
theorem dJ6_bitCount_0f7a4_27 : decode cJ6_bitCount_0f7a4 27 = .ok (.iushr, 1) := qd4_157.2.2.2.2.2.2.2.2.2.1
theorem dJ6_bitCount_0f7a4_28 : decode cJ6_bitCount_0f7a4 28 = .ok (.iadd, 1) := qd4_157.2.2.2.2.2.2.2.2.2.2.1
theorem dJ6_bitCount_0f7a4_29 : decode cJ6_bitCount_0f7a4 29 = .ok (.ldc_w 267, 3) := qd4_157.2.2.2.2.2.2.2.2.2.2.2
theorem qd4_158 : (decode cJ6_bitCount_0f7a4 32 = .ok (.iand, 1)) ∧ (decode cJ6_bitCount_0f7a4 33 = .ok (.istore_n 0, 1)) ∧ (decode cJ6_bitCount_0f7a4 34 = .ok (.iload_n 0, 1)) ∧ (decode cJ6_bitCount_0f7a4 35 = .ok (.iload_n 0, 1)) ∧ (decode cJ6_bitCount_0f7a4 36 = .ok (.bipush 8, 2)) ∧ (decode cJ6_bitCount_0f7a4 38 = .ok (.iushr, 1)) ∧ (decode cJ6_bitCount_0f7a4 39 = .ok (.iadd, 1)) ∧ (decode cJ6_bitCount_0f7a4 40 = .ok (.istore_n 0, 1)) ∧ (decode cJ6_bitCount_0f7a4 41 = .ok (.iload_n 0, 1)) ∧ (decode cJ6_bitCount_0f7a4 42 = .ok (.iload_n 0, 1)) ∧ (decode cJ6_bitCount_0f7a4 43 = .ok (.bipush 16, 2)) ∧ (decode cJ6_bitCount_0f7a4 45 = .ok (.iushr, 1)) := by decide +kernel
theorem dJ6_bitCount_0f7a4_32 : decode cJ6_bitCount_0f7a4 32 = .ok (.iand, 1) := qd4_158.1
theorem dJ6_bitCount_0f7a4_33 : decode cJ6_bitCount_0f7a4 33 = .ok (.istore_n 0, 1) := qd4_158.2.1
theorem dJ6_bitCount_0f7a4_34 : decode cJ6_bitCount_0f7a4 34 = .ok (.iload_n 0, 1) := qd4_158.2.2.1
theorem dJ6_bitCount_0f7a4_35 : decode cJ6_bitCount_0f7a4 35 = .ok (.iload_n 0, 1) := qd4_158.2.2.2.1
theorem dJ6_bitCount_0f7a4_36 : decode cJ6_bitCount_0f7a4 36 = .ok (.bipush 8, 2) := qd4_158.2.2.2.2.1
theorem dJ6_bitCount_0f7a4_38 : decode cJ6_bitCount_0f7a4 38 = .ok (.iushr, 1) := qd4_158.2.2.2.2.2.1
theorem dJ6_bitCount_0f7a4_39 : decode cJ6_bitCount_0f7a4 39 = .ok (.iadd, 1) := qd4_158.2.2.2.2.2.2.1
theorem dJ6_bitCount_0f7a4_40 : decode cJ6_bitCount_0f7a4 40 = .ok (.istore_n 0, 1) := qd4_158.2.2.2.2.2.2.2.1
theorem dJ6_bitCount_0f7a4_41 : decode cJ6_bitCount_0f7a4 41 = .ok (.iload_n 0, 1) := qd4_158.2.2.2.2.2.2.2.2.1
theorem dJ6_bitCount_0f7a4_42 : decode cJ6_bitCount_0f7a4 42 = .ok (.iload_n 0, 1) := qd4_158.2.2.2.2.2.2.2.2.2.1
theorem dJ6_bitCount_0f7a4_43 : decode cJ6_bitCount_0f7a4 43 = .ok (.bipush 16, 2) := qd4_158.2.2.2.2.2.2.2.2.2.2.1
theorem dJ6_bitCount_0f7a4_45 : decode cJ6_bitCount_0f7a4 45 = .ok (.iushr, 1) := qd4_158.2.2.2.2.2.2.2.2.2.2.2
theorem qd4_159 : (decode cJ6_bitCount_0f7a4 46 = .ok (.iadd, 1)) ∧ (decode cJ6_bitCount_0f7a4 47 = .ok (.istore_n 0, 1)) ∧ (decode cJ6_bitCount_0f7a4 48 = .ok (.iload_n 0, 1)) ∧ (decode cJ6_bitCount_0f7a4 49 = .ok (.bipush 63, 2)) ∧ (decode cJ6_bitCount_0f7a4 51 = .ok (.iand, 1)) ∧ (decode cJ6_bitCount_0f7a4 52 = .ok (.ireturn, 1)) := by decide +kernel
theorem dJ6_bitCount_0f7a4_46 : decode cJ6_bitCount_0f7a4 46 = .ok (.iadd, 1) := qd4_159.1
theorem dJ6_bitCount_0f7a4_47 : decode cJ6_bitCount_0f7a4 47 = .ok (.istore_n 0, 1) := qd4_159.2.1
theorem dJ6_bitCount_0f7a4_48 : decode cJ6_bitCount_0f7a4 48 = .ok (.iload_n 0, 1) := qd4_159.2.2.1
theorem dJ6_bitCount_0f7a4_49 : decode cJ6_bitCount_0f7a4 49 = .ok (.bipush 63, 2) := qd4_159.2.2.2.1
theorem dJ6_bitCount_0f7a4_51 : decode cJ6_bitCount_0f7a4 51 = .ok (.iand, 1) := qd4_159.2.2.2.2.1
theorem dJ6_bitCount_0f7a4_52 : decode cJ6_bitCount_0f7a4 52 = .ok (.ireturn, 1) := qd4_159.2.2.2.2.2
theorem qd4_160 : (decode cJ9_max_7cf53 0 = .ok (.iload_n 0, 1)) ∧ (decode cJ9_max_7cf53 1 = .ok (.iload_n 1, 1)) ∧ (decode cJ9_max_7cf53 2 = .ok (.if_icmp .lt 7, 3)) ∧ (decode cJ9_max_7cf53 5 = .ok (.iload_n 0, 1)) ∧ (decode cJ9_max_7cf53 6 = .ok (.goto 4, 3)) ∧ (decode cJ9_max_7cf53 9 = .ok (.iload_n 1, 1)) ∧ (decode cJ9_max_7cf53 10 = .ok (.ireturn, 1)) := by decide +kernel
theorem dJ9_max_7cf53_0 : decode cJ9_max_7cf53 0 = .ok (.iload_n 0, 1) := qd4_160.1
theorem dJ9_max_7cf53_1 : decode cJ9_max_7cf53 1 = .ok (.iload_n 1, 1) := qd4_160.2.1
theorem dJ9_max_7cf53_2 : decode cJ9_max_7cf53 2 = .ok (.if_icmp .lt 7, 3) := qd4_160.2.2.1
theorem dJ9_max_7cf53_5 : decode cJ9_max_7cf53 5 = .ok (.iload_n 0, 1) := qd4_160.2.2.2.1
theorem dJ9_max_7cf53_6 : decode cJ9_max_7cf53 6 = .ok (.goto 4, 3) := qd4_160.2.2.2.2.1
theorem dJ9_max_7cf53_9 : decode cJ9_max_7cf53 9 = .ok (.iload_n 1, 1) := qd4_160.2.2.2.2.2.1
theorem dJ9_max_7cf53_10 : decode cJ9_max_7cf53 10 = .ok (.ireturn, 1) := qd4_160.2.2.2.2.2.2
theorem qd4_161 : (decode cJ9_min_7cf53 0 = .ok (.iload_n 0, 1)) ∧ (decode cJ9_min_7cf53 1 = .ok (.iload_n 1, 1)) ∧ (decode cJ9_min_7cf53 2 = .ok (.if_icmp .gt 7, 3)) ∧ (decode cJ9_min_7cf53 5 = .ok (.iload_n 0, 1)) ∧ (decode cJ9_min_7cf53 6 = .ok (.goto 4, 3)) ∧ (decode cJ9_min_7cf53 9 = .ok (.iload_n 1, 1)) ∧ (decode cJ9_min_7cf53 10 = .ok (.ireturn, 1)) := by decide +kernel
theorem dJ9_min_7cf53_0 : decode cJ9_min_7cf53 0 = .ok (.iload_n 0, 1) := qd4_161.1
theorem dJ9_min_7cf53_1 : decode cJ9_min_7cf53 1 = .ok (.iload_n 1, 1) := qd4_161.2.1
theorem dJ9_min_7cf53_2 : decode cJ9_min_7cf53 2 = .ok (.if_icmp .gt 7, 3) := qd4_161.2.2.1
theorem dJ9_min_7cf53_5 : decode cJ9_min_7cf53 5 = .ok (.iload_n 0, 1) := qd4_161.2.2.2.1
theorem dJ9_min_7cf53_6 : decode cJ9_min_7cf53 6 = .ok (.goto 4, 3) := qd4_161.2.2.2.2.1
theorem dJ9_min_7cf53_9 : decode cJ9_min_7cf53 9 = .ok (.iload_n 1, 1) := qd4_161.2.2.2.2.2.1
theorem dJ9_min_7cf53_10 : decode cJ9_min_7cf53 10 = .ok (.ireturn, 1) := qd4_161.2.2.2.2.2.2
theorem qd4_162 : (decode cJ0_length_8abf5 0 = .ok (.aload_n 0, 1)) ∧ (decode cJ0_length_8abf5 1 = .ok (.getfield 9, 3)) ∧ (decode cJ0_length_8abf5 4 = .ok (.arraylength, 1)) ∧ (decode cJ0_length_8abf5 5 = .ok (.aload_n 0, 1)) ∧ (decode cJ0_length_8abf5 6 = .ok (.invokevirtual 335, 3)) ∧ (decode cJ0_length_8abf5 9 = .ok (.ishr, 1)) ∧ (decode cJ0_length_8abf5 10 = .ok (.ireturn, 1)) := by decide +kernel
theorem dJ0_length_8abf5_0 : decode cJ0_length_8abf5 0 = .ok (.aload_n 0, 1) := qd4_162.1
theorem dJ0_length_8abf5_1 : decode cJ0_length_8abf5 1 = .ok (.getfield 9, 3) := qd4_162.2.1
theorem dJ0_length_8abf5_4 : decode cJ0_length_8abf5 4 = .ok (.arraylength, 1) := qd4_162.2.2.1
theorem dJ0_length_8abf5_5 : decode cJ0_length_8abf5 5 = .ok (.aload_n 0, 1) := qd4_162.2.2.2.1
theorem dJ0_length_8abf5_6 : decode cJ0_length_8abf5 6 = .ok (.invokevirtual 335, 3) := qd4_162.2.2.2.2.1
theorem dJ0_length_8abf5_9 : decode cJ0_length_8abf5 9 = .ok (.ishr, 1) := qd4_162.2.2.2.2.2.1
theorem dJ0_length_8abf5_10 : decode cJ0_length_8abf5 10 = .ok (.ireturn, 1) := qd4_162.2.2.2.2.2.2
theorem qd4_163 : (decode cJ0_charAt_5068e 0 = .ok (.aload_n 0, 1)) ∧ (decode cJ0_charAt_5068e 1 = .ok (.invokevirtual 492, 3)) ∧ (decode cJ0_charAt_5068e 4 = .ok (.ifCond .eq 12, 3)) ∧ (decode cJ0_charAt_5068e 7 = .ok (.aload_n 0, 1)) ∧ (decode cJ0_charAt_5068e 8 = .ok (.getfield 9, 3)) ∧ (decode cJ0_charAt_5068e 11 = .ok (.iload_n 1, 1)) ∧ (decode cJ0_charAt_5068e 12 = .ok (.invokestatic 495, 3)) ∧ (decode cJ0_charAt_5068e 15 = .ok (.ireturn, 1)) ∧ (decode cJ0_charAt_5068e 16 = .ok (.aload_n 0, 1)) ∧ (decode cJ0_charAt_5068e 17 = .ok (.getfield 9, 3)) ∧ (decode cJ0_charAt_5068e 20 = .ok (.iload_n 1, 1)) ∧ (decode cJ0_charAt_5068e 21 = .ok (.invokestatic 498, 3)) := by decide +kernel
theorem dJ0_charAt_5068e_0 : decode cJ0_charAt_5068e 0 = .ok (.aload_n 0, 1) := qd4_163.1
theorem dJ0_charAt_5068e_1 : decode cJ0_charAt_5068e 1 = .ok (.invokevirtual 492, 3) := qd4_163.2.1
theorem dJ0_charAt_5068e_4 : decode cJ0_charAt_5068e 4 = .ok (.ifCond .eq 12, 3) := qd4_163.2.2.1
theorem dJ0_charAt_5068e_7 : decode cJ0_charAt_5068e 7 = .ok (.aload_n 0, 1) := qd4_163.2.2.2.1
theorem dJ0_charAt_5068e_8 : decode cJ0_charAt_5068e 8 = .ok (.getfield 9, 3) := qd4_163.2.2.2.2.1
theorem dJ0_charAt_5068e_11 : decode cJ0_charAt_5068e 11 = .ok (.iload_n 1, 1) := qd4_163.2.2.2.2.2.1
theorem dJ0_charAt_5068e_12 : decode cJ0_charAt_5068e 12 = .ok (.invokestatic 495, 3) := qd4_163.2.2.2.2.2.2.1
theorem dJ0_charAt_5068e_15 : decode cJ0_charAt_5068e 15 = .ok (.ireturn, 1) := qd4_163.2.2.2.2.2.2.2.1
theorem dJ0_charAt_5068e_16 : decode cJ0_charAt_5068e 16 = .ok (.aload_n 0, 1) := qd4_163.2.2.2.2.2.2.2.2.1
theorem dJ0_charAt_5068e_17 : decode cJ0_charAt_5068e 17 = .ok (.getfield 9, 3) := qd4_163.2.2.2.2.2.2.2.2.2.1
theorem dJ0_charAt_5068e_20 : decode cJ0_charAt_5068e 20 = .ok (.iload_n 1, 1) := qd4_163.2.2.2.2.2.2.2.2.2.2.1
theorem dJ0_charAt_5068e_21 : decode cJ0_charAt_5068e 21 = .ok (.invokestatic 498, 3) := qd4_163.2.2.2.2.2.2.2.2.2.2.2
theorem dJ0_charAt_5068e_24 : decode cJ0_charAt_5068e 24 = .ok (.ireturn, 1) := by decide +kernel
theorem qd4_164 : (decode cJ0_coder_7d493 0 = .ok (.getstatic 38, 3)) ∧ (decode cJ0_coder_7d493 3 = .ok (.ifCond .eq 10, 3)) ∧ (decode cJ0_coder_7d493 6 = .ok (.aload_n 0, 1)) ∧ (decode cJ0_coder_7d493 7 = .ok (.getfield 15, 3)) ∧ (decode cJ0_coder_7d493 10 = .ok (.goto 4, 3)) ∧ (decode cJ0_coder_7d493 13 = .ok (.iconst 1, 1)) ∧ (decode cJ0_coder_7d493 14 = .ok (.ireturn, 1)) := by decide +kernel
theorem dJ0_coder_7d493_0 : decode cJ0_coder_7d493 0 = .ok (.getstatic 38, 3) := qd4_164.1
theorem dJ0_coder_7d493_3 : decode cJ0_coder_7d493 3 = .ok (.ifCond .eq 10, 3) := qd4_164.2.1
theorem dJ0_coder_7d493_6 : decode cJ0_coder_7d493 6 = .ok (.aload_n 0, 1) := qd4_164.2.2.1
theorem dJ0_coder_7d493_7 : decode cJ0_coder_7d493 7 = .ok (.getfield 15, 3) := qd4_164.2.2.2.1
theorem dJ0_coder_7d493_10 : decode cJ0_coder_7d493 10 = .ok (.goto 4, 3) := qd4_164.2.2.2.2.1
theorem dJ0_coder_7d493_13 : decode cJ0_coder_7d493 13 = .ok (.iconst 1, 1) := qd4_164.2.2.2.2.2.1
theorem dJ0_coder_7d493_14 : decode cJ0_coder_7d493 14 = .ok (.ireturn, 1) := qd4_164.2.2.2.2.2.2
theorem qd4_165 : (decode cJ0_isLatin1_aae02 0 = .ok (.getstatic 38, 3)) ∧ (decode cJ0_isLatin1_aae02 3 = .ok (.ifCond .eq 14, 3)) ∧ (decode cJ0_isLatin1_aae02 6 = .ok (.aload_n 0, 1)) ∧ (decode cJ0_isLatin1_aae02 7 = .ok (.getfield 15, 3)) ∧ (decode cJ0_isLatin1_aae02 10 = .ok (.ifCond .ne 7, 3)) ∧ (decode cJ0_isLatin1_aae02 13 = .ok (.iconst 1, 1)) ∧ (decode cJ0_isLatin1_aae02 14 = .ok (.goto 4, 3)) ∧ (decode cJ0_isLatin1_aae02 17 = .ok (.iconst 0, 1)) ∧ (decode cJ0_isLatin1_aae02 18 = .ok (.ireturn, 1)) := by decide +kernel
theorem dJ0_isLatin1_aae02_0 : decode cJ0_isLatin1_aae02 0 = .ok (.getstatic 38, 3) := qd4_165.1
theorem dJ0_isLatin1_aae02_3 : decode cJ0_isLatin1_aae02 3 = .ok (.ifCond .eq 14, 3) := qd4_165.2.1
theorem dJ0_isLatin1_aae02_6 : decode cJ0_isLatin1_aae02 6 = .ok (.aload_n 0, 1) := qd4_165.2.2.1
theorem dJ0_isLatin1_aae02_7 : decode cJ0_isLatin1_aae02 7 = .ok (.getfield 15, 3) := qd4_165.2.2.2.1
theorem dJ0_isLatin1_aae02_10 : decode cJ0_isLatin1_aae02 10 = .ok (.ifCond .ne 7, 3) := qd4_165.2.2.2.2.1
theorem dJ0_isLatin1_aae02_13 : decode cJ0_isLatin1_aae02 13 = .ok (.iconst 1, 1) := qd4_165.2.2.2.2.2.1
theorem dJ0_isLatin1_aae02_14 : decode cJ0_isLatin1_aae02 14 = .ok (.goto 4, 3) := qd4_165.2.2.2.2.2.2.1
theorem dJ0_isLatin1_aae02_17 : decode cJ0_isLatin1_aae02 17 = .ok (.iconst 0, 1) := qd4_165.2.2.2.2.2.2.2.1
theorem dJ0_isLatin1_aae02_18 : decode cJ0_isLatin1_aae02 18 = .ok (.ireturn, 1) := qd4_165.2.2.2.2.2.2.2.2
theorem qd4_166 : (decode cJ0_checkIndex_df160 0 = .ok (.iload_n 0, 1)) ∧ (decode cJ0_checkIndex_df160 1 = .ok (.iload_n 1, 1)) ∧ (decode cJ0_checkIndex_df160 2 = .ok (.getstatic 1053, 3)) ∧ (decode cJ0_checkIndex_df160 5 = .ok (.invokestatic 1059, 3)) ∧ (decode cJ0_checkIndex_df160 8 = .ok (.pop, 1)) ∧ (decode cJ0_checkIndex_df160 9 = .ok (.return_, 1)) := by decide +kernel
theorem dJ0_checkIndex_df160_0 : decode cJ0_checkIndex_df160 0 = .ok (.iload_n 0, 1) := qd4_166.1
theorem dJ0_checkIndex_df160_1 : decode cJ0_checkIndex_df160 1 = .ok (.iload_n 1, 1) := qd4_166.2.1
theorem dJ0_checkIndex_df160_2 : decode cJ0_checkIndex_df160 2 = .ok (.getstatic 1053, 3) := qd4_166.2.2.1
theorem dJ0_checkIndex_df160_5 : decode cJ0_checkIndex_df160 5 = .ok (.invokestatic 1059, 3) := qd4_166.2.2.2.1
theorem dJ0_checkIndex_df160_8 : decode cJ0_checkIndex_df160 8 = .ok (.pop, 1) := qd4_166.2.2.2.2.1
theorem dJ0_checkIndex_df160_9 : decode cJ0_checkIndex_df160 9 = .ok (.return_, 1) := qd4_166.2.2.2.2.2
theorem qd4_167 : (decode cJ1_charAt_3b067 0 = .ok (.iload_n 1, 1)) ∧ (decode cJ1_charAt_3b067 1 = .ok (.aload_n 0, 1)) ∧ (decode cJ1_charAt_3b067 2 = .ok (.arraylength, 1)) ∧ (decode cJ1_charAt_3b067 3 = .ok (.invokestatic 9, 3)) ∧ (decode cJ1_charAt_3b067 6 = .ok (.aload_n 0, 1)) ∧ (decode cJ1_charAt_3b067 7 = .ok (.iload_n 1, 1)) ∧ (decode cJ1_charAt_3b067 8 = .ok (.baload, 1)) ∧ (decode cJ1_charAt_3b067 9 = .ok (.sipush 255, 3)) ∧ (decode cJ1_charAt_3b067 12 = .ok (.iand, 1)) ∧ (decode cJ1_charAt_3b067 13 = .ok (.i2c, 1)) ∧ (decode cJ1_charAt_3b067 14 = .ok (.ireturn, 1)) := by decide +kernel
theorem dJ1_charAt_3b067_0 : decode cJ1_charAt_3b067 0 = .ok (.iload_n 1, 1) := qd4_167.1
theorem dJ1_charAt_3b067_1 : decode cJ1_charAt_3b067 1 = .ok (.aload_n 0, 1) := qd4_167.2.1
theorem dJ1_charAt_3b067_2 : decode cJ1_charAt_3b067 2 = .ok (.arraylength, 1) := qd4_167.2.2.1
theorem dJ1_charAt_3b067_3 : decode cJ1_charAt_3b067 3 = .ok (.invokestatic 9, 3) := qd4_167.2.2.2.1
theorem dJ1_charAt_3b067_6 : decode cJ1_charAt_3b067 6 = .ok (.aload_n 0, 1) := qd4_167.2.2.2.2.1
theorem dJ1_charAt_3b067_7 : decode cJ1_charAt_3b067 7 = .ok (.iload_n 1, 1) := qd4_167.2.2.2.2.2.1
theorem dJ1_charAt_3b067_8 : decode cJ1_charAt_3b067 8 = .ok (.baload, 1) := qd4_167.2.2.2.2.2.2.1
theorem dJ1_charAt_3b067_9 : decode cJ1_charAt_3b067 9 = .ok (.sipush 255, 3) := qd4_167.2.2.2.2.2.2.2.1
theorem dJ1_charAt_3b067_12 : decode cJ1_charAt_3b067 12 = .ok (.iand, 1) := qd4_167.2.2.2.2.2.2.2.2.1
theorem dJ1_charAt_3b067_13 : decode cJ1_charAt_3b067 13 = .ok (.i2c, 1) := qd4_167.2.2.2.2.2.2.2.2.2.1
theorem dJ1_charAt_3b067_14 : decode cJ1_charAt_3b067 14 = .ok (.ireturn, 1) := qd4_167.2.2.2.2.2.2.2.2.2.2
theorem qd4_168 : (decode cJ2_getChar_3b067 0 = .ok (.getstatic 44, 3)) ∧ (decode cJ2_getChar_3b067 3 = .ok (.ifCond .ne 25, 3)) ∧ (decode cJ2_getChar_3b067 6 = .ok (.iload_n 1, 1)) ∧ (decode cJ2_getChar_3b067 7 = .ok (.ifCond .lt 11, 3)) ∧ (decode cJ2_getChar_3b067 10 = .ok (.iload_n 1, 1)) ∧ (decode cJ2_getChar_3b067 11 = .ok (.aload_n 0, 1)) ∧ (decode cJ2_getChar_3b067 12 = .ok (.invokestatic 48, 3)) ∧ (decode cJ2_getChar_3b067 15 = .ok (.if_icmp .lt 13, 3)) ∧ (decode cJ2_getChar_3b067 18 = .ok (.new 52, 3)) ∧ (decode cJ2_getChar_3b067 21 = .ok (.dup, 1)) ∧ (decode cJ2_getChar_3b067 22 = .ok (.ldc 54, 2)) ∧ (decode cJ2_getChar_3b067 24 = .ok (.invokespecial 56, 3)) := by decide +kernel
theorem dJ2_getChar_3b067_0 : decode cJ2_getChar_3b067 0 = .ok (.getstatic 44, 3) := qd4_168.1
theorem dJ2_getChar_3b067_3 : decode cJ2_getChar_3b067 3 = .ok (.ifCond .ne 25, 3) := qd4_168.2.1
theorem dJ2_getChar_3b067_6 : decode cJ2_getChar_3b067 6 = .ok (.iload_n 1, 1) := qd4_168.2.2.1
theorem dJ2_getChar_3b067_7 : decode cJ2_getChar_3b067 7 = .ok (.ifCond .lt 11, 3) := qd4_168.2.2.2.1
theorem dJ2_getChar_3b067_10 : decode cJ2_getChar_3b067 10 = .ok (.iload_n 1, 1) := qd4_168.2.2.2.2.1
theorem dJ2_getChar_3b067_11 : decode cJ2_getChar_3b067 11 = .ok (.aload_n 0, 1) := qd4_168.2.2.2.2.2.1
theorem dJ2_getChar_3b067_12 : decode cJ2_getChar_3b067 12 = .ok (.invokestatic 48, 3) := qd4_168.2.2.2.2.2.2.1
theorem dJ2_getChar_3b067_15 : decode cJ2_getChar_3b067 15 = .ok (.if_icmp .lt 13, 3) := qd4_168.2.2.2.2.2.2.2.1
theorem dJ2_getChar_3b067_18 : decode cJ2_getChar_3b067 18 = .ok (.new 52, 3) := qd4_168.2.2.2.2.2.2.2.2.1
theorem dJ2_getChar_3b067_21 : decode cJ2_getChar_3b067 21 = .ok (.dup, 1) := qd4_168.2.2.2.2.2.2.2.2.2.1
theorem dJ2_getChar_3b067_22 : decode cJ2_getChar_3b067 22 = .ok (.ldc 54, 2) := qd4_168.2.2.2.2.2.2.2.2.2.2.1
theorem dJ2_getChar_3b067_24 : decode cJ2_getChar_3b067 24 = .ok (.invokespecial 56, 3) := qd4_168.2.2.2.2.2.2.2.2.2.2.2
theorem qd4_169 : (decode cJ2_getChar_3b067 27 = .ok (.athrow, 1)) ∧ (decode cJ2_getChar_3b067 28 = .ok (.iload_n 1, 1)) ∧ (decode cJ2_getChar_3b067 29 = .ok (.iconst 1, 1)) ∧ (decode cJ2_getChar_3b067 30 = .ok (.ishl, 1)) ∧ (decode cJ2_getChar_3b067 31 = .ok (.istore_n 1, 1)) ∧ (decode cJ2_getChar_3b067 32 = .ok (.aload_n 0, 1)) ∧ (decode cJ2_getChar_3b067 33 = .ok (.iload_n 1, 1)) ∧ (decode cJ2_getChar_3b067 34 = .ok (.iinc 1 1, 3)) ∧ (decode cJ2_getChar_3b067 37 = .ok (.baload, 1)) ∧ (decode cJ2_getChar_3b067 38 = .ok (.sipush 255, 3)) ∧ (decode cJ2_getChar_3b067 41 = .ok (.iand, 1)) ∧ (decode cJ2_getChar_3b067 42 = .ok (.getstatic 59, 3)) := by decide +kernel
theorem dJ2_getChar_3b067_27 : decode cJ2_getChar_3b067 27 = .ok (.athrow, 1) := qd4_169.1
theorem dJ2_getChar_3b067_28 : decode cJ2_getChar_3b067 28 = .ok (.iload_n 1, 1) := qd4_169.2.1
theorem dJ2_getChar_3b067_29 : decode cJ2_getChar_3b067 29 = .ok (.iconst 1, 1) := qd4_169.2.2.1
theorem dJ2_getChar_3b067_30 : decode cJ2_getChar_3b067 30 = .ok (.ishl, 1) := qd4_169.2.2.2.1
theorem dJ2_getChar_3b067_31 : decode cJ2_getChar_3b067 31 = .ok (.istore_n 1, 1) := qd4_169.2.2.2.2.1
theorem dJ2_getChar_3b067_32 : decode cJ2_getChar_3b067 32 = .ok (.aload_n 0, 1) := qd4_169.2.2.2.2.2.1
theorem dJ2_getChar_3b067_33 : decode cJ2_getChar_3b067 33 = .ok (.iload_n 1, 1) := qd4_169.2.2.2.2.2.2.1
theorem dJ2_getChar_3b067_34 : decode cJ2_getChar_3b067 34 = .ok (.iinc 1 1, 3) := qd4_169.2.2.2.2.2.2.2.1
theorem dJ2_getChar_3b067_37 : decode cJ2_getChar_3b067 37 = .ok (.baload, 1) := qd4_169.2.2.2.2.2.2.2.2.1
theorem dJ2_getChar_3b067_38 : decode cJ2_getChar_3b067 38 = .ok (.sipush 255, 3) := qd4_169.2.2.2.2.2.2.2.2.2.1
theorem dJ2_getChar_3b067_41 : decode cJ2_getChar_3b067 41 = .ok (.iand, 1) := qd4_169.2.2.2.2.2.2.2.2.2.2.1
theorem dJ2_getChar_3b067_42 : decode cJ2_getChar_3b067 42 = .ok (.getstatic 59, 3) := qd4_169.2.2.2.2.2.2.2.2.2.2.2
theorem qd4_170 : (decode cJ2_getChar_3b067 45 = .ok (.ishl, 1)) ∧ (decode cJ2_getChar_3b067 46 = .ok (.aload_n 0, 1)) ∧ (decode cJ2_getChar_3b067 47 = .ok (.iload_n 1, 1)) ∧ (decode cJ2_getChar_3b067 48 = .ok (.baload, 1)) ∧ (decode cJ2_getChar_3b067 49 = .ok (.sipush 255, 3)) ∧ (decode cJ2_getChar_3b067 52 = .ok (.iand, 1)) ∧ (decode cJ2_getChar_3b067 53 = .ok (.getstatic 63, 3)) ∧ (decode cJ2_getChar_3b067 56 = .ok (.ishl, 1)) ∧ (decode cJ2_getChar_3b067 57 = .ok (.ior, 1)) ∧ (decode cJ2_getChar_3b067 58 = .ok (.i2c, 1)) ∧ (decode cJ2_getChar_3b067 59 = .ok (.ireturn, 1)) := by decide +kernel
theorem dJ2_getChar_3b067_45 : decode cJ2_getChar_3b067 45 = .ok (.ishl, 1) := qd4_170.1
theorem dJ2_getChar_3b067_46 : decode cJ2_getChar_3b067 46 = .ok (.aload_n 0, 1) := qd4_170.2.1
theorem dJ2_getChar_3b067_47 : decode cJ2_getChar_3b067 47 = .ok (.iload_n 1, 1) := qd4_170.2.2.1
theorem dJ2_getChar_3b067_48 : decode cJ2_getChar_3b067 48 = .ok (.baload, 1) := qd4_170.2.2.2.1
theorem dJ2_getChar_3b067_49 : decode cJ2_getChar_3b067 49 = .ok (.sipush 255, 3) := qd4_170.2.2.2.2.1
theorem dJ2_getChar_3b067_52 : decode cJ2_getChar_3b067 52 = .ok (.iand, 1) := qd4_170.2.2.2.2.2.1
theorem dJ2_getChar_3b067_53 : decode cJ2_getChar_3b067 53 = .ok (.getstatic 63, 3) := qd4_170.2.2.2.2.2.2.1
theorem dJ2_getChar_3b067_56 : decode cJ2_getChar_3b067 56 = .ok (.ishl, 1) := qd4_170.2.2.2.2.2.2.2.1
theorem dJ2_getChar_3b067_57 : decode cJ2_getChar_3b067 57 = .ok (.ior, 1) := qd4_170.2.2.2.2.2.2.2.2.1
theorem dJ2_getChar_3b067_58 : decode cJ2_getChar_3b067 58 = .ok (.i2c, 1) := qd4_170.2.2.2.2.2.2.2.2.2.1
theorem dJ2_getChar_3b067_59 : decode cJ2_getChar_3b067 59 = .ok (.ireturn, 1) := qd4_170.2.2.2.2.2.2.2.2.2.2
