theorem qd1_0 : (decode cX3_next 0 = .ok (.aload_n 0, 1)) ∧ (decode cX3_next 1 = .ok (.getfield 19, 3)) ∧ (decode cX3_next 4 = .ok (.istore_n 1, 1)) ∧ (decode cX3_next 5 = .ok (.iload_n 1, 1)) ∧ (decode cX3_next 6 = .ok (.aload_n 0, 1)) ∧ (decode cX3_next 7 = .ok (.getfield 15, 3)) ∧ (decode cX3_next 10 = .ok (.if_icmp .ge 20, 3)) ∧ (decode cX3_next 13 = .ok (.aload_n 0, 1)) ∧ (decode cX3_next 14 = .ok (.getfield 11, 3)) ∧ (decode cX3_next 17 = .ok (.iload_n 1, 1)) ∧ (decode cX3_next 18 = .ok (.iaload, 1)) ∧ (decode cX3_next 19 = .ok (.bipush 32, 2)) := by decide +kernel
theorem dX3_next_0 : decode cX3_next 0 = .ok (.aload_n 0, 1) := qd1_0.1
theorem dX3_next_1 : decode cX3_next 1 = .ok (.getfield 19, 3) := qd1_0.2.1
theorem dX3_next_4 : decode cX3_next 4 = .ok (.istore_n 1, 1) := qd1_0.2.2.1
theorem dX3_next_5 : decode cX3_next 5 = .ok (.iload_n 1, 1) := qd1_0.2.2.2.1
theorem dX3_next_6 : decode cX3_next 6 = .ok (.aload_n 0, 1) := qd1_0.2.2.2.2.1
theorem dX3_next_7 : decode cX3_next 7 = .ok (.getfield 15, 3) := qd1_0.2.2.2.2.2.1
theorem dX3_next_10 : decode cX3_next 10 = .ok (.if_icmp .ge 20, 3) := qd1_0.2.2.2.2.2.2.1
theorem dX3_next_13 : decode cX3_next 13 = .ok (.aload_n 0, 1) := qd1_0.2.2.2.2.2.2.2.1
theorem dX3_next_14 : decode cX3_next 14 = .ok (.getfield 11, 3) := qd1_0.2.2.2.2.2.2.2.2.1
theorem dX3_next_17 : decode cX3_next 17 = .ok (.iload_n 1, 1) := qd1_0.2.2.2.2.2.2.2.2.2.1
theorem dX3_next_18 : decode cX3_next 18 = .ok (.iaload, 1) := qd1_0.2.2.2.2.2.2.2.2.2.2.1
theorem dX3_next_19 : decode cX3_next 19 = .ok (.bipush 32, 2) := qd1_0.2.2.2.2.2.2.2.2.2.2.2
theorem qd1_1 : (decode cX3_next 21 = .ok (.if_icmp .ne 9, 3)) ∧ (decode cX3_next 24 = .ok (.iinc 1 1, 3)) ∧ (decode cX3_next 27 = .ok (.goto (-22), 3)) ∧ (decode cX3_next 30 = .ok (.aload_n 0, 1)) ∧ (decode cX3_next 31 = .ok (.iload_n 1, 1)) ∧ (decode cX3_next 32 = .ok (.putfield 29, 3)) ∧ (decode cX3_next 35 = .ok (.aload_n 0, 1)) ∧ (decode cX3_next 36 = .ok (.aload_n 0, 1)) ∧ (decode cX3_next 37 = .ok (.iload_n 1, 1)) ∧ (decode cX3_next 38 = .ok (.invokevirtual 148, 3)) ∧ (decode cX3_next 41 = .ok (.putfield 32, 3)) ∧ (decode cX3_next 44 = .ok (.aload_n 0, 1)) := by decide +kernel
theorem dX3_next_21 : decode cX3_next 21 = .ok (.if_icmp .ne 9, 3) := qd1_1.1
theorem dX3_next_24 : decode cX3_next 24 = .ok (.iinc 1 1, 3) := qd1_1.2.1
theorem dX3_next_27 : decode cX3_next 27 = .ok (.goto (-22), 3) := qd1_1.2.2.1
theorem dX3_next_30 : decode cX3_next 30 = .ok (.aload_n 0, 1) := qd1_1.2.2.2.1
theorem dX3_next_31 : decode cX3_next 31 = .ok (.iload_n 1, 1) := qd1_1.2.2.2.2.1
theorem dX3_next_32 : decode cX3_next 32 = .ok (.putfield 29, 3) := qd1_1.2.2.2.2.2.1
theorem dX3_next_35 : decode cX3_next 35 = .ok (.aload_n 0, 1) := qd1_1.2.2.2.2.2.2.1
theorem dX3_next_36 : decode cX3_next 36 = .ok (.aload_n 0, 1) := qd1_1.2.2.2.2.2.2.2.1
theorem dX3_next_37 : decode cX3_next 37 = .ok (.iload_n 1, 1) := qd1_1.2.2.2.2.2.2.2.2.1
theorem dX3_next_38 : decode cX3_next 38 = .ok (.invokevirtual 148, 3) := qd1_1.2.2.2.2.2.2.2.2.2.1
theorem dX3_next_41 : decode cX3_next 41 = .ok (.putfield 32, 3) := qd1_1.2.2.2.2.2.2.2.2.2.2.1
theorem dX3_next_44 : decode cX3_next 44 = .ok (.aload_n 0, 1) := qd1_1.2.2.2.2.2.2.2.2.2.2.2
theorem qd1_2 : (decode cX3_next 45 = .ok (.getfield 32, 3)) ∧ (decode cX3_next 48 = .ok (.ifCond .eq 6, 3)) ∧ (decode cX3_next 51 = .ok (.iinc 1 1, 3)) ∧ (decode cX3_next 54 = .ok (.aload_n 0, 1)) ∧ (decode cX3_next 55 = .ok (.getfield 32, 3)) ∧ (decode cX3_next 58 = .ok (.iconst 1, 1)) ∧ (decode cX3_next 59 = .ok (.if_icmp .eq 11, 3)) ∧ (decode cX3_next 62 = .ok (.aload_n 0, 1)) ∧ (decode cX3_next 63 = .ok (.getfield 32, 3)) ∧ (decode cX3_next 66 = .ok (.iconst 2, 1)) ∧ (decode cX3_next 67 = .ok (.if_icmp .ne 29, 3)) ∧ (decode cX3_next 70 = .ok (.iload_n 1, 1)) := by decide +kernel
theorem dX3_next_45 : decode cX3_next 45 = .ok (.getfield 32, 3) := qd1_2.1
theorem dX3_next_48 : decode cX3_next 48 = .ok (.ifCond .eq 6, 3) := qd1_2.2.1
theorem dX3_next_51 : decode cX3_next 51 = .ok (.iinc 1 1, 3) := qd1_2.2.2.1
theorem dX3_next_54 : decode cX3_next 54 = .ok (.aload_n 0, 1) := qd1_2.2.2.2.1
theorem dX3_next_55 : decode cX3_next 55 = .ok (.getfield 32, 3) := qd1_2.2.2.2.2.1
theorem dX3_next_58 : decode cX3_next 58 = .ok (.iconst 1, 1) := qd1_2.2.2.2.2.2.1
theorem dX3_next_59 : decode cX3_next 59 = .ok (.if_icmp .eq 11, 3) := qd1_2.2.2.2.2.2.2.1
theorem dX3_next_62 : decode cX3_next 62 = .ok (.aload_n 0, 1) := qd1_2.2.2.2.2.2.2.2.1
theorem dX3_next_63 : decode cX3_next 63 = .ok (.getfield 32, 3) := qd1_2.2.2.2.2.2.2.2.2.1
theorem dX3_next_66 : decode cX3_next 66 = .ok (.iconst 2, 1) := qd1_2.2.2.2.2.2.2.2.2.2.1
theorem dX3_next_67 : decode cX3_next 67 = .ok (.if_icmp .ne 29, 3) := qd1_2.2.2.2.2.2.2.2.2.2.2.1
theorem dX3_next_70 : decode cX3_next 70 = .ok (.iload_n 1, 1) := qd1_2.2.2.2.2.2.2.2.2.2.2.2
theorem qd1_3 : (decode cX3_next 71 = .ok (.aload_n 0, 1)) ∧ (decode cX3_next 72 = .ok (.getfield 15, 3)) ∧ (decode cX3_next 75 = .ok (.if_icmp .ge 21, 3)) ∧ (decode cX3_next 78 = .ok (.aload_n 0, 1)) ∧ (decode cX3_next 79 = .ok (.iload_n 1, 1)) ∧ (decode cX3_next 80 = .ok (.invokevirtual 148, 3)) ∧ (decode cX3_next 83 = .ok (.aload_n 0, 1)) ∧ (decode cX3_next 84 = .ok (.getfield 32, 3)) ∧ (decode cX3_next 87 = .ok (.if_icmp .ne 9, 3)) ∧ (decode cX3_next 90 = .ok (.iinc 1 1, 3)) ∧ (decode cX3_next 93 = .ok (.goto (-23), 3)) ∧ (decode cX3_next 96 = .ok (.aload_n 0, 1)) := by decide +kernel
theorem dX3_next_71 : decode cX3_next 71 = .ok (.aload_n 0, 1) := qd1_3.1
theorem dX3_next_72 : decode cX3_next 72 = .ok (.getfield 15, 3) := qd1_3.2.1
theorem dX3_next_75 : decode cX3_next 75 = .ok (.if_icmp .ge 21, 3) := qd1_3.2.2.1
theorem dX3_next_78 : decode cX3_next 78 = .ok (.aload_n 0, 1) := qd1_3.2.2.2.1
theorem dX3_next_79 : decode cX3_next 79 = .ok (.iload_n 1, 1) := qd1_3.2.2.2.2.1
theorem dX3_next_80 : decode cX3_next 80 = .ok (.invokevirtual 148, 3) := qd1_3.2.2.2.2.2.1
theorem dX3_next_83 : decode cX3_next 83 = .ok (.aload_n 0, 1) := qd1_3.2.2.2.2.2.2.1
theorem dX3_next_84 : decode cX3_next 84 = .ok (.getfield 32, 3) := qd1_3.2.2.2.2.2.2.2.1
theorem dX3_next_87 : decode cX3_next 87 = .ok (.if_icmp .ne 9, 3) := qd1_3.2.2.2.2.2.2.2.2.1
theorem dX3_next_90 : decode cX3_next 90 = .ok (.iinc 1 1, 3) := qd1_3.2.2.2.2.2.2.2.2.2.1
theorem dX3_next_93 : decode cX3_next 93 = .ok (.goto (-23), 3) := qd1_3.2.2.2.2.2.2.2.2.2.2.1
theorem dX3_next_96 : decode cX3_next 96 = .ok (.aload_n 0, 1) := qd1_3.2.2.2.2.2.2.2.2.2.2.2
theorem qd1_4 : (decode cX3_next 97 = .ok (.iload_n 1, 1)) ∧ (decode cX3_next 98 = .ok (.putfield 19, 3)) ∧ (decode cX3_next 101 = .ok (.aload_n 0, 1)) ∧ (decode cX3_next 102 = .ok (.aload_n 0, 1)) ∧ (decode cX3_next 103 = .ok (.getfield 32, 3)) ∧ (decode cX3_next 106 = .ok (.iconst 2, 1)) ∧ (decode cX3_next 107 = .ok (.if_icmp .ne 10, 3)) ∧ (decode cX3_next 110 = .ok (.aload_n 0, 1)) ∧ (decode cX3_next 111 = .ok (.invokevirtual 151, 3)) ∧ (decode cX3_next 114 = .ok (.goto 4, 3)) ∧ (decode cX3_next 117 = .ok (.iconst (-1), 1)) ∧ (decode cX3_next 118 = .ok (.putfield 131, 3)) := by decide +kernel
theorem dX3_next_97 : decode cX3_next 97 = .ok (.iload_n 1, 1) := qd1_4.1
theorem dX3_next_98 : decode cX3_next 98 = .ok (.putfield 19, 3) := qd1_4.2.1
theorem dX3_next_101 : decode cX3_next 101 = .ok (.aload_n 0, 1) := qd1_4.2.2.1
theorem dX3_next_102 : decode cX3_next 102 = .ok (.aload_n 0, 1) := qd1_4.2.2.2.1
theorem dX3_next_103 : decode cX3_next 103 = .ok (.getfield 32, 3) := qd1_4.2.2.2.2.1
theorem dX3_next_106 : decode cX3_next 106 = .ok (.iconst 2, 1) := qd1_4.2.2.2.2.2.1
theorem dX3_next_107 : decode cX3_next 107 = .ok (.if_icmp .ne 10, 3) := qd1_4.2.2.2.2.2.2.1
theorem dX3_next_110 : decode cX3_next 110 = .ok (.aload_n 0, 1) := qd1_4.2.2.2.2.2.2.2.1
theorem dX3_next_111 : decode cX3_next 111 = .ok (.invokevirtual 151, 3) := qd1_4.2.2.2.2.2.2.2.2.1
theorem dX3_next_114 : decode cX3_next 114 = .ok (.goto 4, 3) := qd1_4.2.2.2.2.2.2.2.2.2.1
theorem dX3_next_117 : decode cX3_next 117 = .ok (.iconst (-1), 1) := qd1_4.2.2.2.2.2.2.2.2.2.2.1
theorem dX3_next_118 : decode cX3_next 118 = .ok (.putfield 131, 3) := qd1_4.2.2.2.2.2.2.2.2.2.2.2
theorem dX3_next_121 : decode cX3_next 121 = .ok (.return_, 1) := by decide +kernel
theorem qd1_5 : (decode cX3_tokenAt 0 = .ok (.iload_n 1, 1)) ∧ (decode cX3_tokenAt 1 = .ok (.aload_n 0, 1)) ∧ (decode cX3_tokenAt 2 = .ok (.getfield 15, 3)) ∧ (decode cX3_tokenAt 5 = .ok (.if_icmp .lt 5, 3)) ∧ (decode cX3_tokenAt 8 = .ok (.iconst 0, 1)) ∧ (decode cX3_tokenAt 9 = .ok (.ireturn, 1)) ∧ (decode cX3_tokenAt 10 = .ok (.aload_n 0, 1)) ∧ (decode cX3_tokenAt 11 = .ok (.getfield 11, 3)) ∧ (decode cX3_tokenAt 14 = .ok (.iload_n 1, 1)) ∧ (decode cX3_tokenAt 15 = .ok (.iaload, 1)) ∧ (decode cX3_tokenAt 16 = .ok (.istore_n 2, 1)) ∧ (decode cX3_tokenAt 17 = .ok (.iload_n 2, 1)) := by decide +kernel
theorem dX3_tokenAt_0 : decode cX3_tokenAt 0 = .ok (.iload_n 1, 1) := qd1_5.1
theorem dX3_tokenAt_1 : decode cX3_tokenAt 1 = .ok (.aload_n 0, 1) := qd1_5.2.1
theorem dX3_tokenAt_2 : decode cX3_tokenAt 2 = .ok (.getfield 15, 3) := qd1_5.2.2.1
theorem dX3_tokenAt_5 : decode cX3_tokenAt 5 = .ok (.if_icmp .lt 5, 3) := qd1_5.2.2.2.1
theorem dX3_tokenAt_8 : decode cX3_tokenAt 8 = .ok (.iconst 0, 1) := qd1_5.2.2.2.2.1
theorem dX3_tokenAt_9 : decode cX3_tokenAt 9 = .ok (.ireturn, 1) := qd1_5.2.2.2.2.2.1
theorem dX3_tokenAt_10 : decode cX3_tokenAt 10 = .ok (.aload_n 0, 1) := qd1_5.2.2.2.2.2.2.1
theorem dX3_tokenAt_11 : decode cX3_tokenAt 11 = .ok (.getfield 11, 3) := qd1_5.2.2.2.2.2.2.2.1
theorem dX3_tokenAt_14 : decode cX3_tokenAt 14 = .ok (.iload_n 1, 1) := qd1_5.2.2.2.2.2.2.2.2.1
theorem dX3_tokenAt_15 : decode cX3_tokenAt 15 = .ok (.iaload, 1) := qd1_5.2.2.2.2.2.2.2.2.2.1
theorem dX3_tokenAt_16 : decode cX3_tokenAt 16 = .ok (.istore_n 2, 1) := qd1_5.2.2.2.2.2.2.2.2.2.2.1
theorem dX3_tokenAt_17 : decode cX3_tokenAt 17 = .ok (.iload_n 2, 1) := qd1_5.2.2.2.2.2.2.2.2.2.2.2
theorem qd1_6 : (decode cX3_tokenAt 18 = .ok (.bipush 97, 2)) ∧ (decode cX3_tokenAt 20 = .ok (.if_icmp .lt 11, 3)) ∧ (decode cX3_tokenAt 23 = .ok (.iload_n 2, 1)) ∧ (decode cX3_tokenAt 24 = .ok (.bipush 122, 2)) ∧ (decode cX3_tokenAt 26 = .ok (.if_icmp .gt 5, 3)) ∧ (decode cX3_tokenAt 29 = .ok (.iconst 1, 1)) ∧ (decode cX3_tokenAt 30 = .ok (.ireturn, 1)) ∧ (decode cX3_tokenAt 31 = .ok (.iload_n 2, 1)) ∧ (decode cX3_tokenAt 32 = .ok (.bipush 48, 2)) ∧ (decode cX3_tokenAt 34 = .ok (.if_icmp .lt 11, 3)) ∧ (decode cX3_tokenAt 37 = .ok (.iload_n 2, 1)) ∧ (decode cX3_tokenAt 38 = .ok (.bipush 57, 2)) := by decide +kernel
theorem dX3_tokenAt_18 : decode cX3_tokenAt 18 = .ok (.bipush 97, 2) := qd1_6.1
theorem dX3_tokenAt_20 : decode cX3_tokenAt 20 = .ok (.if_icmp .lt 11, 3) := qd1_6.2.1
theorem dX3_tokenAt_23 : decode cX3_tokenAt 23 = .ok (.iload_n 2, 1) := qd1_6.2.2.1
theorem dX3_tokenAt_24 : decode cX3_tokenAt 24 = .ok (.bipush 122, 2) := qd1_6.2.2.2.1
theorem dX3_tokenAt_26 : decode cX3_tokenAt 26 = .ok (.if_icmp .gt 5, 3) := qd1_6.2.2.2.2.1
theorem dX3_tokenAt_29 : decode cX3_tokenAt 29 = .ok (.iconst 1, 1) := qd1_6.2.2.2.2.2.1
theorem dX3_tokenAt_30 : decode cX3_tokenAt 30 = .ok (.ireturn, 1) := qd1_6.2.2.2.2.2.2.1
theorem dX3_tokenAt_31 : decode cX3_tokenAt 31 = .ok (.iload_n 2, 1) := qd1_6.2.2.2.2.2.2.2.1
theorem dX3_tokenAt_32 : decode cX3_tokenAt 32 = .ok (.bipush 48, 2) := qd1_6.2.2.2.2.2.2.2.2.1
theorem dX3_tokenAt_34 : decode cX3_tokenAt 34 = .ok (.if_icmp .lt 11, 3) := qd1_6.2.2.2.2.2.2.2.2.2.1
theorem dX3_tokenAt_37 : decode cX3_tokenAt 37 = .ok (.iload_n 2, 1) := qd1_6.2.2.2.2.2.2.2.2.2.2.1
theorem dX3_tokenAt_38 : decode cX3_tokenAt 38 = .ok (.bipush 57, 2) := qd1_6.2.2.2.2.2.2.2.2.2.2.2
theorem qd1_7 : (decode cX3_tokenAt 40 = .ok (.if_icmp .gt 5, 3)) ∧ (decode cX3_tokenAt 43 = .ok (.iconst 2, 1)) ∧ (decode cX3_tokenAt 44 = .ok (.ireturn, 1)) ∧ (decode cX3_tokenAt 45 = .ok (.iload_n 2, 1)) ∧ (decode cX3_tokenAt 46 = .ok (.bipush 59, 2)) ∧ (decode cX3_tokenAt 48 = .ok (.if_icmp .ne 7, 3)) ∧ (decode cX3_tokenAt 51 = .ok (.iconst 3, 1)) ∧ (decode cX3_tokenAt 52 = .ok (.goto 4, 3)) ∧ (decode cX3_tokenAt 55 = .ok (.iconst 4, 1)) ∧ (decode cX3_tokenAt 56 = .ok (.ireturn, 1)) := by decide +kernel
theorem dX3_tokenAt_40 : decode cX3_tokenAt 40 = .ok (.if_icmp .gt 5, 3) := qd1_7.1
theorem dX3_tokenAt_43 : decode cX3_tokenAt 43 = .ok (.iconst 2, 1) := qd1_7.2.1
theorem dX3_tokenAt_44 : decode cX3_tokenAt 44 = .ok (.ireturn, 1) := qd1_7.2.2.1
theorem dX3_tokenAt_45 : decode cX3_tokenAt 45 = .ok (.iload_n 2, 1) := qd1_7.2.2.2.1
theorem dX3_tokenAt_46 : decode cX3_tokenAt 46 = .ok (.bipush 59, 2) := qd1_7.2.2.2.2.1
theorem dX3_tokenAt_48 : decode cX3_tokenAt 48 = .ok (.if_icmp .ne 7, 3) := qd1_7.2.2.2.2.2.1
theorem dX3_tokenAt_51 : decode cX3_tokenAt 51 = .ok (.iconst 3, 1) := qd1_7.2.2.2.2.2.2.1
theorem dX3_tokenAt_52 : decode cX3_tokenAt 52 = .ok (.goto 4, 3) := qd1_7.2.2.2.2.2.2.2.1
theorem dX3_tokenAt_55 : decode cX3_tokenAt 55 = .ok (.iconst 4, 1) := qd1_7.2.2.2.2.2.2.2.2.1
theorem dX3_tokenAt_56 : decode cX3_tokenAt 56 = .ok (.ireturn, 1) := qd1_7.2.2.2.2.2.2.2.2.2
theorem qd1_8 : (decode cX3_valueHere 0 = .ok (.aload_n 0, 1)) ∧ (decode cX3_valueHere 1 = .ok (.getfield 19, 3)) ∧ (decode cX3_valueHere 4 = .ok (.aload_n 0, 1)) ∧ (decode cX3_valueHere 5 = .ok (.getfield 29, 3)) ∧ (decode cX3_valueHere 8 = .ok (.isub, 1)) ∧ (decode cX3_valueHere 9 = .ok (.iconst 3, 1)) ∧ (decode cX3_valueHere 10 = .ok (.if_icmp .le 5, 3)) ∧ (decode cX3_valueHere 13 = .ok (.iconst (-1), 1)) ∧ (decode cX3_valueHere 14 = .ok (.ireturn, 1)) ∧ (decode cX3_valueHere 15 = .ok (.iconst 0, 1)) ∧ (decode cX3_valueHere 16 = .ok (.istore_n 1, 1)) ∧ (decode cX3_valueHere 17 = .ok (.aload_n 0, 1)) := by decide +kernel
theorem dX3_valueHere_0 : decode cX3_valueHere 0 = .ok (.aload_n 0, 1) := qd1_8.1
theorem dX3_valueHere_1 : decode cX3_valueHere 1 = .ok (.getfield 19, 3) := qd1_8.2.1
theorem dX3_valueHere_4 : decode cX3_valueHere 4 = .ok (.aload_n 0, 1) := qd1_8.2.2.1
theorem dX3_valueHere_5 : decode cX3_valueHere 5 = .ok (.getfield 29, 3) := qd1_8.2.2.2.1
theorem dX3_valueHere_8 : decode cX3_valueHere 8 = .ok (.isub, 1) := qd1_8.2.2.2.2.1
theorem dX3_valueHere_9 : decode cX3_valueHere 9 = .ok (.iconst 3, 1) := qd1_8.2.2.2.2.2.1
theorem dX3_valueHere_10 : decode cX3_valueHere 10 = .ok (.if_icmp .le 5, 3) := qd1_8.2.2.2.2.2.2.1
theorem dX3_valueHere_13 : decode cX3_valueHere 13 = .ok (.iconst (-1), 1) := qd1_8.2.2.2.2.2.2.2.1
theorem dX3_valueHere_14 : decode cX3_valueHere 14 = .ok (.ireturn, 1) := qd1_8.2.2.2.2.2.2.2.2.1
theorem dX3_valueHere_15 : decode cX3_valueHere 15 = .ok (.iconst 0, 1) := qd1_8.2.2.2.2.2.2.2.2.2.1
theorem dX3_valueHere_16 : decode cX3_valueHere 16 = .ok (.istore_n 1, 1) := qd1_8.2.2.2.2.2.2.2.2.2.2.1
theorem dX3_valueHere_17 : decode cX3_valueHere 17 = .ok (.aload_n 0, 1) := qd1_8.2.2.2.2.2.2.2.2.2.2.2
theorem qd1_9 : (decode cX3_valueHere 18 = .ok (.getfield 29, 3)) ∧ (decode cX3_valueHere 21 = .ok (.istore_n 2, 1)) ∧ (decode cX3_valueHere 22 = .ok (.iload_n 2, 1)) ∧ (decode cX3_valueHere 23 = .ok (.aload_n 0, 1)) ∧ (decode cX3_valueHere 24 = .ok (.getfield 19, 3)) ∧ (decode cX3_valueHere 27 = .ok (.if_icmp .ge 24, 3)) ∧ (decode cX3_valueHere 30 = .ok (.bipush 10, 2)) ∧ (decode cX3_valueHere 32 = .ok (.iload_n 1, 1)) ∧ (decode cX3_valueHere 33 = .ok (.imul, 1)) ∧ (decode cX3_valueHere 34 = .ok (.aload_n 0, 1)) ∧ (decode cX3_valueHere 35 = .ok (.getfield 11, 3)) ∧ (decode cX3_valueHere 38 = .ok (.iload_n 2, 1)) := by decide +kernel
theorem dX3_valueHere_18 : decode cX3_valueHere 18 = .ok (.getfield 29, 3) := qd1_9.1
theorem dX3_valueHere_21 : decode cX3_valueHere 21 = .ok (.istore_n 2, 1) := qd1_9.2.1
theorem dX3_valueHere_22 : decode cX3_valueHere 22 = .ok (.iload_n 2, 1) := qd1_9.2.2.1
theorem dX3_valueHere_23 : decode cX3_valueHere 23 = .ok (.aload_n 0, 1) := qd1_9.2.2.2.1
theorem dX3_valueHere_24 : decode cX3_valueHere 24 = .ok (.getfield 19, 3) := qd1_9.2.2.2.2.1
theorem dX3_valueHere_27 : decode cX3_valueHere 27 = .ok (.if_icmp .ge 24, 3) := qd1_9.2.2.2.2.2.1
theorem dX3_valueHere_30 : decode cX3_valueHere 30 = .ok (.bipush 10, 2) := qd1_9.2.2.2.2.2.2.1
theorem dX3_valueHere_32 : decode cX3_valueHere 32 = .ok (.iload_n 1, 1) := qd1_9.2.2.2.2.2.2.2.1
theorem dX3_valueHere_33 : decode cX3_valueHere 33 = .ok (.imul, 1) := qd1_9.2.2.2.2.2.2.2.2.1
theorem dX3_valueHere_34 : decode cX3_valueHere 34 = .ok (.aload_n 0, 1) := qd1_9.2.2.2.2.2.2.2.2.2.1
theorem dX3_valueHere_35 : decode cX3_valueHere 35 = .ok (.getfield 11, 3) := qd1_9.2.2.2.2.2.2.2.2.2.2.1
theorem dX3_valueHere_38 : decode cX3_valueHere 38 = .ok (.iload_n 2, 1) := qd1_9.2.2.2.2.2.2.2.2.2.2.2
theorem qd1_10 : (decode cX3_valueHere 39 = .ok (.iaload, 1)) ∧ (decode cX3_valueHere 40 = .ok (.iadd, 1)) ∧ (decode cX3_valueHere 41 = .ok (.bipush 48, 2)) ∧ (decode cX3_valueHere 43 = .ok (.isub, 1)) ∧ (decode cX3_valueHere 44 = .ok (.istore_n 1, 1)) ∧ (decode cX3_valueHere 45 = .ok (.iinc 2 1, 3)) ∧ (decode cX3_valueHere 48 = .ok (.goto (-26), 3)) ∧ (decode cX3_valueHere 51 = .ok (.iload_n 1, 1)) ∧ (decode cX3_valueHere 52 = .ok (.ireturn, 1)) := by decide +kernel
theorem dX3_valueHere_39 : decode cX3_valueHere 39 = .ok (.iaload, 1) := qd1_10.1
theorem dX3_valueHere_40 : decode cX3_valueHere 40 = .ok (.iadd, 1) := qd1_10.2.1
theorem dX3_valueHere_41 : decode cX3_valueHere 41 = .ok (.bipush 48, 2) := qd1_10.2.2.1
theorem dX3_valueHere_43 : decode cX3_valueHere 43 = .ok (.isub, 1) := qd1_10.2.2.2.1
theorem dX3_valueHere_44 : decode cX3_valueHere 44 = .ok (.istore_n 1, 1) := qd1_10.2.2.2.2.1
theorem dX3_valueHere_45 : decode cX3_valueHere 45 = .ok (.iinc 2 1, 3) := qd1_10.2.2.2.2.2.1
theorem dX3_valueHere_48 : decode cX3_valueHere 48 = .ok (.goto (-26), 3) := qd1_10.2.2.2.2.2.2.1
theorem dX3_valueHere_51 : decode cX3_valueHere 51 = .ok (.iload_n 1, 1) := qd1_10.2.2.2.2.2.2.2.1
theorem dX3_valueHere_52 : decode cX3_valueHere 52 = .ok (.ireturn, 1) := qd1_10.2.2.2.2.2.2.2.2
theorem qd1_11 : (decode cX4_init 0 = .ok (.aload_n 0, 1)) ∧ (decode cX4_init 1 = .ok (.invokespecial 3, 3)) ∧ (decode cX4_init 4 = .ok (.aload_n 0, 1)) ∧ (decode cX4_init 5 = .ok (.new 9, 3)) ∧ (decode cX4_init 8 = .ok (.dup, 1)) ∧ (decode cX4_init 9 = .ok (.invokespecial 11, 3)) ∧ (decode cX4_init 12 = .ok (.putfield 12, 3)) ∧ (decode cX4_init 15 = .ok (.aload_n 0, 1)) ∧ (decode cX4_init 16 = .ok (.bipush 20, 2)) ∧ (decode cX4_init 18 = .ok (.newarray .int, 2)) ∧ (decode cX4_init 20 = .ok (.putfield 18, 3)) ∧ (decode cX4_init 23 = .ok (.aload_n 0, 1)) := by decide +kernel
theorem dX4_init_0 : decode cX4_init 0 = .ok (.aload_n 0, 1) := qd1_11.1
theorem dX4_init_1 : decode cX4_init 1 = .ok (.invokespecial 3, 3) := qd1_11.2.1
theorem dX4_init_4 : decode cX4_init 4 = .ok (.aload_n 0, 1) := qd1_11.2.2.1
theorem dX4_init_5 : decode cX4_init 5 = .ok (.new 9, 3) := qd1_11.2.2.2.1
theorem dX4_init_8 : decode cX4_init 8 = .ok (.dup, 1) := qd1_11.2.2.2.2.1
theorem dX4_init_9 : decode cX4_init 9 = .ok (.invokespecial 11, 3) := qd1_11.2.2.2.2.2.1
theorem dX4_init_12 : decode cX4_init 12 = .ok (.putfield 12, 3) := qd1_11.2.2.2.2.2.2.1
theorem dX4_init_15 : decode cX4_init 15 = .ok (.aload_n 0, 1) := qd1_11.2.2.2.2.2.2.2.1
theorem dX4_init_16 : decode cX4_init 16 = .ok (.bipush 20, 2) := qd1_11.2.2.2.2.2.2.2.2.1
theorem dX4_init_18 : decode cX4_init 18 = .ok (.newarray .int, 2) := qd1_11.2.2.2.2.2.2.2.2.2.1
theorem dX4_init_20 : decode cX4_init 20 = .ok (.putfield 18, 3) := qd1_11.2.2.2.2.2.2.2.2.2.2.1
theorem dX4_init_23 : decode cX4_init 23 = .ok (.aload_n 0, 1) := qd1_11.2.2.2.2.2.2.2.2.2.2.2
theorem qd1_12 : (decode cX4_init 24 = .ok (.bipush 6, 2)) ∧ (decode cX4_init 26 = .ok (.newarray .int, 2)) ∧ (decode cX4_init 28 = .ok (.putfield 22, 3)) ∧ (decode cX4_init 31 = .ok (.return_, 1)) := by decide +kernel
theorem dX4_init_24 : decode cX4_init 24 = .ok (.bipush 6, 2) := qd1_12.1
theorem dX4_init_26 : decode cX4_init 26 = .ok (.newarray .int, 2) := qd1_12.2.1
theorem dX4_init_28 : decode cX4_init 28 = .ok (.putfield 22, 3) := qd1_12.2.2.1
theorem dX4_init_31 : decode cX4_init 31 = .ok (.return_, 1) := qd1_12.2.2.2
theorem qd1_13 : (decode cX4_costBetween 0 = .ok (.aload_n 0, 1)) ∧ (decode cX4_costBetween 1 = .ok (.getfield 12, 3)) ∧ (decode cX4_costBetween 4 = .ok (.aload_n 1, 1)) ∧ (decode cX4_costBetween 5 = .ok (.aload_n 1, 1)) ∧ (decode cX4_costBetween 6 = .ok (.invokevirtual 25, 3)) ∧ (decode cX4_costBetween 9 = .ok (.invokevirtual 31, 3)) ∧ (decode cX4_costBetween 12 = .ok (.aload_n 0, 1)) ∧ (decode cX4_costBetween 13 = .ok (.getfield 12, 3)) ∧ (decode cX4_costBetween 16 = .ok (.iload_n 3, 1)) ∧ (decode cX4_costBetween 17 = .ok (.invokevirtual 35, 3)) ∧ (decode cX4_costBetween 20 = .ok (.aload_n 0, 1)) ∧ (decode cX4_costBetween 21 = .ok (.getfield 12, 3)) := by decide +kernel
theorem dX4_costBetween_0 : decode cX4_costBetween 0 = .ok (.aload_n 0, 1) := qd1_13.1
theorem dX4_costBetween_1 : decode cX4_costBetween 1 = .ok (.getfield 12, 3) := qd1_13.2.1
theorem dX4_costBetween_4 : decode cX4_costBetween 4 = .ok (.aload_n 1, 1) := qd1_13.2.2.1
theorem dX4_costBetween_5 : decode cX4_costBetween 5 = .ok (.aload_n 1, 1) := qd1_13.2.2.2.1
theorem dX4_costBetween_6 : decode cX4_costBetween 6 = .ok (.invokevirtual 25, 3) := qd1_13.2.2.2.2.1
theorem dX4_costBetween_9 : decode cX4_costBetween 9 = .ok (.invokevirtual 31, 3) := qd1_13.2.2.2.2.2.1
theorem dX4_costBetween_12 : decode cX4_costBetween 12 = .ok (.aload_n 0, 1) := qd1_13.2.2.2.2.2.2.1
theorem dX4_costBetween_13 : decode cX4_costBetween 13 = .ok (.getfield 12, 3) := qd1_13.2.2.2.2.2.2.2.1
theorem dX4_costBetween_16 : decode cX4_costBetween 16 = .ok (.iload_n 3, 1) := qd1_13.2.2.2.2.2.2.2.2.1
theorem dX4_costBetween_17 : decode cX4_costBetween 17 = .ok (.invokevirtual 35, 3) := qd1_13.2.2.2.2.2.2.2.2.2.1
theorem dX4_costBetween_20 : decode cX4_costBetween 20 = .ok (.aload_n 0, 1) := qd1_13.2.2.2.2.2.2.2.2.2.2.1
theorem dX4_costBetween_21 : decode cX4_costBetween 21 = .ok (.getfield 12, 3) := qd1_13.2.2.2.2.2.2.2.2.2.2.2
theorem qd1_14 : (decode cX4_costBetween 24 = .ok (.iload_n 2, 1)) ∧ (decode cX4_costBetween 25 = .ok (.invokevirtual 39, 3)) ∧ (decode cX4_costBetween 28 = .ok (.ireturn, 1)) := by decide +kernel
theorem dX4_costBetween_24 : decode cX4_costBetween 24 = .ok (.iload_n 2, 1) := qd1_14.1
theorem dX4_costBetween_25 : decode cX4_costBetween 25 = .ok (.invokevirtual 39, 3) := qd1_14.2.1
theorem dX4_costBetween_28 : decode cX4_costBetween 28 = .ok (.ireturn, 1) := qd1_14.2.2
theorem qd1_15 : (decode cX4_freeBy 0 = .ok (.aload_n 0, 1)) ∧ (decode cX4_freeBy 1 = .ok (.getfield 12, 3)) ∧ (decode cX4_freeBy 4 = .ok (.aload_n 1, 1)) ∧ (decode cX4_freeBy 5 = .ok (.iload_n 2, 1)) ∧ (decode cX4_freeBy 6 = .ok (.invokevirtual 31, 3)) ∧ (decode cX4_freeBy 9 = .ok (.iconst 0, 1)) ∧ (decode cX4_freeBy 10 = .ok (.istore_n 3, 1)) ∧ (decode cX4_freeBy 11 = .ok (.iconst 0, 1)) ∧ (decode cX4_freeBy 12 = .ok (.istore 4, 2)) ∧ (decode cX4_freeBy 14 = .ok (.iload 4, 2)) ∧ (decode cX4_freeBy 16 = .ok (.bipush 12, 2)) ∧ (decode cX4_freeBy 18 = .ok (.if_icmp .ge 89, 3)) := by decide +kernel
theorem dX4_freeBy_0 : decode cX4_freeBy 0 = .ok (.aload_n 0, 1) := qd1_15.1
theorem dX4_freeBy_1 : decode cX4_freeBy 1 = .ok (.getfield 12, 3) := qd1_15.2.1
theorem dX4_freeBy_4 : decode cX4_freeBy 4 = .ok (.aload_n 1, 1) := qd1_15.2.2.1
theorem dX4_freeBy_5 : decode cX4_freeBy 5 = .ok (.iload_n 2, 1) := qd1_15.2.2.2.1
theorem dX4_freeBy_6 : decode cX4_freeBy 6 = .ok (.invokevirtual 31, 3) := qd1_15.2.2.2.2.1
theorem dX4_freeBy_9 : decode cX4_freeBy 9 = .ok (.iconst 0, 1) := qd1_15.2.2.2.2.2.1
theorem dX4_freeBy_10 : decode cX4_freeBy 10 = .ok (.istore_n 3, 1) := qd1_15.2.2.2.2.2.2.1
theorem dX4_freeBy_11 : decode cX4_freeBy 11 = .ok (.iconst 0, 1) := qd1_15.2.2.2.2.2.2.2.1
theorem dX4_freeBy_12 : decode cX4_freeBy 12 = .ok (.istore 4, 2) := qd1_15.2.2.2.2.2.2.2.2.1
theorem dX4_freeBy_14 : decode cX4_freeBy 14 = .ok (.iload 4, 2) := qd1_15.2.2.2.2.2.2.2.2.2.1
theorem dX4_freeBy_16 : decode cX4_freeBy 16 = .ok (.bipush 12, 2) := qd1_15.2.2.2.2.2.2.2.2.2.2.1
theorem dX4_freeBy_18 : decode cX4_freeBy 18 = .ok (.if_icmp .ge 89, 3) := qd1_15.2.2.2.2.2.2.2.2.2.2.2
theorem qd1_16 : (decode cX4_freeBy 21 = .ok (.iconst 0, 1)) ∧ (decode cX4_freeBy 22 = .ok (.istore 5, 2)) ∧ (decode cX4_freeBy 24 = .ok (.iload 5, 2)) ∧ (decode cX4_freeBy 26 = .ok (.aload_n 1, 1)) ∧ (decode cX4_freeBy 27 = .ok (.getfield 43, 3)) ∧ (decode cX4_freeBy 30 = .ok (.if_icmp .ge 71, 3)) ∧ (decode cX4_freeBy 33 = .ok (.aload_n 1, 1)) ∧ (decode cX4_freeBy 34 = .ok (.iload 5, 2)) ∧ (decode cX4_freeBy 36 = .ok (.iconst 1, 1)) ∧ (decode cX4_freeBy 37 = .ok (.invokevirtual 47, 3)) ∧ (decode cX4_freeBy 40 = .ok (.iload 4, 2)) ∧ (decode cX4_freeBy 42 = .ok (.if_icmp .ne 53, 3)) := by decide +kernel
theorem dX4_freeBy_21 : decode cX4_freeBy 21 = .ok (.iconst 0, 1) := qd1_16.1
theorem dX4_freeBy_22 : decode cX4_freeBy 22 = .ok (.istore 5, 2) := qd1_16.2.1
theorem dX4_freeBy_24 : decode cX4_freeBy 24 = .ok (.iload 5, 2) := qd1_16.2.2.1
theorem dX4_freeBy_26 : decode cX4_freeBy 26 = .ok (.aload_n 1, 1) := qd1_16.2.2.2.1
theorem dX4_freeBy_27 : decode cX4_freeBy 27 = .ok (.getfield 43, 3) := qd1_16.2.2.2.2.1
theorem dX4_freeBy_30 : decode cX4_freeBy 30 = .ok (.if_icmp .ge 71, 3) := qd1_16.2.2.2.2.2.1
theorem dX4_freeBy_33 : decode cX4_freeBy 33 = .ok (.aload_n 1, 1) := qd1_16.2.2.2.2.2.2.1
theorem dX4_freeBy_34 : decode cX4_freeBy 34 = .ok (.iload 5, 2) := qd1_16.2.2.2.2.2.2.2.1
theorem dX4_freeBy_36 : decode cX4_freeBy 36 = .ok (.iconst 1, 1) := qd1_16.2.2.2.2.2.2.2.2.1
theorem dX4_freeBy_37 : decode cX4_freeBy 37 = .ok (.invokevirtual 47, 3) := qd1_16.2.2.2.2.2.2.2.2.2.1
theorem dX4_freeBy_40 : decode cX4_freeBy 40 = .ok (.iload 4, 2) := qd1_16.2.2.2.2.2.2.2.2.2.2.1
theorem dX4_freeBy_42 : decode cX4_freeBy 42 = .ok (.if_icmp .ne 53, 3) := qd1_16.2.2.2.2.2.2.2.2.2.2.2
theorem qd1_17 : (decode cX4_freeBy 45 = .ok (.aload_n 0, 1)) ∧ (decode cX4_freeBy 46 = .ok (.getfield 12, 3)) ∧ (decode cX4_freeBy 49 = .ok (.iload 4, 2)) ∧ (decode cX4_freeBy 51 = .ok (.invokevirtual 35, 3)) ∧ (decode cX4_freeBy 54 = .ok (.aload_n 0, 1)) ∧ (decode cX4_freeBy 55 = .ok (.getfield 12, 3)) ∧ (decode cX4_freeBy 58 = .ok (.aload_n 1, 1)) ∧ (decode cX4_freeBy 59 = .ok (.iload 5, 2)) ∧ (decode cX4_freeBy 61 = .ok (.iconst 0, 1)) ∧ (decode cX4_freeBy 62 = .ok (.invokevirtual 47, 3)) ∧ (decode cX4_freeBy 65 = .ok (.invokevirtual 39, 3)) ∧ (decode cX4_freeBy 68 = .ok (.istore 6, 2)) := by decide +kernel
theorem dX4_freeBy_45 : decode cX4_freeBy 45 = .ok (.aload_n 0, 1) := qd1_17.1
theorem dX4_freeBy_46 : decode cX4_freeBy 46 = .ok (.getfield 12, 3) := qd1_17.2.1
theorem dX4_freeBy_49 : decode cX4_freeBy 49 = .ok (.iload 4, 2) := qd1_17.2.2.1
theorem dX4_freeBy_51 : decode cX4_freeBy 51 = .ok (.invokevirtual 35, 3) := qd1_17.2.2.2.1
theorem dX4_freeBy_54 : decode cX4_freeBy 54 = .ok (.aload_n 0, 1) := qd1_17.2.2.2.2.1
theorem dX4_freeBy_55 : decode cX4_freeBy 55 = .ok (.getfield 12, 3) := qd1_17.2.2.2.2.2.1
theorem dX4_freeBy_58 : decode cX4_freeBy 58 = .ok (.aload_n 1, 1) := qd1_17.2.2.2.2.2.2.1
theorem dX4_freeBy_59 : decode cX4_freeBy 59 = .ok (.iload 5, 2) := qd1_17.2.2.2.2.2.2.2.1
theorem dX4_freeBy_61 : decode cX4_freeBy 61 = .ok (.iconst 0, 1) := qd1_17.2.2.2.2.2.2.2.2.1
theorem dX4_freeBy_62 : decode cX4_freeBy 62 = .ok (.invokevirtual 47, 3) := qd1_17.2.2.2.2.2.2.2.2.2.1
theorem dX4_freeBy_65 : decode cX4_freeBy 65 = .ok (.invokevirtual 39, 3) := qd1_17.2.2.2.2.2.2.2.2.2.2.1
theorem dX4_freeBy_68 : decode cX4_freeBy 68 = .ok (.istore 6, 2) := qd1_17.2.2.2.2.2.2.2.2.2.2.2
theorem qd1_18 : (decode cX4_freeBy 70 = .ok (.iload_n 3, 1)) ∧ (decode cX4_freeBy 71 = .ok (.aload_n 1, 1)) ∧ (decode cX4_freeBy 72 = .ok (.iload 5, 2)) ∧ (decode cX4_freeBy 74 = .ok (.iconst 2, 1)) ∧ (decode cX4_freeBy 75 = .ok (.invokevirtual 47, 3)) ∧ (decode cX4_freeBy 78 = .ok (.iload 6, 2)) ∧ (decode cX4_freeBy 80 = .ok (.iconst (-1), 1)) ∧ (decode cX4_freeBy 81 = .ok (.if_icmp .ne 9, 3)) ∧ (decode cX4_freeBy 84 = .ok (.sipush 999, 3)) ∧ (decode cX4_freeBy 87 = .ok (.goto 5, 3)) ∧ (decode cX4_freeBy 90 = .ok (.iload 6, 2)) ∧ (decode cX4_freeBy 92 = .ok (.imul, 1)) := by decide +kernel
theorem dX4_freeBy_70 : decode cX4_freeBy 70 = .ok (.iload_n 3, 1) := qd1_18.1
theorem dX4_freeBy_71 : decode cX4_freeBy 71 = .ok (.aload_n 1, 1) := qd1_18.2.1
theorem dX4_freeBy_72 : decode cX4_freeBy 72 = .ok (.iload 5, 2) := qd1_18.2.2.1
theorem dX4_freeBy_74 : decode cX4_freeBy 74 = .ok (.iconst 2, 1) := qd1_18.2.2.2.1
theorem dX4_freeBy_75 : decode cX4_freeBy 75 = .ok (.invokevirtual 47, 3) := qd1_18.2.2.2.2.1
theorem dX4_freeBy_78 : decode cX4_freeBy 78 = .ok (.iload 6, 2) := qd1_18.2.2.2.2.2.1
theorem dX4_freeBy_80 : decode cX4_freeBy 80 = .ok (.iconst (-1), 1) := qd1_18.2.2.2.2.2.2.1
theorem dX4_freeBy_81 : decode cX4_freeBy 81 = .ok (.if_icmp .ne 9, 3) := qd1_18.2.2.2.2.2.2.2.1
theorem dX4_freeBy_84 : decode cX4_freeBy 84 = .ok (.sipush 999, 3) := qd1_18.2.2.2.2.2.2.2.2.1
theorem dX4_freeBy_87 : decode cX4_freeBy 87 = .ok (.goto 5, 3) := qd1_18.2.2.2.2.2.2.2.2.2.1
theorem dX4_freeBy_90 : decode cX4_freeBy 90 = .ok (.iload 6, 2) := qd1_18.2.2.2.2.2.2.2.2.2.2.1
theorem dX4_freeBy_92 : decode cX4_freeBy 92 = .ok (.imul, 1) := qd1_18.2.2.2.2.2.2.2.2.2.2.2
theorem qd1_19 : (decode cX4_freeBy 93 = .ok (.iadd, 1)) ∧ (decode cX4_freeBy 94 = .ok (.istore_n 3, 1)) ∧ (decode cX4_freeBy 95 = .ok (.iinc 5 1, 3)) ∧ (decode cX4_freeBy 98 = .ok (.goto (-74), 3)) ∧ (decode cX4_freeBy 101 = .ok (.iinc 4 1, 3)) ∧ (decode cX4_freeBy 104 = .ok (.goto (-90), 3)) ∧ (decode cX4_freeBy 107 = .ok (.iload_n 3, 1)) ∧ (decode cX4_freeBy 108 = .ok (.ireturn, 1)) := by decide +kernel
theorem dX4_freeBy_93 : decode cX4_freeBy 93 = .ok (.iadd, 1) := qd1_19.1
theorem dX4_freeBy_94 : decode cX4_freeBy 94 = .ok (.istore_n 3, 1) := qd1_19.2.1
theorem dX4_freeBy_95 : decode cX4_freeBy 95 = .ok (.iinc 5 1, 3) := qd1_19.2.2.1
theorem dX4_freeBy_98 : decode cX4_freeBy 98 = .ok (.goto (-74), 3) := qd1_19.2.2.2.1
theorem dX4_freeBy_101 : decode cX4_freeBy 101 = .ok (.iinc 4 1, 3) := qd1_19.2.2.2.2.1
theorem dX4_freeBy_104 : decode cX4_freeBy 104 = .ok (.goto (-90), 3) := qd1_19.2.2.2.2.2.1
theorem dX4_freeBy_107 : decode cX4_freeBy 107 = .ok (.iload_n 3, 1) := qd1_19.2.2.2.2.2.2.1
theorem dX4_freeBy_108 : decode cX4_freeBy 108 = .ok (.ireturn, 1) := qd1_19.2.2.2.2.2.2.2
theorem qd1_20 : (decode cX4_sendInTurn 0 = .ok (.aload_n 0, 1)) ∧ (decode cX4_sendInTurn 1 = .ok (.iconst 0, 1)) ∧ (decode cX4_sendInTurn 2 = .ok (.putfield 51, 3)) ∧ (decode cX4_sendInTurn 5 = .ok (.aload_n 0, 1)) ∧ (decode cX4_sendInTurn 6 = .ok (.iconst 0, 1)) ∧ (decode cX4_sendInTurn 7 = .ok (.putfield 54, 3)) ∧ (decode cX4_sendInTurn 10 = .ok (.iconst 0, 1)) ∧ (decode cX4_sendInTurn 11 = .ok (.istore_n 2, 1)) ∧ (decode cX4_sendInTurn 12 = .ok (.iload_n 2, 1)) ∧ (decode cX4_sendInTurn 13 = .ok (.aload_n 1, 1)) ∧ (decode cX4_sendInTurn 14 = .ok (.getfield 57, 3)) ∧ (decode cX4_sendInTurn 17 = .ok (.if_icmp .ge 21, 3)) := by decide +kernel
theorem dX4_sendInTurn_0 : decode cX4_sendInTurn 0 = .ok (.aload_n 0, 1) := qd1_20.1
theorem dX4_sendInTurn_1 : decode cX4_sendInTurn 1 = .ok (.iconst 0, 1) := qd1_20.2.1
theorem dX4_sendInTurn_2 : decode cX4_sendInTurn 2 = .ok (.putfield 51, 3) := qd1_20.2.2.1
theorem dX4_sendInTurn_5 : decode cX4_sendInTurn 5 = .ok (.aload_n 0, 1) := qd1_20.2.2.2.1
theorem dX4_sendInTurn_6 : decode cX4_sendInTurn 6 = .ok (.iconst 0, 1) := qd1_20.2.2.2.2.1
theorem dX4_sendInTurn_7 : decode cX4_sendInTurn 7 = .ok (.putfield 54, 3) := qd1_20.2.2.2.2.2.1
theorem dX4_sendInTurn_10 : decode cX4_sendInTurn 10 = .ok (.iconst 0, 1) := qd1_20.2.2.2.2.2.2.1
theorem dX4_sendInTurn_11 : decode cX4_sendInTurn 11 = .ok (.istore_n 2, 1) := qd1_20.2.2.2.2.2.2.2.1
theorem dX4_sendInTurn_12 : decode cX4_sendInTurn 12 = .ok (.iload_n 2, 1) := qd1_20.2.2.2.2.2.2.2.2.1
theorem dX4_sendInTurn_13 : decode cX4_sendInTurn 13 = .ok (.aload_n 1, 1) := qd1_20.2.2.2.2.2.2.2.2.2.1
theorem dX4_sendInTurn_14 : decode cX4_sendInTurn 14 = .ok (.getfield 57, 3) := qd1_20.2.2.2.2.2.2.2.2.2.2.1
theorem dX4_sendInTurn_17 : decode cX4_sendInTurn 17 = .ok (.if_icmp .ge 21, 3) := qd1_20.2.2.2.2.2.2.2.2.2.2.2
theorem qd1_21 : (decode cX4_sendInTurn 20 = .ok (.aload_n 0, 1)) ∧ (decode cX4_sendInTurn 21 = .ok (.getfield 18, 3)) ∧ (decode cX4_sendInTurn 24 = .ok (.iload_n 2, 1)) ∧ (decode cX4_sendInTurn 25 = .ok (.aload_n 1, 1)) ∧ (decode cX4_sendInTurn 26 = .ok (.iload_n 2, 1)) ∧ (decode cX4_sendInTurn 27 = .ok (.iconst 4, 1)) ∧ (decode cX4_sendInTurn 28 = .ok (.invokevirtual 60, 3)) ∧ (decode cX4_sendInTurn 31 = .ok (.iastore, 1)) ∧ (decode cX4_sendInTurn 32 = .ok (.iinc 2 1, 3)) ∧ (decode cX4_sendInTurn 35 = .ok (.goto (-23), 3)) ∧ (decode cX4_sendInTurn 38 = .ok (.iconst 0, 1)) ∧ (decode cX4_sendInTurn 39 = .ok (.istore_n 2, 1)) := by decide +kernel
theorem dX4_sendInTurn_20 : decode cX4_sendInTurn 20 = .ok (.aload_n 0, 1) := qd1_21.1
theorem dX4_sendInTurn_21 : decode cX4_sendInTurn 21 = .ok (.getfield 18, 3) := qd1_21.2.1
theorem dX4_sendInTurn_24 : decode cX4_sendInTurn 24 = .ok (.iload_n 2, 1) := qd1_21.2.2.1
theorem dX4_sendInTurn_25 : decode cX4_sendInTurn 25 = .ok (.aload_n 1, 1) := qd1_21.2.2.2.1
theorem dX4_sendInTurn_26 : decode cX4_sendInTurn 26 = .ok (.iload_n 2, 1) := qd1_21.2.2.2.2.1
theorem dX4_sendInTurn_27 : decode cX4_sendInTurn 27 = .ok (.iconst 4, 1) := qd1_21.2.2.2.2.2.1
theorem dX4_sendInTurn_28 : decode cX4_sendInTurn 28 = .ok (.invokevirtual 60, 3) := qd1_21.2.2.2.2.2.2.1
theorem dX4_sendInTurn_31 : decode cX4_sendInTurn 31 = .ok (.iastore, 1) := qd1_21.2.2.2.2.2.2.2.1
theorem dX4_sendInTurn_32 : decode cX4_sendInTurn 32 = .ok (.iinc 2 1, 3) := qd1_21.2.2.2.2.2.2.2.2.1
theorem dX4_sendInTurn_35 : decode cX4_sendInTurn 35 = .ok (.goto (-23), 3) := qd1_21.2.2.2.2.2.2.2.2.2.1
theorem dX4_sendInTurn_38 : decode cX4_sendInTurn 38 = .ok (.iconst 0, 1) := qd1_21.2.2.2.2.2.2.2.2.2.2.1
theorem dX4_sendInTurn_39 : decode cX4_sendInTurn 39 = .ok (.istore_n 2, 1) := qd1_21.2.2.2.2.2.2.2.2.2.2.2
theorem qd1_22 : (decode cX4_sendInTurn 40 = .ok (.iload_n 2, 1)) ∧ (decode cX4_sendInTurn 41 = .ok (.aload_n 1, 1)) ∧ (decode cX4_sendInTurn 42 = .ok (.getfield 43, 3)) ∧ (decode cX4_sendInTurn 45 = .ok (.if_icmp .ge 112, 3)) ∧ (decode cX4_sendInTurn 48 = .ok (.aload_n 1, 1)) ∧ (decode cX4_sendInTurn 49 = .ok (.iload_n 2, 1)) ∧ (decode cX4_sendInTurn 50 = .ok (.iconst 2, 1)) ∧ (decode cX4_sendInTurn 51 = .ok (.invokevirtual 47, 3)) ∧ (decode cX4_sendInTurn 54 = .ok (.istore_n 3, 1)) ∧ (decode cX4_sendInTurn 55 = .ok (.aload_n 1, 1)) ∧ (decode cX4_sendInTurn 56 = .ok (.iload_n 2, 1)) ∧ (decode cX4_sendInTurn 57 = .ok (.iconst 0, 1)) := by decide +kernel
theorem dX4_sendInTurn_40 : decode cX4_sendInTurn 40 = .ok (.iload_n 2, 1) := qd1_22.1
theorem dX4_sendInTurn_41 : decode cX4_sendInTurn 41 = .ok (.aload_n 1, 1) := qd1_22.2.1
theorem dX4_sendInTurn_42 : decode cX4_sendInTurn 42 = .ok (.getfield 43, 3) := qd1_22.2.2.1
theorem dX4_sendInTurn_45 : decode cX4_sendInTurn 45 = .ok (.if_icmp .ge 112, 3) := qd1_22.2.2.2.1
theorem dX4_sendInTurn_48 : decode cX4_sendInTurn 48 = .ok (.aload_n 1, 1) := qd1_22.2.2.2.2.1
theorem dX4_sendInTurn_49 : decode cX4_sendInTurn 49 = .ok (.iload_n 2, 1) := qd1_22.2.2.2.2.2.1
theorem dX4_sendInTurn_50 : decode cX4_sendInTurn 50 = .ok (.iconst 2, 1) := qd1_22.2.2.2.2.2.2.1
theorem dX4_sendInTurn_51 : decode cX4_sendInTurn 51 = .ok (.invokevirtual 47, 3) := qd1_22.2.2.2.2.2.2.2.1
theorem dX4_sendInTurn_54 : decode cX4_sendInTurn 54 = .ok (.istore_n 3, 1) := qd1_22.2.2.2.2.2.2.2.2.1
theorem dX4_sendInTurn_55 : decode cX4_sendInTurn 55 = .ok (.aload_n 1, 1) := qd1_22.2.2.2.2.2.2.2.2.2.1
theorem dX4_sendInTurn_56 : decode cX4_sendInTurn 56 = .ok (.iload_n 2, 1) := qd1_22.2.2.2.2.2.2.2.2.2.2.1
theorem dX4_sendInTurn_57 : decode cX4_sendInTurn 57 = .ok (.iconst 0, 1) := qd1_22.2.2.2.2.2.2.2.2.2.2.2
theorem qd1_23 : (decode cX4_sendInTurn 58 = .ok (.invokevirtual 47, 3)) ∧ (decode cX4_sendInTurn 61 = .ok (.istore 4, 2)) ∧ (decode cX4_sendInTurn 63 = .ok (.aload_n 1, 1)) ∧ (decode cX4_sendInTurn 64 = .ok (.iload_n 2, 1)) ∧ (decode cX4_sendInTurn 65 = .ok (.iconst 1, 1)) ∧ (decode cX4_sendInTurn 66 = .ok (.invokevirtual 47, 3)) ∧ (decode cX4_sendInTurn 69 = .ok (.istore 5, 2)) ∧ (decode cX4_sendInTurn 71 = .ok (.aload_n 0, 1)) ∧ (decode cX4_sendInTurn 72 = .ok (.getfield 12, 3)) ∧ (decode cX4_sendInTurn 75 = .ok (.aload_n 1, 1)) ∧ (decode cX4_sendInTurn 76 = .ok (.aload_n 0, 1)) ∧ (decode cX4_sendInTurn 77 = .ok (.aload_n 1, 1)) := by decide +kernel
theorem dX4_sendInTurn_58 : decode cX4_sendInTurn 58 = .ok (.invokevirtual 47, 3) := qd1_23.1
theorem dX4_sendInTurn_61 : decode cX4_sendInTurn 61 = .ok (.istore 4, 2) := qd1_23.2.1
theorem dX4_sendInTurn_63 : decode cX4_sendInTurn 63 = .ok (.aload_n 1, 1) := qd1_23.2.2.1
theorem dX4_sendInTurn_64 : decode cX4_sendInTurn 64 = .ok (.iload_n 2, 1) := qd1_23.2.2.2.1
theorem dX4_sendInTurn_65 : decode cX4_sendInTurn 65 = .ok (.iconst 1, 1) := qd1_23.2.2.2.2.1
theorem dX4_sendInTurn_66 : decode cX4_sendInTurn 66 = .ok (.invokevirtual 47, 3) := qd1_23.2.2.2.2.2.1
theorem dX4_sendInTurn_69 : decode cX4_sendInTurn 69 = .ok (.istore 5, 2) := qd1_23.2.2.2.2.2.2.1
theorem dX4_sendInTurn_71 : decode cX4_sendInTurn 71 = .ok (.aload_n 0, 1) := qd1_23.2.2.2.2.2.2.2.1
theorem dX4_sendInTurn_72 : decode cX4_sendInTurn 72 = .ok (.getfield 12, 3) := qd1_23.2.2.2.2.2.2.2.2.1
theorem dX4_sendInTurn_75 : decode cX4_sendInTurn 75 = .ok (.aload_n 1, 1) := qd1_23.2.2.2.2.2.2.2.2.2.1
theorem dX4_sendInTurn_76 : decode cX4_sendInTurn 76 = .ok (.aload_n 0, 1) := qd1_23.2.2.2.2.2.2.2.2.2.2.1
theorem dX4_sendInTurn_77 : decode cX4_sendInTurn 77 = .ok (.aload_n 1, 1) := qd1_23.2.2.2.2.2.2.2.2.2.2.2
theorem qd1_24 : (decode cX4_sendInTurn 78 = .ok (.iload_n 3, 1)) ∧ (decode cX4_sendInTurn 79 = .ok (.invokevirtual 63, 3)) ∧ (decode cX4_sendInTurn 82 = .ok (.invokevirtual 31, 3)) ∧ (decode cX4_sendInTurn 85 = .ok (.aload_n 0, 1)) ∧ (decode cX4_sendInTurn 86 = .ok (.getfield 12, 3)) ∧ (decode cX4_sendInTurn 89 = .ok (.iload 4, 2)) ∧ (decode cX4_sendInTurn 91 = .ok (.iload 5, 2)) ∧ (decode cX4_sendInTurn 93 = .ok (.invokevirtual 67, 3)) ∧ (decode cX4_sendInTurn 96 = .ok (.ifCond .eq 31, 3)) ∧ (decode cX4_sendInTurn 99 = .ok (.aload_n 0, 1)) ∧ (decode cX4_sendInTurn 100 = .ok (.dup, 1)) ∧ (decode cX4_sendInTurn 101 = .ok (.getfield 51, 3)) := by decide +kernel
theorem dX4_sendInTurn_78 : decode cX4_sendInTurn 78 = .ok (.iload_n 3, 1) := qd1_24.1
theorem dX4_sendInTurn_79 : decode cX4_sendInTurn 79 = .ok (.invokevirtual 63, 3) := qd1_24.2.1
theorem dX4_sendInTurn_82 : decode cX4_sendInTurn 82 = .ok (.invokevirtual 31, 3) := qd1_24.2.2.1
theorem dX4_sendInTurn_85 : decode cX4_sendInTurn 85 = .ok (.aload_n 0, 1) := qd1_24.2.2.2.1
theorem dX4_sendInTurn_86 : decode cX4_sendInTurn 86 = .ok (.getfield 12, 3) := qd1_24.2.2.2.2.1
theorem dX4_sendInTurn_89 : decode cX4_sendInTurn 89 = .ok (.iload 4, 2) := qd1_24.2.2.2.2.2.1
theorem dX4_sendInTurn_91 : decode cX4_sendInTurn 91 = .ok (.iload 5, 2) := qd1_24.2.2.2.2.2.2.1
theorem dX4_sendInTurn_93 : decode cX4_sendInTurn 93 = .ok (.invokevirtual 67, 3) := qd1_24.2.2.2.2.2.2.2.1
theorem dX4_sendInTurn_96 : decode cX4_sendInTurn 96 = .ok (.ifCond .eq 31, 3) := qd1_24.2.2.2.2.2.2.2.2.1
theorem dX4_sendInTurn_99 : decode cX4_sendInTurn 99 = .ok (.aload_n 0, 1) := qd1_24.2.2.2.2.2.2.2.2.2.1
theorem dX4_sendInTurn_100 : decode cX4_sendInTurn 100 = .ok (.dup, 1) := qd1_24.2.2.2.2.2.2.2.2.2.2.1
theorem dX4_sendInTurn_101 : decode cX4_sendInTurn 101 = .ok (.getfield 51, 3) := qd1_24.2.2.2.2.2.2.2.2.2.2.2
theorem qd1_25 : (decode cX4_sendInTurn 104 = .ok (.iload_n 3, 1)) ∧ (decode cX4_sendInTurn 105 = .ok (.aload_n 0, 1)) ∧ (decode cX4_sendInTurn 106 = .ok (.getfield 12, 3)) ∧ (decode cX4_sendInTurn 109 = .ok (.iload 4, 2)) ∧ (decode cX4_sendInTurn 111 = .ok (.invokevirtual 39, 3)) ∧ (decode cX4_sendInTurn 114 = .ok (.imul, 1)) ∧ (decode cX4_sendInTurn 115 = .ok (.iadd, 1)) ∧ (decode cX4_sendInTurn 116 = .ok (.putfield 51, 3)) ∧ (decode cX4_sendInTurn 119 = .ok (.aload_n 0, 1)) ∧ (decode cX4_sendInTurn 120 = .ok (.iload_n 3, 1)) ∧ (decode cX4_sendInTurn 121 = .ok (.invokevirtual 71, 3)) ∧ (decode cX4_sendInTurn 124 = .ok (.goto 27, 3)) := by decide +kernel
theorem dX4_sendInTurn_104 : decode cX4_sendInTurn 104 = .ok (.iload_n 3, 1) := qd1_25.1
theorem dX4_sendInTurn_105 : decode cX4_sendInTurn 105 = .ok (.aload_n 0, 1) := qd1_25.2.1
theorem dX4_sendInTurn_106 : decode cX4_sendInTurn 106 = .ok (.getfield 12, 3) := qd1_25.2.2.1
theorem dX4_sendInTurn_109 : decode cX4_sendInTurn 109 = .ok (.iload 4, 2) := qd1_25.2.2.2.1
theorem dX4_sendInTurn_111 : decode cX4_sendInTurn 111 = .ok (.invokevirtual 39, 3) := qd1_25.2.2.2.2.1
theorem dX4_sendInTurn_114 : decode cX4_sendInTurn 114 = .ok (.imul, 1) := qd1_25.2.2.2.2.2.1
theorem dX4_sendInTurn_115 : decode cX4_sendInTurn 115 = .ok (.iadd, 1) := qd1_25.2.2.2.2.2.2.1
theorem dX4_sendInTurn_116 : decode cX4_sendInTurn 116 = .ok (.putfield 51, 3) := qd1_25.2.2.2.2.2.2.2.1
theorem dX4_sendInTurn_119 : decode cX4_sendInTurn 119 = .ok (.aload_n 0, 1) := qd1_25.2.2.2.2.2.2.2.2.1
theorem dX4_sendInTurn_120 : decode cX4_sendInTurn 120 = .ok (.iload_n 3, 1) := qd1_25.2.2.2.2.2.2.2.2.2.1
theorem dX4_sendInTurn_121 : decode cX4_sendInTurn 121 = .ok (.invokevirtual 71, 3) := qd1_25.2.2.2.2.2.2.2.2.2.2.1
theorem dX4_sendInTurn_124 : decode cX4_sendInTurn 124 = .ok (.goto 27, 3) := qd1_25.2.2.2.2.2.2.2.2.2.2.2
theorem qd1_26 : (decode cX4_sendInTurn 127 = .ok (.aload_n 0, 1)) ∧ (decode cX4_sendInTurn 128 = .ok (.dup, 1)) ∧ (decode cX4_sendInTurn 129 = .ok (.getfield 51, 3)) ∧ (decode cX4_sendInTurn 132 = .ok (.iload_n 3, 1)) ∧ (decode cX4_sendInTurn 133 = .ok (.sipush 999, 3)) ∧ (decode cX4_sendInTurn 136 = .ok (.imul, 1)) ∧ (decode cX4_sendInTurn 137 = .ok (.iadd, 1)) ∧ (decode cX4_sendInTurn 138 = .ok (.putfield 51, 3)) ∧ (decode cX4_sendInTurn 141 = .ok (.aload_n 0, 1)) ∧ (decode cX4_sendInTurn 142 = .ok (.dup, 1)) ∧ (decode cX4_sendInTurn 143 = .ok (.getfield 54, 3)) ∧ (decode cX4_sendInTurn 146 = .ok (.iload_n 3, 1)) := by decide +kernel
theorem dX4_sendInTurn_127 : decode cX4_sendInTurn 127 = .ok (.aload_n 0, 1) := qd1_26.1
theorem dX4_sendInTurn_128 : decode cX4_sendInTurn 128 = .ok (.dup, 1) := qd1_26.2.1
theorem dX4_sendInTurn_129 : decode cX4_sendInTurn 129 = .ok (.getfield 51, 3) := qd1_26.2.2.1
theorem dX4_sendInTurn_132 : decode cX4_sendInTurn 132 = .ok (.iload_n 3, 1) := qd1_26.2.2.2.1
theorem dX4_sendInTurn_133 : decode cX4_sendInTurn 133 = .ok (.sipush 999, 3) := qd1_26.2.2.2.2.1
theorem dX4_sendInTurn_136 : decode cX4_sendInTurn 136 = .ok (.imul, 1) := qd1_26.2.2.2.2.2.1
theorem dX4_sendInTurn_137 : decode cX4_sendInTurn 137 = .ok (.iadd, 1) := qd1_26.2.2.2.2.2.2.1
theorem dX4_sendInTurn_138 : decode cX4_sendInTurn 138 = .ok (.putfield 51, 3) := qd1_26.2.2.2.2.2.2.2.1
theorem dX4_sendInTurn_141 : decode cX4_sendInTurn 141 = .ok (.aload_n 0, 1) := qd1_26.2.2.2.2.2.2.2.2.1
theorem dX4_sendInTurn_142 : decode cX4_sendInTurn 142 = .ok (.dup, 1) := qd1_26.2.2.2.2.2.2.2.2.2.1
theorem dX4_sendInTurn_143 : decode cX4_sendInTurn 143 = .ok (.getfield 54, 3) := qd1_26.2.2.2.2.2.2.2.2.2.2.1
theorem dX4_sendInTurn_146 : decode cX4_sendInTurn 146 = .ok (.iload_n 3, 1) := qd1_26.2.2.2.2.2.2.2.2.2.2.2
theorem qd1_27 : (decode cX4_sendInTurn 147 = .ok (.iadd, 1)) ∧ (decode cX4_sendInTurn 148 = .ok (.putfield 54, 3)) ∧ (decode cX4_sendInTurn 151 = .ok (.iinc 2 1, 3)) ∧ (decode cX4_sendInTurn 154 = .ok (.goto (-114), 3)) ∧ (decode cX4_sendInTurn 157 = .ok (.return_, 1)) := by decide +kernel
theorem dX4_sendInTurn_147 : decode cX4_sendInTurn 147 = .ok (.iadd, 1) := qd1_27.1
theorem dX4_sendInTurn_148 : decode cX4_sendInTurn 148 = .ok (.putfield 54, 3) := qd1_27.2.1
theorem dX4_sendInTurn_151 : decode cX4_sendInTurn 151 = .ok (.iinc 2 1, 3) := qd1_27.2.2.1
theorem dX4_sendInTurn_154 : decode cX4_sendInTurn 154 = .ok (.goto (-114), 3) := qd1_27.2.2.2.1
theorem dX4_sendInTurn_157 : decode cX4_sendInTurn 157 = .ok (.return_, 1) := qd1_27.2.2.2.2
theorem qd1_28 : (decode cX4_linesBearing 0 = .ok (.aload_n 1, 1)) ∧ (decode cX4_linesBearing 1 = .ok (.invokevirtual 25, 3)) ∧ (decode cX4_linesBearing 4 = .ok (.istore_n 3, 1)) ∧ (decode cX4_linesBearing 5 = .ok (.iconst 0, 1)) ∧ (decode cX4_linesBearing 6 = .ok (.istore 4, 2)) ∧ (decode cX4_linesBearing 8 = .ok (.iload 4, 2)) ∧ (decode cX4_linesBearing 10 = .ok (.aload_n 1, 1)) ∧ (decode cX4_linesBearing 11 = .ok (.getfield 57, 3)) ∧ (decode cX4_linesBearing 14 = .ok (.if_icmp .ge 29, 3)) ∧ (decode cX4_linesBearing 17 = .ok (.aload_n 0, 1)) ∧ (decode cX4_linesBearing 18 = .ok (.getfield 18, 3)) ∧ (decode cX4_linesBearing 21 = .ok (.iload 4, 2)) := by decide +kernel
theorem dX4_linesBearing_0 : decode cX4_linesBearing 0 = .ok (.aload_n 1, 1) := qd1_28.1
theorem dX4_linesBearing_1 : decode cX4_linesBearing 1 = .ok (.invokevirtual 25, 3) := qd1_28.2.1
theorem dX4_linesBearing_4 : decode cX4_linesBearing 4 = .ok (.istore_n 3, 1) := qd1_28.2.2.1
theorem dX4_linesBearing_5 : decode cX4_linesBearing 5 = .ok (.iconst 0, 1) := qd1_28.2.2.2.1
theorem dX4_linesBearing_6 : decode cX4_linesBearing 6 = .ok (.istore 4, 2) := qd1_28.2.2.2.2.1
theorem dX4_linesBearing_8 : decode cX4_linesBearing 8 = .ok (.iload 4, 2) := qd1_28.2.2.2.2.2.1
theorem dX4_linesBearing_10 : decode cX4_linesBearing 10 = .ok (.aload_n 1, 1) := qd1_28.2.2.2.2.2.2.1
theorem dX4_linesBearing_11 : decode cX4_linesBearing 11 = .ok (.getfield 57, 3) := qd1_28.2.2.2.2.2.2.2.1
theorem dX4_linesBearing_14 : decode cX4_linesBearing 14 = .ok (.if_icmp .ge 29, 3) := qd1_28.2.2.2.2.2.2.2.2.1
theorem dX4_linesBearing_17 : decode cX4_linesBearing 17 = .ok (.aload_n 0, 1) := qd1_28.2.2.2.2.2.2.2.2.2.1
theorem dX4_linesBearing_18 : decode cX4_linesBearing 18 = .ok (.getfield 18, 3) := qd1_28.2.2.2.2.2.2.2.2.2.2.1
theorem dX4_linesBearing_21 : decode cX4_linesBearing 21 = .ok (.iload 4, 2) := qd1_28.2.2.2.2.2.2.2.2.2.2.2
theorem qd1_29 : (decode cX4_linesBearing 23 = .ok (.iaload, 1)) ∧ (decode cX4_linesBearing 24 = .ok (.iload_n 2, 1)) ∧ (decode cX4_linesBearing 25 = .ok (.if_icmp .ge 12, 3)) ∧ (decode cX4_linesBearing 28 = .ok (.iload_n 3, 1)) ∧ (decode cX4_linesBearing 29 = .ok (.iconst 1, 1)) ∧ (decode cX4_linesBearing 30 = .ok (.iload 4, 2)) ∧ (decode cX4_linesBearing 32 = .ok (.ishl, 1)) ∧ (decode cX4_linesBearing 33 = .ok (.iconst (-1), 1)) ∧ (decode cX4_linesBearing 34 = .ok (.ixor, 1)) ∧ (decode cX4_linesBearing 35 = .ok (.iand, 1)) ∧ (decode cX4_linesBearing 36 = .ok (.istore_n 3, 1)) ∧ (decode cX4_linesBearing 37 = .ok (.iinc 4 1, 3)) := by decide +kernel
theorem dX4_linesBearing_23 : decode cX4_linesBearing 23 = .ok (.iaload, 1) := qd1_29.1
theorem dX4_linesBearing_24 : decode cX4_linesBearing 24 = .ok (.iload_n 2, 1) := qd1_29.2.1
theorem dX4_linesBearing_25 : decode cX4_linesBearing 25 = .ok (.if_icmp .ge 12, 3) := qd1_29.2.2.1
theorem dX4_linesBearing_28 : decode cX4_linesBearing 28 = .ok (.iload_n 3, 1) := qd1_29.2.2.2.1
theorem dX4_linesBearing_29 : decode cX4_linesBearing 29 = .ok (.iconst 1, 1) := qd1_29.2.2.2.2.1
theorem dX4_linesBearing_30 : decode cX4_linesBearing 30 = .ok (.iload 4, 2) := qd1_29.2.2.2.2.2.1
theorem dX4_linesBearing_32 : decode cX4_linesBearing 32 = .ok (.ishl, 1) := qd1_29.2.2.2.2.2.2.1
theorem dX4_linesBearing_33 : decode cX4_linesBearing 33 = .ok (.iconst (-1), 1) := qd1_29.2.2.2.2.2.2.2.1
theorem dX4_linesBearing_34 : decode cX4_linesBearing 34 = .ok (.ixor, 1) := qd1_29.2.2.2.2.2.2.2.2.1
theorem dX4_linesBearing_35 : decode cX4_linesBearing 35 = .ok (.iand, 1) := qd1_29.2.2.2.2.2.2.2.2.2.1
theorem dX4_linesBearing_36 : decode cX4_linesBearing 36 = .ok (.istore_n 3, 1) := qd1_29.2.2.2.2.2.2.2.2.2.2.1
theorem dX4_linesBearing_37 : decode cX4_linesBearing 37 = .ok (.iinc 4 1, 3) := qd1_29.2.2.2.2.2.2.2.2.2.2.2
theorem qd1_30 : (decode cX4_linesBearing 40 = .ok (.goto (-32), 3)) ∧ (decode cX4_linesBearing 43 = .ok (.iload_n 3, 1)) ∧ (decode cX4_linesBearing 44 = .ok (.ireturn, 1)) := by decide +kernel
theorem dX4_linesBearing_40 : decode cX4_linesBearing 40 = .ok (.goto (-32), 3) := qd1_30.1
theorem dX4_linesBearing_43 : decode cX4_linesBearing 43 = .ok (.iload_n 3, 1) := qd1_30.2.1
theorem dX4_linesBearing_44 : decode cX4_linesBearing 44 = .ok (.ireturn, 1) := qd1_30.2.2
theorem qd1_31 : (decode cX4_load 0 = .ok (.iconst 1, 1)) ∧ (decode cX4_load 1 = .ok (.istore_n 2, 1)) ∧ (decode cX4_load 2 = .ok (.iload_n 2, 1)) ∧ (decode cX4_load 3 = .ok (.aload_n 0, 1)) ∧ (decode cX4_load 4 = .ok (.getfield 12, 3)) ∧ (decode cX4_load 7 = .ok (.getfield 74, 3)) ∧ (decode cX4_load 10 = .ok (.if_icmp .ge 41, 3)) ∧ (decode cX4_load 13 = .ok (.aload_n 0, 1)) ∧ (decode cX4_load 14 = .ok (.getfield 12, 3)) ∧ (decode cX4_load 17 = .ok (.iload_n 2, 1)) ∧ (decode cX4_load 18 = .ok (.invokevirtual 77, 3)) ∧ (decode cX4_load 21 = .ok (.istore_n 3, 1)) := by decide +kernel
theorem dX4_load_0 : decode cX4_load 0 = .ok (.iconst 1, 1) := qd1_31.1
theorem dX4_load_1 : decode cX4_load 1 = .ok (.istore_n 2, 1) := qd1_31.2.1
theorem dX4_load_2 : decode cX4_load 2 = .ok (.iload_n 2, 1) := qd1_31.2.2.1
theorem dX4_load_3 : decode cX4_load 3 = .ok (.aload_n 0, 1) := qd1_31.2.2.2.1
theorem dX4_load_4 : decode cX4_load 4 = .ok (.getfield 12, 3) := qd1_31.2.2.2.2.1
theorem dX4_load_7 : decode cX4_load 7 = .ok (.getfield 74, 3) := qd1_31.2.2.2.2.2.1
theorem dX4_load_10 : decode cX4_load 10 = .ok (.if_icmp .ge 41, 3) := qd1_31.2.2.2.2.2.2.1
theorem dX4_load_13 : decode cX4_load 13 = .ok (.aload_n 0, 1) := qd1_31.2.2.2.2.2.2.2.1
theorem dX4_load_14 : decode cX4_load 14 = .ok (.getfield 12, 3) := qd1_31.2.2.2.2.2.2.2.2.1
theorem dX4_load_17 : decode cX4_load 17 = .ok (.iload_n 2, 1) := qd1_31.2.2.2.2.2.2.2.2.2.1
theorem dX4_load_18 : decode cX4_load 18 = .ok (.invokevirtual 77, 3) := qd1_31.2.2.2.2.2.2.2.2.2.2.1
theorem dX4_load_21 : decode cX4_load 21 = .ok (.istore_n 3, 1) := qd1_31.2.2.2.2.2.2.2.2.2.2.2
theorem qd1_32 : (decode cX4_load 22 = .ok (.iload_n 3, 1)) ∧ (decode cX4_load 23 = .ok (.iconst (-1), 1)) ∧ (decode cX4_load 24 = .ok (.if_icmp .eq 21, 3)) ∧ (decode cX4_load 27 = .ok (.aload_n 0, 1)) ∧ (decode cX4_load 28 = .ok (.getfield 18, 3)) ∧ (decode cX4_load 31 = .ok (.iload_n 3, 1)) ∧ (decode cX4_load 32 = .ok (.iconst 0, 1)) ∧ (decode cX4_load 33 = .ok (.aload_n 0, 1)) ∧ (decode cX4_load 34 = .ok (.getfield 18, 3)) ∧ (decode cX4_load 37 = .ok (.iload_n 3, 1)) ∧ (decode cX4_load 38 = .ok (.iaload, 1)) ∧ (decode cX4_load 39 = .ok (.iload_n 1, 1)) := by decide +kernel
theorem dX4_load_22 : decode cX4_load 22 = .ok (.iload_n 3, 1) := qd1_32.1
theorem dX4_load_23 : decode cX4_load 23 = .ok (.iconst (-1), 1) := qd1_32.2.1
theorem dX4_load_24 : decode cX4_load 24 = .ok (.if_icmp .eq 21, 3) := qd1_32.2.2.1
theorem dX4_load_27 : decode cX4_load 27 = .ok (.aload_n 0, 1) := qd1_32.2.2.2.1
theorem dX4_load_28 : decode cX4_load 28 = .ok (.getfield 18, 3) := qd1_32.2.2.2.2.1
theorem dX4_load_31 : decode cX4_load 31 = .ok (.iload_n 3, 1) := qd1_32.2.2.2.2.2.1
theorem dX4_load_32 : decode cX4_load 32 = .ok (.iconst 0, 1) := qd1_32.2.2.2.2.2.2.1
theorem dX4_load_33 : decode cX4_load 33 = .ok (.aload_n 0, 1) := qd1_32.2.2.2.2.2.2.2.1
theorem dX4_load_34 : decode cX4_load 34 = .ok (.getfield 18, 3) := qd1_32.2.2.2.2.2.2.2.2.1
theorem dX4_load_37 : decode cX4_load 37 = .ok (.iload_n 3, 1) := qd1_32.2.2.2.2.2.2.2.2.2.1
theorem dX4_load_38 : decode cX4_load 38 = .ok (.iaload, 1) := qd1_32.2.2.2.2.2.2.2.2.2.2.1
theorem dX4_load_39 : decode cX4_load 39 = .ok (.iload_n 1, 1) := qd1_32.2.2.2.2.2.2.2.2.2.2.2
theorem qd1_33 : (decode cX4_load 40 = .ok (.isub, 1)) ∧ (decode cX4_load 41 = .ok (.invokestatic 80, 3)) ∧ (decode cX4_load 44 = .ok (.iastore, 1)) ∧ (decode cX4_load 45 = .ok (.iinc 2 1, 3)) ∧ (decode cX4_load 48 = .ok (.goto (-46), 3)) ∧ (decode cX4_load 51 = .ok (.return_, 1)) := by decide +kernel
theorem dX4_load_40 : decode cX4_load 40 = .ok (.isub, 1) := qd1_33.1
theorem dX4_load_41 : decode cX4_load 41 = .ok (.invokestatic 80, 3) := qd1_33.2.1
theorem dX4_load_44 : decode cX4_load 44 = .ok (.iastore, 1) := qd1_33.2.2.1
theorem dX4_load_45 : decode cX4_load 45 = .ok (.iinc 2 1, 3) := qd1_33.2.2.2.1
theorem dX4_load_48 : decode cX4_load 48 = .ok (.goto (-46), 3) := qd1_33.2.2.2.2.1
theorem dX4_load_51 : decode cX4_load 51 = .ok (.return_, 1) := qd1_33.2.2.2.2.2
theorem qd1_34 : (decode cX4_earn 0 = .ok (.aload_n 2, 1)) ∧ (decode cX4_earn 1 = .ok (.iconst 0, 1)) ∧ (decode cX4_earn 2 = .ok (.invokestatic 85, 3)) ∧ (decode cX4_earn 5 = .ok (.aload_n 0, 1)) ∧ (decode cX4_earn 6 = .ok (.getfield 12, 3)) ∧ (decode cX4_earn 9 = .ok (.aload_n 1, 1)) ∧ (decode cX4_earn 10 = .ok (.aload_n 1, 1)) ∧ (decode cX4_earn 11 = .ok (.invokevirtual 25, 3)) ∧ (decode cX4_earn 14 = .ok (.invokevirtual 31, 3)) ∧ (decode cX4_earn 17 = .ok (.iconst 0, 1)) ∧ (decode cX4_earn 18 = .ok (.istore_n 3, 1)) ∧ (decode cX4_earn 19 = .ok (.iload_n 3, 1)) := by decide +kernel
theorem dX4_earn_0 : decode cX4_earn 0 = .ok (.aload_n 2, 1) := qd1_34.1
theorem dX4_earn_1 : decode cX4_earn 1 = .ok (.iconst 0, 1) := qd1_34.2.1
theorem dX4_earn_2 : decode cX4_earn 2 = .ok (.invokestatic 85, 3) := qd1_34.2.2.1
theorem dX4_earn_5 : decode cX4_earn 5 = .ok (.aload_n 0, 1) := qd1_34.2.2.2.1
theorem dX4_earn_6 : decode cX4_earn 6 = .ok (.getfield 12, 3) := qd1_34.2.2.2.2.1
theorem dX4_earn_9 : decode cX4_earn 9 = .ok (.aload_n 1, 1) := qd1_34.2.2.2.2.2.1
theorem dX4_earn_10 : decode cX4_earn 10 = .ok (.aload_n 1, 1) := qd1_34.2.2.2.2.2.2.1
theorem dX4_earn_11 : decode cX4_earn 11 = .ok (.invokevirtual 25, 3) := qd1_34.2.2.2.2.2.2.2.1
theorem dX4_earn_14 : decode cX4_earn 14 = .ok (.invokevirtual 31, 3) := qd1_34.2.2.2.2.2.2.2.2.1
theorem dX4_earn_17 : decode cX4_earn 17 = .ok (.iconst 0, 1) := qd1_34.2.2.2.2.2.2.2.2.2.1
theorem dX4_earn_18 : decode cX4_earn 18 = .ok (.istore_n 3, 1) := qd1_34.2.2.2.2.2.2.2.2.2.2.1
theorem dX4_earn_19 : decode cX4_earn 19 = .ok (.iload_n 3, 1) := qd1_34.2.2.2.2.2.2.2.2.2.2.2
theorem qd1_35 : (decode cX4_earn 20 = .ok (.aload_n 1, 1)) ∧ (decode cX4_earn 21 = .ok (.getfield 43, 3)) ∧ (decode cX4_earn 24 = .ok (.if_icmp .ge 43, 3)) ∧ (decode cX4_earn 27 = .ok (.aload_n 0, 1)) ∧ (decode cX4_earn 28 = .ok (.getfield 12, 3)) ∧ (decode cX4_earn 31 = .ok (.aload_n 1, 1)) ∧ (decode cX4_earn 32 = .ok (.iload_n 3, 1)) ∧ (decode cX4_earn 33 = .ok (.iconst 0, 1)) ∧ (decode cX4_earn 34 = .ok (.invokevirtual 47, 3)) ∧ (decode cX4_earn 37 = .ok (.aload_n 1, 1)) ∧ (decode cX4_earn 38 = .ok (.iload_n 3, 1)) ∧ (decode cX4_earn 39 = .ok (.iconst 1, 1)) := by decide +kernel
theorem dX4_earn_20 : decode cX4_earn 20 = .ok (.aload_n 1, 1) := qd1_35.1
theorem dX4_earn_21 : decode cX4_earn 21 = .ok (.getfield 43, 3) := qd1_35.2.1
theorem dX4_earn_24 : decode cX4_earn 24 = .ok (.if_icmp .ge 43, 3) := qd1_35.2.2.1
theorem dX4_earn_27 : decode cX4_earn 27 = .ok (.aload_n 0, 1) := qd1_35.2.2.2.1
theorem dX4_earn_28 : decode cX4_earn 28 = .ok (.getfield 12, 3) := qd1_35.2.2.2.2.1
theorem dX4_earn_31 : decode cX4_earn 31 = .ok (.aload_n 1, 1) := qd1_35.2.2.2.2.2.1
theorem dX4_earn_32 : decode cX4_earn 32 = .ok (.iload_n 3, 1) := qd1_35.2.2.2.2.2.2.1
theorem dX4_earn_33 : decode cX4_earn 33 = .ok (.iconst 0, 1) := qd1_35.2.2.2.2.2.2.2.1
theorem dX4_earn_34 : decode cX4_earn 34 = .ok (.invokevirtual 47, 3) := qd1_35.2.2.2.2.2.2.2.2.1
theorem dX4_earn_37 : decode cX4_earn 37 = .ok (.aload_n 1, 1) := qd1_35.2.2.2.2.2.2.2.2.2.1
theorem dX4_earn_38 : decode cX4_earn 38 = .ok (.iload_n 3, 1) := qd1_35.2.2.2.2.2.2.2.2.2.2.1
theorem dX4_earn_39 : decode cX4_earn 39 = .ok (.iconst 1, 1) := qd1_35.2.2.2.2.2.2.2.2.2.2.2
theorem qd1_36 : (decode cX4_earn 40 = .ok (.invokevirtual 47, 3)) ∧ (decode cX4_earn 43 = .ok (.invokevirtual 67, 3)) ∧ (decode cX4_earn 46 = .ok (.ifCond .eq 15, 3)) ∧ (decode cX4_earn 49 = .ok (.aload_n 0, 1)) ∧ (decode cX4_earn 50 = .ok (.aload_n 1, 1)) ∧ (decode cX4_earn 51 = .ok (.aload_n 1, 1)) ∧ (decode cX4_earn 52 = .ok (.iload_n 3, 1)) ∧ (decode cX4_earn 53 = .ok (.iconst 2, 1)) ∧ (decode cX4_earn 54 = .ok (.invokevirtual 47, 3)) ∧ (decode cX4_earn 57 = .ok (.aload_n 2, 1)) ∧ (decode cX4_earn 58 = .ok (.invokevirtual 91, 3)) ∧ (decode cX4_earn 61 = .ok (.iinc 3 1, 3)) := by decide +kernel
theorem dX4_earn_40 : decode cX4_earn 40 = .ok (.invokevirtual 47, 3) := qd1_36.1
theorem dX4_earn_43 : decode cX4_earn 43 = .ok (.invokevirtual 67, 3) := qd1_36.2.1
theorem dX4_earn_46 : decode cX4_earn 46 = .ok (.ifCond .eq 15, 3) := qd1_36.2.2.1
theorem dX4_earn_49 : decode cX4_earn 49 = .ok (.aload_n 0, 1) := qd1_36.2.2.2.1
theorem dX4_earn_50 : decode cX4_earn 50 = .ok (.aload_n 1, 1) := qd1_36.2.2.2.2.1
theorem dX4_earn_51 : decode cX4_earn 51 = .ok (.aload_n 1, 1) := qd1_36.2.2.2.2.2.1
theorem dX4_earn_52 : decode cX4_earn 52 = .ok (.iload_n 3, 1) := qd1_36.2.2.2.2.2.2.1
theorem dX4_earn_53 : decode cX4_earn 53 = .ok (.iconst 2, 1) := qd1_36.2.2.2.2.2.2.2.1
theorem dX4_earn_54 : decode cX4_earn 54 = .ok (.invokevirtual 47, 3) := qd1_36.2.2.2.2.2.2.2.2.1
theorem dX4_earn_57 : decode cX4_earn 57 = .ok (.aload_n 2, 1) := qd1_36.2.2.2.2.2.2.2.2.2.1
theorem dX4_earn_58 : decode cX4_earn 58 = .ok (.invokevirtual 91, 3) := qd1_36.2.2.2.2.2.2.2.2.2.2.1
theorem dX4_earn_61 : decode cX4_earn 61 = .ok (.iinc 3 1, 3) := qd1_36.2.2.2.2.2.2.2.2.2.2.2
theorem qd1_37 : (decode cX4_earn 64 = .ok (.goto (-45), 3)) ∧ (decode cX4_earn 67 = .ok (.return_, 1)) := by decide +kernel
theorem dX4_earn_64 : decode cX4_earn 64 = .ok (.goto (-45), 3) := qd1_37.1
theorem dX4_earn_67 : decode cX4_earn 67 = .ok (.return_, 1) := qd1_37.2
theorem qd1_38 : (decode cX4_payOwners 0 = .ok (.iconst 1, 1)) ∧ (decode cX4_payOwners 1 = .ok (.istore 4, 2)) ∧ (decode cX4_payOwners 3 = .ok (.iload 4, 2)) ∧ (decode cX4_payOwners 5 = .ok (.aload_n 0, 1)) ∧ (decode cX4_payOwners 6 = .ok (.getfield 12, 3)) ∧ (decode cX4_payOwners 9 = .ok (.getfield 74, 3)) ∧ (decode cX4_payOwners 12 = .ok (.if_icmp .ge 50, 3)) ∧ (decode cX4_payOwners 15 = .ok (.aload_n 0, 1)) ∧ (decode cX4_payOwners 16 = .ok (.getfield 12, 3)) ∧ (decode cX4_payOwners 19 = .ok (.iload 4, 2)) ∧ (decode cX4_payOwners 21 = .ok (.invokevirtual 77, 3)) ∧ (decode cX4_payOwners 24 = .ok (.istore 5, 2)) := by decide +kernel
theorem dX4_payOwners_0 : decode cX4_payOwners 0 = .ok (.iconst 1, 1) := qd1_38.1
theorem dX4_payOwners_1 : decode cX4_payOwners 1 = .ok (.istore 4, 2) := qd1_38.2.1
theorem dX4_payOwners_3 : decode cX4_payOwners 3 = .ok (.iload 4, 2) := qd1_38.2.2.1
theorem dX4_payOwners_5 : decode cX4_payOwners 5 = .ok (.aload_n 0, 1) := qd1_38.2.2.2.1
theorem dX4_payOwners_6 : decode cX4_payOwners 6 = .ok (.getfield 12, 3) := qd1_38.2.2.2.2.1
theorem dX4_payOwners_9 : decode cX4_payOwners 9 = .ok (.getfield 74, 3) := qd1_38.2.2.2.2.2.1
theorem dX4_payOwners_12 : decode cX4_payOwners 12 = .ok (.if_icmp .ge 50, 3) := qd1_38.2.2.2.2.2.2.1
theorem dX4_payOwners_15 : decode cX4_payOwners 15 = .ok (.aload_n 0, 1) := qd1_38.2.2.2.2.2.2.2.1
theorem dX4_payOwners_16 : decode cX4_payOwners 16 = .ok (.getfield 12, 3) := qd1_38.2.2.2.2.2.2.2.2.1
theorem dX4_payOwners_19 : decode cX4_payOwners 19 = .ok (.iload 4, 2) := qd1_38.2.2.2.2.2.2.2.2.2.1
theorem dX4_payOwners_21 : decode cX4_payOwners 21 = .ok (.invokevirtual 77, 3) := qd1_38.2.2.2.2.2.2.2.2.2.2.1
theorem dX4_payOwners_24 : decode cX4_payOwners 24 = .ok (.istore 5, 2) := qd1_38.2.2.2.2.2.2.2.2.2.2.2
theorem qd1_39 : (decode cX4_payOwners 26 = .ok (.aload_n 1, 1)) ∧ (decode cX4_payOwners 27 = .ok (.iload 5, 2)) ∧ (decode cX4_payOwners 29 = .ok (.invokevirtual 95, 3)) ∧ (decode cX4_payOwners 32 = .ok (.ifCond .eq 24, 3)) ∧ (decode cX4_payOwners 35 = .ok (.aload_n 3, 1)) ∧ (decode cX4_payOwners 36 = .ok (.aload_n 1, 1)) ∧ (decode cX4_payOwners 37 = .ok (.iload 5, 2)) ∧ (decode cX4_payOwners 39 = .ok (.iconst 5, 1)) ∧ (decode cX4_payOwners 40 = .ok (.invokevirtual 60, 3)) ∧ (decode cX4_payOwners 43 = .ok (.dup2, 1)) ∧ (decode cX4_payOwners 44 = .ok (.iaload, 1)) ∧ (decode cX4_payOwners 45 = .ok (.iload_n 2, 1)) := by decide +kernel
theorem dX4_payOwners_26 : decode cX4_payOwners 26 = .ok (.aload_n 1, 1) := qd1_39.1
theorem dX4_payOwners_27 : decode cX4_payOwners 27 = .ok (.iload 5, 2) := qd1_39.2.1
theorem dX4_payOwners_29 : decode cX4_payOwners 29 = .ok (.invokevirtual 95, 3) := qd1_39.2.2.1
theorem dX4_payOwners_32 : decode cX4_payOwners 32 = .ok (.ifCond .eq 24, 3) := qd1_39.2.2.2.1
theorem dX4_payOwners_35 : decode cX4_payOwners 35 = .ok (.aload_n 3, 1) := qd1_39.2.2.2.2.1
theorem dX4_payOwners_36 : decode cX4_payOwners 36 = .ok (.aload_n 1, 1) := qd1_39.2.2.2.2.2.1
theorem dX4_payOwners_37 : decode cX4_payOwners 37 = .ok (.iload 5, 2) := qd1_39.2.2.2.2.2.2.1
theorem dX4_payOwners_39 : decode cX4_payOwners 39 = .ok (.iconst 5, 1) := qd1_39.2.2.2.2.2.2.2.1
theorem dX4_payOwners_40 : decode cX4_payOwners 40 = .ok (.invokevirtual 60, 3) := qd1_39.2.2.2.2.2.2.2.2.1
theorem dX4_payOwners_43 : decode cX4_payOwners 43 = .ok (.dup2, 1) := qd1_39.2.2.2.2.2.2.2.2.2.1
theorem dX4_payOwners_44 : decode cX4_payOwners 44 = .ok (.iaload, 1) := qd1_39.2.2.2.2.2.2.2.2.2.2.1
theorem dX4_payOwners_45 : decode cX4_payOwners 45 = .ok (.iload_n 2, 1) := qd1_39.2.2.2.2.2.2.2.2.2.2.2
theorem qd1_40 : (decode cX4_payOwners 46 = .ok (.aload_n 1, 1)) ∧ (decode cX4_payOwners 47 = .ok (.iload 5, 2)) ∧ (decode cX4_payOwners 49 = .ok (.iconst 3, 1)) ∧ (decode cX4_payOwners 50 = .ok (.invokevirtual 60, 3)) ∧ (decode cX4_payOwners 53 = .ok (.imul, 1)) ∧ (decode cX4_payOwners 54 = .ok (.iadd, 1)) ∧ (decode cX4_payOwners 55 = .ok (.iastore, 1)) ∧ (decode cX4_payOwners 56 = .ok (.iinc 4 1, 3)) ∧ (decode cX4_payOwners 59 = .ok (.goto (-56), 3)) ∧ (decode cX4_payOwners 62 = .ok (.return_, 1)) := by decide +kernel
theorem dX4_payOwners_46 : decode cX4_payOwners 46 = .ok (.aload_n 1, 1) := qd1_40.1
theorem dX4_payOwners_47 : decode cX4_payOwners 47 = .ok (.iload 5, 2) := qd1_40.2.1
theorem dX4_payOwners_49 : decode cX4_payOwners 49 = .ok (.iconst 3, 1) := qd1_40.2.2.1
theorem dX4_payOwners_50 : decode cX4_payOwners 50 = .ok (.invokevirtual 60, 3) := qd1_40.2.2.2.1
theorem dX4_payOwners_53 : decode cX4_payOwners 53 = .ok (.imul, 1) := qd1_40.2.2.2.2.1
theorem dX4_payOwners_54 : decode cX4_payOwners 54 = .ok (.iadd, 1) := qd1_40.2.2.2.2.2.1
theorem dX4_payOwners_55 : decode cX4_payOwners 55 = .ok (.iastore, 1) := qd1_40.2.2.2.2.2.2.1
theorem dX4_payOwners_56 : decode cX4_payOwners 56 = .ok (.iinc 4 1, 3) := qd1_40.2.2.2.2.2.2.2.1
theorem dX4_payOwners_59 : decode cX4_payOwners 59 = .ok (.goto (-56), 3) := qd1_40.2.2.2.2.2.2.2.2.1
theorem dX4_payOwners_62 : decode cX4_payOwners 62 = .ok (.return_, 1) := qd1_40.2.2.2.2.2.2.2.2.2
theorem qd1_41 : (decode cX4_tonsAt 0 = .ok (.aload_n 0, 1)) ∧ (decode cX4_tonsAt 1 = .ok (.getfield 12, 3)) ∧ (decode cX4_tonsAt 4 = .ok (.aload_n 1, 1)) ∧ (decode cX4_tonsAt 5 = .ok (.aload_n 1, 1)) ∧ (decode cX4_tonsAt 6 = .ok (.invokevirtual 25, 3)) ∧ (decode cX4_tonsAt 9 = .ok (.invokevirtual 31, 3)) ∧ (decode cX4_tonsAt 12 = .ok (.iconst 0, 1)) ∧ (decode cX4_tonsAt 13 = .ok (.istore 4, 2)) ∧ (decode cX4_tonsAt 15 = .ok (.iconst 0, 1)) ∧ (decode cX4_tonsAt 16 = .ok (.istore 5, 2)) ∧ (decode cX4_tonsAt 18 = .ok (.iload 5, 2)) ∧ (decode cX4_tonsAt 20 = .ok (.aload_n 1, 1)) := by decide +kernel
theorem dX4_tonsAt_0 : decode cX4_tonsAt 0 = .ok (.aload_n 0, 1) := qd1_41.1
theorem dX4_tonsAt_1 : decode cX4_tonsAt 1 = .ok (.getfield 12, 3) := qd1_41.2.1
theorem dX4_tonsAt_4 : decode cX4_tonsAt 4 = .ok (.aload_n 1, 1) := qd1_41.2.2.1
theorem dX4_tonsAt_5 : decode cX4_tonsAt 5 = .ok (.aload_n 1, 1) := qd1_41.2.2.2.1
theorem dX4_tonsAt_6 : decode cX4_tonsAt 6 = .ok (.invokevirtual 25, 3) := qd1_41.2.2.2.2.1
theorem dX4_tonsAt_9 : decode cX4_tonsAt 9 = .ok (.invokevirtual 31, 3) := qd1_41.2.2.2.2.2.1
theorem dX4_tonsAt_12 : decode cX4_tonsAt 12 = .ok (.iconst 0, 1) := qd1_41.2.2.2.2.2.2.1
theorem dX4_tonsAt_13 : decode cX4_tonsAt 13 = .ok (.istore 4, 2) := qd1_41.2.2.2.2.2.2.2.1
theorem dX4_tonsAt_15 : decode cX4_tonsAt 15 = .ok (.iconst 0, 1) := qd1_41.2.2.2.2.2.2.2.2.1
theorem dX4_tonsAt_16 : decode cX4_tonsAt 16 = .ok (.istore 5, 2) := qd1_41.2.2.2.2.2.2.2.2.2.1
theorem dX4_tonsAt_18 : decode cX4_tonsAt 18 = .ok (.iload 5, 2) := qd1_41.2.2.2.2.2.2.2.2.2.2.1
theorem dX4_tonsAt_20 : decode cX4_tonsAt 20 = .ok (.aload_n 1, 1) := qd1_41.2.2.2.2.2.2.2.2.2.2.2
theorem qd1_42 : (decode cX4_tonsAt 21 = .ok (.getfield 43, 3)) ∧ (decode cX4_tonsAt 24 = .ok (.if_icmp .ge 71, 3)) ∧ (decode cX4_tonsAt 27 = .ok (.aload_n 0, 1)) ∧ (decode cX4_tonsAt 28 = .ok (.getfield 12, 3)) ∧ (decode cX4_tonsAt 31 = .ok (.aload_n 1, 1)) ∧ (decode cX4_tonsAt 32 = .ok (.iload 5, 2)) ∧ (decode cX4_tonsAt 34 = .ok (.iconst 0, 1)) ∧ (decode cX4_tonsAt 35 = .ok (.invokevirtual 47, 3)) ∧ (decode cX4_tonsAt 38 = .ok (.aload_n 1, 1)) ∧ (decode cX4_tonsAt 39 = .ok (.iload 5, 2)) ∧ (decode cX4_tonsAt 41 = .ok (.iconst 1, 1)) ∧ (decode cX4_tonsAt 42 = .ok (.invokevirtual 47, 3)) := by decide +kernel
theorem dX4_tonsAt_21 : decode cX4_tonsAt 21 = .ok (.getfield 43, 3) := qd1_42.1
theorem dX4_tonsAt_24 : decode cX4_tonsAt 24 = .ok (.if_icmp .ge 71, 3) := qd1_42.2.1
theorem dX4_tonsAt_27 : decode cX4_tonsAt 27 = .ok (.aload_n 0, 1) := qd1_42.2.2.1
theorem dX4_tonsAt_28 : decode cX4_tonsAt 28 = .ok (.getfield 12, 3) := qd1_42.2.2.2.1
theorem dX4_tonsAt_31 : decode cX4_tonsAt 31 = .ok (.aload_n 1, 1) := qd1_42.2.2.2.2.1
theorem dX4_tonsAt_32 : decode cX4_tonsAt 32 = .ok (.iload 5, 2) := qd1_42.2.2.2.2.2.1
theorem dX4_tonsAt_34 : decode cX4_tonsAt 34 = .ok (.iconst 0, 1) := qd1_42.2.2.2.2.2.2.1
theorem dX4_tonsAt_35 : decode cX4_tonsAt 35 = .ok (.invokevirtual 47, 3) := qd1_42.2.2.2.2.2.2.2.1
theorem dX4_tonsAt_38 : decode cX4_tonsAt 38 = .ok (.aload_n 1, 1) := qd1_42.2.2.2.2.2.2.2.2.1
theorem dX4_tonsAt_39 : decode cX4_tonsAt 39 = .ok (.iload 5, 2) := qd1_42.2.2.2.2.2.2.2.2.2.1
theorem dX4_tonsAt_41 : decode cX4_tonsAt 41 = .ok (.iconst 1, 1) := qd1_42.2.2.2.2.2.2.2.2.2.2.1
theorem dX4_tonsAt_42 : decode cX4_tonsAt 42 = .ok (.invokevirtual 47, 3) := qd1_42.2.2.2.2.2.2.2.2.2.2.2
theorem qd1_43 : (decode cX4_tonsAt 45 = .ok (.invokevirtual 67, 3)) ∧ (decode cX4_tonsAt 48 = .ok (.ifCond .eq 41, 3)) ∧ (decode cX4_tonsAt 51 = .ok (.iload_n 3, 1)) ∧ (decode cX4_tonsAt 52 = .ok (.ifCond .eq 11, 3)) ∧ (decode cX4_tonsAt 55 = .ok (.aload_n 0, 1)) ∧ (decode cX4_tonsAt 56 = .ok (.iload_n 2, 1)) ∧ (decode cX4_tonsAt 57 = .ok (.invokevirtual 99, 3)) ∧ (decode cX4_tonsAt 60 = .ok (.goto 12, 3)) ∧ (decode cX4_tonsAt 63 = .ok (.iconst 1, 1)) ∧ (decode cX4_tonsAt 64 = .ok (.aload_n 0, 1)) ∧ (decode cX4_tonsAt 65 = .ok (.iload_n 2, 1)) ∧ (decode cX4_tonsAt 66 = .ok (.invokevirtual 102, 3)) := by decide +kernel
theorem dX4_tonsAt_45 : decode cX4_tonsAt 45 = .ok (.invokevirtual 67, 3) := qd1_43.1
theorem dX4_tonsAt_48 : decode cX4_tonsAt 48 = .ok (.ifCond .eq 41, 3) := qd1_43.2.1
theorem dX4_tonsAt_51 : decode cX4_tonsAt 51 = .ok (.iload_n 3, 1) := qd1_43.2.2.1
theorem dX4_tonsAt_52 : decode cX4_tonsAt 52 = .ok (.ifCond .eq 11, 3) := qd1_43.2.2.2.1
theorem dX4_tonsAt_55 : decode cX4_tonsAt 55 = .ok (.aload_n 0, 1) := qd1_43.2.2.2.2.1
theorem dX4_tonsAt_56 : decode cX4_tonsAt 56 = .ok (.iload_n 2, 1) := qd1_43.2.2.2.2.2.1
theorem dX4_tonsAt_57 : decode cX4_tonsAt 57 = .ok (.invokevirtual 99, 3) := qd1_43.2.2.2.2.2.2.1
theorem dX4_tonsAt_60 : decode cX4_tonsAt 60 = .ok (.goto 12, 3) := qd1_43.2.2.2.2.2.2.2.1
theorem dX4_tonsAt_63 : decode cX4_tonsAt 63 = .ok (.iconst 1, 1) := qd1_43.2.2.2.2.2.2.2.2.1
theorem dX4_tonsAt_64 : decode cX4_tonsAt 64 = .ok (.aload_n 0, 1) := qd1_43.2.2.2.2.2.2.2.2.2.1
theorem dX4_tonsAt_65 : decode cX4_tonsAt 65 = .ok (.iload_n 2, 1) := qd1_43.2.2.2.2.2.2.2.2.2.2.1
theorem dX4_tonsAt_66 : decode cX4_tonsAt 66 = .ok (.invokevirtual 102, 3) := qd1_43.2.2.2.2.2.2.2.2.2.2.2
theorem qd1_44 : (decode cX4_tonsAt 69 = .ok (.invokestatic 105, 3)) ∧ (decode cX4_tonsAt 72 = .ok (.istore 6, 2)) ∧ (decode cX4_tonsAt 74 = .ok (.iload 4, 2)) ∧ (decode cX4_tonsAt 76 = .ok (.aload_n 1, 1)) ∧ (decode cX4_tonsAt 77 = .ok (.iload 5, 2)) ∧ (decode cX4_tonsAt 79 = .ok (.iconst 2, 1)) ∧ (decode cX4_tonsAt 80 = .ok (.invokevirtual 47, 3)) ∧ (decode cX4_tonsAt 83 = .ok (.iload 6, 2)) ∧ (decode cX4_tonsAt 85 = .ok (.imul, 1)) ∧ (decode cX4_tonsAt 86 = .ok (.iadd, 1)) ∧ (decode cX4_tonsAt 87 = .ok (.istore 4, 2)) ∧ (decode cX4_tonsAt 89 = .ok (.iinc 5 1, 3)) := by decide +kernel
theorem dX4_tonsAt_69 : decode cX4_tonsAt 69 = .ok (.invokestatic 105, 3) := qd1_44.1
theorem dX4_tonsAt_72 : decode cX4_tonsAt 72 = .ok (.istore 6, 2) := qd1_44.2.1
theorem dX4_tonsAt_74 : decode cX4_tonsAt 74 = .ok (.iload 4, 2) := qd1_44.2.2.1
theorem dX4_tonsAt_76 : decode cX4_tonsAt 76 = .ok (.aload_n 1, 1) := qd1_44.2.2.2.1
theorem dX4_tonsAt_77 : decode cX4_tonsAt 77 = .ok (.iload 5, 2) := qd1_44.2.2.2.2.1
theorem dX4_tonsAt_79 : decode cX4_tonsAt 79 = .ok (.iconst 2, 1) := qd1_44.2.2.2.2.2.1
theorem dX4_tonsAt_80 : decode cX4_tonsAt 80 = .ok (.invokevirtual 47, 3) := qd1_44.2.2.2.2.2.2.1
theorem dX4_tonsAt_83 : decode cX4_tonsAt 83 = .ok (.iload 6, 2) := qd1_44.2.2.2.2.2.2.2.1
theorem dX4_tonsAt_85 : decode cX4_tonsAt 85 = .ok (.imul, 1) := qd1_44.2.2.2.2.2.2.2.2.1
theorem dX4_tonsAt_86 : decode cX4_tonsAt 86 = .ok (.iadd, 1) := qd1_44.2.2.2.2.2.2.2.2.2.1
theorem dX4_tonsAt_87 : decode cX4_tonsAt 87 = .ok (.istore 4, 2) := qd1_44.2.2.2.2.2.2.2.2.2.2.1
theorem dX4_tonsAt_89 : decode cX4_tonsAt 89 = .ok (.iinc 5 1, 3) := qd1_44.2.2.2.2.2.2.2.2.2.2.2
theorem qd1_45 : (decode cX4_tonsAt 92 = .ok (.goto (-74), 3)) ∧ (decode cX4_tonsAt 95 = .ok (.iload 4, 2)) ∧ (decode cX4_tonsAt 97 = .ok (.ireturn, 1)) := by decide +kernel
theorem dX4_tonsAt_92 : decode cX4_tonsAt 92 = .ok (.goto (-74), 3) := qd1_45.1
theorem dX4_tonsAt_95 : decode cX4_tonsAt 95 = .ok (.iload 4, 2) := qd1_45.2.1
theorem dX4_tonsAt_97 : decode cX4_tonsAt 97 = .ok (.ireturn, 1) := qd1_45.2.2
theorem qd1_46 : (decode cX4_changesAt 0 = .ok (.iconst 0, 1)) ∧ (decode cX4_changesAt 1 = .ok (.istore_n 2, 1)) ∧ (decode cX4_changesAt 2 = .ok (.iconst 1, 1)) ∧ (decode cX4_changesAt 3 = .ok (.istore_n 3, 1)) ∧ (decode cX4_changesAt 4 = .ok (.iload_n 3, 1)) ∧ (decode cX4_changesAt 5 = .ok (.aload_n 0, 1)) ∧ (decode cX4_changesAt 6 = .ok (.getfield 12, 3)) ∧ (decode cX4_changesAt 9 = .ok (.getfield 74, 3)) ∧ (decode cX4_changesAt 12 = .ok (.if_icmp .ge 35, 3)) ∧ (decode cX4_changesAt 15 = .ok (.aload_n 0, 1)) ∧ (decode cX4_changesAt 16 = .ok (.getfield 12, 3)) ∧ (decode cX4_changesAt 19 = .ok (.iload_n 3, 1)) := by decide +kernel
theorem dX4_changesAt_0 : decode cX4_changesAt 0 = .ok (.iconst 0, 1) := qd1_46.1
theorem dX4_changesAt_1 : decode cX4_changesAt 1 = .ok (.istore_n 2, 1) := qd1_46.2.1
theorem dX4_changesAt_2 : decode cX4_changesAt 2 = .ok (.iconst 1, 1) := qd1_46.2.2.1
theorem dX4_changesAt_3 : decode cX4_changesAt 3 = .ok (.istore_n 3, 1) := qd1_46.2.2.2.1
theorem dX4_changesAt_4 : decode cX4_changesAt 4 = .ok (.iload_n 3, 1) := qd1_46.2.2.2.2.1
theorem dX4_changesAt_5 : decode cX4_changesAt 5 = .ok (.aload_n 0, 1) := qd1_46.2.2.2.2.2.1
theorem dX4_changesAt_6 : decode cX4_changesAt 6 = .ok (.getfield 12, 3) := qd1_46.2.2.2.2.2.2.1
theorem dX4_changesAt_9 : decode cX4_changesAt 9 = .ok (.getfield 74, 3) := qd1_46.2.2.2.2.2.2.2.1
theorem dX4_changesAt_12 : decode cX4_changesAt 12 = .ok (.if_icmp .ge 35, 3) := qd1_46.2.2.2.2.2.2.2.2.1
theorem dX4_changesAt_15 : decode cX4_changesAt 15 = .ok (.aload_n 0, 1) := qd1_46.2.2.2.2.2.2.2.2.2.1
theorem dX4_changesAt_16 : decode cX4_changesAt 16 = .ok (.getfield 12, 3) := qd1_46.2.2.2.2.2.2.2.2.2.2.1
theorem dX4_changesAt_19 : decode cX4_changesAt 19 = .ok (.iload_n 3, 1) := qd1_46.2.2.2.2.2.2.2.2.2.2.2
theorem qd1_47 : (decode cX4_changesAt 20 = .ok (.invokevirtual 108, 3)) ∧ (decode cX4_changesAt 23 = .ok (.ifCond .eq 18, 3)) ∧ (decode cX4_changesAt 26 = .ok (.aload_n 0, 1)) ∧ (decode cX4_changesAt 27 = .ok (.getfield 12, 3)) ∧ (decode cX4_changesAt 30 = .ok (.iload_n 3, 1)) ∧ (decode cX4_changesAt 31 = .ok (.invokevirtual 111, 3)) ∧ (decode cX4_changesAt 34 = .ok (.iload_n 1, 1)) ∧ (decode cX4_changesAt 35 = .ok (.if_icmp .ne 6, 3)) ∧ (decode cX4_changesAt 38 = .ok (.iinc 2 1, 3)) ∧ (decode cX4_changesAt 41 = .ok (.iinc 3 1, 3)) ∧ (decode cX4_changesAt 44 = .ok (.goto (-40), 3)) ∧ (decode cX4_changesAt 47 = .ok (.iload_n 2, 1)) := by decide +kernel
theorem dX4_changesAt_20 : decode cX4_changesAt 20 = .ok (.invokevirtual 108, 3) := qd1_47.1
theorem dX4_changesAt_23 : decode cX4_changesAt 23 = .ok (.ifCond .eq 18, 3) := qd1_47.2.1
theorem dX4_changesAt_26 : decode cX4_changesAt 26 = .ok (.aload_n 0, 1) := qd1_47.2.2.1
theorem dX4_changesAt_27 : decode cX4_changesAt 27 = .ok (.getfield 12, 3) := qd1_47.2.2.2.1
theorem dX4_changesAt_30 : decode cX4_changesAt 30 = .ok (.iload_n 3, 1) := qd1_47.2.2.2.2.1
theorem dX4_changesAt_31 : decode cX4_changesAt 31 = .ok (.invokevirtual 111, 3) := qd1_47.2.2.2.2.2.1
theorem dX4_changesAt_34 : decode cX4_changesAt 34 = .ok (.iload_n 1, 1) := qd1_47.2.2.2.2.2.2.1
theorem dX4_changesAt_35 : decode cX4_changesAt 35 = .ok (.if_icmp .ne 6, 3) := qd1_47.2.2.2.2.2.2.2.1
theorem dX4_changesAt_38 : decode cX4_changesAt 38 = .ok (.iinc 2 1, 3) := qd1_47.2.2.2.2.2.2.2.2.1
theorem dX4_changesAt_41 : decode cX4_changesAt 41 = .ok (.iinc 3 1, 3) := qd1_47.2.2.2.2.2.2.2.2.2.1
theorem dX4_changesAt_44 : decode cX4_changesAt 44 = .ok (.goto (-40), 3) := qd1_47.2.2.2.2.2.2.2.2.2.2.1
theorem dX4_changesAt_47 : decode cX4_changesAt 47 = .ok (.iload_n 2, 1) := qd1_47.2.2.2.2.2.2.2.2.2.2.2
theorem dX4_changesAt_48 : decode cX4_changesAt 48 = .ok (.ireturn, 1) := by decide +kernel
theorem qd1_48 : (decode cX4_stepsTo 0 = .ok (.iconst 0, 1)) ∧ (decode cX4_stepsTo 1 = .ok (.istore_n 2, 1)) ∧ (decode cX4_stepsTo 2 = .ok (.iconst 0, 1)) ∧ (decode cX4_stepsTo 3 = .ok (.istore_n 3, 1)) ∧ (decode cX4_stepsTo 4 = .ok (.iload_n 3, 1)) ∧ (decode cX4_stepsTo 5 = .ok (.aload_n 0, 1)) ∧ (decode cX4_stepsTo 6 = .ok (.getfield 12, 3)) ∧ (decode cX4_stepsTo 9 = .ok (.getfield 74, 3)) ∧ (decode cX4_stepsTo 12 = .ok (.if_icmp .ge 24, 3)) ∧ (decode cX4_stepsTo 15 = .ok (.aload_n 0, 1)) ∧ (decode cX4_stepsTo 16 = .ok (.getfield 12, 3)) ∧ (decode cX4_stepsTo 19 = .ok (.iload_n 3, 1)) := by decide +kernel
theorem dX4_stepsTo_0 : decode cX4_stepsTo 0 = .ok (.iconst 0, 1) := qd1_48.1
theorem dX4_stepsTo_1 : decode cX4_stepsTo 1 = .ok (.istore_n 2, 1) := qd1_48.2.1
theorem dX4_stepsTo_2 : decode cX4_stepsTo 2 = .ok (.iconst 0, 1) := qd1_48.2.2.1
theorem dX4_stepsTo_3 : decode cX4_stepsTo 3 = .ok (.istore_n 3, 1) := qd1_48.2.2.2.1
theorem dX4_stepsTo_4 : decode cX4_stepsTo 4 = .ok (.iload_n 3, 1) := qd1_48.2.2.2.2.1
theorem dX4_stepsTo_5 : decode cX4_stepsTo 5 = .ok (.aload_n 0, 1) := qd1_48.2.2.2.2.2.1
theorem dX4_stepsTo_6 : decode cX4_stepsTo 6 = .ok (.getfield 12, 3) := qd1_48.2.2.2.2.2.2.1
theorem dX4_stepsTo_9 : decode cX4_stepsTo 9 = .ok (.getfield 74, 3) := qd1_48.2.2.2.2.2.2.2.1
theorem dX4_stepsTo_12 : decode cX4_stepsTo 12 = .ok (.if_icmp .ge 24, 3) := qd1_48.2.2.2.2.2.2.2.2.1
theorem dX4_stepsTo_15 : decode cX4_stepsTo 15 = .ok (.aload_n 0, 1) := qd1_48.2.2.2.2.2.2.2.2.2.1
theorem dX4_stepsTo_16 : decode cX4_stepsTo 16 = .ok (.getfield 12, 3) := qd1_48.2.2.2.2.2.2.2.2.2.2.1
theorem dX4_stepsTo_19 : decode cX4_stepsTo 19 = .ok (.iload_n 3, 1) := qd1_48.2.2.2.2.2.2.2.2.2.2.2
theorem qd1_49 : (decode cX4_stepsTo 20 = .ok (.invokevirtual 111, 3)) ∧ (decode cX4_stepsTo 23 = .ok (.iload_n 1, 1)) ∧ (decode cX4_stepsTo 24 = .ok (.if_icmp .ne 6, 3)) ∧ (decode cX4_stepsTo 27 = .ok (.iinc 2 1, 3)) ∧ (decode cX4_stepsTo 30 = .ok (.iinc 3 1, 3)) ∧ (decode cX4_stepsTo 33 = .ok (.goto (-29), 3)) ∧ (decode cX4_stepsTo 36 = .ok (.iload_n 2, 1)) ∧ (decode cX4_stepsTo 37 = .ok (.ireturn, 1)) := by decide +kernel
theorem dX4_stepsTo_20 : decode cX4_stepsTo 20 = .ok (.invokevirtual 111, 3) := qd1_49.1
theorem dX4_stepsTo_23 : decode cX4_stepsTo 23 = .ok (.iload_n 1, 1) := qd1_49.2.1
theorem dX4_stepsTo_24 : decode cX4_stepsTo 24 = .ok (.if_icmp .ne 6, 3) := qd1_49.2.2.1
theorem dX4_stepsTo_27 : decode cX4_stepsTo 27 = .ok (.iinc 2 1, 3) := qd1_49.2.2.2.1
theorem dX4_stepsTo_30 : decode cX4_stepsTo 30 = .ok (.iinc 3 1, 3) := qd1_49.2.2.2.2.1
theorem dX4_stepsTo_33 : decode cX4_stepsTo 33 = .ok (.goto (-29), 3) := qd1_49.2.2.2.2.2.1
theorem dX4_stepsTo_36 : decode cX4_stepsTo 36 = .ok (.iload_n 2, 1) := qd1_49.2.2.2.2.2.2.1
theorem dX4_stepsTo_37 : decode cX4_stepsTo 37 = .ok (.ireturn, 1) := qd1_49.2.2.2.2.2.2.2
theorem qd1_50 : (decode cX4_dearestLoss 0 = .ok (.aload_n 1, 1)) ∧ (decode cX4_dearestLoss 1 = .ok (.invokevirtual 25, 3)) ∧ (decode cX4_dearestLoss 4 = .ok (.istore_n 2, 1)) ∧ (decode cX4_dearestLoss 5 = .ok (.iconst (-1), 1)) ∧ (decode cX4_dearestLoss 6 = .ok (.istore_n 3, 1)) ∧ (decode cX4_dearestLoss 7 = .ok (.iconst (-1), 1)) ∧ (decode cX4_dearestLoss 8 = .ok (.istore 4, 2)) ∧ (decode cX4_dearestLoss 10 = .ok (.iconst 0, 1)) ∧ (decode cX4_dearestLoss 11 = .ok (.istore 5, 2)) ∧ (decode cX4_dearestLoss 13 = .ok (.iload 5, 2)) ∧ (decode cX4_dearestLoss 15 = .ok (.aload_n 1, 1)) ∧ (decode cX4_dearestLoss 16 = .ok (.getfield 57, 3)) := by decide +kernel
theorem dX4_dearestLoss_0 : decode cX4_dearestLoss 0 = .ok (.aload_n 1, 1) := qd1_50.1
theorem dX4_dearestLoss_1 : decode cX4_dearestLoss 1 = .ok (.invokevirtual 25, 3) := qd1_50.2.1
theorem dX4_dearestLoss_4 : decode cX4_dearestLoss 4 = .ok (.istore_n 2, 1) := qd1_50.2.2.1
theorem dX4_dearestLoss_5 : decode cX4_dearestLoss 5 = .ok (.iconst (-1), 1) := qd1_50.2.2.2.1
theorem dX4_dearestLoss_6 : decode cX4_dearestLoss 6 = .ok (.istore_n 3, 1) := qd1_50.2.2.2.2.1
theorem dX4_dearestLoss_7 : decode cX4_dearestLoss 7 = .ok (.iconst (-1), 1) := qd1_50.2.2.2.2.2.1
theorem dX4_dearestLoss_8 : decode cX4_dearestLoss 8 = .ok (.istore 4, 2) := qd1_50.2.2.2.2.2.2.1
theorem dX4_dearestLoss_10 : decode cX4_dearestLoss 10 = .ok (.iconst 0, 1) := qd1_50.2.2.2.2.2.2.2.1
theorem dX4_dearestLoss_11 : decode cX4_dearestLoss 11 = .ok (.istore 5, 2) := qd1_50.2.2.2.2.2.2.2.2.1
theorem dX4_dearestLoss_13 : decode cX4_dearestLoss 13 = .ok (.iload 5, 2) := qd1_50.2.2.2.2.2.2.2.2.2.1
theorem dX4_dearestLoss_15 : decode cX4_dearestLoss 15 = .ok (.aload_n 1, 1) := qd1_50.2.2.2.2.2.2.2.2.2.2.1
theorem dX4_dearestLoss_16 : decode cX4_dearestLoss 16 = .ok (.getfield 57, 3) := qd1_50.2.2.2.2.2.2.2.2.2.2.2
theorem qd1_51 : (decode cX4_dearestLoss 19 = .ok (.if_icmp .ge 47, 3)) ∧ (decode cX4_dearestLoss 22 = .ok (.iload_n 2, 1)) ∧ (decode cX4_dearestLoss 23 = .ok (.iload 5, 2)) ∧ (decode cX4_dearestLoss 25 = .ok (.ishr, 1)) ∧ (decode cX4_dearestLoss 26 = .ok (.iconst 1, 1)) ∧ (decode cX4_dearestLoss 27 = .ok (.iand, 1)) ∧ (decode cX4_dearestLoss 28 = .ok (.ifCond .eq 32, 3)) ∧ (decode cX4_dearestLoss 31 = .ok (.aload_n 0, 1)) ∧ (decode cX4_dearestLoss 32 = .ok (.aload_n 1, 1)) ∧ (decode cX4_dearestLoss 33 = .ok (.iload_n 2, 1)) ∧ (decode cX4_dearestLoss 34 = .ok (.iconst 1, 1)) ∧ (decode cX4_dearestLoss 35 = .ok (.iload 5, 2)) := by decide +kernel
theorem dX4_dearestLoss_19 : decode cX4_dearestLoss 19 = .ok (.if_icmp .ge 47, 3) := qd1_51.1
theorem dX4_dearestLoss_22 : decode cX4_dearestLoss 22 = .ok (.iload_n 2, 1) := qd1_51.2.1
theorem dX4_dearestLoss_23 : decode cX4_dearestLoss 23 = .ok (.iload 5, 2) := qd1_51.2.2.1
theorem dX4_dearestLoss_25 : decode cX4_dearestLoss 25 = .ok (.ishr, 1) := qd1_51.2.2.2.1
theorem dX4_dearestLoss_26 : decode cX4_dearestLoss 26 = .ok (.iconst 1, 1) := qd1_51.2.2.2.2.1
theorem dX4_dearestLoss_27 : decode cX4_dearestLoss 27 = .ok (.iand, 1) := qd1_51.2.2.2.2.2.1
theorem dX4_dearestLoss_28 : decode cX4_dearestLoss 28 = .ok (.ifCond .eq 32, 3) := qd1_51.2.2.2.2.2.2.1
theorem dX4_dearestLoss_31 : decode cX4_dearestLoss 31 = .ok (.aload_n 0, 1) := qd1_51.2.2.2.2.2.2.2.1
theorem dX4_dearestLoss_32 : decode cX4_dearestLoss 32 = .ok (.aload_n 1, 1) := qd1_51.2.2.2.2.2.2.2.2.1
theorem dX4_dearestLoss_33 : decode cX4_dearestLoss 33 = .ok (.iload_n 2, 1) := qd1_51.2.2.2.2.2.2.2.2.2.1
theorem dX4_dearestLoss_34 : decode cX4_dearestLoss 34 = .ok (.iconst 1, 1) := qd1_51.2.2.2.2.2.2.2.2.2.2.1
theorem dX4_dearestLoss_35 : decode cX4_dearestLoss 35 = .ok (.iload 5, 2) := qd1_51.2.2.2.2.2.2.2.2.2.2.2
theorem qd1_52 : (decode cX4_dearestLoss 37 = .ok (.ishl, 1)) ∧ (decode cX4_dearestLoss 38 = .ok (.iconst (-1), 1)) ∧ (decode cX4_dearestLoss 39 = .ok (.ixor, 1)) ∧ (decode cX4_dearestLoss 40 = .ok (.iand, 1)) ∧ (decode cX4_dearestLoss 41 = .ok (.invokevirtual 114, 3)) ∧ (decode cX4_dearestLoss 44 = .ok (.istore 6, 2)) ∧ (decode cX4_dearestLoss 46 = .ok (.iload 6, 2)) ∧ (decode cX4_dearestLoss 48 = .ok (.iload 4, 2)) ∧ (decode cX4_dearestLoss 50 = .ok (.if_icmp .le 10, 3)) ∧ (decode cX4_dearestLoss 53 = .ok (.iload 6, 2)) ∧ (decode cX4_dearestLoss 55 = .ok (.istore 4, 2)) ∧ (decode cX4_dearestLoss 57 = .ok (.iload 5, 2)) := by decide +kernel
theorem dX4_dearestLoss_37 : decode cX4_dearestLoss 37 = .ok (.ishl, 1) := qd1_52.1
theorem dX4_dearestLoss_38 : decode cX4_dearestLoss 38 = .ok (.iconst (-1), 1) := qd1_52.2.1
theorem dX4_dearestLoss_39 : decode cX4_dearestLoss 39 = .ok (.ixor, 1) := qd1_52.2.2.1
theorem dX4_dearestLoss_40 : decode cX4_dearestLoss 40 = .ok (.iand, 1) := qd1_52.2.2.2.1
theorem dX4_dearestLoss_41 : decode cX4_dearestLoss 41 = .ok (.invokevirtual 114, 3) := qd1_52.2.2.2.2.1
theorem dX4_dearestLoss_44 : decode cX4_dearestLoss 44 = .ok (.istore 6, 2) := qd1_52.2.2.2.2.2.1
theorem dX4_dearestLoss_46 : decode cX4_dearestLoss 46 = .ok (.iload 6, 2) := qd1_52.2.2.2.2.2.2.1
theorem dX4_dearestLoss_48 : decode cX4_dearestLoss 48 = .ok (.iload 4, 2) := qd1_52.2.2.2.2.2.2.2.1
theorem dX4_dearestLoss_50 : decode cX4_dearestLoss 50 = .ok (.if_icmp .le 10, 3) := qd1_52.2.2.2.2.2.2.2.2.1
theorem dX4_dearestLoss_53 : decode cX4_dearestLoss 53 = .ok (.iload 6, 2) := qd1_52.2.2.2.2.2.2.2.2.2.1
theorem dX4_dearestLoss_55 : decode cX4_dearestLoss 55 = .ok (.istore 4, 2) := qd1_52.2.2.2.2.2.2.2.2.2.2.1
theorem dX4_dearestLoss_57 : decode cX4_dearestLoss 57 = .ok (.iload 5, 2) := qd1_52.2.2.2.2.2.2.2.2.2.2.2
theorem qd1_53 : (decode cX4_dearestLoss 59 = .ok (.istore_n 3, 1)) ∧ (decode cX4_dearestLoss 60 = .ok (.iinc 5 1, 3)) ∧ (decode cX4_dearestLoss 63 = .ok (.goto (-50), 3)) ∧ (decode cX4_dearestLoss 66 = .ok (.iload_n 3, 1)) ∧ (decode cX4_dearestLoss 67 = .ok (.ireturn, 1)) := by decide +kernel
theorem dX4_dearestLoss_59 : decode cX4_dearestLoss 59 = .ok (.istore_n 3, 1) := qd1_53.1
theorem dX4_dearestLoss_60 : decode cX4_dearestLoss 60 = .ok (.iinc 5 1, 3) := qd1_53.2.1
theorem dX4_dearestLoss_63 : decode cX4_dearestLoss 63 = .ok (.goto (-50), 3) := qd1_53.2.2.1
theorem dX4_dearestLoss_66 : decode cX4_dearestLoss 66 = .ok (.iload_n 3, 1) := qd1_53.2.2.2.1
theorem dX4_dearestLoss_67 : decode cX4_dearestLoss 67 = .ok (.ireturn, 1) := qd1_53.2.2.2.2
theorem qd1_54 : (decode cX5_init 0 = .ok (.aload_n 0, 1)) ∧ (decode cX5_init 1 = .ok (.invokespecial 3, 3)) ∧ (decode cX5_init 4 = .ok (.aload_n 0, 1)) ∧ (decode cX5_init 5 = .ok (.bipush 60, 2)) ∧ (decode cX5_init 7 = .ok (.newarray .int, 2)) ∧ (decode cX5_init 9 = .ok (.putfield 9, 3)) ∧ (decode cX5_init 12 = .ok (.aload_n 0, 1)) ∧ (decode cX5_init 13 = .ok (.bipush 60, 2)) ∧ (decode cX5_init 15 = .ok (.newarray .int, 2)) ∧ (decode cX5_init 17 = .ok (.putfield 15, 3)) ∧ (decode cX5_init 20 = .ok (.aload_n 0, 1)) ∧ (decode cX5_init 21 = .ok (.bipush 60, 2)) := by decide +kernel
theorem dX5_init_0 : decode cX5_init 0 = .ok (.aload_n 0, 1) := qd1_54.1
theorem dX5_init_1 : decode cX5_init 1 = .ok (.invokespecial 3, 3) := qd1_54.2.1
theorem dX5_init_4 : decode cX5_init 4 = .ok (.aload_n 0, 1) := qd1_54.2.2.1
theorem dX5_init_5 : decode cX5_init 5 = .ok (.bipush 60, 2) := qd1_54.2.2.2.1
theorem dX5_init_7 : decode cX5_init 7 = .ok (.newarray .int, 2) := qd1_54.2.2.2.2.1
theorem dX5_init_9 : decode cX5_init 9 = .ok (.putfield 9, 3) := qd1_54.2.2.2.2.2.1
theorem dX5_init_12 : decode cX5_init 12 = .ok (.aload_n 0, 1) := qd1_54.2.2.2.2.2.2.1
theorem dX5_init_13 : decode cX5_init 13 = .ok (.bipush 60, 2) := qd1_54.2.2.2.2.2.2.2.1
theorem dX5_init_15 : decode cX5_init 15 = .ok (.newarray .int, 2) := qd1_54.2.2.2.2.2.2.2.2.1
theorem dX5_init_17 : decode cX5_init 17 = .ok (.putfield 15, 3) := qd1_54.2.2.2.2.2.2.2.2.2.1
theorem dX5_init_20 : decode cX5_init 20 = .ok (.aload_n 0, 1) := qd1_54.2.2.2.2.2.2.2.2.2.2.1
theorem dX5_init_21 : decode cX5_init 21 = .ok (.bipush 60, 2) := qd1_54.2.2.2.2.2.2.2.2.2.2.2
theorem qd1_55 : (decode cX5_init 23 = .ok (.newarray .int, 2)) ∧ (decode cX5_init 25 = .ok (.putfield 18, 3)) ∧ (decode cX5_init 28 = .ok (.aload_n 0, 1)) ∧ (decode cX5_init 29 = .ok (.bipush 60, 2)) ∧ (decode cX5_init 31 = .ok (.newarray .int, 2)) ∧ (decode cX5_init 33 = .ok (.putfield 21, 3)) ∧ (decode cX5_init 36 = .ok (.aload_n 0, 1)) ∧ (decode cX5_init 37 = .ok (.bipush 12, 2)) ∧ (decode cX5_init 39 = .ok (.newarray .int, 2)) ∧ (decode cX5_init 41 = .ok (.putfield 24, 3)) ∧ (decode cX5_init 44 = .ok (.aload_n 0, 1)) ∧ (decode cX5_init 45 = .ok (.bipush 36, 2)) := by decide +kernel
theorem dX5_init_23 : decode cX5_init 23 = .ok (.newarray .int, 2) := qd1_55.1
theorem dX5_init_25 : decode cX5_init 25 = .ok (.putfield 18, 3) := qd1_55.2.1
theorem dX5_init_28 : decode cX5_init 28 = .ok (.aload_n 0, 1) := qd1_55.2.2.1
theorem dX5_init_29 : decode cX5_init 29 = .ok (.bipush 60, 2) := qd1_55.2.2.2.1
theorem dX5_init_31 : decode cX5_init 31 = .ok (.newarray .int, 2) := qd1_55.2.2.2.2.1
theorem dX5_init_33 : decode cX5_init 33 = .ok (.putfield 21, 3) := qd1_55.2.2.2.2.2.1
theorem dX5_init_36 : decode cX5_init 36 = .ok (.aload_n 0, 1) := qd1_55.2.2.2.2.2.2.1
theorem dX5_init_37 : decode cX5_init 37 = .ok (.bipush 12, 2) := qd1_55.2.2.2.2.2.2.2.1
theorem dX5_init_39 : decode cX5_init 39 = .ok (.newarray .int, 2) := qd1_55.2.2.2.2.2.2.2.2.1
theorem dX5_init_41 : decode cX5_init 41 = .ok (.putfield 24, 3) := qd1_55.2.2.2.2.2.2.2.2.2.1
theorem dX5_init_44 : decode cX5_init 44 = .ok (.aload_n 0, 1) := qd1_55.2.2.2.2.2.2.2.2.2.2.1
theorem dX5_init_45 : decode cX5_init 45 = .ok (.bipush 36, 2) := qd1_55.2.2.2.2.2.2.2.2.2.2.2
theorem qd1_56 : (decode cX5_init 47 = .ok (.newarray .int, 2)) ∧ (decode cX5_init 49 = .ok (.putfield 27, 3)) ∧ (decode cX5_init 52 = .ok (.aload_n 0, 1)) ∧ (decode cX5_init 53 = .ok (.bipush 36, 2)) ∧ (decode cX5_init 55 = .ok (.newarray .int, 2)) ∧ (decode cX5_init 57 = .ok (.putfield 30, 3)) ∧ (decode cX5_init 60 = .ok (.aload_n 0, 1)) ∧ (decode cX5_init 61 = .ok (.bipush 36, 2)) ∧ (decode cX5_init 63 = .ok (.newarray .int, 2)) ∧ (decode cX5_init 65 = .ok (.putfield 33, 3)) ∧ (decode cX5_init 68 = .ok (.aload_n 0, 1)) ∧ (decode cX5_init 69 = .ok (.bipush 36, 2)) := by decide +kernel
theorem dX5_init_47 : decode cX5_init 47 = .ok (.newarray .int, 2) := qd1_56.1
theorem dX5_init_49 : decode cX5_init 49 = .ok (.putfield 27, 3) := qd1_56.2.1
theorem dX5_init_52 : decode cX5_init 52 = .ok (.aload_n 0, 1) := qd1_56.2.2.1
theorem dX5_init_53 : decode cX5_init 53 = .ok (.bipush 36, 2) := qd1_56.2.2.2.1
theorem dX5_init_55 : decode cX5_init 55 = .ok (.newarray .int, 2) := qd1_56.2.2.2.2.1
theorem dX5_init_57 : decode cX5_init 57 = .ok (.putfield 30, 3) := qd1_56.2.2.2.2.2.1
theorem dX5_init_60 : decode cX5_init 60 = .ok (.aload_n 0, 1) := qd1_56.2.2.2.2.2.2.1
theorem dX5_init_61 : decode cX5_init 61 = .ok (.bipush 36, 2) := qd1_56.2.2.2.2.2.2.2.1
theorem dX5_init_63 : decode cX5_init 63 = .ok (.newarray .int, 2) := qd1_56.2.2.2.2.2.2.2.2.1
theorem dX5_init_65 : decode cX5_init 65 = .ok (.putfield 33, 3) := qd1_56.2.2.2.2.2.2.2.2.2.1
theorem dX5_init_68 : decode cX5_init 68 = .ok (.aload_n 0, 1) := qd1_56.2.2.2.2.2.2.2.2.2.2.1
theorem dX5_init_69 : decode cX5_init 69 = .ok (.bipush 36, 2) := qd1_56.2.2.2.2.2.2.2.2.2.2.2
theorem qd1_57 : (decode cX5_init 71 = .ok (.newarray .int, 2)) ∧ (decode cX5_init 73 = .ok (.putfield 36, 3)) ∧ (decode cX5_init 76 = .ok (.aload_n 0, 1)) ∧ (decode cX5_init 77 = .ok (.iconst (-1), 1)) ∧ (decode cX5_init 78 = .ok (.putfield 39, 3)) ∧ (decode cX5_init 81 = .ok (.return_, 1)) := by decide +kernel
theorem dX5_init_71 : decode cX5_init 71 = .ok (.newarray .int, 2) := qd1_57.1
theorem dX5_init_73 : decode cX5_init 73 = .ok (.putfield 36, 3) := qd1_57.2.1
theorem dX5_init_76 : decode cX5_init 76 = .ok (.aload_n 0, 1) := qd1_57.2.2.1
theorem dX5_init_77 : decode cX5_init 77 = .ok (.iconst (-1), 1) := qd1_57.2.2.2.1
theorem dX5_init_78 : decode cX5_init 78 = .ok (.putfield 39, 3) := qd1_57.2.2.2.2.1
theorem dX5_init_81 : decode cX5_init 81 = .ok (.return_, 1) := qd1_57.2.2.2.2.2
theorem qd1_58 : (decode cX5_prepare 0 = .ok (.aload_n 1, 1)) ∧ (decode cX5_prepare 1 = .ok (.getfield 43, 3)) ∧ (decode cX5_prepare 4 = .ok (.iconst 0, 1)) ∧ (decode cX5_prepare 5 = .ok (.aload_n 0, 1)) ∧ (decode cX5_prepare 6 = .ok (.getfield 24, 3)) ∧ (decode cX5_prepare 9 = .ok (.iconst 0, 1)) ∧ (decode cX5_prepare 10 = .ok (.bipush 12, 2)) ∧ (decode cX5_prepare 12 = .ok (.invokestatic 46, 3)) ∧ (decode cX5_prepare 15 = .ok (.aload_n 0, 1)) ∧ (decode cX5_prepare 16 = .ok (.iconst (-1), 1)) ∧ (decode cX5_prepare 17 = .ok (.putfield 39, 3)) ∧ (decode cX5_prepare 20 = .ok (.aload_n 0, 1)) := by decide +kernel
theorem dX5_prepare_0 : decode cX5_prepare 0 = .ok (.aload_n 1, 1) := qd1_58.1
theorem dX5_prepare_1 : decode cX5_prepare 1 = .ok (.getfield 43, 3) := qd1_58.2.1
theorem dX5_prepare_4 : decode cX5_prepare 4 = .ok (.iconst 0, 1) := qd1_58.2.2.1
theorem dX5_prepare_5 : decode cX5_prepare 5 = .ok (.aload_n 0, 1) := qd1_58.2.2.2.1
theorem dX5_prepare_6 : decode cX5_prepare 6 = .ok (.getfield 24, 3) := qd1_58.2.2.2.2.1
theorem dX5_prepare_9 : decode cX5_prepare 9 = .ok (.iconst 0, 1) := qd1_58.2.2.2.2.2.1
theorem dX5_prepare_10 : decode cX5_prepare 10 = .ok (.bipush 12, 2) := qd1_58.2.2.2.2.2.2.1
theorem dX5_prepare_12 : decode cX5_prepare 12 = .ok (.invokestatic 46, 3) := qd1_58.2.2.2.2.2.2.2.1
theorem dX5_prepare_15 : decode cX5_prepare 15 = .ok (.aload_n 0, 1) := qd1_58.2.2.2.2.2.2.2.2.1
theorem dX5_prepare_16 : decode cX5_prepare 16 = .ok (.iconst (-1), 1) := qd1_58.2.2.2.2.2.2.2.2.2.1
theorem dX5_prepare_17 : decode cX5_prepare 17 = .ok (.putfield 39, 3) := qd1_58.2.2.2.2.2.2.2.2.2.2.1
theorem dX5_prepare_20 : decode cX5_prepare 20 = .ok (.aload_n 0, 1) := qd1_58.2.2.2.2.2.2.2.2.2.2.2
theorem qd1_59 : (decode cX5_prepare 21 = .ok (.iconst 0, 1)) ∧ (decode cX5_prepare 22 = .ok (.putfield 52, 3)) ∧ (decode cX5_prepare 25 = .ok (.iconst 0, 1)) ∧ (decode cX5_prepare 26 = .ok (.istore_n 3, 1)) ∧ (decode cX5_prepare 27 = .ok (.iload_n 3, 1)) ∧ (decode cX5_prepare 28 = .ok (.aload_n 1, 1)) ∧ (decode cX5_prepare 29 = .ok (.getfield 55, 3)) ∧ (decode cX5_prepare 32 = .ok (.if_icmp .ge 137, 3)) ∧ (decode cX5_prepare 35 = .ok (.iload_n 2, 1)) ∧ (decode cX5_prepare 36 = .ok (.iload_n 3, 1)) ∧ (decode cX5_prepare 37 = .ok (.ishr, 1)) ∧ (decode cX5_prepare 38 = .ok (.iconst 1, 1)) := by decide +kernel
theorem dX5_prepare_21 : decode cX5_prepare 21 = .ok (.iconst 0, 1) := qd1_59.1
theorem dX5_prepare_22 : decode cX5_prepare 22 = .ok (.putfield 52, 3) := qd1_59.2.1
theorem dX5_prepare_25 : decode cX5_prepare 25 = .ok (.iconst 0, 1) := qd1_59.2.2.1
theorem dX5_prepare_26 : decode cX5_prepare 26 = .ok (.istore_n 3, 1) := qd1_59.2.2.2.1
theorem dX5_prepare_27 : decode cX5_prepare 27 = .ok (.iload_n 3, 1) := qd1_59.2.2.2.2.1
theorem dX5_prepare_28 : decode cX5_prepare 28 = .ok (.aload_n 1, 1) := qd1_59.2.2.2.2.2.1
theorem dX5_prepare_29 : decode cX5_prepare 29 = .ok (.getfield 55, 3) := qd1_59.2.2.2.2.2.2.1
theorem dX5_prepare_32 : decode cX5_prepare 32 = .ok (.if_icmp .ge 137, 3) := qd1_59.2.2.2.2.2.2.2.1
theorem dX5_prepare_35 : decode cX5_prepare 35 = .ok (.iload_n 2, 1) := qd1_59.2.2.2.2.2.2.2.2.1
theorem dX5_prepare_36 : decode cX5_prepare 36 = .ok (.iload_n 3, 1) := qd1_59.2.2.2.2.2.2.2.2.2.1
theorem dX5_prepare_37 : decode cX5_prepare 37 = .ok (.ishr, 1) := qd1_59.2.2.2.2.2.2.2.2.2.2.1
theorem dX5_prepare_38 : decode cX5_prepare 38 = .ok (.iconst 1, 1) := qd1_59.2.2.2.2.2.2.2.2.2.2.2
theorem qd1_60 : (decode cX5_prepare 39 = .ok (.iand, 1)) ∧ (decode cX5_prepare 40 = .ok (.ifCond .eq 12, 3)) ∧ (decode cX5_prepare 43 = .ok (.aload_n 1, 1)) ∧ (decode cX5_prepare 44 = .ok (.iload_n 3, 1)) ∧ (decode cX5_prepare 45 = .ok (.iconst 2, 1)) ∧ (decode cX5_prepare 46 = .ok (.invokevirtual 58, 3)) ∧ (decode cX5_prepare 49 = .ok (.goto 4, 3)) ∧ (decode cX5_prepare 52 = .ok (.iconst 0, 1)) ∧ (decode cX5_prepare 53 = .ok (.istore 4, 2)) ∧ (decode cX5_prepare 55 = .ok (.iconst 0, 1)) ∧ (decode cX5_prepare 56 = .ok (.istore 5, 2)) ∧ (decode cX5_prepare 58 = .ok (.iload 5, 2)) := by decide +kernel
theorem dX5_prepare_39 : decode cX5_prepare 39 = .ok (.iand, 1) := qd1_60.1
theorem dX5_prepare_40 : decode cX5_prepare 40 = .ok (.ifCond .eq 12, 3) := qd1_60.2.1
theorem dX5_prepare_43 : decode cX5_prepare 43 = .ok (.aload_n 1, 1) := qd1_60.2.2.1
theorem dX5_prepare_44 : decode cX5_prepare 44 = .ok (.iload_n 3, 1) := qd1_60.2.2.2.1
theorem dX5_prepare_45 : decode cX5_prepare 45 = .ok (.iconst 2, 1) := qd1_60.2.2.2.2.1
theorem dX5_prepare_46 : decode cX5_prepare 46 = .ok (.invokevirtual 58, 3) := qd1_60.2.2.2.2.2.1
theorem dX5_prepare_49 : decode cX5_prepare 49 = .ok (.goto 4, 3) := qd1_60.2.2.2.2.2.2.1
theorem dX5_prepare_52 : decode cX5_prepare 52 = .ok (.iconst 0, 1) := qd1_60.2.2.2.2.2.2.2.1
theorem dX5_prepare_53 : decode cX5_prepare 53 = .ok (.istore 4, 2) := qd1_60.2.2.2.2.2.2.2.2.1
theorem dX5_prepare_55 : decode cX5_prepare 55 = .ok (.iconst 0, 1) := qd1_60.2.2.2.2.2.2.2.2.2.1
theorem dX5_prepare_56 : decode cX5_prepare 56 = .ok (.istore 5, 2) := qd1_60.2.2.2.2.2.2.2.2.2.2.1
theorem dX5_prepare_58 : decode cX5_prepare 58 = .ok (.iload 5, 2) := qd1_60.2.2.2.2.2.2.2.2.2.2.2
theorem qd1_61 : (decode cX5_prepare 60 = .ok (.iconst 3, 1)) ∧ (decode cX5_prepare 61 = .ok (.if_icmp .ge 102, 3)) ∧ (decode cX5_prepare 64 = .ok (.iload 4, 2)) ∧ (decode cX5_prepare 66 = .ok (.iload 5, 2)) ∧ (decode cX5_prepare 68 = .ok (.ishr, 1)) ∧ (decode cX5_prepare 69 = .ok (.iconst 1, 1)) ∧ (decode cX5_prepare 70 = .ok (.iand, 1)) ∧ (decode cX5_prepare 71 = .ok (.ifCond .eq 86, 3)) ∧ (decode cX5_prepare 74 = .ok (.aload_n 0, 1)) ∧ (decode cX5_prepare 75 = .ok (.getfield 9, 3)) ∧ (decode cX5_prepare 78 = .ok (.aload_n 0, 1)) ∧ (decode cX5_prepare 79 = .ok (.getfield 52, 3)) := by decide +kernel
theorem dX5_prepare_60 : decode cX5_prepare 60 = .ok (.iconst 3, 1) := qd1_61.1
theorem dX5_prepare_61 : decode cX5_prepare 61 = .ok (.if_icmp .ge 102, 3) := qd1_61.2.1
theorem dX5_prepare_64 : decode cX5_prepare 64 = .ok (.iload 4, 2) := qd1_61.2.2.1
theorem dX5_prepare_66 : decode cX5_prepare 66 = .ok (.iload 5, 2) := qd1_61.2.2.2.1
theorem dX5_prepare_68 : decode cX5_prepare 68 = .ok (.ishr, 1) := qd1_61.2.2.2.2.1
theorem dX5_prepare_69 : decode cX5_prepare 69 = .ok (.iconst 1, 1) := qd1_61.2.2.2.2.2.1
theorem dX5_prepare_70 : decode cX5_prepare 70 = .ok (.iand, 1) := qd1_61.2.2.2.2.2.2.1
theorem dX5_prepare_71 : decode cX5_prepare 71 = .ok (.ifCond .eq 86, 3) := qd1_61.2.2.2.2.2.2.2.1
theorem dX5_prepare_74 : decode cX5_prepare 74 = .ok (.aload_n 0, 1) := qd1_61.2.2.2.2.2.2.2.2.1
theorem dX5_prepare_75 : decode cX5_prepare 75 = .ok (.getfield 9, 3) := qd1_61.2.2.2.2.2.2.2.2.2.1
theorem dX5_prepare_78 : decode cX5_prepare 78 = .ok (.aload_n 0, 1) := qd1_61.2.2.2.2.2.2.2.2.2.2.1
theorem dX5_prepare_79 : decode cX5_prepare 79 = .ok (.getfield 52, 3) := qd1_61.2.2.2.2.2.2.2.2.2.2.2
theorem qd1_62 : (decode cX5_prepare 82 = .ok (.aload_n 1, 1)) ∧ (decode cX5_prepare 83 = .ok (.iload_n 3, 1)) ∧ (decode cX5_prepare 84 = .ok (.iconst 0, 1)) ∧ (decode cX5_prepare 85 = .ok (.invokevirtual 58, 3)) ∧ (decode cX5_prepare 88 = .ok (.iconst 3, 1)) ∧ (decode cX5_prepare 89 = .ok (.imul, 1)) ∧ (decode cX5_prepare 90 = .ok (.iload 5, 2)) ∧ (decode cX5_prepare 92 = .ok (.iadd, 1)) ∧ (decode cX5_prepare 93 = .ok (.iastore, 1)) ∧ (decode cX5_prepare 94 = .ok (.aload_n 0, 1)) ∧ (decode cX5_prepare 95 = .ok (.getfield 15, 3)) ∧ (decode cX5_prepare 98 = .ok (.aload_n 0, 1)) := by decide +kernel
theorem dX5_prepare_82 : decode cX5_prepare 82 = .ok (.aload_n 1, 1) := qd1_62.1
theorem dX5_prepare_83 : decode cX5_prepare 83 = .ok (.iload_n 3, 1) := qd1_62.2.1
theorem dX5_prepare_84 : decode cX5_prepare 84 = .ok (.iconst 0, 1) := qd1_62.2.2.1
theorem dX5_prepare_85 : decode cX5_prepare 85 = .ok (.invokevirtual 58, 3) := qd1_62.2.2.2.1
theorem dX5_prepare_88 : decode cX5_prepare 88 = .ok (.iconst 3, 1) := qd1_62.2.2.2.2.1
theorem dX5_prepare_89 : decode cX5_prepare 89 = .ok (.imul, 1) := qd1_62.2.2.2.2.2.1
theorem dX5_prepare_90 : decode cX5_prepare 90 = .ok (.iload 5, 2) := qd1_62.2.2.2.2.2.2.1
theorem dX5_prepare_92 : decode cX5_prepare 92 = .ok (.iadd, 1) := qd1_62.2.2.2.2.2.2.2.1
theorem dX5_prepare_93 : decode cX5_prepare 93 = .ok (.iastore, 1) := qd1_62.2.2.2.2.2.2.2.2.1
theorem dX5_prepare_94 : decode cX5_prepare 94 = .ok (.aload_n 0, 1) := qd1_62.2.2.2.2.2.2.2.2.2.1
theorem dX5_prepare_95 : decode cX5_prepare 95 = .ok (.getfield 15, 3) := qd1_62.2.2.2.2.2.2.2.2.2.2.1
theorem dX5_prepare_98 : decode cX5_prepare 98 = .ok (.aload_n 0, 1) := qd1_62.2.2.2.2.2.2.2.2.2.2.2
theorem qd1_63 : (decode cX5_prepare 99 = .ok (.getfield 52, 3)) ∧ (decode cX5_prepare 102 = .ok (.aload_n 1, 1)) ∧ (decode cX5_prepare 103 = .ok (.iload_n 3, 1)) ∧ (decode cX5_prepare 104 = .ok (.iconst 1, 1)) ∧ (decode cX5_prepare 105 = .ok (.invokevirtual 58, 3)) ∧ (decode cX5_prepare 108 = .ok (.iconst 3, 1)) ∧ (decode cX5_prepare 109 = .ok (.imul, 1)) ∧ (decode cX5_prepare 110 = .ok (.iload 5, 2)) ∧ (decode cX5_prepare 112 = .ok (.iadd, 1)) ∧ (decode cX5_prepare 113 = .ok (.iastore, 1)) ∧ (decode cX5_prepare 114 = .ok (.aload_n 0, 1)) ∧ (decode cX5_prepare 115 = .ok (.getfield 18, 3)) := by decide +kernel
theorem dX5_prepare_99 : decode cX5_prepare 99 = .ok (.getfield 52, 3) := qd1_63.1
theorem dX5_prepare_102 : decode cX5_prepare 102 = .ok (.aload_n 1, 1) := qd1_63.2.1
theorem dX5_prepare_103 : decode cX5_prepare 103 = .ok (.iload_n 3, 1) := qd1_63.2.2.1
theorem dX5_prepare_104 : decode cX5_prepare 104 = .ok (.iconst 1, 1) := qd1_63.2.2.2.1
theorem dX5_prepare_105 : decode cX5_prepare 105 = .ok (.invokevirtual 58, 3) := qd1_63.2.2.2.2.1
theorem dX5_prepare_108 : decode cX5_prepare 108 = .ok (.iconst 3, 1) := qd1_63.2.2.2.2.2.1
theorem dX5_prepare_109 : decode cX5_prepare 109 = .ok (.imul, 1) := qd1_63.2.2.2.2.2.2.1
theorem dX5_prepare_110 : decode cX5_prepare 110 = .ok (.iload 5, 2) := qd1_63.2.2.2.2.2.2.2.1
theorem dX5_prepare_112 : decode cX5_prepare 112 = .ok (.iadd, 1) := qd1_63.2.2.2.2.2.2.2.2.1
theorem dX5_prepare_113 : decode cX5_prepare 113 = .ok (.iastore, 1) := qd1_63.2.2.2.2.2.2.2.2.2.1
theorem dX5_prepare_114 : decode cX5_prepare 114 = .ok (.aload_n 0, 1) := qd1_63.2.2.2.2.2.2.2.2.2.2.1
theorem dX5_prepare_115 : decode cX5_prepare 115 = .ok (.getfield 18, 3) := qd1_63.2.2.2.2.2.2.2.2.2.2.2
theorem qd1_64 : (decode cX5_prepare 118 = .ok (.aload_n 0, 1)) ∧ (decode cX5_prepare 119 = .ok (.getfield 52, 3)) ∧ (decode cX5_prepare 122 = .ok (.aload_n 1, 1)) ∧ (decode cX5_prepare 123 = .ok (.iload_n 3, 1)) ∧ (decode cX5_prepare 124 = .ok (.iconst 3, 1)) ∧ (decode cX5_prepare 125 = .ok (.invokevirtual 58, 3)) ∧ (decode cX5_prepare 128 = .ok (.aload_n 1, 1)) ∧ (decode cX5_prepare 129 = .ok (.getfield 62, 3)) ∧ (decode cX5_prepare 132 = .ok (.iload 5, 2)) ∧ (decode cX5_prepare 134 = .ok (.iaload, 1)) ∧ (decode cX5_prepare 135 = .ok (.imul, 1)) ∧ (decode cX5_prepare 136 = .ok (.iastore, 1)) := by decide +kernel
theorem dX5_prepare_118 : decode cX5_prepare 118 = .ok (.aload_n 0, 1) := qd1_64.1
theorem dX5_prepare_119 : decode cX5_prepare 119 = .ok (.getfield 52, 3) := qd1_64.2.1
theorem dX5_prepare_122 : decode cX5_prepare 122 = .ok (.aload_n 1, 1) := qd1_64.2.2.1
theorem dX5_prepare_123 : decode cX5_prepare 123 = .ok (.iload_n 3, 1) := qd1_64.2.2.2.1
theorem dX5_prepare_124 : decode cX5_prepare 124 = .ok (.iconst 3, 1) := qd1_64.2.2.2.2.1
theorem dX5_prepare_125 : decode cX5_prepare 125 = .ok (.invokevirtual 58, 3) := qd1_64.2.2.2.2.2.1
theorem dX5_prepare_128 : decode cX5_prepare 128 = .ok (.aload_n 1, 1) := qd1_64.2.2.2.2.2.2.1
theorem dX5_prepare_129 : decode cX5_prepare 129 = .ok (.getfield 62, 3) := qd1_64.2.2.2.2.2.2.2.1
theorem dX5_prepare_132 : decode cX5_prepare 132 = .ok (.iload 5, 2) := qd1_64.2.2.2.2.2.2.2.2.1
theorem dX5_prepare_134 : decode cX5_prepare 134 = .ok (.iaload, 1) := qd1_64.2.2.2.2.2.2.2.2.2.1
theorem dX5_prepare_135 : decode cX5_prepare 135 = .ok (.imul, 1) := qd1_64.2.2.2.2.2.2.2.2.2.2.1
theorem dX5_prepare_136 : decode cX5_prepare 136 = .ok (.iastore, 1) := qd1_64.2.2.2.2.2.2.2.2.2.2.2
theorem qd1_65 : (decode cX5_prepare 137 = .ok (.aload_n 0, 1)) ∧ (decode cX5_prepare 138 = .ok (.getfield 21, 3)) ∧ (decode cX5_prepare 141 = .ok (.aload_n 0, 1)) ∧ (decode cX5_prepare 142 = .ok (.getfield 52, 3)) ∧ (decode cX5_prepare 145 = .ok (.iload_n 3, 1)) ∧ (decode cX5_prepare 146 = .ok (.iastore, 1)) ∧ (decode cX5_prepare 147 = .ok (.aload_n 0, 1)) ∧ (decode cX5_prepare 148 = .ok (.dup, 1)) ∧ (decode cX5_prepare 149 = .ok (.getfield 52, 3)) ∧ (decode cX5_prepare 152 = .ok (.iconst 1, 1)) ∧ (decode cX5_prepare 153 = .ok (.iadd, 1)) ∧ (decode cX5_prepare 154 = .ok (.putfield 52, 3)) := by decide +kernel
theorem dX5_prepare_137 : decode cX5_prepare 137 = .ok (.aload_n 0, 1) := qd1_65.1
theorem dX5_prepare_138 : decode cX5_prepare 138 = .ok (.getfield 21, 3) := qd1_65.2.1
theorem dX5_prepare_141 : decode cX5_prepare 141 = .ok (.aload_n 0, 1) := qd1_65.2.2.1
theorem dX5_prepare_142 : decode cX5_prepare 142 = .ok (.getfield 52, 3) := qd1_65.2.2.2.1
theorem dX5_prepare_145 : decode cX5_prepare 145 = .ok (.iload_n 3, 1) := qd1_65.2.2.2.2.1
theorem dX5_prepare_146 : decode cX5_prepare 146 = .ok (.iastore, 1) := qd1_65.2.2.2.2.2.1
theorem dX5_prepare_147 : decode cX5_prepare 147 = .ok (.aload_n 0, 1) := qd1_65.2.2.2.2.2.2.1
theorem dX5_prepare_148 : decode cX5_prepare 148 = .ok (.dup, 1) := qd1_65.2.2.2.2.2.2.2.1
theorem dX5_prepare_149 : decode cX5_prepare 149 = .ok (.getfield 52, 3) := qd1_65.2.2.2.2.2.2.2.2.1
theorem dX5_prepare_152 : decode cX5_prepare 152 = .ok (.iconst 1, 1) := qd1_65.2.2.2.2.2.2.2.2.2.1
theorem dX5_prepare_153 : decode cX5_prepare 153 = .ok (.iadd, 1) := qd1_65.2.2.2.2.2.2.2.2.2.2.1
theorem dX5_prepare_154 : decode cX5_prepare 154 = .ok (.putfield 52, 3) := qd1_65.2.2.2.2.2.2.2.2.2.2.2
theorem qd1_66 : (decode cX5_prepare 157 = .ok (.iinc 5 1, 3)) ∧ (decode cX5_prepare 160 = .ok (.goto (-102), 3)) ∧ (decode cX5_prepare 163 = .ok (.iinc 3 1, 3)) ∧ (decode cX5_prepare 166 = .ok (.goto (-139), 3)) ∧ (decode cX5_prepare 169 = .ok (.return_, 1)) := by decide +kernel
theorem dX5_prepare_157 : decode cX5_prepare 157 = .ok (.iinc 5 1, 3) := qd1_66.1
theorem dX5_prepare_160 : decode cX5_prepare 160 = .ok (.goto (-102), 3) := qd1_66.2.1
theorem dX5_prepare_163 : decode cX5_prepare 163 = .ok (.iinc 3 1, 3) := qd1_66.2.2.1
theorem dX5_prepare_166 : decode cX5_prepare 166 = .ok (.goto (-139), 3) := qd1_66.2.2.2.1
theorem dX5_prepare_169 : decode cX5_prepare 169 = .ok (.return_, 1) := qd1_66.2.2.2.2
theorem qd1_67 : (decode cX5_aimAt 0 = .ok (.aload_n 0, 1)) ∧ (decode cX5_aimAt 1 = .ok (.getfield 39, 3)) ∧ (decode cX5_aimAt 4 = .ok (.iload_n 1, 1)) ∧ (decode cX5_aimAt 5 = .ok (.if_icmp .ne 4, 3)) ∧ (decode cX5_aimAt 8 = .ok (.return_, 1)) ∧ (decode cX5_aimAt 9 = .ok (.aload_n 0, 1)) ∧ (decode cX5_aimAt 10 = .ok (.iload_n 1, 1)) ∧ (decode cX5_aimAt 11 = .ok (.putfield 39, 3)) ∧ (decode cX5_aimAt 14 = .ok (.aload_n 0, 1)) ∧ (decode cX5_aimAt 15 = .ok (.getfield 27, 3)) ∧ (decode cX5_aimAt 18 = .ok (.ldc 65, 2)) ∧ (decode cX5_aimAt 20 = .ok (.invokestatic 66, 3)) := by decide +kernel
theorem dX5_aimAt_0 : decode cX5_aimAt 0 = .ok (.aload_n 0, 1) := qd1_67.1
theorem dX5_aimAt_1 : decode cX5_aimAt 1 = .ok (.getfield 39, 3) := qd1_67.2.1
theorem dX5_aimAt_4 : decode cX5_aimAt 4 = .ok (.iload_n 1, 1) := qd1_67.2.2.1
theorem dX5_aimAt_5 : decode cX5_aimAt 5 = .ok (.if_icmp .ne 4, 3) := qd1_67.2.2.2.1
theorem dX5_aimAt_8 : decode cX5_aimAt 8 = .ok (.return_, 1) := qd1_67.2.2.2.2.1
theorem dX5_aimAt_9 : decode cX5_aimAt 9 = .ok (.aload_n 0, 1) := qd1_67.2.2.2.2.2.1
theorem dX5_aimAt_10 : decode cX5_aimAt 10 = .ok (.iload_n 1, 1) := qd1_67.2.2.2.2.2.2.1
theorem dX5_aimAt_11 : decode cX5_aimAt 11 = .ok (.putfield 39, 3) := qd1_67.2.2.2.2.2.2.2.1
theorem dX5_aimAt_14 : decode cX5_aimAt 14 = .ok (.aload_n 0, 1) := qd1_67.2.2.2.2.2.2.2.2.1
theorem dX5_aimAt_15 : decode cX5_aimAt 15 = .ok (.getfield 27, 3) := qd1_67.2.2.2.2.2.2.2.2.2.1
theorem dX5_aimAt_18 : decode cX5_aimAt 18 = .ok (.ldc 65, 2) := qd1_67.2.2.2.2.2.2.2.2.2.2.1
theorem dX5_aimAt_20 : decode cX5_aimAt 20 = .ok (.invokestatic 66, 3) := qd1_67.2.2.2.2.2.2.2.2.2.2.2
theorem qd1_68 : (decode cX5_aimAt 23 = .ok (.iconst 0, 1)) ∧ (decode cX5_aimAt 24 = .ok (.istore_n 2, 1)) ∧ (decode cX5_aimAt 25 = .ok (.iload_n 2, 1)) ∧ (decode cX5_aimAt 26 = .ok (.iconst 3, 1)) ∧ (decode cX5_aimAt 27 = .ok (.if_icmp .ge 20, 3)) ∧ (decode cX5_aimAt 30 = .ok (.aload_n 0, 1)) ∧ (decode cX5_aimAt 31 = .ok (.getfield 27, 3)) ∧ (decode cX5_aimAt 34 = .ok (.iload_n 1, 1)) ∧ (decode cX5_aimAt 35 = .ok (.iconst 3, 1)) ∧ (decode cX5_aimAt 36 = .ok (.imul, 1)) ∧ (decode cX5_aimAt 37 = .ok (.iload_n 2, 1)) ∧ (decode cX5_aimAt 38 = .ok (.iadd, 1)) := by decide +kernel
theorem dX5_aimAt_23 : decode cX5_aimAt 23 = .ok (.iconst 0, 1) := qd1_68.1
theorem dX5_aimAt_24 : decode cX5_aimAt 24 = .ok (.istore_n 2, 1) := qd1_68.2.1
theorem dX5_aimAt_25 : decode cX5_aimAt 25 = .ok (.iload_n 2, 1) := qd1_68.2.2.1
theorem dX5_aimAt_26 : decode cX5_aimAt 26 = .ok (.iconst 3, 1) := qd1_68.2.2.2.1
theorem dX5_aimAt_27 : decode cX5_aimAt 27 = .ok (.if_icmp .ge 20, 3) := qd1_68.2.2.2.2.1
theorem dX5_aimAt_30 : decode cX5_aimAt 30 = .ok (.aload_n 0, 1) := qd1_68.2.2.2.2.2.1
theorem dX5_aimAt_31 : decode cX5_aimAt 31 = .ok (.getfield 27, 3) := qd1_68.2.2.2.2.2.2.1
theorem dX5_aimAt_34 : decode cX5_aimAt 34 = .ok (.iload_n 1, 1) := qd1_68.2.2.2.2.2.2.2.1
theorem dX5_aimAt_35 : decode cX5_aimAt 35 = .ok (.iconst 3, 1) := qd1_68.2.2.2.2.2.2.2.2.1
theorem dX5_aimAt_36 : decode cX5_aimAt 36 = .ok (.imul, 1) := qd1_68.2.2.2.2.2.2.2.2.2.1
theorem dX5_aimAt_37 : decode cX5_aimAt 37 = .ok (.iload_n 2, 1) := qd1_68.2.2.2.2.2.2.2.2.2.2.1
theorem dX5_aimAt_38 : decode cX5_aimAt 38 = .ok (.iadd, 1) := qd1_68.2.2.2.2.2.2.2.2.2.2.2
theorem qd1_69 : (decode cX5_aimAt 39 = .ok (.iconst 0, 1)) ∧ (decode cX5_aimAt 40 = .ok (.iastore, 1)) ∧ (decode cX5_aimAt 41 = .ok (.iinc 2 1, 3)) ∧ (decode cX5_aimAt 44 = .ok (.goto (-19), 3)) ∧ (decode cX5_aimAt 47 = .ok (.iconst 0, 1)) ∧ (decode cX5_aimAt 48 = .ok (.istore_n 2, 1)) ∧ (decode cX5_aimAt 49 = .ok (.iload_n 2, 1)) ∧ (decode cX5_aimAt 50 = .ok (.bipush 36, 2)) ∧ (decode cX5_aimAt 52 = .ok (.if_icmp .ge 20, 3)) ∧ (decode cX5_aimAt 55 = .ok (.aload_n 0, 1)) ∧ (decode cX5_aimAt 56 = .ok (.invokevirtual 72, 3)) ∧ (decode cX5_aimAt 59 = .ok (.ifCond .eq 13, 3)) := by decide +kernel
theorem dX5_aimAt_39 : decode cX5_aimAt 39 = .ok (.iconst 0, 1) := qd1_69.1
theorem dX5_aimAt_40 : decode cX5_aimAt 40 = .ok (.iastore, 1) := qd1_69.2.1
theorem dX5_aimAt_41 : decode cX5_aimAt 41 = .ok (.iinc 2 1, 3) := qd1_69.2.2.1
theorem dX5_aimAt_44 : decode cX5_aimAt 44 = .ok (.goto (-19), 3) := qd1_69.2.2.2.1
theorem dX5_aimAt_47 : decode cX5_aimAt 47 = .ok (.iconst 0, 1) := qd1_69.2.2.2.2.1
theorem dX5_aimAt_48 : decode cX5_aimAt 48 = .ok (.istore_n 2, 1) := qd1_69.2.2.2.2.2.1
theorem dX5_aimAt_49 : decode cX5_aimAt 49 = .ok (.iload_n 2, 1) := qd1_69.2.2.2.2.2.2.1
theorem dX5_aimAt_50 : decode cX5_aimAt 50 = .ok (.bipush 36, 2) := qd1_69.2.2.2.2.2.2.2.1
theorem dX5_aimAt_52 : decode cX5_aimAt 52 = .ok (.if_icmp .ge 20, 3) := qd1_69.2.2.2.2.2.2.2.2.1
theorem dX5_aimAt_55 : decode cX5_aimAt 55 = .ok (.aload_n 0, 1) := qd1_69.2.2.2.2.2.2.2.2.2.1
theorem dX5_aimAt_56 : decode cX5_aimAt 56 = .ok (.invokevirtual 72, 3) := qd1_69.2.2.2.2.2.2.2.2.2.2.1
theorem dX5_aimAt_59 : decode cX5_aimAt 59 = .ok (.ifCond .eq 13, 3) := qd1_69.2.2.2.2.2.2.2.2.2.2.2
theorem qd1_70 : (decode cX5_aimAt 62 = .ok (.aload_n 0, 1)) ∧ (decode cX5_aimAt 63 = .ok (.invokevirtual 76, 3)) ∧ (decode cX5_aimAt 66 = .ok (.iinc 2 1, 3)) ∧ (decode cX5_aimAt 69 = .ok (.goto (-20), 3)) ∧ (decode cX5_aimAt 72 = .ok (.return_, 1)) := by decide +kernel
theorem dX5_aimAt_62 : decode cX5_aimAt 62 = .ok (.aload_n 0, 1) := qd1_70.1
theorem dX5_aimAt_63 : decode cX5_aimAt 63 = .ok (.invokevirtual 76, 3) := qd1_70.2.1
theorem dX5_aimAt_66 : decode cX5_aimAt 66 = .ok (.iinc 2 1, 3) := qd1_70.2.2.1
theorem dX5_aimAt_69 : decode cX5_aimAt 69 = .ok (.goto (-20), 3) := qd1_70.2.2.2.1
theorem dX5_aimAt_72 : decode cX5_aimAt 72 = .ok (.return_, 1) := qd1_70.2.2.2.2
theorem qd1_71 : (decode cX5_nearByLines 0 = .ok (.iconst 0, 1)) ∧ (decode cX5_nearByLines 1 = .ok (.istore_n 1, 1)) ∧ (decode cX5_nearByLines 2 = .ok (.iconst 0, 1)) ∧ (decode cX5_nearByLines 3 = .ok (.istore_n 2, 1)) ∧ (decode cX5_nearByLines 4 = .ok (.iload_n 2, 1)) ∧ (decode cX5_nearByLines 5 = .ok (.aload_n 0, 1)) ∧ (decode cX5_nearByLines 6 = .ok (.getfield 52, 3)) ∧ (decode cX5_nearByLines 9 = .ok (.if_icmp .ge 109, 3)) ∧ (decode cX5_nearByLines 12 = .ok (.aload_n 0, 1)) ∧ (decode cX5_nearByLines 13 = .ok (.getfield 9, 3)) ∧ (decode cX5_nearByLines 16 = .ok (.iload_n 2, 1)) ∧ (decode cX5_nearByLines 17 = .ok (.iaload, 1)) := by decide +kernel
theorem dX5_nearByLines_0 : decode cX5_nearByLines 0 = .ok (.iconst 0, 1) := qd1_71.1
theorem dX5_nearByLines_1 : decode cX5_nearByLines 1 = .ok (.istore_n 1, 1) := qd1_71.2.1
theorem dX5_nearByLines_2 : decode cX5_nearByLines 2 = .ok (.iconst 0, 1) := qd1_71.2.2.1
theorem dX5_nearByLines_3 : decode cX5_nearByLines 3 = .ok (.istore_n 2, 1) := qd1_71.2.2.2.1
theorem dX5_nearByLines_4 : decode cX5_nearByLines 4 = .ok (.iload_n 2, 1) := qd1_71.2.2.2.2.1
theorem dX5_nearByLines_5 : decode cX5_nearByLines 5 = .ok (.aload_n 0, 1) := qd1_71.2.2.2.2.2.1
theorem dX5_nearByLines_6 : decode cX5_nearByLines 6 = .ok (.getfield 52, 3) := qd1_71.2.2.2.2.2.2.1
theorem dX5_nearByLines_9 : decode cX5_nearByLines 9 = .ok (.if_icmp .ge 109, 3) := qd1_71.2.2.2.2.2.2.2.1
theorem dX5_nearByLines_12 : decode cX5_nearByLines 12 = .ok (.aload_n 0, 1) := qd1_71.2.2.2.2.2.2.2.2.1
theorem dX5_nearByLines_13 : decode cX5_nearByLines 13 = .ok (.getfield 9, 3) := qd1_71.2.2.2.2.2.2.2.2.2.1
theorem dX5_nearByLines_16 : decode cX5_nearByLines 16 = .ok (.iload_n 2, 1) := qd1_71.2.2.2.2.2.2.2.2.2.2.1
theorem dX5_nearByLines_17 : decode cX5_nearByLines 17 = .ok (.iaload, 1) := qd1_71.2.2.2.2.2.2.2.2.2.2.2
theorem qd1_72 : (decode cX5_nearByLines 18 = .ok (.istore_n 3, 1)) ∧ (decode cX5_nearByLines 19 = .ok (.aload_n 0, 1)) ∧ (decode cX5_nearByLines 20 = .ok (.getfield 15, 3)) ∧ (decode cX5_nearByLines 23 = .ok (.iload_n 2, 1)) ∧ (decode cX5_nearByLines 24 = .ok (.iaload, 1)) ∧ (decode cX5_nearByLines 25 = .ok (.istore 4, 2)) ∧ (decode cX5_nearByLines 27 = .ok (.aload_n 0, 1)) ∧ (decode cX5_nearByLines 28 = .ok (.getfield 18, 3)) ∧ (decode cX5_nearByLines 31 = .ok (.iload_n 2, 1)) ∧ (decode cX5_nearByLines 32 = .ok (.iaload, 1)) ∧ (decode cX5_nearByLines 33 = .ok (.istore 5, 2)) ∧ (decode cX5_nearByLines 35 = .ok (.aload_n 0, 1)) := by decide +kernel
theorem dX5_nearByLines_18 : decode cX5_nearByLines 18 = .ok (.istore_n 3, 1) := qd1_72.1
theorem dX5_nearByLines_19 : decode cX5_nearByLines 19 = .ok (.aload_n 0, 1) := qd1_72.2.1
theorem dX5_nearByLines_20 : decode cX5_nearByLines 20 = .ok (.getfield 15, 3) := qd1_72.2.2.1
theorem dX5_nearByLines_23 : decode cX5_nearByLines 23 = .ok (.iload_n 2, 1) := qd1_72.2.2.2.1
theorem dX5_nearByLines_24 : decode cX5_nearByLines 24 = .ok (.iaload, 1) := qd1_72.2.2.2.2.1
theorem dX5_nearByLines_25 : decode cX5_nearByLines 25 = .ok (.istore 4, 2) := qd1_72.2.2.2.2.2.1
theorem dX5_nearByLines_27 : decode cX5_nearByLines 27 = .ok (.aload_n 0, 1) := qd1_72.2.2.2.2.2.2.1
theorem dX5_nearByLines_28 : decode cX5_nearByLines 28 = .ok (.getfield 18, 3) := qd1_72.2.2.2.2.2.2.2.1
theorem dX5_nearByLines_31 : decode cX5_nearByLines 31 = .ok (.iload_n 2, 1) := qd1_72.2.2.2.2.2.2.2.2.1
theorem dX5_nearByLines_32 : decode cX5_nearByLines 32 = .ok (.iaload, 1) := qd1_72.2.2.2.2.2.2.2.2.2.1
theorem dX5_nearByLines_33 : decode cX5_nearByLines 33 = .ok (.istore 5, 2) := qd1_72.2.2.2.2.2.2.2.2.2.2.1
theorem dX5_nearByLines_35 : decode cX5_nearByLines 35 = .ok (.aload_n 0, 1) := qd1_72.2.2.2.2.2.2.2.2.2.2.2
theorem qd1_73 : (decode cX5_nearByLines 36 = .ok (.getfield 27, 3)) ∧ (decode cX5_nearByLines 39 = .ok (.iload_n 3, 1)) ∧ (decode cX5_nearByLines 40 = .ok (.iaload, 1)) ∧ (decode cX5_nearByLines 41 = .ok (.iload 5, 2)) ∧ (decode cX5_nearByLines 43 = .ok (.iadd, 1)) ∧ (decode cX5_nearByLines 44 = .ok (.aload_n 0, 1)) ∧ (decode cX5_nearByLines 45 = .ok (.getfield 27, 3)) ∧ (decode cX5_nearByLines 48 = .ok (.iload 4, 2)) ∧ (decode cX5_nearByLines 50 = .ok (.iaload, 1)) ∧ (decode cX5_nearByLines 51 = .ok (.if_icmp .ge 24, 3)) ∧ (decode cX5_nearByLines 54 = .ok (.aload_n 0, 1)) ∧ (decode cX5_nearByLines 55 = .ok (.getfield 27, 3)) := by decide +kernel
theorem dX5_nearByLines_36 : decode cX5_nearByLines 36 = .ok (.getfield 27, 3) := qd1_73.1
theorem dX5_nearByLines_39 : decode cX5_nearByLines 39 = .ok (.iload_n 3, 1) := qd1_73.2.1
theorem dX5_nearByLines_40 : decode cX5_nearByLines 40 = .ok (.iaload, 1) := qd1_73.2.2.1
theorem dX5_nearByLines_41 : decode cX5_nearByLines 41 = .ok (.iload 5, 2) := qd1_73.2.2.2.1
theorem dX5_nearByLines_43 : decode cX5_nearByLines 43 = .ok (.iadd, 1) := qd1_73.2.2.2.2.1
theorem dX5_nearByLines_44 : decode cX5_nearByLines 44 = .ok (.aload_n 0, 1) := qd1_73.2.2.2.2.2.1
theorem dX5_nearByLines_45 : decode cX5_nearByLines 45 = .ok (.getfield 27, 3) := qd1_73.2.2.2.2.2.2.1
theorem dX5_nearByLines_48 : decode cX5_nearByLines 48 = .ok (.iload 4, 2) := qd1_73.2.2.2.2.2.2.2.1
theorem dX5_nearByLines_50 : decode cX5_nearByLines 50 = .ok (.iaload, 1) := qd1_73.2.2.2.2.2.2.2.2.1
theorem dX5_nearByLines_51 : decode cX5_nearByLines 51 = .ok (.if_icmp .ge 24, 3) := qd1_73.2.2.2.2.2.2.2.2.2.1
theorem dX5_nearByLines_54 : decode cX5_nearByLines 54 = .ok (.aload_n 0, 1) := qd1_73.2.2.2.2.2.2.2.2.2.2.1
theorem dX5_nearByLines_55 : decode cX5_nearByLines 55 = .ok (.getfield 27, 3) := qd1_73.2.2.2.2.2.2.2.2.2.2.2
theorem qd1_74 : (decode cX5_nearByLines 58 = .ok (.iload 4, 2)) ∧ (decode cX5_nearByLines 60 = .ok (.aload_n 0, 1)) ∧ (decode cX5_nearByLines 61 = .ok (.getfield 27, 3)) ∧ (decode cX5_nearByLines 64 = .ok (.iload_n 3, 1)) ∧ (decode cX5_nearByLines 65 = .ok (.iaload, 1)) ∧ (decode cX5_nearByLines 66 = .ok (.iload 5, 2)) ∧ (decode cX5_nearByLines 68 = .ok (.iadd, 1)) ∧ (decode cX5_nearByLines 69 = .ok (.iastore, 1)) ∧ (decode cX5_nearByLines 70 = .ok (.iconst 1, 1)) ∧ (decode cX5_nearByLines 71 = .ok (.istore_n 1, 1)) ∧ (decode cX5_nearByLines 72 = .ok (.goto 40, 3)) ∧ (decode cX5_nearByLines 75 = .ok (.aload_n 0, 1)) := by decide +kernel
theorem dX5_nearByLines_58 : decode cX5_nearByLines 58 = .ok (.iload 4, 2) := qd1_74.1
theorem dX5_nearByLines_60 : decode cX5_nearByLines 60 = .ok (.aload_n 0, 1) := qd1_74.2.1
theorem dX5_nearByLines_61 : decode cX5_nearByLines 61 = .ok (.getfield 27, 3) := qd1_74.2.2.1
theorem dX5_nearByLines_64 : decode cX5_nearByLines 64 = .ok (.iload_n 3, 1) := qd1_74.2.2.2.1
theorem dX5_nearByLines_65 : decode cX5_nearByLines 65 = .ok (.iaload, 1) := qd1_74.2.2.2.2.1
theorem dX5_nearByLines_66 : decode cX5_nearByLines 66 = .ok (.iload 5, 2) := qd1_74.2.2.2.2.2.1
theorem dX5_nearByLines_68 : decode cX5_nearByLines 68 = .ok (.iadd, 1) := qd1_74.2.2.2.2.2.2.1
theorem dX5_nearByLines_69 : decode cX5_nearByLines 69 = .ok (.iastore, 1) := qd1_74.2.2.2.2.2.2.2.1
theorem dX5_nearByLines_70 : decode cX5_nearByLines 70 = .ok (.iconst 1, 1) := qd1_74.2.2.2.2.2.2.2.2.1
theorem dX5_nearByLines_71 : decode cX5_nearByLines 71 = .ok (.istore_n 1, 1) := qd1_74.2.2.2.2.2.2.2.2.2.1
theorem dX5_nearByLines_72 : decode cX5_nearByLines 72 = .ok (.goto 40, 3) := qd1_74.2.2.2.2.2.2.2.2.2.2.1
theorem dX5_nearByLines_75 : decode cX5_nearByLines 75 = .ok (.aload_n 0, 1) := qd1_74.2.2.2.2.2.2.2.2.2.2.2
theorem qd1_75 : (decode cX5_nearByLines 76 = .ok (.getfield 27, 3)) ∧ (decode cX5_nearByLines 79 = .ok (.iload 4, 2)) ∧ (decode cX5_nearByLines 81 = .ok (.iaload, 1)) ∧ (decode cX5_nearByLines 82 = .ok (.iload 5, 2)) ∧ (decode cX5_nearByLines 84 = .ok (.iadd, 1)) ∧ (decode cX5_nearByLines 85 = .ok (.aload_n 0, 1)) ∧ (decode cX5_nearByLines 86 = .ok (.getfield 27, 3)) ∧ (decode cX5_nearByLines 89 = .ok (.iload_n 3, 1)) ∧ (decode cX5_nearByLines 90 = .ok (.iaload, 1)) ∧ (decode cX5_nearByLines 91 = .ok (.if_icmp .ge 21, 3)) ∧ (decode cX5_nearByLines 94 = .ok (.aload_n 0, 1)) ∧ (decode cX5_nearByLines 95 = .ok (.getfield 27, 3)) := by decide +kernel
theorem dX5_nearByLines_76 : decode cX5_nearByLines 76 = .ok (.getfield 27, 3) := qd1_75.1
theorem dX5_nearByLines_79 : decode cX5_nearByLines 79 = .ok (.iload 4, 2) := qd1_75.2.1
theorem dX5_nearByLines_81 : decode cX5_nearByLines 81 = .ok (.iaload, 1) := qd1_75.2.2.1
theorem dX5_nearByLines_82 : decode cX5_nearByLines 82 = .ok (.iload 5, 2) := qd1_75.2.2.2.1
theorem dX5_nearByLines_84 : decode cX5_nearByLines 84 = .ok (.iadd, 1) := qd1_75.2.2.2.2.1
theorem dX5_nearByLines_85 : decode cX5_nearByLines 85 = .ok (.aload_n 0, 1) := qd1_75.2.2.2.2.2.1
theorem dX5_nearByLines_86 : decode cX5_nearByLines 86 = .ok (.getfield 27, 3) := qd1_75.2.2.2.2.2.2.1
theorem dX5_nearByLines_89 : decode cX5_nearByLines 89 = .ok (.iload_n 3, 1) := qd1_75.2.2.2.2.2.2.2.1
theorem dX5_nearByLines_90 : decode cX5_nearByLines 90 = .ok (.iaload, 1) := qd1_75.2.2.2.2.2.2.2.2.1
theorem dX5_nearByLines_91 : decode cX5_nearByLines 91 = .ok (.if_icmp .ge 21, 3) := qd1_75.2.2.2.2.2.2.2.2.2.1
theorem dX5_nearByLines_94 : decode cX5_nearByLines 94 = .ok (.aload_n 0, 1) := qd1_75.2.2.2.2.2.2.2.2.2.2.1
theorem dX5_nearByLines_95 : decode cX5_nearByLines 95 = .ok (.getfield 27, 3) := qd1_75.2.2.2.2.2.2.2.2.2.2.2
theorem qd1_76 : (decode cX5_nearByLines 98 = .ok (.iload_n 3, 1)) ∧ (decode cX5_nearByLines 99 = .ok (.aload_n 0, 1)) ∧ (decode cX5_nearByLines 100 = .ok (.getfield 27, 3)) ∧ (decode cX5_nearByLines 103 = .ok (.iload 4, 2)) ∧ (decode cX5_nearByLines 105 = .ok (.iaload, 1)) ∧ (decode cX5_nearByLines 106 = .ok (.iload 5, 2)) ∧ (decode cX5_nearByLines 108 = .ok (.iadd, 1)) ∧ (decode cX5_nearByLines 109 = .ok (.iastore, 1)) ∧ (decode cX5_nearByLines 110 = .ok (.iconst 1, 1)) ∧ (decode cX5_nearByLines 111 = .ok (.istore_n 1, 1)) ∧ (decode cX5_nearByLines 112 = .ok (.iinc 2 1, 3)) ∧ (decode cX5_nearByLines 115 = .ok (.goto (-111), 3)) := by decide +kernel
theorem dX5_nearByLines_98 : decode cX5_nearByLines 98 = .ok (.iload_n 3, 1) := qd1_76.1
theorem dX5_nearByLines_99 : decode cX5_nearByLines 99 = .ok (.aload_n 0, 1) := qd1_76.2.1
theorem dX5_nearByLines_100 : decode cX5_nearByLines 100 = .ok (.getfield 27, 3) := qd1_76.2.2.1
theorem dX5_nearByLines_103 : decode cX5_nearByLines 103 = .ok (.iload 4, 2) := qd1_76.2.2.2.1
theorem dX5_nearByLines_105 : decode cX5_nearByLines 105 = .ok (.iaload, 1) := qd1_76.2.2.2.2.1
theorem dX5_nearByLines_106 : decode cX5_nearByLines 106 = .ok (.iload 5, 2) := qd1_76.2.2.2.2.2.1
theorem dX5_nearByLines_108 : decode cX5_nearByLines 108 = .ok (.iadd, 1) := qd1_76.2.2.2.2.2.2.1
theorem dX5_nearByLines_109 : decode cX5_nearByLines 109 = .ok (.iastore, 1) := qd1_76.2.2.2.2.2.2.2.1
theorem dX5_nearByLines_110 : decode cX5_nearByLines 110 = .ok (.iconst 1, 1) := qd1_76.2.2.2.2.2.2.2.2.1
theorem dX5_nearByLines_111 : decode cX5_nearByLines 111 = .ok (.istore_n 1, 1) := qd1_76.2.2.2.2.2.2.2.2.2.1
theorem dX5_nearByLines_112 : decode cX5_nearByLines 112 = .ok (.iinc 2 1, 3) := qd1_76.2.2.2.2.2.2.2.2.2.2.1
theorem dX5_nearByLines_115 : decode cX5_nearByLines 115 = .ok (.goto (-111), 3) := qd1_76.2.2.2.2.2.2.2.2.2.2.2
theorem qd1_77 : (decode cX5_nearByLines 118 = .ok (.iload_n 1, 1)) ∧ (decode cX5_nearByLines 119 = .ok (.ireturn, 1)) := by decide +kernel
theorem dX5_nearByLines_118 : decode cX5_nearByLines 118 = .ok (.iload_n 1, 1) := qd1_77.1
theorem dX5_nearByLines_119 : decode cX5_nearByLines 119 = .ok (.ireturn, 1) := qd1_77.2
theorem qd1_78 : (decode cX5_nearByChanges 0 = .ok (.iconst 0, 1)) ∧ (decode cX5_nearByChanges 1 = .ok (.istore_n 1, 1)) ∧ (decode cX5_nearByChanges 2 = .ok (.iload_n 1, 1)) ∧ (decode cX5_nearByChanges 3 = .ok (.bipush 12, 2)) ∧ (decode cX5_nearByChanges 5 = .ok (.if_icmp .ge 108, 3)) ∧ (decode cX5_nearByChanges 8 = .ok (.iload_n 1, 1)) ∧ (decode cX5_nearByChanges 9 = .ok (.iconst 3, 1)) ∧ (decode cX5_nearByChanges 10 = .ok (.imul, 1)) ∧ (decode cX5_nearByChanges 11 = .ok (.istore_n 2, 1)) ∧ (decode cX5_nearByChanges 12 = .ok (.aload_n 0, 1)) ∧ (decode cX5_nearByChanges 13 = .ok (.getfield 27, 3)) ∧ (decode cX5_nearByChanges 16 = .ok (.iload_n 2, 1)) := by decide +kernel
theorem dX5_nearByChanges_0 : decode cX5_nearByChanges 0 = .ok (.iconst 0, 1) := qd1_78.1
theorem dX5_nearByChanges_1 : decode cX5_nearByChanges 1 = .ok (.istore_n 1, 1) := qd1_78.2.1
theorem dX5_nearByChanges_2 : decode cX5_nearByChanges 2 = .ok (.iload_n 1, 1) := qd1_78.2.2.1
theorem dX5_nearByChanges_3 : decode cX5_nearByChanges 3 = .ok (.bipush 12, 2) := qd1_78.2.2.2.1
theorem dX5_nearByChanges_5 : decode cX5_nearByChanges 5 = .ok (.if_icmp .ge 108, 3) := qd1_78.2.2.2.2.1
theorem dX5_nearByChanges_8 : decode cX5_nearByChanges 8 = .ok (.iload_n 1, 1) := qd1_78.2.2.2.2.2.1
theorem dX5_nearByChanges_9 : decode cX5_nearByChanges 9 = .ok (.iconst 3, 1) := qd1_78.2.2.2.2.2.2.1
theorem dX5_nearByChanges_10 : decode cX5_nearByChanges 10 = .ok (.imul, 1) := qd1_78.2.2.2.2.2.2.2.1
theorem dX5_nearByChanges_11 : decode cX5_nearByChanges 11 = .ok (.istore_n 2, 1) := qd1_78.2.2.2.2.2.2.2.2.1
theorem dX5_nearByChanges_12 : decode cX5_nearByChanges 12 = .ok (.aload_n 0, 1) := qd1_78.2.2.2.2.2.2.2.2.2.1
theorem dX5_nearByChanges_13 : decode cX5_nearByChanges 13 = .ok (.getfield 27, 3) := qd1_78.2.2.2.2.2.2.2.2.2.2.1
theorem dX5_nearByChanges_16 : decode cX5_nearByChanges 16 = .ok (.iload_n 2, 1) := qd1_78.2.2.2.2.2.2.2.2.2.2.2
theorem qd1_79 : (decode cX5_nearByChanges 17 = .ok (.iaload, 1)) ∧ (decode cX5_nearByChanges 18 = .ok (.istore_n 3, 1)) ∧ (decode cX5_nearByChanges 19 = .ok (.iconst 1, 1)) ∧ (decode cX5_nearByChanges 20 = .ok (.istore 4, 2)) ∧ (decode cX5_nearByChanges 22 = .ok (.iload 4, 2)) ∧ (decode cX5_nearByChanges 24 = .ok (.iconst 3, 1)) ∧ (decode cX5_nearByChanges 25 = .ok (.if_icmp .ge 32, 3)) ∧ (decode cX5_nearByChanges 28 = .ok (.aload_n 0, 1)) ∧ (decode cX5_nearByChanges 29 = .ok (.getfield 27, 3)) ∧ (decode cX5_nearByChanges 32 = .ok (.iload_n 2, 1)) ∧ (decode cX5_nearByChanges 33 = .ok (.iload 4, 2)) ∧ (decode cX5_nearByChanges 35 = .ok (.iadd, 1)) := by decide +kernel
theorem dX5_nearByChanges_17 : decode cX5_nearByChanges 17 = .ok (.iaload, 1) := qd1_79.1
theorem dX5_nearByChanges_18 : decode cX5_nearByChanges 18 = .ok (.istore_n 3, 1) := qd1_79.2.1
theorem dX5_nearByChanges_19 : decode cX5_nearByChanges 19 = .ok (.iconst 1, 1) := qd1_79.2.2.1
theorem dX5_nearByChanges_20 : decode cX5_nearByChanges 20 = .ok (.istore 4, 2) := qd1_79.2.2.2.1
theorem dX5_nearByChanges_22 : decode cX5_nearByChanges 22 = .ok (.iload 4, 2) := qd1_79.2.2.2.2.1
theorem dX5_nearByChanges_24 : decode cX5_nearByChanges 24 = .ok (.iconst 3, 1) := qd1_79.2.2.2.2.2.1
theorem dX5_nearByChanges_25 : decode cX5_nearByChanges 25 = .ok (.if_icmp .ge 32, 3) := qd1_79.2.2.2.2.2.2.1
theorem dX5_nearByChanges_28 : decode cX5_nearByChanges 28 = .ok (.aload_n 0, 1) := qd1_79.2.2.2.2.2.2.2.1
theorem dX5_nearByChanges_29 : decode cX5_nearByChanges 29 = .ok (.getfield 27, 3) := qd1_79.2.2.2.2.2.2.2.2.1
theorem dX5_nearByChanges_32 : decode cX5_nearByChanges 32 = .ok (.iload_n 2, 1) := qd1_79.2.2.2.2.2.2.2.2.2.1
theorem dX5_nearByChanges_33 : decode cX5_nearByChanges 33 = .ok (.iload 4, 2) := qd1_79.2.2.2.2.2.2.2.2.2.2.1
theorem dX5_nearByChanges_35 : decode cX5_nearByChanges 35 = .ok (.iadd, 1) := qd1_79.2.2.2.2.2.2.2.2.2.2.2
theorem qd1_80 : (decode cX5_nearByChanges 36 = .ok (.iaload, 1)) ∧ (decode cX5_nearByChanges 37 = .ok (.iload_n 3, 1)) ∧ (decode cX5_nearByChanges 38 = .ok (.if_icmp .ge 13, 3)) ∧ (decode cX5_nearByChanges 41 = .ok (.aload_n 0, 1)) ∧ (decode cX5_nearByChanges 42 = .ok (.getfield 27, 3)) ∧ (decode cX5_nearByChanges 45 = .ok (.iload_n 2, 1)) ∧ (decode cX5_nearByChanges 46 = .ok (.iload 4, 2)) ∧ (decode cX5_nearByChanges 48 = .ok (.iadd, 1)) ∧ (decode cX5_nearByChanges 49 = .ok (.iaload, 1)) ∧ (decode cX5_nearByChanges 50 = .ok (.istore_n 3, 1)) ∧ (decode cX5_nearByChanges 51 = .ok (.iinc 4 1, 3)) ∧ (decode cX5_nearByChanges 54 = .ok (.goto (-32), 3)) := by decide +kernel
theorem dX5_nearByChanges_36 : decode cX5_nearByChanges 36 = .ok (.iaload, 1) := qd1_80.1
theorem dX5_nearByChanges_37 : decode cX5_nearByChanges 37 = .ok (.iload_n 3, 1) := qd1_80.2.1
theorem dX5_nearByChanges_38 : decode cX5_nearByChanges 38 = .ok (.if_icmp .ge 13, 3) := qd1_80.2.2.1
theorem dX5_nearByChanges_41 : decode cX5_nearByChanges 41 = .ok (.aload_n 0, 1) := qd1_80.2.2.2.1
theorem dX5_nearByChanges_42 : decode cX5_nearByChanges 42 = .ok (.getfield 27, 3) := qd1_80.2.2.2.2.1
theorem dX5_nearByChanges_45 : decode cX5_nearByChanges 45 = .ok (.iload_n 2, 1) := qd1_80.2.2.2.2.2.1
theorem dX5_nearByChanges_46 : decode cX5_nearByChanges 46 = .ok (.iload 4, 2) := qd1_80.2.2.2.2.2.2.1
theorem dX5_nearByChanges_48 : decode cX5_nearByChanges 48 = .ok (.iadd, 1) := qd1_80.2.2.2.2.2.2.2.1
theorem dX5_nearByChanges_49 : decode cX5_nearByChanges 49 = .ok (.iaload, 1) := qd1_80.2.2.2.2.2.2.2.2.1
theorem dX5_nearByChanges_50 : decode cX5_nearByChanges 50 = .ok (.istore_n 3, 1) := qd1_80.2.2.2.2.2.2.2.2.2.1
theorem dX5_nearByChanges_51 : decode cX5_nearByChanges 51 = .ok (.iinc 4 1, 3) := qd1_80.2.2.2.2.2.2.2.2.2.2.1
theorem dX5_nearByChanges_54 : decode cX5_nearByChanges 54 = .ok (.goto (-32), 3) := qd1_80.2.2.2.2.2.2.2.2.2.2.2
theorem qd1_81 : (decode cX5_nearByChanges 57 = .ok (.iload_n 3, 1)) ∧ (decode cX5_nearByChanges 58 = .ok (.aload_n 0, 1)) ∧ (decode cX5_nearByChanges 59 = .ok (.getfield 24, 3)) ∧ (decode cX5_nearByChanges 62 = .ok (.iload_n 1, 1)) ∧ (decode cX5_nearByChanges 63 = .ok (.iaload, 1)) ∧ (decode cX5_nearByChanges 64 = .ok (.iadd, 1)) ∧ (decode cX5_nearByChanges 65 = .ok (.istore 4, 2)) ∧ (decode cX5_nearByChanges 67 = .ok (.iconst 0, 1)) ∧ (decode cX5_nearByChanges 68 = .ok (.istore 5, 2)) ∧ (decode cX5_nearByChanges 70 = .ok (.iload 5, 2)) ∧ (decode cX5_nearByChanges 72 = .ok (.iconst 3, 1)) ∧ (decode cX5_nearByChanges 73 = .ok (.if_icmp .ge 34, 3)) := by decide +kernel
theorem dX5_nearByChanges_57 : decode cX5_nearByChanges 57 = .ok (.iload_n 3, 1) := qd1_81.1
theorem dX5_nearByChanges_58 : decode cX5_nearByChanges 58 = .ok (.aload_n 0, 1) := qd1_81.2.1
theorem dX5_nearByChanges_59 : decode cX5_nearByChanges 59 = .ok (.getfield 24, 3) := qd1_81.2.2.1
theorem dX5_nearByChanges_62 : decode cX5_nearByChanges 62 = .ok (.iload_n 1, 1) := qd1_81.2.2.2.1
theorem dX5_nearByChanges_63 : decode cX5_nearByChanges 63 = .ok (.iaload, 1) := qd1_81.2.2.2.2.1
theorem dX5_nearByChanges_64 : decode cX5_nearByChanges 64 = .ok (.iadd, 1) := qd1_81.2.2.2.2.2.1
theorem dX5_nearByChanges_65 : decode cX5_nearByChanges 65 = .ok (.istore 4, 2) := qd1_81.2.2.2.2.2.2.1
theorem dX5_nearByChanges_67 : decode cX5_nearByChanges 67 = .ok (.iconst 0, 1) := qd1_81.2.2.2.2.2.2.2.1
theorem dX5_nearByChanges_68 : decode cX5_nearByChanges 68 = .ok (.istore 5, 2) := qd1_81.2.2.2.2.2.2.2.2.1
theorem dX5_nearByChanges_70 : decode cX5_nearByChanges 70 = .ok (.iload 5, 2) := qd1_81.2.2.2.2.2.2.2.2.2.1
theorem dX5_nearByChanges_72 : decode cX5_nearByChanges 72 = .ok (.iconst 3, 1) := qd1_81.2.2.2.2.2.2.2.2.2.2.1
theorem dX5_nearByChanges_73 : decode cX5_nearByChanges 73 = .ok (.if_icmp .ge 34, 3) := qd1_81.2.2.2.2.2.2.2.2.2.2.2
theorem qd1_82 : (decode cX5_nearByChanges 76 = .ok (.iload 4, 2)) ∧ (decode cX5_nearByChanges 78 = .ok (.aload_n 0, 1)) ∧ (decode cX5_nearByChanges 79 = .ok (.getfield 27, 3)) ∧ (decode cX5_nearByChanges 82 = .ok (.iload_n 2, 1)) ∧ (decode cX5_nearByChanges 83 = .ok (.iload 5, 2)) ∧ (decode cX5_nearByChanges 85 = .ok (.iadd, 1)) ∧ (decode cX5_nearByChanges 86 = .ok (.iaload, 1)) ∧ (decode cX5_nearByChanges 87 = .ok (.if_icmp .ge 14, 3)) ∧ (decode cX5_nearByChanges 90 = .ok (.aload_n 0, 1)) ∧ (decode cX5_nearByChanges 91 = .ok (.getfield 27, 3)) ∧ (decode cX5_nearByChanges 94 = .ok (.iload_n 2, 1)) ∧ (decode cX5_nearByChanges 95 = .ok (.iload 5, 2)) := by decide +kernel
theorem dX5_nearByChanges_76 : decode cX5_nearByChanges 76 = .ok (.iload 4, 2) := qd1_82.1
theorem dX5_nearByChanges_78 : decode cX5_nearByChanges 78 = .ok (.aload_n 0, 1) := qd1_82.2.1
theorem dX5_nearByChanges_79 : decode cX5_nearByChanges 79 = .ok (.getfield 27, 3) := qd1_82.2.2.1
theorem dX5_nearByChanges_82 : decode cX5_nearByChanges 82 = .ok (.iload_n 2, 1) := qd1_82.2.2.2.1
theorem dX5_nearByChanges_83 : decode cX5_nearByChanges 83 = .ok (.iload 5, 2) := qd1_82.2.2.2.2.1
theorem dX5_nearByChanges_85 : decode cX5_nearByChanges 85 = .ok (.iadd, 1) := qd1_82.2.2.2.2.2.1
theorem dX5_nearByChanges_86 : decode cX5_nearByChanges 86 = .ok (.iaload, 1) := qd1_82.2.2.2.2.2.2.1
theorem dX5_nearByChanges_87 : decode cX5_nearByChanges 87 = .ok (.if_icmp .ge 14, 3) := qd1_82.2.2.2.2.2.2.2.1
theorem dX5_nearByChanges_90 : decode cX5_nearByChanges 90 = .ok (.aload_n 0, 1) := qd1_82.2.2.2.2.2.2.2.2.1
theorem dX5_nearByChanges_91 : decode cX5_nearByChanges 91 = .ok (.getfield 27, 3) := qd1_82.2.2.2.2.2.2.2.2.2.1
theorem dX5_nearByChanges_94 : decode cX5_nearByChanges 94 = .ok (.iload_n 2, 1) := qd1_82.2.2.2.2.2.2.2.2.2.2.1
theorem dX5_nearByChanges_95 : decode cX5_nearByChanges 95 = .ok (.iload 5, 2) := qd1_82.2.2.2.2.2.2.2.2.2.2.2
theorem qd1_83 : (decode cX5_nearByChanges 97 = .ok (.iadd, 1)) ∧ (decode cX5_nearByChanges 98 = .ok (.iload 4, 2)) ∧ (decode cX5_nearByChanges 100 = .ok (.iastore, 1)) ∧ (decode cX5_nearByChanges 101 = .ok (.iinc 5 1, 3)) ∧ (decode cX5_nearByChanges 104 = .ok (.goto (-34), 3)) ∧ (decode cX5_nearByChanges 107 = .ok (.iinc 1 1, 3)) ∧ (decode cX5_nearByChanges 110 = .ok (.goto (-108), 3)) ∧ (decode cX5_nearByChanges 113 = .ok (.return_, 1)) := by decide +kernel
theorem dX5_nearByChanges_97 : decode cX5_nearByChanges 97 = .ok (.iadd, 1) := qd1_83.1
theorem dX5_nearByChanges_98 : decode cX5_nearByChanges 98 = .ok (.iload 4, 2) := qd1_83.2.1
theorem dX5_nearByChanges_100 : decode cX5_nearByChanges 100 = .ok (.iastore, 1) := qd1_83.2.2.1
theorem dX5_nearByChanges_101 : decode cX5_nearByChanges 101 = .ok (.iinc 5 1, 3) := qd1_83.2.2.2.1
theorem dX5_nearByChanges_104 : decode cX5_nearByChanges 104 = .ok (.goto (-34), 3) := qd1_83.2.2.2.2.1
theorem dX5_nearByChanges_107 : decode cX5_nearByChanges 107 = .ok (.iinc 1 1, 3) := qd1_83.2.2.2.2.2.1
theorem dX5_nearByChanges_110 : decode cX5_nearByChanges 110 = .ok (.goto (-108), 3) := qd1_83.2.2.2.2.2.2.1
theorem dX5_nearByChanges_113 : decode cX5_nearByChanges 113 = .ok (.return_, 1) := qd1_83.2.2.2.2.2.2.2
theorem qd1_84 : (decode cX5_costFrom 0 = .ok (.ldc 65, 2)) ∧ (decode cX5_costFrom 2 = .ok (.istore_n 2, 1)) ∧ (decode cX5_costFrom 3 = .ok (.iconst 0, 1)) ∧ (decode cX5_costFrom 4 = .ok (.istore_n 3, 1)) ∧ (decode cX5_costFrom 5 = .ok (.iload_n 3, 1)) ∧ (decode cX5_costFrom 6 = .ok (.iconst 3, 1)) ∧ (decode cX5_costFrom 7 = .ok (.if_icmp .ge 34, 3)) ∧ (decode cX5_costFrom 10 = .ok (.aload_n 0, 1)) ∧ (decode cX5_costFrom 11 = .ok (.getfield 27, 3)) ∧ (decode cX5_costFrom 14 = .ok (.iload_n 1, 1)) ∧ (decode cX5_costFrom 15 = .ok (.iconst 3, 1)) ∧ (decode cX5_costFrom 16 = .ok (.imul, 1)) := by decide +kernel
theorem dX5_costFrom_0 : decode cX5_costFrom 0 = .ok (.ldc 65, 2) := qd1_84.1
theorem dX5_costFrom_2 : decode cX5_costFrom 2 = .ok (.istore_n 2, 1) := qd1_84.2.1
theorem dX5_costFrom_3 : decode cX5_costFrom 3 = .ok (.iconst 0, 1) := qd1_84.2.2.1
theorem dX5_costFrom_4 : decode cX5_costFrom 4 = .ok (.istore_n 3, 1) := qd1_84.2.2.2.1
theorem dX5_costFrom_5 : decode cX5_costFrom 5 = .ok (.iload_n 3, 1) := qd1_84.2.2.2.2.1
theorem dX5_costFrom_6 : decode cX5_costFrom 6 = .ok (.iconst 3, 1) := qd1_84.2.2.2.2.2.1
theorem dX5_costFrom_7 : decode cX5_costFrom 7 = .ok (.if_icmp .ge 34, 3) := qd1_84.2.2.2.2.2.2.1
theorem dX5_costFrom_10 : decode cX5_costFrom 10 = .ok (.aload_n 0, 1) := qd1_84.2.2.2.2.2.2.2.1
theorem dX5_costFrom_11 : decode cX5_costFrom 11 = .ok (.getfield 27, 3) := qd1_84.2.2.2.2.2.2.2.2.1
theorem dX5_costFrom_14 : decode cX5_costFrom 14 = .ok (.iload_n 1, 1) := qd1_84.2.2.2.2.2.2.2.2.2.1
theorem dX5_costFrom_15 : decode cX5_costFrom 15 = .ok (.iconst 3, 1) := qd1_84.2.2.2.2.2.2.2.2.2.2.1
theorem dX5_costFrom_16 : decode cX5_costFrom 16 = .ok (.imul, 1) := qd1_84.2.2.2.2.2.2.2.2.2.2.2
theorem qd1_85 : (decode cX5_costFrom 17 = .ok (.iload_n 3, 1)) ∧ (decode cX5_costFrom 18 = .ok (.iadd, 1)) ∧ (decode cX5_costFrom 19 = .ok (.iaload, 1)) ∧ (decode cX5_costFrom 20 = .ok (.iload_n 2, 1)) ∧ (decode cX5_costFrom 21 = .ok (.if_icmp .ge 14, 3)) ∧ (decode cX5_costFrom 24 = .ok (.aload_n 0, 1)) ∧ (decode cX5_costFrom 25 = .ok (.getfield 27, 3)) ∧ (decode cX5_costFrom 28 = .ok (.iload_n 1, 1)) ∧ (decode cX5_costFrom 29 = .ok (.iconst 3, 1)) ∧ (decode cX5_costFrom 30 = .ok (.imul, 1)) ∧ (decode cX5_costFrom 31 = .ok (.iload_n 3, 1)) ∧ (decode cX5_costFrom 32 = .ok (.iadd, 1)) := by decide +kernel
theorem dX5_costFrom_17 : decode cX5_costFrom 17 = .ok (.iload_n 3, 1) := qd1_85.1
theorem dX5_costFrom_18 : decode cX5_costFrom 18 = .ok (.iadd, 1) := qd1_85.2.1
theorem dX5_costFrom_19 : decode cX5_costFrom 19 = .ok (.iaload, 1) := qd1_85.2.2.1
theorem dX5_costFrom_20 : decode cX5_costFrom 20 = .ok (.iload_n 2, 1) := qd1_85.2.2.2.1
theorem dX5_costFrom_21 : decode cX5_costFrom 21 = .ok (.if_icmp .ge 14, 3) := qd1_85.2.2.2.2.1
theorem dX5_costFrom_24 : decode cX5_costFrom 24 = .ok (.aload_n 0, 1) := qd1_85.2.2.2.2.2.1
theorem dX5_costFrom_25 : decode cX5_costFrom 25 = .ok (.getfield 27, 3) := qd1_85.2.2.2.2.2.2.1
theorem dX5_costFrom_28 : decode cX5_costFrom 28 = .ok (.iload_n 1, 1) := qd1_85.2.2.2.2.2.2.2.1
theorem dX5_costFrom_29 : decode cX5_costFrom 29 = .ok (.iconst 3, 1) := qd1_85.2.2.2.2.2.2.2.2.1
theorem dX5_costFrom_30 : decode cX5_costFrom 30 = .ok (.imul, 1) := qd1_85.2.2.2.2.2.2.2.2.2.1
theorem dX5_costFrom_31 : decode cX5_costFrom 31 = .ok (.iload_n 3, 1) := qd1_85.2.2.2.2.2.2.2.2.2.2.1
theorem dX5_costFrom_32 : decode cX5_costFrom 32 = .ok (.iadd, 1) := qd1_85.2.2.2.2.2.2.2.2.2.2.2
theorem qd1_86 : (decode cX5_costFrom 33 = .ok (.iaload, 1)) ∧ (decode cX5_costFrom 34 = .ok (.istore_n 2, 1)) ∧ (decode cX5_costFrom 35 = .ok (.iinc 3 1, 3)) ∧ (decode cX5_costFrom 38 = .ok (.goto (-33), 3)) ∧ (decode cX5_costFrom 41 = .ok (.iload_n 2, 1)) ∧ (decode cX5_costFrom 42 = .ok (.ldc 65, 2)) ∧ (decode cX5_costFrom 44 = .ok (.if_icmp .ge 7, 3)) ∧ (decode cX5_costFrom 47 = .ok (.iload_n 2, 1)) ∧ (decode cX5_costFrom 48 = .ok (.goto 4, 3)) ∧ (decode cX5_costFrom 51 = .ok (.iconst (-1), 1)) ∧ (decode cX5_costFrom 52 = .ok (.ireturn, 1)) := by decide +kernel
theorem dX5_costFrom_33 : decode cX5_costFrom 33 = .ok (.iaload, 1) := qd1_86.1
theorem dX5_costFrom_34 : decode cX5_costFrom 34 = .ok (.istore_n 2, 1) := qd1_86.2.1
theorem dX5_costFrom_35 : decode cX5_costFrom 35 = .ok (.iinc 3 1, 3) := qd1_86.2.2.1
theorem dX5_costFrom_38 : decode cX5_costFrom 38 = .ok (.goto (-33), 3) := qd1_86.2.2.2.1
theorem dX5_costFrom_41 : decode cX5_costFrom 41 = .ok (.iload_n 2, 1) := qd1_86.2.2.2.2.1
theorem dX5_costFrom_42 : decode cX5_costFrom 42 = .ok (.ldc 65, 2) := qd1_86.2.2.2.2.2.1
theorem dX5_costFrom_44 : decode cX5_costFrom 44 = .ok (.if_icmp .ge 7, 3) := qd1_86.2.2.2.2.2.2.1
theorem dX5_costFrom_47 : decode cX5_costFrom 47 = .ok (.iload_n 2, 1) := qd1_86.2.2.2.2.2.2.2.1
theorem dX5_costFrom_48 : decode cX5_costFrom 48 = .ok (.goto 4, 3) := qd1_86.2.2.2.2.2.2.2.2.1
theorem dX5_costFrom_51 : decode cX5_costFrom 51 = .ok (.iconst (-1), 1) := qd1_86.2.2.2.2.2.2.2.2.2.1
theorem dX5_costFrom_52 : decode cX5_costFrom 52 = .ok (.ireturn, 1) := qd1_86.2.2.2.2.2.2.2.2.2.2
theorem qd1_87 : (decode cX5_trace 0 = .ok (.aload_n 0, 1)) ∧ (decode cX5_trace 1 = .ok (.iconst 0, 1)) ∧ (decode cX5_trace 2 = .ok (.putfield 79, 3)) ∧ (decode cX5_trace 5 = .ok (.aload_n 0, 1)) ∧ (decode cX5_trace 6 = .ok (.iload_n 2, 1)) ∧ (decode cX5_trace 7 = .ok (.invokevirtual 82, 3)) ∧ (decode cX5_trace 10 = .ok (.aload_n 0, 1)) ∧ (decode cX5_trace 11 = .ok (.iload_n 1, 1)) ∧ (decode cX5_trace 12 = .ok (.invokevirtual 86, 3)) ∧ (decode cX5_trace 15 = .ok (.istore_n 3, 1)) ∧ (decode cX5_trace 16 = .ok (.iload_n 3, 1)) ∧ (decode cX5_trace 17 = .ok (.iconst (-1), 1)) := by decide +kernel
theorem dX5_trace_0 : decode cX5_trace 0 = .ok (.aload_n 0, 1) := qd1_87.1
theorem dX5_trace_1 : decode cX5_trace 1 = .ok (.iconst 0, 1) := qd1_87.2.1
theorem dX5_trace_2 : decode cX5_trace 2 = .ok (.putfield 79, 3) := qd1_87.2.2.1
theorem dX5_trace_5 : decode cX5_trace 5 = .ok (.aload_n 0, 1) := qd1_87.2.2.2.1
theorem dX5_trace_6 : decode cX5_trace 6 = .ok (.iload_n 2, 1) := qd1_87.2.2.2.2.1
theorem dX5_trace_7 : decode cX5_trace 7 = .ok (.invokevirtual 82, 3) := qd1_87.2.2.2.2.2.1
theorem dX5_trace_10 : decode cX5_trace 10 = .ok (.aload_n 0, 1) := qd1_87.2.2.2.2.2.2.1
theorem dX5_trace_11 : decode cX5_trace 11 = .ok (.iload_n 1, 1) := qd1_87.2.2.2.2.2.2.2.1
theorem dX5_trace_12 : decode cX5_trace 12 = .ok (.invokevirtual 86, 3) := qd1_87.2.2.2.2.2.2.2.2.1
theorem dX5_trace_15 : decode cX5_trace 15 = .ok (.istore_n 3, 1) := qd1_87.2.2.2.2.2.2.2.2.2.1
theorem dX5_trace_16 : decode cX5_trace 16 = .ok (.iload_n 3, 1) := qd1_87.2.2.2.2.2.2.2.2.2.2.1
theorem dX5_trace_17 : decode cX5_trace 17 = .ok (.iconst (-1), 1) := qd1_87.2.2.2.2.2.2.2.2.2.2.2
theorem qd1_88 : (decode cX5_trace 18 = .ok (.if_icmp .ne 5, 3)) ∧ (decode cX5_trace 21 = .ok (.iconst 0, 1)) ∧ (decode cX5_trace 22 = .ok (.ireturn, 1)) ∧ (decode cX5_trace 23 = .ok (.iconst 0, 1)) ∧ (decode cX5_trace 24 = .ok (.istore 4, 2)) ∧ (decode cX5_trace 26 = .ok (.iload 4, 2)) ∧ (decode cX5_trace 28 = .ok (.iconst 2, 1)) ∧ (decode cX5_trace 29 = .ok (.if_icmp .ge 24, 3)) ∧ (decode cX5_trace 32 = .ok (.aload_n 0, 1)) ∧ (decode cX5_trace 33 = .ok (.getfield 27, 3)) ∧ (decode cX5_trace 36 = .ok (.iload_n 1, 1)) ∧ (decode cX5_trace 37 = .ok (.iconst 3, 1)) := by decide +kernel
theorem dX5_trace_18 : decode cX5_trace 18 = .ok (.if_icmp .ne 5, 3) := qd1_88.1
theorem dX5_trace_21 : decode cX5_trace 21 = .ok (.iconst 0, 1) := qd1_88.2.1
theorem dX5_trace_22 : decode cX5_trace 22 = .ok (.ireturn, 1) := qd1_88.2.2.1
theorem dX5_trace_23 : decode cX5_trace 23 = .ok (.iconst 0, 1) := qd1_88.2.2.2.1
theorem dX5_trace_24 : decode cX5_trace 24 = .ok (.istore 4, 2) := qd1_88.2.2.2.2.1
theorem dX5_trace_26 : decode cX5_trace 26 = .ok (.iload 4, 2) := qd1_88.2.2.2.2.2.1
theorem dX5_trace_28 : decode cX5_trace 28 = .ok (.iconst 2, 1) := qd1_88.2.2.2.2.2.2.1
theorem dX5_trace_29 : decode cX5_trace 29 = .ok (.if_icmp .ge 24, 3) := qd1_88.2.2.2.2.2.2.2.1
theorem dX5_trace_32 : decode cX5_trace 32 = .ok (.aload_n 0, 1) := qd1_88.2.2.2.2.2.2.2.2.1
theorem dX5_trace_33 : decode cX5_trace 33 = .ok (.getfield 27, 3) := qd1_88.2.2.2.2.2.2.2.2.2.1
theorem dX5_trace_36 : decode cX5_trace 36 = .ok (.iload_n 1, 1) := qd1_88.2.2.2.2.2.2.2.2.2.2.1
theorem dX5_trace_37 : decode cX5_trace 37 = .ok (.iconst 3, 1) := qd1_88.2.2.2.2.2.2.2.2.2.2.2
theorem qd1_89 : (decode cX5_trace 38 = .ok (.imul, 1)) ∧ (decode cX5_trace 39 = .ok (.iload 4, 2)) ∧ (decode cX5_trace 41 = .ok (.iadd, 1)) ∧ (decode cX5_trace 42 = .ok (.iaload, 1)) ∧ (decode cX5_trace 43 = .ok (.iload_n 3, 1)) ∧ (decode cX5_trace 44 = .ok (.if_icmp .eq 9, 3)) ∧ (decode cX5_trace 47 = .ok (.iinc 4 1, 3)) ∧ (decode cX5_trace 50 = .ok (.goto (-24), 3)) ∧ (decode cX5_trace 53 = .ok (.iload_n 1, 1)) ∧ (decode cX5_trace 54 = .ok (.iconst 3, 1)) ∧ (decode cX5_trace 55 = .ok (.imul, 1)) ∧ (decode cX5_trace 56 = .ok (.iload 4, 2)) := by decide +kernel
theorem dX5_trace_38 : decode cX5_trace 38 = .ok (.imul, 1) := qd1_89.1
theorem dX5_trace_39 : decode cX5_trace 39 = .ok (.iload 4, 2) := qd1_89.2.1
theorem dX5_trace_41 : decode cX5_trace 41 = .ok (.iadd, 1) := qd1_89.2.2.1
theorem dX5_trace_42 : decode cX5_trace 42 = .ok (.iaload, 1) := qd1_89.2.2.2.1
theorem dX5_trace_43 : decode cX5_trace 43 = .ok (.iload_n 3, 1) := qd1_89.2.2.2.2.1
theorem dX5_trace_44 : decode cX5_trace 44 = .ok (.if_icmp .eq 9, 3) := qd1_89.2.2.2.2.2.1
theorem dX5_trace_47 : decode cX5_trace 47 = .ok (.iinc 4 1, 3) := qd1_89.2.2.2.2.2.2.1
theorem dX5_trace_50 : decode cX5_trace 50 = .ok (.goto (-24), 3) := qd1_89.2.2.2.2.2.2.2.1
theorem dX5_trace_53 : decode cX5_trace 53 = .ok (.iload_n 1, 1) := qd1_89.2.2.2.2.2.2.2.2.1
theorem dX5_trace_54 : decode cX5_trace 54 = .ok (.iconst 3, 1) := qd1_89.2.2.2.2.2.2.2.2.2.1
theorem dX5_trace_55 : decode cX5_trace 55 = .ok (.imul, 1) := qd1_89.2.2.2.2.2.2.2.2.2.2.1
theorem dX5_trace_56 : decode cX5_trace 56 = .ok (.iload 4, 2) := qd1_89.2.2.2.2.2.2.2.2.2.2.2
theorem qd1_90 : (decode cX5_trace 58 = .ok (.iadd, 1)) ∧ (decode cX5_trace 59 = .ok (.istore 5, 2)) ∧ (decode cX5_trace 61 = .ok (.aload_n 0, 1)) ∧ (decode cX5_trace 62 = .ok (.iload 4, 2)) ∧ (decode cX5_trace 64 = .ok (.iload 5, 2)) ∧ (decode cX5_trace 66 = .ok (.invokevirtual 90, 3)) ∧ (decode cX5_trace 69 = .ok (.lconst 1, 1)) ∧ (decode cX5_trace 70 = .ok (.iload 5, 2)) ∧ (decode cX5_trace 72 = .ok (.lshl, 1)) ∧ (decode cX5_trace 73 = .ok (.lstore 6, 2)) ∧ (decode cX5_trace 75 = .ok (.iconst 1, 1)) ∧ (decode cX5_trace 76 = .ok (.istore 8, 2)) := by decide +kernel
theorem dX5_trace_58 : decode cX5_trace 58 = .ok (.iadd, 1) := qd1_90.1
theorem dX5_trace_59 : decode cX5_trace 59 = .ok (.istore 5, 2) := qd1_90.2.1
theorem dX5_trace_61 : decode cX5_trace 61 = .ok (.aload_n 0, 1) := qd1_90.2.2.1
theorem dX5_trace_62 : decode cX5_trace 62 = .ok (.iload 4, 2) := qd1_90.2.2.2.1
theorem dX5_trace_64 : decode cX5_trace 64 = .ok (.iload 5, 2) := qd1_90.2.2.2.2.1
theorem dX5_trace_66 : decode cX5_trace 66 = .ok (.invokevirtual 90, 3) := qd1_90.2.2.2.2.2.1
theorem dX5_trace_69 : decode cX5_trace 69 = .ok (.lconst 1, 1) := qd1_90.2.2.2.2.2.2.1
theorem dX5_trace_70 : decode cX5_trace 70 = .ok (.iload 5, 2) := qd1_90.2.2.2.2.2.2.2.1
theorem dX5_trace_72 : decode cX5_trace 72 = .ok (.lshl, 1) := qd1_90.2.2.2.2.2.2.2.2.1
theorem dX5_trace_73 : decode cX5_trace 73 = .ok (.lstore 6, 2) := qd1_90.2.2.2.2.2.2.2.2.2.1
theorem dX5_trace_75 : decode cX5_trace 75 = .ok (.iconst 1, 1) := qd1_90.2.2.2.2.2.2.2.2.2.2.1
theorem dX5_trace_76 : decode cX5_trace 76 = .ok (.istore 8, 2) := qd1_90.2.2.2.2.2.2.2.2.2.2.2
theorem qd1_91 : (decode cX5_trace 78 = .ok (.iload 8, 2)) ∧ (decode cX5_trace 80 = .ok (.bipush 36, 2)) ∧ (decode cX5_trace 82 = .ok (.if_icmp .ge 44, 3)) ∧ (decode cX5_trace 85 = .ok (.iload 5, 2)) ∧ (decode cX5_trace 87 = .ok (.iconst 3, 1)) ∧ (decode cX5_trace 88 = .ok (.idiv, 1)) ∧ (decode cX5_trace 89 = .ok (.iload_n 2, 1)) ∧ (decode cX5_trace 90 = .ok (.if_icmp .eq 36, 3)) ∧ (decode cX5_trace 93 = .ok (.aload_n 0, 1)) ∧ (decode cX5_trace 94 = .ok (.iload 5, 2)) ∧ (decode cX5_trace 96 = .ok (.lload 6, 2)) ∧ (decode cX5_trace 98 = .ok (.invokevirtual 94, 3)) := by decide +kernel
theorem dX5_trace_78 : decode cX5_trace 78 = .ok (.iload 8, 2) := qd1_91.1
theorem dX5_trace_80 : decode cX5_trace 80 = .ok (.bipush 36, 2) := qd1_91.2.1
theorem dX5_trace_82 : decode cX5_trace 82 = .ok (.if_icmp .ge 44, 3) := qd1_91.2.2.1
theorem dX5_trace_85 : decode cX5_trace 85 = .ok (.iload 5, 2) := qd1_91.2.2.2.1
theorem dX5_trace_87 : decode cX5_trace 87 = .ok (.iconst 3, 1) := qd1_91.2.2.2.2.1
theorem dX5_trace_88 : decode cX5_trace 88 = .ok (.idiv, 1) := qd1_91.2.2.2.2.2.1
theorem dX5_trace_89 : decode cX5_trace 89 = .ok (.iload_n 2, 1) := qd1_91.2.2.2.2.2.2.1
theorem dX5_trace_90 : decode cX5_trace 90 = .ok (.if_icmp .eq 36, 3) := qd1_91.2.2.2.2.2.2.2.1
theorem dX5_trace_93 : decode cX5_trace 93 = .ok (.aload_n 0, 1) := qd1_91.2.2.2.2.2.2.2.2.1
theorem dX5_trace_94 : decode cX5_trace 94 = .ok (.iload 5, 2) := qd1_91.2.2.2.2.2.2.2.2.2.1
theorem dX5_trace_96 : decode cX5_trace 96 = .ok (.lload 6, 2) := qd1_91.2.2.2.2.2.2.2.2.2.2.1
theorem dX5_trace_98 : decode cX5_trace 98 = .ok (.invokevirtual 94, 3) := qd1_91.2.2.2.2.2.2.2.2.2.2.2
theorem qd1_92 : (decode cX5_trace 101 = .ok (.istore 5, 2)) ∧ (decode cX5_trace 103 = .ok (.iload 5, 2)) ∧ (decode cX5_trace 105 = .ok (.iconst (-1), 1)) ∧ (decode cX5_trace 106 = .ok (.if_icmp .ne 5, 3)) ∧ (decode cX5_trace 109 = .ok (.iconst 0, 1)) ∧ (decode cX5_trace 110 = .ok (.ireturn, 1)) ∧ (decode cX5_trace 111 = .ok (.lload 6, 2)) ∧ (decode cX5_trace 113 = .ok (.lconst 1, 1)) ∧ (decode cX5_trace 114 = .ok (.iload 5, 2)) ∧ (decode cX5_trace 116 = .ok (.lshl, 1)) ∧ (decode cX5_trace 117 = .ok (.lor, 1)) ∧ (decode cX5_trace 118 = .ok (.lstore 6, 2)) := by decide +kernel
theorem dX5_trace_101 : decode cX5_trace 101 = .ok (.istore 5, 2) := qd1_92.1
theorem dX5_trace_103 : decode cX5_trace 103 = .ok (.iload 5, 2) := qd1_92.2.1
theorem dX5_trace_105 : decode cX5_trace 105 = .ok (.iconst (-1), 1) := qd1_92.2.2.1
theorem dX5_trace_106 : decode cX5_trace 106 = .ok (.if_icmp .ne 5, 3) := qd1_92.2.2.2.1
theorem dX5_trace_109 : decode cX5_trace 109 = .ok (.iconst 0, 1) := qd1_92.2.2.2.2.1
theorem dX5_trace_110 : decode cX5_trace 110 = .ok (.ireturn, 1) := qd1_92.2.2.2.2.2.1
theorem dX5_trace_111 : decode cX5_trace 111 = .ok (.lload 6, 2) := qd1_92.2.2.2.2.2.2.1
theorem dX5_trace_113 : decode cX5_trace 113 = .ok (.lconst 1, 1) := qd1_92.2.2.2.2.2.2.2.1
theorem dX5_trace_114 : decode cX5_trace 114 = .ok (.iload 5, 2) := qd1_92.2.2.2.2.2.2.2.2.1
theorem dX5_trace_116 : decode cX5_trace 116 = .ok (.lshl, 1) := qd1_92.2.2.2.2.2.2.2.2.2.1
theorem dX5_trace_117 : decode cX5_trace 117 = .ok (.lor, 1) := qd1_92.2.2.2.2.2.2.2.2.2.2.1
theorem dX5_trace_118 : decode cX5_trace 118 = .ok (.lstore 6, 2) := qd1_92.2.2.2.2.2.2.2.2.2.2.2
theorem qd1_93 : (decode cX5_trace 120 = .ok (.iinc 8 1, 3)) ∧ (decode cX5_trace 123 = .ok (.goto (-45), 3)) ∧ (decode cX5_trace 126 = .ok (.iload 5, 2)) ∧ (decode cX5_trace 128 = .ok (.iconst 3, 1)) ∧ (decode cX5_trace 129 = .ok (.idiv, 1)) ∧ (decode cX5_trace 130 = .ok (.iload_n 2, 1)) ∧ (decode cX5_trace 131 = .ok (.if_icmp .ne 7, 3)) ∧ (decode cX5_trace 134 = .ok (.iconst 1, 1)) ∧ (decode cX5_trace 135 = .ok (.goto 4, 3)) ∧ (decode cX5_trace 138 = .ok (.iconst 0, 1)) ∧ (decode cX5_trace 139 = .ok (.ireturn, 1)) := by decide +kernel
theorem dX5_trace_120 : decode cX5_trace 120 = .ok (.iinc 8 1, 3) := qd1_93.1
theorem dX5_trace_123 : decode cX5_trace 123 = .ok (.goto (-45), 3) := qd1_93.2.1
theorem dX5_trace_126 : decode cX5_trace 126 = .ok (.iload 5, 2) := qd1_93.2.2.1
theorem dX5_trace_128 : decode cX5_trace 128 = .ok (.iconst 3, 1) := qd1_93.2.2.2.1
theorem dX5_trace_129 : decode cX5_trace 129 = .ok (.idiv, 1) := qd1_93.2.2.2.2.1
theorem dX5_trace_130 : decode cX5_trace 130 = .ok (.iload_n 2, 1) := qd1_93.2.2.2.2.2.1
theorem dX5_trace_131 : decode cX5_trace 131 = .ok (.if_icmp .ne 7, 3) := qd1_93.2.2.2.2.2.2.1
theorem dX5_trace_134 : decode cX5_trace 134 = .ok (.iconst 1, 1) := qd1_93.2.2.2.2.2.2.2.1
theorem dX5_trace_135 : decode cX5_trace 135 = .ok (.goto 4, 3) := qd1_93.2.2.2.2.2.2.2.2.1
theorem dX5_trace_138 : decode cX5_trace 138 = .ok (.iconst 0, 1) := qd1_93.2.2.2.2.2.2.2.2.2.1
theorem dX5_trace_139 : decode cX5_trace 139 = .ok (.ireturn, 1) := qd1_93.2.2.2.2.2.2.2.2.2.2
theorem qd1_94 : (decode cX5_note 0 = .ok (.aload_n 0, 1)) ∧ (decode cX5_note 1 = .ok (.getfield 79, 3)) ∧ (decode cX5_note 4 = .ok (.bipush 36, 2)) ∧ (decode cX5_note 6 = .ok (.if_icmp .ge 33, 3)) ∧ (decode cX5_note 9 = .ok (.aload_n 0, 1)) ∧ (decode cX5_note 10 = .ok (.getfield 30, 3)) ∧ (decode cX5_note 13 = .ok (.aload_n 0, 1)) ∧ (decode cX5_note 14 = .ok (.getfield 79, 3)) ∧ (decode cX5_note 17 = .ok (.iload_n 1, 1)) ∧ (decode cX5_note 18 = .ok (.iastore, 1)) ∧ (decode cX5_note 19 = .ok (.aload_n 0, 1)) ∧ (decode cX5_note 20 = .ok (.getfield 33, 3)) := by decide +kernel
theorem dX5_note_0 : decode cX5_note 0 = .ok (.aload_n 0, 1) := qd1_94.1
theorem dX5_note_1 : decode cX5_note 1 = .ok (.getfield 79, 3) := qd1_94.2.1
theorem dX5_note_4 : decode cX5_note 4 = .ok (.bipush 36, 2) := qd1_94.2.2.1
theorem dX5_note_6 : decode cX5_note 6 = .ok (.if_icmp .ge 33, 3) := qd1_94.2.2.2.1
theorem dX5_note_9 : decode cX5_note 9 = .ok (.aload_n 0, 1) := qd1_94.2.2.2.2.1
theorem dX5_note_10 : decode cX5_note 10 = .ok (.getfield 30, 3) := qd1_94.2.2.2.2.2.1
theorem dX5_note_13 : decode cX5_note 13 = .ok (.aload_n 0, 1) := qd1_94.2.2.2.2.2.2.1
theorem dX5_note_14 : decode cX5_note 14 = .ok (.getfield 79, 3) := qd1_94.2.2.2.2.2.2.2.1
theorem dX5_note_17 : decode cX5_note 17 = .ok (.iload_n 1, 1) := qd1_94.2.2.2.2.2.2.2.2.1
theorem dX5_note_18 : decode cX5_note 18 = .ok (.iastore, 1) := qd1_94.2.2.2.2.2.2.2.2.2.1
theorem dX5_note_19 : decode cX5_note 19 = .ok (.aload_n 0, 1) := qd1_94.2.2.2.2.2.2.2.2.2.2.1
theorem dX5_note_20 : decode cX5_note 20 = .ok (.getfield 33, 3) := qd1_94.2.2.2.2.2.2.2.2.2.2.2
theorem qd1_95 : (decode cX5_note 23 = .ok (.aload_n 0, 1)) ∧ (decode cX5_note 24 = .ok (.getfield 79, 3)) ∧ (decode cX5_note 27 = .ok (.iload_n 2, 1)) ∧ (decode cX5_note 28 = .ok (.iastore, 1)) ∧ (decode cX5_note 29 = .ok (.aload_n 0, 1)) ∧ (decode cX5_note 30 = .ok (.dup, 1)) ∧ (decode cX5_note 31 = .ok (.getfield 79, 3)) ∧ (decode cX5_note 34 = .ok (.iconst 1, 1)) ∧ (decode cX5_note 35 = .ok (.iadd, 1)) ∧ (decode cX5_note 36 = .ok (.putfield 79, 3)) ∧ (decode cX5_note 39 = .ok (.return_, 1)) := by decide +kernel
theorem dX5_note_23 : decode cX5_note 23 = .ok (.aload_n 0, 1) := qd1_95.1
theorem dX5_note_24 : decode cX5_note 24 = .ok (.getfield 79, 3) := qd1_95.2.1
theorem dX5_note_27 : decode cX5_note 27 = .ok (.iload_n 2, 1) := qd1_95.2.2.1
theorem dX5_note_28 : decode cX5_note 28 = .ok (.iastore, 1) := qd1_95.2.2.2.1
theorem dX5_note_29 : decode cX5_note 29 = .ok (.aload_n 0, 1) := qd1_95.2.2.2.2.1
theorem dX5_note_30 : decode cX5_note 30 = .ok (.dup, 1) := qd1_95.2.2.2.2.2.1
theorem dX5_note_31 : decode cX5_note 31 = .ok (.getfield 79, 3) := qd1_95.2.2.2.2.2.2.1
theorem dX5_note_34 : decode cX5_note 34 = .ok (.iconst 1, 1) := qd1_95.2.2.2.2.2.2.2.1
theorem dX5_note_35 : decode cX5_note 35 = .ok (.iadd, 1) := qd1_95.2.2.2.2.2.2.2.2.1
theorem dX5_note_36 : decode cX5_note 36 = .ok (.putfield 79, 3) := qd1_95.2.2.2.2.2.2.2.2.2.1
theorem dX5_note_39 : decode cX5_note 39 = .ok (.return_, 1) := qd1_95.2.2.2.2.2.2.2.2.2.2
theorem qd1_96 : (decode cX5_stepOn 0 = .ok (.iload_n 1, 1)) ∧ (decode cX5_stepOn 1 = .ok (.iconst 3, 1)) ∧ (decode cX5_stepOn 2 = .ok (.idiv, 1)) ∧ (decode cX5_stepOn 3 = .ok (.istore 4, 2)) ∧ (decode cX5_stepOn 5 = .ok (.iconst 0, 1)) ∧ (decode cX5_stepOn 6 = .ok (.istore 5, 2)) ∧ (decode cX5_stepOn 8 = .ok (.iload 5, 2)) ∧ (decode cX5_stepOn 10 = .ok (.iconst 3, 1)) ∧ (decode cX5_stepOn 11 = .ok (.if_icmp .ge 47, 3)) ∧ (decode cX5_stepOn 14 = .ok (.iload 4, 2)) ∧ (decode cX5_stepOn 16 = .ok (.iconst 3, 1)) ∧ (decode cX5_stepOn 17 = .ok (.imul, 1)) := by decide +kernel
theorem dX5_stepOn_0 : decode cX5_stepOn 0 = .ok (.iload_n 1, 1) := qd1_96.1
theorem dX5_stepOn_1 : decode cX5_stepOn 1 = .ok (.iconst 3, 1) := qd1_96.2.1
theorem dX5_stepOn_2 : decode cX5_stepOn 2 = .ok (.idiv, 1) := qd1_96.2.2.1
theorem dX5_stepOn_3 : decode cX5_stepOn 3 = .ok (.istore 4, 2) := qd1_96.2.2.2.1
theorem dX5_stepOn_5 : decode cX5_stepOn 5 = .ok (.iconst 0, 1) := qd1_96.2.2.2.2.1
theorem dX5_stepOn_6 : decode cX5_stepOn 6 = .ok (.istore 5, 2) := qd1_96.2.2.2.2.2.1
theorem dX5_stepOn_8 : decode cX5_stepOn 8 = .ok (.iload 5, 2) := qd1_96.2.2.2.2.2.2.1
theorem dX5_stepOn_10 : decode cX5_stepOn 10 = .ok (.iconst 3, 1) := qd1_96.2.2.2.2.2.2.2.1
theorem dX5_stepOn_11 : decode cX5_stepOn 11 = .ok (.if_icmp .ge 47, 3) := qd1_96.2.2.2.2.2.2.2.2.1
theorem dX5_stepOn_14 : decode cX5_stepOn 14 = .ok (.iload 4, 2) := qd1_96.2.2.2.2.2.2.2.2.2.1
theorem dX5_stepOn_16 : decode cX5_stepOn 16 = .ok (.iconst 3, 1) := qd1_96.2.2.2.2.2.2.2.2.2.2.1
theorem dX5_stepOn_17 : decode cX5_stepOn 17 = .ok (.imul, 1) := qd1_96.2.2.2.2.2.2.2.2.2.2.2
theorem qd1_97 : (decode cX5_stepOn 18 = .ok (.iload 5, 2)) ∧ (decode cX5_stepOn 20 = .ok (.iadd, 1)) ∧ (decode cX5_stepOn 21 = .ok (.istore 6, 2)) ∧ (decode cX5_stepOn 23 = .ok (.aload_n 0, 1)) ∧ (decode cX5_stepOn 24 = .ok (.iload_n 1, 1)) ∧ (decode cX5_stepOn 25 = .ok (.iload 6, 2)) ∧ (decode cX5_stepOn 27 = .ok (.aload_n 0, 1)) ∧ (decode cX5_stepOn 28 = .ok (.getfield 24, 3)) ∧ (decode cX5_stepOn 31 = .ok (.iload 4, 2)) ∧ (decode cX5_stepOn 33 = .ok (.iaload, 1)) ∧ (decode cX5_stepOn 34 = .ok (.lload_n 2, 1)) ∧ (decode cX5_stepOn 35 = .ok (.invokevirtual 98, 3)) := by decide +kernel
theorem dX5_stepOn_18 : decode cX5_stepOn 18 = .ok (.iload 5, 2) := qd1_97.1
theorem dX5_stepOn_20 : decode cX5_stepOn 20 = .ok (.iadd, 1) := qd1_97.2.1
theorem dX5_stepOn_21 : decode cX5_stepOn 21 = .ok (.istore 6, 2) := qd1_97.2.2.1
theorem dX5_stepOn_23 : decode cX5_stepOn 23 = .ok (.aload_n 0, 1) := qd1_97.2.2.2.1
theorem dX5_stepOn_24 : decode cX5_stepOn 24 = .ok (.iload_n 1, 1) := qd1_97.2.2.2.2.1
theorem dX5_stepOn_25 : decode cX5_stepOn 25 = .ok (.iload 6, 2) := qd1_97.2.2.2.2.2.1
theorem dX5_stepOn_27 : decode cX5_stepOn 27 = .ok (.aload_n 0, 1) := qd1_97.2.2.2.2.2.2.1
theorem dX5_stepOn_28 : decode cX5_stepOn 28 = .ok (.getfield 24, 3) := qd1_97.2.2.2.2.2.2.2.1
theorem dX5_stepOn_31 : decode cX5_stepOn 31 = .ok (.iload 4, 2) := qd1_97.2.2.2.2.2.2.2.2.1
theorem dX5_stepOn_33 : decode cX5_stepOn 33 = .ok (.iaload, 1) := qd1_97.2.2.2.2.2.2.2.2.2.1
theorem dX5_stepOn_34 : decode cX5_stepOn 34 = .ok (.lload_n 2, 1) := qd1_97.2.2.2.2.2.2.2.2.2.2.1
theorem dX5_stepOn_35 : decode cX5_stepOn 35 = .ok (.invokevirtual 98, 3) := qd1_97.2.2.2.2.2.2.2.2.2.2.2
theorem qd1_98 : (decode cX5_stepOn 38 = .ok (.ifCond .eq 14, 3)) ∧ (decode cX5_stepOn 41 = .ok (.aload_n 0, 1)) ∧ (decode cX5_stepOn 42 = .ok (.iload 5, 2)) ∧ (decode cX5_stepOn 44 = .ok (.iload 6, 2)) ∧ (decode cX5_stepOn 46 = .ok (.invokevirtual 90, 3)) ∧ (decode cX5_stepOn 49 = .ok (.iload 6, 2)) ∧ (decode cX5_stepOn 51 = .ok (.ireturn, 1)) ∧ (decode cX5_stepOn 52 = .ok (.iinc 5 1, 3)) ∧ (decode cX5_stepOn 55 = .ok (.goto (-47), 3)) ∧ (decode cX5_stepOn 58 = .ok (.iconst 0, 1)) ∧ (decode cX5_stepOn 59 = .ok (.istore 5, 2)) ∧ (decode cX5_stepOn 61 = .ok (.iload 5, 2)) := by decide +kernel
theorem dX5_stepOn_38 : decode cX5_stepOn 38 = .ok (.ifCond .eq 14, 3) := qd1_98.1
theorem dX5_stepOn_41 : decode cX5_stepOn 41 = .ok (.aload_n 0, 1) := qd1_98.2.1
theorem dX5_stepOn_42 : decode cX5_stepOn 42 = .ok (.iload 5, 2) := qd1_98.2.2.1
theorem dX5_stepOn_44 : decode cX5_stepOn 44 = .ok (.iload 6, 2) := qd1_98.2.2.2.1
theorem dX5_stepOn_46 : decode cX5_stepOn 46 = .ok (.invokevirtual 90, 3) := qd1_98.2.2.2.2.1
theorem dX5_stepOn_49 : decode cX5_stepOn 49 = .ok (.iload 6, 2) := qd1_98.2.2.2.2.2.1
theorem dX5_stepOn_51 : decode cX5_stepOn 51 = .ok (.ireturn, 1) := qd1_98.2.2.2.2.2.2.1
theorem dX5_stepOn_52 : decode cX5_stepOn 52 = .ok (.iinc 5 1, 3) := qd1_98.2.2.2.2.2.2.2.1
theorem dX5_stepOn_55 : decode cX5_stepOn 55 = .ok (.goto (-47), 3) := qd1_98.2.2.2.2.2.2.2.2.1
theorem dX5_stepOn_58 : decode cX5_stepOn 58 = .ok (.iconst 0, 1) := qd1_98.2.2.2.2.2.2.2.2.2.1
theorem dX5_stepOn_59 : decode cX5_stepOn 59 = .ok (.istore 5, 2) := qd1_98.2.2.2.2.2.2.2.2.2.2.1
theorem dX5_stepOn_61 : decode cX5_stepOn 61 = .ok (.iload 5, 2) := qd1_98.2.2.2.2.2.2.2.2.2.2.2
theorem qd1_99 : (decode cX5_stepOn 63 = .ok (.aload_n 0, 1)) ∧ (decode cX5_stepOn 64 = .ok (.getfield 52, 3)) ∧ (decode cX5_stepOn 67 = .ok (.if_icmp .ge 60, 3)) ∧ (decode cX5_stepOn 70 = .ok (.aload_n 0, 1)) ∧ (decode cX5_stepOn 71 = .ok (.iload 5, 2)) ∧ (decode cX5_stepOn 73 = .ok (.iload_n 1, 1)) ∧ (decode cX5_stepOn 74 = .ok (.invokevirtual 102, 3)) ∧ (decode cX5_stepOn 77 = .ok (.istore 6, 2)) ∧ (decode cX5_stepOn 79 = .ok (.iload 6, 2)) ∧ (decode cX5_stepOn 81 = .ok (.iconst (-1), 1)) ∧ (decode cX5_stepOn 82 = .ok (.if_icmp .eq 39, 3)) ∧ (decode cX5_stepOn 85 = .ok (.aload_n 0, 1)) := by decide +kernel
theorem dX5_stepOn_63 : decode cX5_stepOn 63 = .ok (.aload_n 0, 1) := qd1_99.1
theorem dX5_stepOn_64 : decode cX5_stepOn 64 = .ok (.getfield 52, 3) := qd1_99.2.1
theorem dX5_stepOn_67 : decode cX5_stepOn 67 = .ok (.if_icmp .ge 60, 3) := qd1_99.2.2.1
theorem dX5_stepOn_70 : decode cX5_stepOn 70 = .ok (.aload_n 0, 1) := qd1_99.2.2.2.1
theorem dX5_stepOn_71 : decode cX5_stepOn 71 = .ok (.iload 5, 2) := qd1_99.2.2.2.2.1
theorem dX5_stepOn_73 : decode cX5_stepOn 73 = .ok (.iload_n 1, 1) := qd1_99.2.2.2.2.2.1
theorem dX5_stepOn_74 : decode cX5_stepOn 74 = .ok (.invokevirtual 102, 3) := qd1_99.2.2.2.2.2.2.1
theorem dX5_stepOn_77 : decode cX5_stepOn 77 = .ok (.istore 6, 2) := qd1_99.2.2.2.2.2.2.2.1
theorem dX5_stepOn_79 : decode cX5_stepOn 79 = .ok (.iload 6, 2) := qd1_99.2.2.2.2.2.2.2.2.1
theorem dX5_stepOn_81 : decode cX5_stepOn 81 = .ok (.iconst (-1), 1) := qd1_99.2.2.2.2.2.2.2.2.2.1
theorem dX5_stepOn_82 : decode cX5_stepOn 82 = .ok (.if_icmp .eq 39, 3) := qd1_99.2.2.2.2.2.2.2.2.2.2.1
theorem dX5_stepOn_85 : decode cX5_stepOn 85 = .ok (.aload_n 0, 1) := qd1_99.2.2.2.2.2.2.2.2.2.2.2
theorem qd1_100 : (decode cX5_stepOn 86 = .ok (.iload_n 1, 1)) ∧ (decode cX5_stepOn 87 = .ok (.iload 6, 2)) ∧ (decode cX5_stepOn 89 = .ok (.aload_n 0, 1)) ∧ (decode cX5_stepOn 90 = .ok (.getfield 18, 3)) ∧ (decode cX5_stepOn 93 = .ok (.iload 5, 2)) ∧ (decode cX5_stepOn 95 = .ok (.iaload, 1)) ∧ (decode cX5_stepOn 96 = .ok (.lload_n 2, 1)) ∧ (decode cX5_stepOn 97 = .ok (.invokevirtual 98, 3)) ∧ (decode cX5_stepOn 100 = .ok (.ifCond .eq 21, 3)) ∧ (decode cX5_stepOn 103 = .ok (.aload_n 0, 1)) ∧ (decode cX5_stepOn 104 = .ok (.iconst 3, 1)) ∧ (decode cX5_stepOn 105 = .ok (.aload_n 0, 1)) := by decide +kernel
theorem dX5_stepOn_86 : decode cX5_stepOn 86 = .ok (.iload_n 1, 1) := qd1_100.1
theorem dX5_stepOn_87 : decode cX5_stepOn 87 = .ok (.iload 6, 2) := qd1_100.2.1
theorem dX5_stepOn_89 : decode cX5_stepOn 89 = .ok (.aload_n 0, 1) := qd1_100.2.2.1
theorem dX5_stepOn_90 : decode cX5_stepOn 90 = .ok (.getfield 18, 3) := qd1_100.2.2.2.1
theorem dX5_stepOn_93 : decode cX5_stepOn 93 = .ok (.iload 5, 2) := qd1_100.2.2.2.2.1
theorem dX5_stepOn_95 : decode cX5_stepOn 95 = .ok (.iaload, 1) := qd1_100.2.2.2.2.2.1
theorem dX5_stepOn_96 : decode cX5_stepOn 96 = .ok (.lload_n 2, 1) := qd1_100.2.2.2.2.2.2.1
theorem dX5_stepOn_97 : decode cX5_stepOn 97 = .ok (.invokevirtual 98, 3) := qd1_100.2.2.2.2.2.2.2.1
theorem dX5_stepOn_100 : decode cX5_stepOn 100 = .ok (.ifCond .eq 21, 3) := qd1_100.2.2.2.2.2.2.2.2.1
theorem dX5_stepOn_103 : decode cX5_stepOn 103 = .ok (.aload_n 0, 1) := qd1_100.2.2.2.2.2.2.2.2.2.1
theorem dX5_stepOn_104 : decode cX5_stepOn 104 = .ok (.iconst 3, 1) := qd1_100.2.2.2.2.2.2.2.2.2.2.1
theorem dX5_stepOn_105 : decode cX5_stepOn 105 = .ok (.aload_n 0, 1) := qd1_100.2.2.2.2.2.2.2.2.2.2.2
theorem qd1_101 : (decode cX5_stepOn 106 = .ok (.getfield 21, 3)) ∧ (decode cX5_stepOn 109 = .ok (.iload 5, 2)) ∧ (decode cX5_stepOn 111 = .ok (.iaload, 1)) ∧ (decode cX5_stepOn 112 = .ok (.iadd, 1)) ∧ (decode cX5_stepOn 113 = .ok (.iload 6, 2)) ∧ (decode cX5_stepOn 115 = .ok (.invokevirtual 90, 3)) ∧ (decode cX5_stepOn 118 = .ok (.iload 6, 2)) ∧ (decode cX5_stepOn 120 = .ok (.ireturn, 1)) ∧ (decode cX5_stepOn 121 = .ok (.iinc 5 1, 3)) ∧ (decode cX5_stepOn 124 = .ok (.goto (-63), 3)) ∧ (decode cX5_stepOn 127 = .ok (.iconst (-1), 1)) ∧ (decode cX5_stepOn 128 = .ok (.ireturn, 1)) := by decide +kernel
theorem dX5_stepOn_106 : decode cX5_stepOn 106 = .ok (.getfield 21, 3) := qd1_101.1
theorem dX5_stepOn_109 : decode cX5_stepOn 109 = .ok (.iload 5, 2) := qd1_101.2.1
theorem dX5_stepOn_111 : decode cX5_stepOn 111 = .ok (.iaload, 1) := qd1_101.2.2.1
theorem dX5_stepOn_112 : decode cX5_stepOn 112 = .ok (.iadd, 1) := qd1_101.2.2.2.1
theorem dX5_stepOn_113 : decode cX5_stepOn 113 = .ok (.iload 6, 2) := qd1_101.2.2.2.2.1
theorem dX5_stepOn_115 : decode cX5_stepOn 115 = .ok (.invokevirtual 90, 3) := qd1_101.2.2.2.2.2.1
theorem dX5_stepOn_118 : decode cX5_stepOn 118 = .ok (.iload 6, 2) := qd1_101.2.2.2.2.2.2.1
theorem dX5_stepOn_120 : decode cX5_stepOn 120 = .ok (.ireturn, 1) := qd1_101.2.2.2.2.2.2.2.1
theorem dX5_stepOn_121 : decode cX5_stepOn 121 = .ok (.iinc 5 1, 3) := qd1_101.2.2.2.2.2.2.2.2.1
theorem dX5_stepOn_124 : decode cX5_stepOn 124 = .ok (.goto (-63), 3) := qd1_101.2.2.2.2.2.2.2.2.2.1
theorem dX5_stepOn_127 : decode cX5_stepOn 127 = .ok (.iconst (-1), 1) := qd1_101.2.2.2.2.2.2.2.2.2.2.1
theorem dX5_stepOn_128 : decode cX5_stepOn 128 = .ok (.ireturn, 1) := qd1_101.2.2.2.2.2.2.2.2.2.2.2
theorem qd1_102 : (decode cX5_otherEnd 0 = .ok (.aload_n 0, 1)) ∧ (decode cX5_otherEnd 1 = .ok (.getfield 9, 3)) ∧ (decode cX5_otherEnd 4 = .ok (.iload_n 1, 1)) ∧ (decode cX5_otherEnd 5 = .ok (.iaload, 1)) ∧ (decode cX5_otherEnd 6 = .ok (.iload_n 2, 1)) ∧ (decode cX5_otherEnd 7 = .ok (.if_icmp .ne 10, 3)) ∧ (decode cX5_otherEnd 10 = .ok (.aload_n 0, 1)) ∧ (decode cX5_otherEnd 11 = .ok (.getfield 15, 3)) ∧ (decode cX5_otherEnd 14 = .ok (.iload_n 1, 1)) ∧ (decode cX5_otherEnd 15 = .ok (.iaload, 1)) ∧ (decode cX5_otherEnd 16 = .ok (.ireturn, 1)) ∧ (decode cX5_otherEnd 17 = .ok (.aload_n 0, 1)) := by decide +kernel
theorem dX5_otherEnd_0 : decode cX5_otherEnd 0 = .ok (.aload_n 0, 1) := qd1_102.1
theorem dX5_otherEnd_1 : decode cX5_otherEnd 1 = .ok (.getfield 9, 3) := qd1_102.2.1
theorem dX5_otherEnd_4 : decode cX5_otherEnd 4 = .ok (.iload_n 1, 1) := qd1_102.2.2.1
theorem dX5_otherEnd_5 : decode cX5_otherEnd 5 = .ok (.iaload, 1) := qd1_102.2.2.2.1
theorem dX5_otherEnd_6 : decode cX5_otherEnd 6 = .ok (.iload_n 2, 1) := qd1_102.2.2.2.2.1
theorem dX5_otherEnd_7 : decode cX5_otherEnd 7 = .ok (.if_icmp .ne 10, 3) := qd1_102.2.2.2.2.2.1
theorem dX5_otherEnd_10 : decode cX5_otherEnd 10 = .ok (.aload_n 0, 1) := qd1_102.2.2.2.2.2.2.1
theorem dX5_otherEnd_11 : decode cX5_otherEnd 11 = .ok (.getfield 15, 3) := qd1_102.2.2.2.2.2.2.2.1
theorem dX5_otherEnd_14 : decode cX5_otherEnd 14 = .ok (.iload_n 1, 1) := qd1_102.2.2.2.2.2.2.2.2.1
theorem dX5_otherEnd_15 : decode cX5_otherEnd 15 = .ok (.iaload, 1) := qd1_102.2.2.2.2.2.2.2.2.2.1
theorem dX5_otherEnd_16 : decode cX5_otherEnd 16 = .ok (.ireturn, 1) := qd1_102.2.2.2.2.2.2.2.2.2.2.1
theorem dX5_otherEnd_17 : decode cX5_otherEnd 17 = .ok (.aload_n 0, 1) := qd1_102.2.2.2.2.2.2.2.2.2.2.2
theorem qd1_103 : (decode cX5_otherEnd 18 = .ok (.getfield 15, 3)) ∧ (decode cX5_otherEnd 21 = .ok (.iload_n 1, 1)) ∧ (decode cX5_otherEnd 22 = .ok (.iaload, 1)) ∧ (decode cX5_otherEnd 23 = .ok (.iload_n 2, 1)) ∧ (decode cX5_otherEnd 24 = .ok (.if_icmp .ne 12, 3)) ∧ (decode cX5_otherEnd 27 = .ok (.aload_n 0, 1)) ∧ (decode cX5_otherEnd 28 = .ok (.getfield 9, 3)) ∧ (decode cX5_otherEnd 31 = .ok (.iload_n 1, 1)) ∧ (decode cX5_otherEnd 32 = .ok (.iaload, 1)) ∧ (decode cX5_otherEnd 33 = .ok (.goto 4, 3)) ∧ (decode cX5_otherEnd 36 = .ok (.iconst (-1), 1)) ∧ (decode cX5_otherEnd 37 = .ok (.ireturn, 1)) := by decide +kernel
theorem dX5_otherEnd_18 : decode cX5_otherEnd 18 = .ok (.getfield 15, 3) := qd1_103.1
theorem dX5_otherEnd_21 : decode cX5_otherEnd 21 = .ok (.iload_n 1, 1) := qd1_103.2.1
theorem dX5_otherEnd_22 : decode cX5_otherEnd 22 = .ok (.iaload, 1) := qd1_103.2.2.1
theorem dX5_otherEnd_23 : decode cX5_otherEnd 23 = .ok (.iload_n 2, 1) := qd1_103.2.2.2.1
theorem dX5_otherEnd_24 : decode cX5_otherEnd 24 = .ok (.if_icmp .ne 12, 3) := qd1_103.2.2.2.2.1
theorem dX5_otherEnd_27 : decode cX5_otherEnd 27 = .ok (.aload_n 0, 1) := qd1_103.2.2.2.2.2.1
theorem dX5_otherEnd_28 : decode cX5_otherEnd 28 = .ok (.getfield 9, 3) := qd1_103.2.2.2.2.2.2.1
theorem dX5_otherEnd_31 : decode cX5_otherEnd 31 = .ok (.iload_n 1, 1) := qd1_103.2.2.2.2.2.2.2.1
theorem dX5_otherEnd_32 : decode cX5_otherEnd 32 = .ok (.iaload, 1) := qd1_103.2.2.2.2.2.2.2.2.1
theorem dX5_otherEnd_33 : decode cX5_otherEnd 33 = .ok (.goto 4, 3) := qd1_103.2.2.2.2.2.2.2.2.2.1
theorem dX5_otherEnd_36 : decode cX5_otherEnd 36 = .ok (.iconst (-1), 1) := qd1_103.2.2.2.2.2.2.2.2.2.2.1
theorem dX5_otherEnd_37 : decode cX5_otherEnd 37 = .ok (.ireturn, 1) := qd1_103.2.2.2.2.2.2.2.2.2.2.2
theorem qd1_104 : (decode cX5_leads 0 = .ok (.lload 4, 2)) ∧ (decode cX5_leads 2 = .ok (.iload_n 2, 1)) ∧ (decode cX5_leads 3 = .ok (.lshr, 1)) ∧ (decode cX5_leads 4 = .ok (.lconst 1, 1)) ∧ (decode cX5_leads 5 = .ok (.land, 1)) ∧ (decode cX5_leads 6 = .ok (.lconst 0, 1)) ∧ (decode cX5_leads 7 = .ok (.lcmp, 1)) ∧ (decode cX5_leads 8 = .ok (.ifCond .ne 20, 3)) ∧ (decode cX5_leads 11 = .ok (.aload_n 0, 1)) ∧ (decode cX5_leads 12 = .ok (.getfield 27, 3)) ∧ (decode cX5_leads 15 = .ok (.iload_n 1, 1)) ∧ (decode cX5_leads 16 = .ok (.iaload, 1)) := by decide +kernel
theorem dX5_leads_0 : decode cX5_leads 0 = .ok (.lload 4, 2) := qd1_104.1
theorem dX5_leads_2 : decode cX5_leads 2 = .ok (.iload_n 2, 1) := qd1_104.2.1
theorem dX5_leads_3 : decode cX5_leads 3 = .ok (.lshr, 1) := qd1_104.2.2.1
theorem dX5_leads_4 : decode cX5_leads 4 = .ok (.lconst 1, 1) := qd1_104.2.2.2.1
theorem dX5_leads_5 : decode cX5_leads 5 = .ok (.land, 1) := qd1_104.2.2.2.2.1
theorem dX5_leads_6 : decode cX5_leads 6 = .ok (.lconst 0, 1) := qd1_104.2.2.2.2.2.1
theorem dX5_leads_7 : decode cX5_leads 7 = .ok (.lcmp, 1) := qd1_104.2.2.2.2.2.2.1
theorem dX5_leads_8 : decode cX5_leads 8 = .ok (.ifCond .ne 20, 3) := qd1_104.2.2.2.2.2.2.2.1
theorem dX5_leads_11 : decode cX5_leads 11 = .ok (.aload_n 0, 1) := qd1_104.2.2.2.2.2.2.2.2.1
theorem dX5_leads_12 : decode cX5_leads 12 = .ok (.getfield 27, 3) := qd1_104.2.2.2.2.2.2.2.2.2.1
theorem dX5_leads_15 : decode cX5_leads 15 = .ok (.iload_n 1, 1) := qd1_104.2.2.2.2.2.2.2.2.2.2.1
theorem dX5_leads_16 : decode cX5_leads 16 = .ok (.iaload, 1) := qd1_104.2.2.2.2.2.2.2.2.2.2.2
theorem qd1_105 : (decode cX5_leads 17 = .ok (.iload_n 3, 1)) ∧ (decode cX5_leads 18 = .ok (.aload_n 0, 1)) ∧ (decode cX5_leads 19 = .ok (.getfield 27, 3)) ∧ (decode cX5_leads 22 = .ok (.iload_n 2, 1)) ∧ (decode cX5_leads 23 = .ok (.iaload, 1)) ∧ (decode cX5_leads 24 = .ok (.iadd, 1)) ∧ (decode cX5_leads 25 = .ok (.if_icmp .eq 5, 3)) ∧ (decode cX5_leads 28 = .ok (.iconst 0, 1)) ∧ (decode cX5_leads 29 = .ok (.ireturn, 1)) ∧ (decode cX5_leads 30 = .ok (.iload_n 3, 1)) ∧ (decode cX5_leads 31 = .ok (.ifCond .gt 13, 3)) ∧ (decode cX5_leads 34 = .ok (.aload_n 0, 1)) := by decide +kernel
theorem dX5_leads_17 : decode cX5_leads 17 = .ok (.iload_n 3, 1) := qd1_105.1
theorem dX5_leads_18 : decode cX5_leads 18 = .ok (.aload_n 0, 1) := qd1_105.2.1
theorem dX5_leads_19 : decode cX5_leads 19 = .ok (.getfield 27, 3) := qd1_105.2.2.1
theorem dX5_leads_22 : decode cX5_leads 22 = .ok (.iload_n 2, 1) := qd1_105.2.2.2.1
theorem dX5_leads_23 : decode cX5_leads 23 = .ok (.iaload, 1) := qd1_105.2.2.2.2.1
theorem dX5_leads_24 : decode cX5_leads 24 = .ok (.iadd, 1) := qd1_105.2.2.2.2.2.1
theorem dX5_leads_25 : decode cX5_leads 25 = .ok (.if_icmp .eq 5, 3) := qd1_105.2.2.2.2.2.2.1
theorem dX5_leads_28 : decode cX5_leads 28 = .ok (.iconst 0, 1) := qd1_105.2.2.2.2.2.2.2.1
theorem dX5_leads_29 : decode cX5_leads 29 = .ok (.ireturn, 1) := qd1_105.2.2.2.2.2.2.2.2.1
theorem dX5_leads_30 : decode cX5_leads 30 = .ok (.iload_n 3, 1) := qd1_105.2.2.2.2.2.2.2.2.2.1
theorem dX5_leads_31 : decode cX5_leads 31 = .ok (.ifCond .gt 13, 3) := qd1_105.2.2.2.2.2.2.2.2.2.2.1
theorem dX5_leads_34 : decode cX5_leads 34 = .ok (.aload_n 0, 1) := qd1_105.2.2.2.2.2.2.2.2.2.2.2
theorem qd1_106 : (decode cX5_leads 35 = .ok (.iload_n 2, 1)) ∧ (decode cX5_leads 36 = .ok (.lload 4, 2)) ∧ (decode cX5_leads 38 = .ok (.invokevirtual 105, 3)) ∧ (decode cX5_leads 41 = .ok (.ifCond .eq 7, 3)) ∧ (decode cX5_leads 44 = .ok (.iconst 1, 1)) ∧ (decode cX5_leads 45 = .ok (.goto 4, 3)) ∧ (decode cX5_leads 48 = .ok (.iconst 0, 1)) ∧ (decode cX5_leads 49 = .ok (.ireturn, 1)) := by decide +kernel
theorem dX5_leads_35 : decode cX5_leads 35 = .ok (.iload_n 2, 1) := qd1_106.1
theorem dX5_leads_36 : decode cX5_leads 36 = .ok (.lload 4, 2) := qd1_106.2.1
theorem dX5_leads_38 : decode cX5_leads 38 = .ok (.invokevirtual 105, 3) := qd1_106.2.2.1
theorem dX5_leads_41 : decode cX5_leads 41 = .ok (.ifCond .eq 7, 3) := qd1_106.2.2.2.1
theorem dX5_leads_44 : decode cX5_leads 44 = .ok (.iconst 1, 1) := qd1_106.2.2.2.2.1
theorem dX5_leads_45 : decode cX5_leads 45 = .ok (.goto 4, 3) := qd1_106.2.2.2.2.2.1
theorem dX5_leads_48 : decode cX5_leads 48 = .ok (.iconst 0, 1) := qd1_106.2.2.2.2.2.2.1
theorem dX5_leads_49 : decode cX5_leads 49 = .ok (.ireturn, 1) := qd1_106.2.2.2.2.2.2.2
theorem qd1_107 : (decode cX5_arrives 0 = .ok (.aload_n 0, 1)) ∧ (decode cX5_arrives 1 = .ok (.lload_n 2, 1)) ∧ (decode cX5_arrives 2 = .ok (.lconst 1, 1)) ∧ (decode cX5_arrives 3 = .ok (.iload_n 1, 1)) ∧ (decode cX5_arrives 4 = .ok (.lshl, 1)) ∧ (decode cX5_arrives 5 = .ok (.lor, 1)) ∧ (decode cX5_arrives 6 = .ok (.putfield 109, 3)) ∧ (decode cX5_arrives 9 = .ok (.aload_n 0, 1)) ∧ (decode cX5_arrives 10 = .ok (.getfield 36, 3)) ∧ (decode cX5_arrives 13 = .ok (.iconst 0, 1)) ∧ (decode cX5_arrives 14 = .ok (.iload_n 1, 1)) ∧ (decode cX5_arrives 15 = .ok (.iastore, 1)) := by decide +kernel
theorem dX5_arrives_0 : decode cX5_arrives 0 = .ok (.aload_n 0, 1) := qd1_107.1
theorem dX5_arrives_1 : decode cX5_arrives 1 = .ok (.lload_n 2, 1) := qd1_107.2.1
theorem dX5_arrives_2 : decode cX5_arrives 2 = .ok (.lconst 1, 1) := qd1_107.2.2.1
theorem dX5_arrives_3 : decode cX5_arrives 3 = .ok (.iload_n 1, 1) := qd1_107.2.2.2.1
theorem dX5_arrives_4 : decode cX5_arrives 4 = .ok (.lshl, 1) := qd1_107.2.2.2.2.1
theorem dX5_arrives_5 : decode cX5_arrives 5 = .ok (.lor, 1) := qd1_107.2.2.2.2.2.1
theorem dX5_arrives_6 : decode cX5_arrives 6 = .ok (.putfield 109, 3) := qd1_107.2.2.2.2.2.2.1
theorem dX5_arrives_9 : decode cX5_arrives 9 = .ok (.aload_n 0, 1) := qd1_107.2.2.2.2.2.2.2.1
theorem dX5_arrives_10 : decode cX5_arrives 10 = .ok (.getfield 36, 3) := qd1_107.2.2.2.2.2.2.2.2.1
theorem dX5_arrives_13 : decode cX5_arrives 13 = .ok (.iconst 0, 1) := qd1_107.2.2.2.2.2.2.2.2.2.1
theorem dX5_arrives_14 : decode cX5_arrives 14 = .ok (.iload_n 1, 1) := qd1_107.2.2.2.2.2.2.2.2.2.2.1
theorem dX5_arrives_15 : decode cX5_arrives 15 = .ok (.iastore, 1) := qd1_107.2.2.2.2.2.2.2.2.2.2.2
theorem qd1_108 : (decode cX5_arrives 16 = .ok (.aload_n 0, 1)) ∧ (decode cX5_arrives 17 = .ok (.iconst 1, 1)) ∧ (decode cX5_arrives 18 = .ok (.putfield 113, 3)) ∧ (decode cX5_arrives 21 = .ok (.iconst 0, 1)) ∧ (decode cX5_arrives 22 = .ok (.istore 4, 2)) ∧ (decode cX5_arrives 24 = .ok (.iload 4, 2)) ∧ (decode cX5_arrives 26 = .ok (.bipush 36, 2)) ∧ (decode cX5_arrives 28 = .ok (.if_icmp .ge 138, 3)) ∧ (decode cX5_arrives 31 = .ok (.aload_n 0, 1)) ∧ (decode cX5_arrives 32 = .ok (.getfield 113, 3)) ∧ (decode cX5_arrives 35 = .ok (.ifCond .le 131, 3)) ∧ (decode cX5_arrives 38 = .ok (.aload_n 0, 1)) := by decide +kernel
theorem dX5_arrives_16 : decode cX5_arrives 16 = .ok (.aload_n 0, 1) := qd1_108.1
theorem dX5_arrives_17 : decode cX5_arrives 17 = .ok (.iconst 1, 1) := qd1_108.2.1
theorem dX5_arrives_18 : decode cX5_arrives 18 = .ok (.putfield 113, 3) := qd1_108.2.2.1
theorem dX5_arrives_21 : decode cX5_arrives 21 = .ok (.iconst 0, 1) := qd1_108.2.2.2.1
theorem dX5_arrives_22 : decode cX5_arrives 22 = .ok (.istore 4, 2) := qd1_108.2.2.2.2.1
theorem dX5_arrives_24 : decode cX5_arrives 24 = .ok (.iload 4, 2) := qd1_108.2.2.2.2.2.1
theorem dX5_arrives_26 : decode cX5_arrives 26 = .ok (.bipush 36, 2) := qd1_108.2.2.2.2.2.2.1
theorem dX5_arrives_28 : decode cX5_arrives 28 = .ok (.if_icmp .ge 138, 3) := qd1_108.2.2.2.2.2.2.2.1
theorem dX5_arrives_31 : decode cX5_arrives 31 = .ok (.aload_n 0, 1) := qd1_108.2.2.2.2.2.2.2.2.1
theorem dX5_arrives_32 : decode cX5_arrives 32 = .ok (.getfield 113, 3) := qd1_108.2.2.2.2.2.2.2.2.2.1
theorem dX5_arrives_35 : decode cX5_arrives 35 = .ok (.ifCond .le 131, 3) := qd1_108.2.2.2.2.2.2.2.2.2.2.1
theorem dX5_arrives_38 : decode cX5_arrives 38 = .ok (.aload_n 0, 1) := qd1_108.2.2.2.2.2.2.2.2.2.2.2
theorem qd1_109 : (decode cX5_arrives 39 = .ok (.dup, 1)) ∧ (decode cX5_arrives 40 = .ok (.getfield 113, 3)) ∧ (decode cX5_arrives 43 = .ok (.iconst 1, 1)) ∧ (decode cX5_arrives 44 = .ok (.isub, 1)) ∧ (decode cX5_arrives 45 = .ok (.putfield 113, 3)) ∧ (decode cX5_arrives 48 = .ok (.aload_n 0, 1)) ∧ (decode cX5_arrives 49 = .ok (.getfield 36, 3)) ∧ (decode cX5_arrives 52 = .ok (.aload_n 0, 1)) ∧ (decode cX5_arrives 53 = .ok (.getfield 113, 3)) ∧ (decode cX5_arrives 56 = .ok (.iaload, 1)) ∧ (decode cX5_arrives 57 = .ok (.istore 5, 2)) ∧ (decode cX5_arrives 59 = .ok (.iload 5, 2)) := by decide +kernel
theorem dX5_arrives_39 : decode cX5_arrives 39 = .ok (.dup, 1) := qd1_109.1
theorem dX5_arrives_40 : decode cX5_arrives 40 = .ok (.getfield 113, 3) := qd1_109.2.1
theorem dX5_arrives_43 : decode cX5_arrives 43 = .ok (.iconst 1, 1) := qd1_109.2.2.1
theorem dX5_arrives_44 : decode cX5_arrives 44 = .ok (.isub, 1) := qd1_109.2.2.2.1
theorem dX5_arrives_45 : decode cX5_arrives 45 = .ok (.putfield 113, 3) := qd1_109.2.2.2.2.1
theorem dX5_arrives_48 : decode cX5_arrives 48 = .ok (.aload_n 0, 1) := qd1_109.2.2.2.2.2.1
theorem dX5_arrives_49 : decode cX5_arrives 49 = .ok (.getfield 36, 3) := qd1_109.2.2.2.2.2.2.1
theorem dX5_arrives_52 : decode cX5_arrives 52 = .ok (.aload_n 0, 1) := qd1_109.2.2.2.2.2.2.2.1
theorem dX5_arrives_53 : decode cX5_arrives 53 = .ok (.getfield 113, 3) := qd1_109.2.2.2.2.2.2.2.2.1
theorem dX5_arrives_56 : decode cX5_arrives 56 = .ok (.iaload, 1) := qd1_109.2.2.2.2.2.2.2.2.2.1
theorem dX5_arrives_57 : decode cX5_arrives 57 = .ok (.istore 5, 2) := qd1_109.2.2.2.2.2.2.2.2.2.2.1
theorem dX5_arrives_59 : decode cX5_arrives 59 = .ok (.iload 5, 2) := qd1_109.2.2.2.2.2.2.2.2.2.2.2
theorem qd1_110 : (decode cX5_arrives 61 = .ok (.iconst 3, 1)) ∧ (decode cX5_arrives 62 = .ok (.idiv, 1)) ∧ (decode cX5_arrives 63 = .ok (.istore 6, 2)) ∧ (decode cX5_arrives 65 = .ok (.iload 6, 2)) ∧ (decode cX5_arrives 67 = .ok (.aload_n 0, 1)) ∧ (decode cX5_arrives 68 = .ok (.getfield 39, 3)) ∧ (decode cX5_arrives 71 = .ok (.if_icmp .ne 5, 3)) ∧ (decode cX5_arrives 74 = .ok (.iconst 1, 1)) ∧ (decode cX5_arrives 75 = .ok (.ireturn, 1)) ∧ (decode cX5_arrives 76 = .ok (.iconst 0, 1)) ∧ (decode cX5_arrives 77 = .ok (.istore 7, 2)) ∧ (decode cX5_arrives 79 = .ok (.iload 7, 2)) := by decide +kernel
theorem dX5_arrives_61 : decode cX5_arrives 61 = .ok (.iconst 3, 1) := qd1_110.1
theorem dX5_arrives_62 : decode cX5_arrives 62 = .ok (.idiv, 1) := qd1_110.2.1
theorem dX5_arrives_63 : decode cX5_arrives 63 = .ok (.istore 6, 2) := qd1_110.2.2.1
theorem dX5_arrives_65 : decode cX5_arrives 65 = .ok (.iload 6, 2) := qd1_110.2.2.2.1
theorem dX5_arrives_67 : decode cX5_arrives 67 = .ok (.aload_n 0, 1) := qd1_110.2.2.2.2.1
theorem dX5_arrives_68 : decode cX5_arrives 68 = .ok (.getfield 39, 3) := qd1_110.2.2.2.2.2.1
theorem dX5_arrives_71 : decode cX5_arrives 71 = .ok (.if_icmp .ne 5, 3) := qd1_110.2.2.2.2.2.2.1
theorem dX5_arrives_74 : decode cX5_arrives 74 = .ok (.iconst 1, 1) := qd1_110.2.2.2.2.2.2.2.1
theorem dX5_arrives_75 : decode cX5_arrives 75 = .ok (.ireturn, 1) := qd1_110.2.2.2.2.2.2.2.2.1
theorem dX5_arrives_76 : decode cX5_arrives 76 = .ok (.iconst 0, 1) := qd1_110.2.2.2.2.2.2.2.2.2.1
theorem dX5_arrives_77 : decode cX5_arrives 77 = .ok (.istore 7, 2) := qd1_110.2.2.2.2.2.2.2.2.2.2.1
theorem dX5_arrives_79 : decode cX5_arrives 79 = .ok (.iload 7, 2) := qd1_110.2.2.2.2.2.2.2.2.2.2.2
theorem qd1_111 : (decode cX5_arrives 81 = .ok (.iconst 3, 1)) ∧ (decode cX5_arrives 82 = .ok (.if_icmp .ge 29, 3)) ∧ (decode cX5_arrives 85 = .ok (.aload_n 0, 1)) ∧ (decode cX5_arrives 86 = .ok (.iload 5, 2)) ∧ (decode cX5_arrives 88 = .ok (.iload 6, 2)) ∧ (decode cX5_arrives 90 = .ok (.iconst 3, 1)) ∧ (decode cX5_arrives 91 = .ok (.imul, 1)) ∧ (decode cX5_arrives 92 = .ok (.iload 7, 2)) ∧ (decode cX5_arrives 94 = .ok (.iadd, 1)) ∧ (decode cX5_arrives 95 = .ok (.aload_n 0, 1)) ∧ (decode cX5_arrives 96 = .ok (.getfield 24, 3)) ∧ (decode cX5_arrives 99 = .ok (.iload 6, 2)) := by decide +kernel
theorem dX5_arrives_81 : decode cX5_arrives 81 = .ok (.iconst 3, 1) := qd1_111.1
theorem dX5_arrives_82 : decode cX5_arrives 82 = .ok (.if_icmp .ge 29, 3) := qd1_111.2.1
theorem dX5_arrives_85 : decode cX5_arrives 85 = .ok (.aload_n 0, 1) := qd1_111.2.2.1
theorem dX5_arrives_86 : decode cX5_arrives 86 = .ok (.iload 5, 2) := qd1_111.2.2.2.1
theorem dX5_arrives_88 : decode cX5_arrives 88 = .ok (.iload 6, 2) := qd1_111.2.2.2.2.1
theorem dX5_arrives_90 : decode cX5_arrives 90 = .ok (.iconst 3, 1) := qd1_111.2.2.2.2.2.1
theorem dX5_arrives_91 : decode cX5_arrives 91 = .ok (.imul, 1) := qd1_111.2.2.2.2.2.2.1
theorem dX5_arrives_92 : decode cX5_arrives 92 = .ok (.iload 7, 2) := qd1_111.2.2.2.2.2.2.2.1
theorem dX5_arrives_94 : decode cX5_arrives 94 = .ok (.iadd, 1) := qd1_111.2.2.2.2.2.2.2.2.1
theorem dX5_arrives_95 : decode cX5_arrives 95 = .ok (.aload_n 0, 1) := qd1_111.2.2.2.2.2.2.2.2.2.1
theorem dX5_arrives_96 : decode cX5_arrives 96 = .ok (.getfield 24, 3) := qd1_111.2.2.2.2.2.2.2.2.2.2.1
theorem dX5_arrives_99 : decode cX5_arrives 99 = .ok (.iload 6, 2) := qd1_111.2.2.2.2.2.2.2.2.2.2.2
theorem qd1_112 : (decode cX5_arrives 101 = .ok (.iaload, 1)) ∧ (decode cX5_arrives 102 = .ok (.invokevirtual 116, 3)) ∧ (decode cX5_arrives 105 = .ok (.iinc 7 1, 3)) ∧ (decode cX5_arrives 108 = .ok (.goto (-29), 3)) ∧ (decode cX5_arrives 111 = .ok (.iconst 0, 1)) ∧ (decode cX5_arrives 112 = .ok (.istore 7, 2)) ∧ (decode cX5_arrives 114 = .ok (.iload 7, 2)) ∧ (decode cX5_arrives 116 = .ok (.aload_n 0, 1)) ∧ (decode cX5_arrives 117 = .ok (.getfield 52, 3)) ∧ (decode cX5_arrives 120 = .ok (.if_icmp .ge 40, 3)) ∧ (decode cX5_arrives 123 = .ok (.aload_n 0, 1)) ∧ (decode cX5_arrives 124 = .ok (.iload 7, 2)) := by decide +kernel
theorem dX5_arrives_101 : decode cX5_arrives 101 = .ok (.iaload, 1) := qd1_112.1
theorem dX5_arrives_102 : decode cX5_arrives 102 = .ok (.invokevirtual 116, 3) := qd1_112.2.1
theorem dX5_arrives_105 : decode cX5_arrives 105 = .ok (.iinc 7 1, 3) := qd1_112.2.2.1
theorem dX5_arrives_108 : decode cX5_arrives 108 = .ok (.goto (-29), 3) := qd1_112.2.2.2.1
theorem dX5_arrives_111 : decode cX5_arrives 111 = .ok (.iconst 0, 1) := qd1_112.2.2.2.2.1
theorem dX5_arrives_112 : decode cX5_arrives 112 = .ok (.istore 7, 2) := qd1_112.2.2.2.2.2.1
theorem dX5_arrives_114 : decode cX5_arrives 114 = .ok (.iload 7, 2) := qd1_112.2.2.2.2.2.2.1
theorem dX5_arrives_116 : decode cX5_arrives 116 = .ok (.aload_n 0, 1) := qd1_112.2.2.2.2.2.2.2.1
theorem dX5_arrives_117 : decode cX5_arrives 117 = .ok (.getfield 52, 3) := qd1_112.2.2.2.2.2.2.2.2.1
theorem dX5_arrives_120 : decode cX5_arrives 120 = .ok (.if_icmp .ge 40, 3) := qd1_112.2.2.2.2.2.2.2.2.2.1
theorem dX5_arrives_123 : decode cX5_arrives 123 = .ok (.aload_n 0, 1) := qd1_112.2.2.2.2.2.2.2.2.2.2.1
theorem dX5_arrives_124 : decode cX5_arrives 124 = .ok (.iload 7, 2) := qd1_112.2.2.2.2.2.2.2.2.2.2.2
theorem qd1_113 : (decode cX5_arrives 126 = .ok (.iload 5, 2)) ∧ (decode cX5_arrives 128 = .ok (.invokevirtual 102, 3)) ∧ (decode cX5_arrives 131 = .ok (.istore 8, 2)) ∧ (decode cX5_arrives 133 = .ok (.iload 8, 2)) ∧ (decode cX5_arrives 135 = .ok (.iconst (-1), 1)) ∧ (decode cX5_arrives 136 = .ok (.if_icmp .eq 18, 3)) ∧ (decode cX5_arrives 139 = .ok (.aload_n 0, 1)) ∧ (decode cX5_arrives 140 = .ok (.iload 5, 2)) ∧ (decode cX5_arrives 142 = .ok (.iload 8, 2)) ∧ (decode cX5_arrives 144 = .ok (.aload_n 0, 1)) ∧ (decode cX5_arrives 145 = .ok (.getfield 18, 3)) ∧ (decode cX5_arrives 148 = .ok (.iload 7, 2)) := by decide +kernel
theorem dX5_arrives_126 : decode cX5_arrives 126 = .ok (.iload 5, 2) := qd1_113.1
theorem dX5_arrives_128 : decode cX5_arrives 128 = .ok (.invokevirtual 102, 3) := qd1_113.2.1
theorem dX5_arrives_131 : decode cX5_arrives 131 = .ok (.istore 8, 2) := qd1_113.2.2.1
theorem dX5_arrives_133 : decode cX5_arrives 133 = .ok (.iload 8, 2) := qd1_113.2.2.2.1
theorem dX5_arrives_135 : decode cX5_arrives 135 = .ok (.iconst (-1), 1) := qd1_113.2.2.2.2.1
theorem dX5_arrives_136 : decode cX5_arrives 136 = .ok (.if_icmp .eq 18, 3) := qd1_113.2.2.2.2.2.1
theorem dX5_arrives_139 : decode cX5_arrives 139 = .ok (.aload_n 0, 1) := qd1_113.2.2.2.2.2.2.1
theorem dX5_arrives_140 : decode cX5_arrives 140 = .ok (.iload 5, 2) := qd1_113.2.2.2.2.2.2.2.1
theorem dX5_arrives_142 : decode cX5_arrives 142 = .ok (.iload 8, 2) := qd1_113.2.2.2.2.2.2.2.2.1
theorem dX5_arrives_144 : decode cX5_arrives 144 = .ok (.aload_n 0, 1) := qd1_113.2.2.2.2.2.2.2.2.2.1
theorem dX5_arrives_145 : decode cX5_arrives 145 = .ok (.getfield 18, 3) := qd1_113.2.2.2.2.2.2.2.2.2.2.1
theorem dX5_arrives_148 : decode cX5_arrives 148 = .ok (.iload 7, 2) := qd1_113.2.2.2.2.2.2.2.2.2.2.2
theorem qd1_114 : (decode cX5_arrives 150 = .ok (.iaload, 1)) ∧ (decode cX5_arrives 151 = .ok (.invokevirtual 116, 3)) ∧ (decode cX5_arrives 154 = .ok (.iinc 7 1, 3)) ∧ (decode cX5_arrives 157 = .ok (.goto (-43), 3)) ∧ (decode cX5_arrives 160 = .ok (.iinc 4 1, 3)) ∧ (decode cX5_arrives 163 = .ok (.goto (-139), 3)) ∧ (decode cX5_arrives 166 = .ok (.iconst 0, 1)) ∧ (decode cX5_arrives 167 = .ok (.ireturn, 1)) := by decide +kernel
theorem dX5_arrives_150 : decode cX5_arrives 150 = .ok (.iaload, 1) := qd1_114.1
theorem dX5_arrives_151 : decode cX5_arrives 151 = .ok (.invokevirtual 116, 3) := qd1_114.2.1
theorem dX5_arrives_154 : decode cX5_arrives 154 = .ok (.iinc 7 1, 3) := qd1_114.2.2.1
theorem dX5_arrives_157 : decode cX5_arrives 157 = .ok (.goto (-43), 3) := qd1_114.2.2.2.1
theorem dX5_arrives_160 : decode cX5_arrives 160 = .ok (.iinc 4 1, 3) := qd1_114.2.2.2.2.1
theorem dX5_arrives_163 : decode cX5_arrives 163 = .ok (.goto (-139), 3) := qd1_114.2.2.2.2.2.1
theorem dX5_arrives_166 : decode cX5_arrives 166 = .ok (.iconst 0, 1) := qd1_114.2.2.2.2.2.2.1
theorem dX5_arrives_167 : decode cX5_arrives 167 = .ok (.ireturn, 1) := qd1_114.2.2.2.2.2.2.2
theorem qd1_115 : (decode cX5_openIfCheapest 0 = .ok (.aload_n 0, 1)) ∧ (decode cX5_openIfCheapest 1 = .ok (.getfield 109, 3)) ∧ (decode cX5_openIfCheapest 4 = .ok (.iload_n 2, 1)) ∧ (decode cX5_openIfCheapest 5 = .ok (.lshr, 1)) ∧ (decode cX5_openIfCheapest 6 = .ok (.lconst 1, 1)) ∧ (decode cX5_openIfCheapest 7 = .ok (.land, 1)) ∧ (decode cX5_openIfCheapest 8 = .ok (.lconst 0, 1)) ∧ (decode cX5_openIfCheapest 9 = .ok (.lcmp, 1)) ∧ (decode cX5_openIfCheapest 10 = .ok (.ifCond .ne 16, 3)) ∧ (decode cX5_openIfCheapest 13 = .ok (.aload_n 0, 1)) ∧ (decode cX5_openIfCheapest 14 = .ok (.getfield 113, 3)) ∧ (decode cX5_openIfCheapest 17 = .ok (.bipush 36, 2)) := by decide +kernel
theorem dX5_openIfCheapest_0 : decode cX5_openIfCheapest 0 = .ok (.aload_n 0, 1) := qd1_115.1
theorem dX5_openIfCheapest_1 : decode cX5_openIfCheapest 1 = .ok (.getfield 109, 3) := qd1_115.2.1
theorem dX5_openIfCheapest_4 : decode cX5_openIfCheapest 4 = .ok (.iload_n 2, 1) := qd1_115.2.2.1
theorem dX5_openIfCheapest_5 : decode cX5_openIfCheapest 5 = .ok (.lshr, 1) := qd1_115.2.2.2.1
theorem dX5_openIfCheapest_6 : decode cX5_openIfCheapest 6 = .ok (.lconst 1, 1) := qd1_115.2.2.2.2.1
theorem dX5_openIfCheapest_7 : decode cX5_openIfCheapest 7 = .ok (.land, 1) := qd1_115.2.2.2.2.2.1
theorem dX5_openIfCheapest_8 : decode cX5_openIfCheapest 8 = .ok (.lconst 0, 1) := qd1_115.2.2.2.2.2.2.1
theorem dX5_openIfCheapest_9 : decode cX5_openIfCheapest 9 = .ok (.lcmp, 1) := qd1_115.2.2.2.2.2.2.2.1
theorem dX5_openIfCheapest_10 : decode cX5_openIfCheapest 10 = .ok (.ifCond .ne 16, 3) := qd1_115.2.2.2.2.2.2.2.2.1
theorem dX5_openIfCheapest_13 : decode cX5_openIfCheapest 13 = .ok (.aload_n 0, 1) := qd1_115.2.2.2.2.2.2.2.2.2.1
theorem dX5_openIfCheapest_14 : decode cX5_openIfCheapest 14 = .ok (.getfield 113, 3) := qd1_115.2.2.2.2.2.2.2.2.2.2.1
theorem dX5_openIfCheapest_17 : decode cX5_openIfCheapest 17 = .ok (.bipush 36, 2) := qd1_115.2.2.2.2.2.2.2.2.2.2.2
theorem qd1_116 : (decode cX5_openIfCheapest 19 = .ok (.if_icmp .ge 7, 3)) ∧ (decode cX5_openIfCheapest 22 = .ok (.iconst 1, 1)) ∧ (decode cX5_openIfCheapest 23 = .ok (.goto 4, 3)) ∧ (decode cX5_openIfCheapest 26 = .ok (.iconst 0, 1)) ∧ (decode cX5_openIfCheapest 27 = .ok (.istore 4, 2)) ∧ (decode cX5_openIfCheapest 29 = .ok (.iload 4, 2)) ∧ (decode cX5_openIfCheapest 31 = .ok (.ifCond .eq 52, 3)) ∧ (decode cX5_openIfCheapest 34 = .ok (.aload_n 0, 1)) ∧ (decode cX5_openIfCheapest 35 = .ok (.getfield 27, 3)) ∧ (decode cX5_openIfCheapest 38 = .ok (.iload_n 1, 1)) ∧ (decode cX5_openIfCheapest 39 = .ok (.iaload, 1)) ∧ (decode cX5_openIfCheapest 40 = .ok (.iload_n 3, 1)) := by decide +kernel
theorem dX5_openIfCheapest_19 : decode cX5_openIfCheapest 19 = .ok (.if_icmp .ge 7, 3) := qd1_116.1
theorem dX5_openIfCheapest_22 : decode cX5_openIfCheapest 22 = .ok (.iconst 1, 1) := qd1_116.2.1
theorem dX5_openIfCheapest_23 : decode cX5_openIfCheapest 23 = .ok (.goto 4, 3) := qd1_116.2.2.1
theorem dX5_openIfCheapest_26 : decode cX5_openIfCheapest 26 = .ok (.iconst 0, 1) := qd1_116.2.2.2.1
theorem dX5_openIfCheapest_27 : decode cX5_openIfCheapest 27 = .ok (.istore 4, 2) := qd1_116.2.2.2.2.1
theorem dX5_openIfCheapest_29 : decode cX5_openIfCheapest 29 = .ok (.iload 4, 2) := qd1_116.2.2.2.2.2.1
theorem dX5_openIfCheapest_31 : decode cX5_openIfCheapest 31 = .ok (.ifCond .eq 52, 3) := qd1_116.2.2.2.2.2.2.1
theorem dX5_openIfCheapest_34 : decode cX5_openIfCheapest 34 = .ok (.aload_n 0, 1) := qd1_116.2.2.2.2.2.2.2.1
theorem dX5_openIfCheapest_35 : decode cX5_openIfCheapest 35 = .ok (.getfield 27, 3) := qd1_116.2.2.2.2.2.2.2.2.1
theorem dX5_openIfCheapest_38 : decode cX5_openIfCheapest 38 = .ok (.iload_n 1, 1) := qd1_116.2.2.2.2.2.2.2.2.2.1
theorem dX5_openIfCheapest_39 : decode cX5_openIfCheapest 39 = .ok (.iaload, 1) := qd1_116.2.2.2.2.2.2.2.2.2.2.1
theorem dX5_openIfCheapest_40 : decode cX5_openIfCheapest 40 = .ok (.iload_n 3, 1) := qd1_116.2.2.2.2.2.2.2.2.2.2.2
theorem qd1_117 : (decode cX5_openIfCheapest 41 = .ok (.aload_n 0, 1)) ∧ (decode cX5_openIfCheapest 42 = .ok (.getfield 27, 3)) ∧ (decode cX5_openIfCheapest 45 = .ok (.iload_n 2, 1)) ∧ (decode cX5_openIfCheapest 46 = .ok (.iaload, 1)) ∧ (decode cX5_openIfCheapest 47 = .ok (.iadd, 1)) ∧ (decode cX5_openIfCheapest 48 = .ok (.if_icmp .ne 35, 3)) ∧ (decode cX5_openIfCheapest 51 = .ok (.aload_n 0, 1)) ∧ (decode cX5_openIfCheapest 52 = .ok (.dup, 1)) ∧ (decode cX5_openIfCheapest 53 = .ok (.getfield 109, 3)) ∧ (decode cX5_openIfCheapest 56 = .ok (.lconst 1, 1)) ∧ (decode cX5_openIfCheapest 57 = .ok (.iload_n 2, 1)) ∧ (decode cX5_openIfCheapest 58 = .ok (.lshl, 1)) := by decide +kernel
theorem dX5_openIfCheapest_41 : decode cX5_openIfCheapest 41 = .ok (.aload_n 0, 1) := qd1_117.1
theorem dX5_openIfCheapest_42 : decode cX5_openIfCheapest 42 = .ok (.getfield 27, 3) := qd1_117.2.1
theorem dX5_openIfCheapest_45 : decode cX5_openIfCheapest 45 = .ok (.iload_n 2, 1) := qd1_117.2.2.1
theorem dX5_openIfCheapest_46 : decode cX5_openIfCheapest 46 = .ok (.iaload, 1) := qd1_117.2.2.2.1
theorem dX5_openIfCheapest_47 : decode cX5_openIfCheapest 47 = .ok (.iadd, 1) := qd1_117.2.2.2.2.1
theorem dX5_openIfCheapest_48 : decode cX5_openIfCheapest 48 = .ok (.if_icmp .ne 35, 3) := qd1_117.2.2.2.2.2.1
theorem dX5_openIfCheapest_51 : decode cX5_openIfCheapest 51 = .ok (.aload_n 0, 1) := qd1_117.2.2.2.2.2.2.1
theorem dX5_openIfCheapest_52 : decode cX5_openIfCheapest 52 = .ok (.dup, 1) := qd1_117.2.2.2.2.2.2.2.1
theorem dX5_openIfCheapest_53 : decode cX5_openIfCheapest 53 = .ok (.getfield 109, 3) := qd1_117.2.2.2.2.2.2.2.2.1
theorem dX5_openIfCheapest_56 : decode cX5_openIfCheapest 56 = .ok (.lconst 1, 1) := qd1_117.2.2.2.2.2.2.2.2.2.1
theorem dX5_openIfCheapest_57 : decode cX5_openIfCheapest 57 = .ok (.iload_n 2, 1) := qd1_117.2.2.2.2.2.2.2.2.2.2.1
theorem dX5_openIfCheapest_58 : decode cX5_openIfCheapest 58 = .ok (.lshl, 1) := qd1_117.2.2.2.2.2.2.2.2.2.2.2
theorem qd1_118 : (decode cX5_openIfCheapest 59 = .ok (.lor, 1)) ∧ (decode cX5_openIfCheapest 60 = .ok (.putfield 109, 3)) ∧ (decode cX5_openIfCheapest 63 = .ok (.aload_n 0, 1)) ∧ (decode cX5_openIfCheapest 64 = .ok (.getfield 36, 3)) ∧ (decode cX5_openIfCheapest 67 = .ok (.aload_n 0, 1)) ∧ (decode cX5_openIfCheapest 68 = .ok (.getfield 113, 3)) ∧ (decode cX5_openIfCheapest 71 = .ok (.iload_n 2, 1)) ∧ (decode cX5_openIfCheapest 72 = .ok (.iastore, 1)) ∧ (decode cX5_openIfCheapest 73 = .ok (.aload_n 0, 1)) ∧ (decode cX5_openIfCheapest 74 = .ok (.dup, 1)) ∧ (decode cX5_openIfCheapest 75 = .ok (.getfield 113, 3)) ∧ (decode cX5_openIfCheapest 78 = .ok (.iconst 1, 1)) := by decide +kernel
theorem dX5_openIfCheapest_59 : decode cX5_openIfCheapest 59 = .ok (.lor, 1) := qd1_118.1
theorem dX5_openIfCheapest_60 : decode cX5_openIfCheapest 60 = .ok (.putfield 109, 3) := qd1_118.2.1
theorem dX5_openIfCheapest_63 : decode cX5_openIfCheapest 63 = .ok (.aload_n 0, 1) := qd1_118.2.2.1
theorem dX5_openIfCheapest_64 : decode cX5_openIfCheapest 64 = .ok (.getfield 36, 3) := qd1_118.2.2.2.1
theorem dX5_openIfCheapest_67 : decode cX5_openIfCheapest 67 = .ok (.aload_n 0, 1) := qd1_118.2.2.2.2.1
theorem dX5_openIfCheapest_68 : decode cX5_openIfCheapest 68 = .ok (.getfield 113, 3) := qd1_118.2.2.2.2.2.1
theorem dX5_openIfCheapest_71 : decode cX5_openIfCheapest 71 = .ok (.iload_n 2, 1) := qd1_118.2.2.2.2.2.2.1
theorem dX5_openIfCheapest_72 : decode cX5_openIfCheapest 72 = .ok (.iastore, 1) := qd1_118.2.2.2.2.2.2.2.1
theorem dX5_openIfCheapest_73 : decode cX5_openIfCheapest 73 = .ok (.aload_n 0, 1) := qd1_118.2.2.2.2.2.2.2.2.1
theorem dX5_openIfCheapest_74 : decode cX5_openIfCheapest 74 = .ok (.dup, 1) := qd1_118.2.2.2.2.2.2.2.2.2.1
theorem dX5_openIfCheapest_75 : decode cX5_openIfCheapest 75 = .ok (.getfield 113, 3) := qd1_118.2.2.2.2.2.2.2.2.2.2.1
theorem dX5_openIfCheapest_78 : decode cX5_openIfCheapest 78 = .ok (.iconst 1, 1) := qd1_118.2.2.2.2.2.2.2.2.2.2.2
theorem qd1_119 : (decode cX5_openIfCheapest 79 = .ok (.iadd, 1)) ∧ (decode cX5_openIfCheapest 80 = .ok (.putfield 113, 3)) ∧ (decode cX5_openIfCheapest 83 = .ok (.return_, 1)) := by decide +kernel
theorem dX5_openIfCheapest_79 : decode cX5_openIfCheapest 79 = .ok (.iadd, 1) := qd1_119.1
theorem dX5_openIfCheapest_80 : decode cX5_openIfCheapest 80 = .ok (.putfield 113, 3) := qd1_119.2.1
theorem dX5_openIfCheapest_83 : decode cX5_openIfCheapest 83 = .ok (.return_, 1) := qd1_119.2.2
theorem qd1_120 : (decode cX5_isChange 0 = .ok (.iload_n 1, 1)) ∧ (decode cX5_isChange 1 = .ok (.iconst 1, 1)) ∧ (decode cX5_isChange 2 = .ok (.aload_n 0, 1)) ∧ (decode cX5_isChange 3 = .ok (.getfield 79, 3)) ∧ (decode cX5_isChange 6 = .ok (.iconst 1, 1)) ∧ (decode cX5_isChange 7 = .ok (.isub, 1)) ∧ (decode cX5_isChange 8 = .ok (.invokestatic 120, 3)) ∧ (decode cX5_isChange 11 = .ok (.ifCond .eq 17, 3)) ∧ (decode cX5_isChange 14 = .ok (.aload_n 0, 1)) ∧ (decode cX5_isChange 15 = .ok (.getfield 30, 3)) ∧ (decode cX5_isChange 18 = .ok (.iload_n 1, 1)) ∧ (decode cX5_isChange 19 = .ok (.iaload, 1)) := by decide +kernel
theorem dX5_isChange_0 : decode cX5_isChange 0 = .ok (.iload_n 1, 1) := qd1_120.1
theorem dX5_isChange_1 : decode cX5_isChange 1 = .ok (.iconst 1, 1) := qd1_120.2.1
theorem dX5_isChange_2 : decode cX5_isChange 2 = .ok (.aload_n 0, 1) := qd1_120.2.2.1
theorem dX5_isChange_3 : decode cX5_isChange 3 = .ok (.getfield 79, 3) := qd1_120.2.2.2.1
theorem dX5_isChange_6 : decode cX5_isChange 6 = .ok (.iconst 1, 1) := qd1_120.2.2.2.2.1
theorem dX5_isChange_7 : decode cX5_isChange 7 = .ok (.isub, 1) := qd1_120.2.2.2.2.2.1
theorem dX5_isChange_8 : decode cX5_isChange 8 = .ok (.invokestatic 120, 3) := qd1_120.2.2.2.2.2.2.1
theorem dX5_isChange_11 : decode cX5_isChange 11 = .ok (.ifCond .eq 17, 3) := qd1_120.2.2.2.2.2.2.2.1
theorem dX5_isChange_14 : decode cX5_isChange 14 = .ok (.aload_n 0, 1) := qd1_120.2.2.2.2.2.2.2.2.1
theorem dX5_isChange_15 : decode cX5_isChange 15 = .ok (.getfield 30, 3) := qd1_120.2.2.2.2.2.2.2.2.2.1
theorem dX5_isChange_18 : decode cX5_isChange 18 = .ok (.iload_n 1, 1) := qd1_120.2.2.2.2.2.2.2.2.2.2.1
theorem dX5_isChange_19 : decode cX5_isChange 19 = .ok (.iaload, 1) := qd1_120.2.2.2.2.2.2.2.2.2.2.2
theorem qd1_121 : (decode cX5_isChange 20 = .ok (.iconst 3, 1)) ∧ (decode cX5_isChange 21 = .ok (.if_icmp .ge 7, 3)) ∧ (decode cX5_isChange 24 = .ok (.iconst 1, 1)) ∧ (decode cX5_isChange 25 = .ok (.goto 4, 3)) ∧ (decode cX5_isChange 28 = .ok (.iconst 0, 1)) ∧ (decode cX5_isChange 29 = .ok (.ireturn, 1)) := by decide +kernel
theorem dX5_isChange_20 : decode cX5_isChange 20 = .ok (.iconst 3, 1) := qd1_121.1
theorem dX5_isChange_21 : decode cX5_isChange 21 = .ok (.if_icmp .ge 7, 3) := qd1_121.2.1
theorem dX5_isChange_24 : decode cX5_isChange 24 = .ok (.iconst 1, 1) := qd1_121.2.2.1
theorem dX5_isChange_25 : decode cX5_isChange 25 = .ok (.goto 4, 3) := qd1_121.2.2.2.1
theorem dX5_isChange_28 : decode cX5_isChange 28 = .ok (.iconst 0, 1) := qd1_121.2.2.2.2.1
theorem dX5_isChange_29 : decode cX5_isChange 29 = .ok (.ireturn, 1) := qd1_121.2.2.2.2.2
theorem qd1_122 : (decode cX5_lineOn 0 = .ok (.iload_n 1, 1)) ∧ (decode cX5_lineOn 1 = .ok (.iconst 1, 1)) ∧ (decode cX5_lineOn 2 = .ok (.aload_n 0, 1)) ∧ (decode cX5_lineOn 3 = .ok (.getfield 79, 3)) ∧ (decode cX5_lineOn 6 = .ok (.iconst 1, 1)) ∧ (decode cX5_lineOn 7 = .ok (.isub, 1)) ∧ (decode cX5_lineOn 8 = .ok (.invokestatic 120, 3)) ∧ (decode cX5_lineOn 11 = .ok (.ifCond .eq 24, 3)) ∧ (decode cX5_lineOn 14 = .ok (.aload_n 0, 1)) ∧ (decode cX5_lineOn 15 = .ok (.getfield 30, 3)) ∧ (decode cX5_lineOn 18 = .ok (.iload_n 1, 1)) ∧ (decode cX5_lineOn 19 = .ok (.iaload, 1)) := by decide +kernel
theorem dX5_lineOn_0 : decode cX5_lineOn 0 = .ok (.iload_n 1, 1) := qd1_122.1
theorem dX5_lineOn_1 : decode cX5_lineOn 1 = .ok (.iconst 1, 1) := qd1_122.2.1
theorem dX5_lineOn_2 : decode cX5_lineOn 2 = .ok (.aload_n 0, 1) := qd1_122.2.2.1
theorem dX5_lineOn_3 : decode cX5_lineOn 3 = .ok (.getfield 79, 3) := qd1_122.2.2.2.1
theorem dX5_lineOn_6 : decode cX5_lineOn 6 = .ok (.iconst 1, 1) := qd1_122.2.2.2.2.1
theorem dX5_lineOn_7 : decode cX5_lineOn 7 = .ok (.isub, 1) := qd1_122.2.2.2.2.2.1
theorem dX5_lineOn_8 : decode cX5_lineOn 8 = .ok (.invokestatic 120, 3) := qd1_122.2.2.2.2.2.2.1
theorem dX5_lineOn_11 : decode cX5_lineOn 11 = .ok (.ifCond .eq 24, 3) := qd1_122.2.2.2.2.2.2.2.1
theorem dX5_lineOn_14 : decode cX5_lineOn 14 = .ok (.aload_n 0, 1) := qd1_122.2.2.2.2.2.2.2.2.1
theorem dX5_lineOn_15 : decode cX5_lineOn 15 = .ok (.getfield 30, 3) := qd1_122.2.2.2.2.2.2.2.2.2.1
theorem dX5_lineOn_18 : decode cX5_lineOn 18 = .ok (.iload_n 1, 1) := qd1_122.2.2.2.2.2.2.2.2.2.2.1
theorem dX5_lineOn_19 : decode cX5_lineOn 19 = .ok (.iaload, 1) := qd1_122.2.2.2.2.2.2.2.2.2.2.2
theorem qd1_123 : (decode cX5_lineOn 20 = .ok (.iconst 3, 1)) ∧ (decode cX5_lineOn 21 = .ok (.if_icmp .lt 14, 3)) ∧ (decode cX5_lineOn 24 = .ok (.aload_n 0, 1)) ∧ (decode cX5_lineOn 25 = .ok (.getfield 30, 3)) ∧ (decode cX5_lineOn 28 = .ok (.iload_n 1, 1)) ∧ (decode cX5_lineOn 29 = .ok (.iaload, 1)) ∧ (decode cX5_lineOn 30 = .ok (.iconst 3, 1)) ∧ (decode cX5_lineOn 31 = .ok (.isub, 1)) ∧ (decode cX5_lineOn 32 = .ok (.goto 4, 3)) ∧ (decode cX5_lineOn 35 = .ok (.iconst (-1), 1)) ∧ (decode cX5_lineOn 36 = .ok (.ireturn, 1)) := by decide +kernel
theorem dX5_lineOn_20 : decode cX5_lineOn 20 = .ok (.iconst 3, 1) := qd1_123.1
theorem dX5_lineOn_21 : decode cX5_lineOn 21 = .ok (.if_icmp .lt 14, 3) := qd1_123.2.1
theorem dX5_lineOn_24 : decode cX5_lineOn 24 = .ok (.aload_n 0, 1) := qd1_123.2.2.1
theorem dX5_lineOn_25 : decode cX5_lineOn 25 = .ok (.getfield 30, 3) := qd1_123.2.2.2.1
theorem dX5_lineOn_28 : decode cX5_lineOn 28 = .ok (.iload_n 1, 1) := qd1_123.2.2.2.2.1
theorem dX5_lineOn_29 : decode cX5_lineOn 29 = .ok (.iaload, 1) := qd1_123.2.2.2.2.2.1
theorem dX5_lineOn_30 : decode cX5_lineOn 30 = .ok (.iconst 3, 1) := qd1_123.2.2.2.2.2.2.1
theorem dX5_lineOn_31 : decode cX5_lineOn 31 = .ok (.isub, 1) := qd1_123.2.2.2.2.2.2.2.1
theorem dX5_lineOn_32 : decode cX5_lineOn 32 = .ok (.goto 4, 3) := qd1_123.2.2.2.2.2.2.2.2.1
theorem dX5_lineOn_35 : decode cX5_lineOn 35 = .ok (.iconst (-1), 1) := qd1_123.2.2.2.2.2.2.2.2.2.1
theorem dX5_lineOn_36 : decode cX5_lineOn 36 = .ok (.ireturn, 1) := qd1_123.2.2.2.2.2.2.2.2.2.2
theorem qd1_124 : (decode cX5_placeAfter 0 = .ok (.iload_n 1, 1)) ∧ (decode cX5_placeAfter 1 = .ok (.iconst 0, 1)) ∧ (decode cX5_placeAfter 2 = .ok (.aload_n 0, 1)) ∧ (decode cX5_placeAfter 3 = .ok (.getfield 79, 3)) ∧ (decode cX5_placeAfter 6 = .ok (.iconst 1, 1)) ∧ (decode cX5_placeAfter 7 = .ok (.isub, 1)) ∧ (decode cX5_placeAfter 8 = .ok (.invokestatic 120, 3)) ∧ (decode cX5_placeAfter 11 = .ok (.ifCond .eq 14, 3)) ∧ (decode cX5_placeAfter 14 = .ok (.aload_n 0, 1)) ∧ (decode cX5_placeAfter 15 = .ok (.getfield 33, 3)) ∧ (decode cX5_placeAfter 18 = .ok (.iload_n 1, 1)) ∧ (decode cX5_placeAfter 19 = .ok (.iaload, 1)) := by decide +kernel
theorem dX5_placeAfter_0 : decode cX5_placeAfter 0 = .ok (.iload_n 1, 1) := qd1_124.1
theorem dX5_placeAfter_1 : decode cX5_placeAfter 1 = .ok (.iconst 0, 1) := qd1_124.2.1
theorem dX5_placeAfter_2 : decode cX5_placeAfter 2 = .ok (.aload_n 0, 1) := qd1_124.2.2.1
theorem dX5_placeAfter_3 : decode cX5_placeAfter 3 = .ok (.getfield 79, 3) := qd1_124.2.2.2.1
theorem dX5_placeAfter_6 : decode cX5_placeAfter 6 = .ok (.iconst 1, 1) := qd1_124.2.2.2.2.1
theorem dX5_placeAfter_7 : decode cX5_placeAfter 7 = .ok (.isub, 1) := qd1_124.2.2.2.2.2.1
theorem dX5_placeAfter_8 : decode cX5_placeAfter 8 = .ok (.invokestatic 120, 3) := qd1_124.2.2.2.2.2.2.1
theorem dX5_placeAfter_11 : decode cX5_placeAfter 11 = .ok (.ifCond .eq 14, 3) := qd1_124.2.2.2.2.2.2.2.1
theorem dX5_placeAfter_14 : decode cX5_placeAfter 14 = .ok (.aload_n 0, 1) := qd1_124.2.2.2.2.2.2.2.2.1
theorem dX5_placeAfter_15 : decode cX5_placeAfter 15 = .ok (.getfield 33, 3) := qd1_124.2.2.2.2.2.2.2.2.2.1
theorem dX5_placeAfter_18 : decode cX5_placeAfter 18 = .ok (.iload_n 1, 1) := qd1_124.2.2.2.2.2.2.2.2.2.2.1
theorem dX5_placeAfter_19 : decode cX5_placeAfter 19 = .ok (.iaload, 1) := qd1_124.2.2.2.2.2.2.2.2.2.2.2
theorem qd1_125 : (decode cX5_placeAfter 20 = .ok (.iconst 3, 1)) ∧ (decode cX5_placeAfter 21 = .ok (.idiv, 1)) ∧ (decode cX5_placeAfter 22 = .ok (.goto 4, 3)) ∧ (decode cX5_placeAfter 25 = .ok (.iconst (-1), 1)) ∧ (decode cX5_placeAfter 26 = .ok (.ireturn, 1)) := by decide +kernel
theorem dX5_placeAfter_20 : decode cX5_placeAfter 20 = .ok (.iconst 3, 1) := qd1_125.1
theorem dX5_placeAfter_21 : decode cX5_placeAfter 21 = .ok (.idiv, 1) := qd1_125.2.1
theorem dX5_placeAfter_22 : decode cX5_placeAfter 22 = .ok (.goto 4, 3) := qd1_125.2.2.1
theorem dX5_placeAfter_25 : decode cX5_placeAfter 25 = .ok (.iconst (-1), 1) := qd1_125.2.2.2.1
theorem dX5_placeAfter_26 : decode cX5_placeAfter 26 = .ok (.ireturn, 1) := qd1_125.2.2.2.2
theorem qd1_126 : (decode cX5_widthAfter 0 = .ok (.iload_n 1, 1)) ∧ (decode cX5_widthAfter 1 = .ok (.iconst 0, 1)) ∧ (decode cX5_widthAfter 2 = .ok (.aload_n 0, 1)) ∧ (decode cX5_widthAfter 3 = .ok (.getfield 79, 3)) ∧ (decode cX5_widthAfter 6 = .ok (.iconst 1, 1)) ∧ (decode cX5_widthAfter 7 = .ok (.isub, 1)) ∧ (decode cX5_widthAfter 8 = .ok (.invokestatic 120, 3)) ∧ (decode cX5_widthAfter 11 = .ok (.ifCond .eq 14, 3)) ∧ (decode cX5_widthAfter 14 = .ok (.aload_n 0, 1)) ∧ (decode cX5_widthAfter 15 = .ok (.getfield 33, 3)) ∧ (decode cX5_widthAfter 18 = .ok (.iload_n 1, 1)) ∧ (decode cX5_widthAfter 19 = .ok (.iaload, 1)) := by decide +kernel
theorem dX5_widthAfter_0 : decode cX5_widthAfter 0 = .ok (.iload_n 1, 1) := qd1_126.1
theorem dX5_widthAfter_1 : decode cX5_widthAfter 1 = .ok (.iconst 0, 1) := qd1_126.2.1
theorem dX5_widthAfter_2 : decode cX5_widthAfter 2 = .ok (.aload_n 0, 1) := qd1_126.2.2.1
theorem dX5_widthAfter_3 : decode cX5_widthAfter 3 = .ok (.getfield 79, 3) := qd1_126.2.2.2.1
theorem dX5_widthAfter_6 : decode cX5_widthAfter 6 = .ok (.iconst 1, 1) := qd1_126.2.2.2.2.1
theorem dX5_widthAfter_7 : decode cX5_widthAfter 7 = .ok (.isub, 1) := qd1_126.2.2.2.2.2.1
theorem dX5_widthAfter_8 : decode cX5_widthAfter 8 = .ok (.invokestatic 120, 3) := qd1_126.2.2.2.2.2.2.1
theorem dX5_widthAfter_11 : decode cX5_widthAfter 11 = .ok (.ifCond .eq 14, 3) := qd1_126.2.2.2.2.2.2.2.1
theorem dX5_widthAfter_14 : decode cX5_widthAfter 14 = .ok (.aload_n 0, 1) := qd1_126.2.2.2.2.2.2.2.2.1
theorem dX5_widthAfter_15 : decode cX5_widthAfter 15 = .ok (.getfield 33, 3) := qd1_126.2.2.2.2.2.2.2.2.2.1
theorem dX5_widthAfter_18 : decode cX5_widthAfter 18 = .ok (.iload_n 1, 1) := qd1_126.2.2.2.2.2.2.2.2.2.2.1
theorem dX5_widthAfter_19 : decode cX5_widthAfter 19 = .ok (.iaload, 1) := qd1_126.2.2.2.2.2.2.2.2.2.2.2
theorem qd1_127 : (decode cX5_widthAfter 20 = .ok (.iconst 3, 1)) ∧ (decode cX5_widthAfter 21 = .ok (.irem, 1)) ∧ (decode cX5_widthAfter 22 = .ok (.goto 4, 3)) ∧ (decode cX5_widthAfter 25 = .ok (.iconst (-1), 1)) ∧ (decode cX5_widthAfter 26 = .ok (.ireturn, 1)) := by decide +kernel
theorem dX5_widthAfter_20 : decode cX5_widthAfter 20 = .ok (.iconst 3, 1) := qd1_127.1
theorem dX5_widthAfter_21 : decode cX5_widthAfter 21 = .ok (.irem, 1) := qd1_127.2.1
theorem dX5_widthAfter_22 : decode cX5_widthAfter 22 = .ok (.goto 4, 3) := qd1_127.2.2.1
theorem dX5_widthAfter_25 : decode cX5_widthAfter 25 = .ok (.iconst (-1), 1) := qd1_127.2.2.2.1
theorem dX5_widthAfter_26 : decode cX5_widthAfter 26 = .ok (.ireturn, 1) := qd1_127.2.2.2.2
theorem qd1_128 : (decode cX5_changesOnWay 0 = .ok (.iconst 0, 1)) ∧ (decode cX5_changesOnWay 1 = .ok (.istore_n 1, 1)) ∧ (decode cX5_changesOnWay 2 = .ok (.iconst 1, 1)) ∧ (decode cX5_changesOnWay 3 = .ok (.istore_n 2, 1)) ∧ (decode cX5_changesOnWay 4 = .ok (.iload_n 2, 1)) ∧ (decode cX5_changesOnWay 5 = .ok (.aload_n 0, 1)) ∧ (decode cX5_changesOnWay 6 = .ok (.getfield 79, 3)) ∧ (decode cX5_changesOnWay 9 = .ok (.if_icmp .ge 20, 3)) ∧ (decode cX5_changesOnWay 12 = .ok (.aload_n 0, 1)) ∧ (decode cX5_changesOnWay 13 = .ok (.iload_n 2, 1)) ∧ (decode cX5_changesOnWay 14 = .ok (.invokevirtual 124, 3)) ∧ (decode cX5_changesOnWay 17 = .ok (.ifCond .eq 6, 3)) := by decide +kernel
theorem dX5_changesOnWay_0 : decode cX5_changesOnWay 0 = .ok (.iconst 0, 1) := qd1_128.1
theorem dX5_changesOnWay_1 : decode cX5_changesOnWay 1 = .ok (.istore_n 1, 1) := qd1_128.2.1
theorem dX5_changesOnWay_2 : decode cX5_changesOnWay 2 = .ok (.iconst 1, 1) := qd1_128.2.2.1
theorem dX5_changesOnWay_3 : decode cX5_changesOnWay 3 = .ok (.istore_n 2, 1) := qd1_128.2.2.2.1
theorem dX5_changesOnWay_4 : decode cX5_changesOnWay 4 = .ok (.iload_n 2, 1) := qd1_128.2.2.2.2.1
theorem dX5_changesOnWay_5 : decode cX5_changesOnWay 5 = .ok (.aload_n 0, 1) := qd1_128.2.2.2.2.2.1
theorem dX5_changesOnWay_6 : decode cX5_changesOnWay 6 = .ok (.getfield 79, 3) := qd1_128.2.2.2.2.2.2.1
theorem dX5_changesOnWay_9 : decode cX5_changesOnWay 9 = .ok (.if_icmp .ge 20, 3) := qd1_128.2.2.2.2.2.2.2.1
theorem dX5_changesOnWay_12 : decode cX5_changesOnWay 12 = .ok (.aload_n 0, 1) := qd1_128.2.2.2.2.2.2.2.2.1
theorem dX5_changesOnWay_13 : decode cX5_changesOnWay 13 = .ok (.iload_n 2, 1) := qd1_128.2.2.2.2.2.2.2.2.2.1
theorem dX5_changesOnWay_14 : decode cX5_changesOnWay 14 = .ok (.invokevirtual 124, 3) := qd1_128.2.2.2.2.2.2.2.2.2.2.1
theorem dX5_changesOnWay_17 : decode cX5_changesOnWay 17 = .ok (.ifCond .eq 6, 3) := qd1_128.2.2.2.2.2.2.2.2.2.2.2
theorem qd1_129 : (decode cX5_changesOnWay 20 = .ok (.iinc 1 1, 3)) ∧ (decode cX5_changesOnWay 23 = .ok (.iinc 2 1, 3)) ∧ (decode cX5_changesOnWay 26 = .ok (.goto (-22), 3)) ∧ (decode cX5_changesOnWay 29 = .ok (.iload_n 1, 1)) ∧ (decode cX5_changesOnWay 30 = .ok (.ireturn, 1)) := by decide +kernel
theorem dX5_changesOnWay_20 : decode cX5_changesOnWay 20 = .ok (.iinc 1 1, 3) := qd1_129.1
theorem dX5_changesOnWay_23 : decode cX5_changesOnWay 23 = .ok (.iinc 2 1, 3) := qd1_129.2.1
theorem dX5_changesOnWay_26 : decode cX5_changesOnWay 26 = .ok (.goto (-22), 3) := qd1_129.2.2.1
theorem dX5_changesOnWay_29 : decode cX5_changesOnWay 29 = .ok (.iload_n 1, 1) := qd1_129.2.2.2.1
theorem dX5_changesOnWay_30 : decode cX5_changesOnWay 30 = .ok (.ireturn, 1) := qd1_129.2.2.2.2
theorem qd1_130 : (decode cX5_linesOnWay 0 = .ok (.iconst 0, 1)) ∧ (decode cX5_linesOnWay 1 = .ok (.aload_n 0, 1)) ∧ (decode cX5_linesOnWay 2 = .ok (.getfield 79, 3)) ∧ (decode cX5_linesOnWay 5 = .ok (.iconst 1, 1)) ∧ (decode cX5_linesOnWay 6 = .ok (.isub, 1)) ∧ (decode cX5_linesOnWay 7 = .ok (.aload_n 0, 1)) ∧ (decode cX5_linesOnWay 8 = .ok (.invokevirtual 128, 3)) ∧ (decode cX5_linesOnWay 11 = .ok (.isub, 1)) ∧ (decode cX5_linesOnWay 12 = .ok (.invokestatic 132, 3)) ∧ (decode cX5_linesOnWay 15 = .ok (.ireturn, 1)) := by decide +kernel
theorem dX5_linesOnWay_0 : decode cX5_linesOnWay 0 = .ok (.iconst 0, 1) := qd1_130.1
theorem dX5_linesOnWay_1 : decode cX5_linesOnWay 1 = .ok (.aload_n 0, 1) := qd1_130.2.1
theorem dX5_linesOnWay_2 : decode cX5_linesOnWay 2 = .ok (.getfield 79, 3) := qd1_130.2.2.1
theorem dX5_linesOnWay_5 : decode cX5_linesOnWay 5 = .ok (.iconst 1, 1) := qd1_130.2.2.2.1
theorem dX5_linesOnWay_6 : decode cX5_linesOnWay 6 = .ok (.isub, 1) := qd1_130.2.2.2.2.1
theorem dX5_linesOnWay_7 : decode cX5_linesOnWay 7 = .ok (.aload_n 0, 1) := qd1_130.2.2.2.2.2.1
theorem dX5_linesOnWay_8 : decode cX5_linesOnWay 8 = .ok (.invokevirtual 128, 3) := qd1_130.2.2.2.2.2.2.1
theorem dX5_linesOnWay_11 : decode cX5_linesOnWay 11 = .ok (.isub, 1) := qd1_130.2.2.2.2.2.2.2.1
theorem dX5_linesOnWay_12 : decode cX5_linesOnWay 12 = .ok (.invokestatic 132, 3) := qd1_130.2.2.2.2.2.2.2.2.1
theorem dX5_linesOnWay_15 : decode cX5_linesOnWay 15 = .ok (.ireturn, 1) := qd1_130.2.2.2.2.2.2.2.2.2
theorem qd1_131 : (decode cX5_lineAt 0 = .ok (.iconst 0, 1)) ∧ (decode cX5_lineAt 1 = .ok (.istore_n 2, 1)) ∧ (decode cX5_lineAt 2 = .ok (.iconst 1, 1)) ∧ (decode cX5_lineAt 3 = .ok (.istore_n 3, 1)) ∧ (decode cX5_lineAt 4 = .ok (.iload_n 3, 1)) ∧ (decode cX5_lineAt 5 = .ok (.aload_n 0, 1)) ∧ (decode cX5_lineAt 6 = .ok (.getfield 79, 3)) ∧ (decode cX5_lineAt 9 = .ok (.if_icmp .ge 33, 3)) ∧ (decode cX5_lineAt 12 = .ok (.aload_n 0, 1)) ∧ (decode cX5_lineAt 13 = .ok (.iload_n 3, 1)) ∧ (decode cX5_lineAt 14 = .ok (.invokevirtual 137, 3)) ∧ (decode cX5_lineAt 17 = .ok (.istore 4, 2)) := by decide +kernel
theorem dX5_lineAt_0 : decode cX5_lineAt 0 = .ok (.iconst 0, 1) := qd1_131.1
theorem dX5_lineAt_1 : decode cX5_lineAt 1 = .ok (.istore_n 2, 1) := qd1_131.2.1
theorem dX5_lineAt_2 : decode cX5_lineAt 2 = .ok (.iconst 1, 1) := qd1_131.2.2.1
theorem dX5_lineAt_3 : decode cX5_lineAt 3 = .ok (.istore_n 3, 1) := qd1_131.2.2.2.1
theorem dX5_lineAt_4 : decode cX5_lineAt 4 = .ok (.iload_n 3, 1) := qd1_131.2.2.2.2.1
theorem dX5_lineAt_5 : decode cX5_lineAt 5 = .ok (.aload_n 0, 1) := qd1_131.2.2.2.2.2.1
theorem dX5_lineAt_6 : decode cX5_lineAt 6 = .ok (.getfield 79, 3) := qd1_131.2.2.2.2.2.2.1
theorem dX5_lineAt_9 : decode cX5_lineAt 9 = .ok (.if_icmp .ge 33, 3) := qd1_131.2.2.2.2.2.2.2.1
theorem dX5_lineAt_12 : decode cX5_lineAt 12 = .ok (.aload_n 0, 1) := qd1_131.2.2.2.2.2.2.2.2.1
theorem dX5_lineAt_13 : decode cX5_lineAt 13 = .ok (.iload_n 3, 1) := qd1_131.2.2.2.2.2.2.2.2.2.1
theorem dX5_lineAt_14 : decode cX5_lineAt 14 = .ok (.invokevirtual 137, 3) := qd1_131.2.2.2.2.2.2.2.2.2.2.1
theorem dX5_lineAt_17 : decode cX5_lineAt 17 = .ok (.istore 4, 2) := qd1_131.2.2.2.2.2.2.2.2.2.2.2
theorem qd1_132 : (decode cX5_lineAt 19 = .ok (.iload 4, 2)) ∧ (decode cX5_lineAt 21 = .ok (.iconst (-1), 1)) ∧ (decode cX5_lineAt 22 = .ok (.if_icmp .eq 14, 3)) ∧ (decode cX5_lineAt 25 = .ok (.iload_n 2, 1)) ∧ (decode cX5_lineAt 26 = .ok (.iload_n 1, 1)) ∧ (decode cX5_lineAt 27 = .ok (.if_icmp .ne 6, 3)) ∧ (decode cX5_lineAt 30 = .ok (.iload 4, 2)) ∧ (decode cX5_lineAt 32 = .ok (.ireturn, 1)) ∧ (decode cX5_lineAt 33 = .ok (.iinc 2 1, 3)) ∧ (decode cX5_lineAt 36 = .ok (.iinc 3 1, 3)) ∧ (decode cX5_lineAt 39 = .ok (.goto (-35), 3)) ∧ (decode cX5_lineAt 42 = .ok (.iconst (-1), 1)) := by decide +kernel
theorem dX5_lineAt_19 : decode cX5_lineAt 19 = .ok (.iload 4, 2) := qd1_132.1
theorem dX5_lineAt_21 : decode cX5_lineAt 21 = .ok (.iconst (-1), 1) := qd1_132.2.1
theorem dX5_lineAt_22 : decode cX5_lineAt 22 = .ok (.if_icmp .eq 14, 3) := qd1_132.2.2.1
theorem dX5_lineAt_25 : decode cX5_lineAt 25 = .ok (.iload_n 2, 1) := qd1_132.2.2.2.1
theorem dX5_lineAt_26 : decode cX5_lineAt 26 = .ok (.iload_n 1, 1) := qd1_132.2.2.2.2.1
theorem dX5_lineAt_27 : decode cX5_lineAt 27 = .ok (.if_icmp .ne 6, 3) := qd1_132.2.2.2.2.2.1
theorem dX5_lineAt_30 : decode cX5_lineAt 30 = .ok (.iload 4, 2) := qd1_132.2.2.2.2.2.2.1
theorem dX5_lineAt_32 : decode cX5_lineAt 32 = .ok (.ireturn, 1) := qd1_132.2.2.2.2.2.2.2.1
theorem dX5_lineAt_33 : decode cX5_lineAt 33 = .ok (.iinc 2 1, 3) := qd1_132.2.2.2.2.2.2.2.2.1
theorem dX5_lineAt_36 : decode cX5_lineAt 36 = .ok (.iinc 3 1, 3) := qd1_132.2.2.2.2.2.2.2.2.2.1
theorem dX5_lineAt_39 : decode cX5_lineAt 39 = .ok (.goto (-35), 3) := qd1_132.2.2.2.2.2.2.2.2.2.2.1
theorem dX5_lineAt_42 : decode cX5_lineAt 42 = .ok (.iconst (-1), 1) := qd1_132.2.2.2.2.2.2.2.2.2.2.2
theorem dX5_lineAt_43 : decode cX5_lineAt 43 = .ok (.ireturn, 1) := by decide +kernel
theorem qd1_133 : (decode cX6_init 0 = .ok (.aload_n 0, 1)) ∧ (decode cX6_init 1 = .ok (.invokespecial 3, 3)) ∧ (decode cX6_init 4 = .ok (.aload_n 0, 1)) ∧ (decode cX6_init 5 = .ok (.new 9, 3)) ∧ (decode cX6_init 8 = .ok (.dup, 1)) ∧ (decode cX6_init 9 = .ok (.invokespecial 11, 3)) ∧ (decode cX6_init 12 = .ok (.putfield 12, 3)) ∧ (decode cX6_init 15 = .ok (.aload_n 0, 1)) ∧ (decode cX6_init 16 = .ok (.new 9, 3)) ∧ (decode cX6_init 19 = .ok (.dup, 1)) ∧ (decode cX6_init 20 = .ok (.invokespecial 11, 3)) ∧ (decode cX6_init 23 = .ok (.putfield 16, 3)) := by decide +kernel
theorem dX6_init_0 : decode cX6_init 0 = .ok (.aload_n 0, 1) := qd1_133.1
theorem dX6_init_1 : decode cX6_init 1 = .ok (.invokespecial 3, 3) := qd1_133.2.1
theorem dX6_init_4 : decode cX6_init 4 = .ok (.aload_n 0, 1) := qd1_133.2.2.1
theorem dX6_init_5 : decode cX6_init 5 = .ok (.new 9, 3) := qd1_133.2.2.2.1
theorem dX6_init_8 : decode cX6_init 8 = .ok (.dup, 1) := qd1_133.2.2.2.2.1
theorem dX6_init_9 : decode cX6_init 9 = .ok (.invokespecial 11, 3) := qd1_133.2.2.2.2.2.1
theorem dX6_init_12 : decode cX6_init 12 = .ok (.putfield 12, 3) := qd1_133.2.2.2.2.2.2.1
theorem dX6_init_15 : decode cX6_init 15 = .ok (.aload_n 0, 1) := qd1_133.2.2.2.2.2.2.2.1
theorem dX6_init_16 : decode cX6_init 16 = .ok (.new 9, 3) := qd1_133.2.2.2.2.2.2.2.2.1
theorem dX6_init_19 : decode cX6_init 19 = .ok (.dup, 1) := qd1_133.2.2.2.2.2.2.2.2.2.1
theorem dX6_init_20 : decode cX6_init 20 = .ok (.invokespecial 11, 3) := qd1_133.2.2.2.2.2.2.2.2.2.2.1
theorem dX6_init_23 : decode cX6_init 23 = .ok (.putfield 16, 3) := qd1_133.2.2.2.2.2.2.2.2.2.2.2
theorem qd1_134 : (decode cX6_init 26 = .ok (.aload_n 0, 1)) ∧ (decode cX6_init 27 = .ok (.new 19, 3)) ∧ (decode cX6_init 30 = .ok (.dup, 1)) ∧ (decode cX6_init 31 = .ok (.invokespecial 21, 3)) ∧ (decode cX6_init 34 = .ok (.putfield 22, 3)) ∧ (decode cX6_init 37 = .ok (.aload_n 0, 1)) ∧ (decode cX6_init 38 = .ok (.new 26, 3)) ∧ (decode cX6_init 41 = .ok (.dup, 1)) ∧ (decode cX6_init 42 = .ok (.invokespecial 28, 3)) ∧ (decode cX6_init 45 = .ok (.putfield 29, 3)) ∧ (decode cX6_init 48 = .ok (.aload_n 0, 1)) ∧ (decode cX6_init 49 = .ok (.new 33, 3)) := by decide +kernel
theorem dX6_init_26 : decode cX6_init 26 = .ok (.aload_n 0, 1) := qd1_134.1
theorem dX6_init_27 : decode cX6_init 27 = .ok (.new 19, 3) := qd1_134.2.1
theorem dX6_init_30 : decode cX6_init 30 = .ok (.dup, 1) := qd1_134.2.2.1
theorem dX6_init_31 : decode cX6_init 31 = .ok (.invokespecial 21, 3) := qd1_134.2.2.2.1
theorem dX6_init_34 : decode cX6_init 34 = .ok (.putfield 22, 3) := qd1_134.2.2.2.2.1
theorem dX6_init_37 : decode cX6_init 37 = .ok (.aload_n 0, 1) := qd1_134.2.2.2.2.2.1
theorem dX6_init_38 : decode cX6_init 38 = .ok (.new 26, 3) := qd1_134.2.2.2.2.2.2.1
theorem dX6_init_41 : decode cX6_init 41 = .ok (.dup, 1) := qd1_134.2.2.2.2.2.2.2.1
theorem dX6_init_42 : decode cX6_init 42 = .ok (.invokespecial 28, 3) := qd1_134.2.2.2.2.2.2.2.2.1
theorem dX6_init_45 : decode cX6_init 45 = .ok (.putfield 29, 3) := qd1_134.2.2.2.2.2.2.2.2.2.1
theorem dX6_init_48 : decode cX6_init 48 = .ok (.aload_n 0, 1) := qd1_134.2.2.2.2.2.2.2.2.2.2.1
theorem dX6_init_49 : decode cX6_init 49 = .ok (.new 33, 3) := qd1_134.2.2.2.2.2.2.2.2.2.2.2
theorem qd1_135 : (decode cX6_init 52 = .ok (.dup, 1)) ∧ (decode cX6_init 53 = .ok (.invokespecial 35, 3)) ∧ (decode cX6_init 56 = .ok (.putfield 36, 3)) ∧ (decode cX6_init 59 = .ok (.aload_n 0, 1)) ∧ (decode cX6_init 60 = .ok (.aload_n 0, 1)) ∧ (decode cX6_init 61 = .ok (.getfield 36, 3)) ∧ (decode cX6_init 64 = .ok (.getfield 40, 3)) ∧ (decode cX6_init 67 = .ok (.putfield 44, 3)) ∧ (decode cX6_init 70 = .ok (.aload_n 0, 1)) ∧ (decode cX6_init 71 = .ok (.iconst 5, 1)) ∧ (decode cX6_init 72 = .ok (.newarray .int, 2)) ∧ (decode cX6_init 74 = .ok (.putfield 45, 3)) := by decide +kernel
theorem dX6_init_52 : decode cX6_init 52 = .ok (.dup, 1) := qd1_135.1
theorem dX6_init_53 : decode cX6_init 53 = .ok (.invokespecial 35, 3) := qd1_135.2.1
theorem dX6_init_56 : decode cX6_init 56 = .ok (.putfield 36, 3) := qd1_135.2.2.1
theorem dX6_init_59 : decode cX6_init 59 = .ok (.aload_n 0, 1) := qd1_135.2.2.2.1
theorem dX6_init_60 : decode cX6_init 60 = .ok (.aload_n 0, 1) := qd1_135.2.2.2.2.1
theorem dX6_init_61 : decode cX6_init 61 = .ok (.getfield 36, 3) := qd1_135.2.2.2.2.2.1
theorem dX6_init_64 : decode cX6_init 64 = .ok (.getfield 40, 3) := qd1_135.2.2.2.2.2.2.1
theorem dX6_init_67 : decode cX6_init 67 = .ok (.putfield 44, 3) := qd1_135.2.2.2.2.2.2.2.1
theorem dX6_init_70 : decode cX6_init 70 = .ok (.aload_n 0, 1) := qd1_135.2.2.2.2.2.2.2.2.1
theorem dX6_init_71 : decode cX6_init 71 = .ok (.iconst 5, 1) := qd1_135.2.2.2.2.2.2.2.2.2.1
theorem dX6_init_72 : decode cX6_init 72 = .ok (.newarray .int, 2) := qd1_135.2.2.2.2.2.2.2.2.2.2.1
theorem dX6_init_74 : decode cX6_init 74 = .ok (.putfield 45, 3) := qd1_135.2.2.2.2.2.2.2.2.2.2.2
theorem qd1_136 : (decode cX6_init 77 = .ok (.aload_n 0, 1)) ∧ (decode cX6_init 78 = .ok (.iconst 0, 1)) ∧ (decode cX6_init 79 = .ok (.putfield 49, 3)) ∧ (decode cX6_init 82 = .ok (.aload_n 0, 1)) ∧ (decode cX6_init 83 = .ok (.iconst 0, 1)) ∧ (decode cX6_init 84 = .ok (.putfield 53, 3)) ∧ (decode cX6_init 87 = .ok (.aload_n 0, 1)) ∧ (decode cX6_init 88 = .ok (.iconst 0, 1)) ∧ (decode cX6_init 89 = .ok (.putfield 57, 3)) ∧ (decode cX6_init 92 = .ok (.return_, 1)) := by decide +kernel
theorem dX6_init_77 : decode cX6_init 77 = .ok (.aload_n 0, 1) := qd1_136.1
theorem dX6_init_78 : decode cX6_init 78 = .ok (.iconst 0, 1) := qd1_136.2.1
theorem dX6_init_79 : decode cX6_init 79 = .ok (.putfield 49, 3) := qd1_136.2.2.1
theorem dX6_init_82 : decode cX6_init 82 = .ok (.aload_n 0, 1) := qd1_136.2.2.2.1
theorem dX6_init_83 : decode cX6_init 83 = .ok (.iconst 0, 1) := qd1_136.2.2.2.2.1
theorem dX6_init_84 : decode cX6_init 84 = .ok (.putfield 53, 3) := qd1_136.2.2.2.2.2.1
theorem dX6_init_87 : decode cX6_init 87 = .ok (.aload_n 0, 1) := qd1_136.2.2.2.2.2.2.1
theorem dX6_init_88 : decode cX6_init 88 = .ok (.iconst 0, 1) := qd1_136.2.2.2.2.2.2.2.1
theorem dX6_init_89 : decode cX6_init 89 = .ok (.putfield 57, 3) := qd1_136.2.2.2.2.2.2.2.2.1
theorem dX6_init_92 : decode cX6_init 92 = .ok (.return_, 1) := qd1_136.2.2.2.2.2.2.2.2.2
theorem qd1_137 : (decode cX6_row 0 = .ok (.iload_n 1, 1)) ∧ (decode cX6_row 1 = .ok (.invokestatic 60, 3)) ∧ (decode cX6_row 4 = .ok (.ifCond .eq 22, 3)) ∧ (decode cX6_row 7 = .ok (.iload_n 2, 1)) ∧ (decode cX6_row 8 = .ok (.iconst 0, 1)) ∧ (decode cX6_row 9 = .ok (.iconst 4, 1)) ∧ (decode cX6_row 10 = .ok (.invokestatic 64, 3)) ∧ (decode cX6_row 13 = .ok (.ifCond .eq 13, 3)) ∧ (decode cX6_row 16 = .ok (.iload_n 3, 1)) ∧ (decode cX6_row 17 = .ok (.iconst 0, 1)) ∧ (decode cX6_row 18 = .ok (.bipush 40, 2)) ∧ (decode cX6_row 20 = .ok (.invokestatic 64, 3)) := by decide +kernel
theorem dX6_row_0 : decode cX6_row 0 = .ok (.iload_n 1, 1) := qd1_137.1
theorem dX6_row_1 : decode cX6_row 1 = .ok (.invokestatic 60, 3) := qd1_137.2.1
theorem dX6_row_4 : decode cX6_row 4 = .ok (.ifCond .eq 22, 3) := qd1_137.2.2.1
theorem dX6_row_7 : decode cX6_row 7 = .ok (.iload_n 2, 1) := qd1_137.2.2.2.1
theorem dX6_row_8 : decode cX6_row 8 = .ok (.iconst 0, 1) := qd1_137.2.2.2.2.1
theorem dX6_row_9 : decode cX6_row 9 = .ok (.iconst 4, 1) := qd1_137.2.2.2.2.2.1
theorem dX6_row_10 : decode cX6_row 10 = .ok (.invokestatic 64, 3) := qd1_137.2.2.2.2.2.2.1
theorem dX6_row_13 : decode cX6_row 13 = .ok (.ifCond .eq 13, 3) := qd1_137.2.2.2.2.2.2.2.1
theorem dX6_row_16 : decode cX6_row 16 = .ok (.iload_n 3, 1) := qd1_137.2.2.2.2.2.2.2.2.1
theorem dX6_row_17 : decode cX6_row 17 = .ok (.iconst 0, 1) := qd1_137.2.2.2.2.2.2.2.2.2.1
theorem dX6_row_18 : decode cX6_row 18 = .ok (.bipush 40, 2) := qd1_137.2.2.2.2.2.2.2.2.2.2.1
theorem dX6_row_20 : decode cX6_row 20 = .ok (.invokestatic 64, 3) := qd1_137.2.2.2.2.2.2.2.2.2.2.2
theorem qd1_138 : (decode cX6_row 23 = .ok (.ifCond .ne 10, 3)) ∧ (decode cX6_row 26 = .ok (.aload_n 0, 1)) ∧ (decode cX6_row 27 = .ok (.bipush (-2), 2)) ∧ (decode cX6_row 29 = .ok (.invokevirtual 68, 3)) ∧ (decode cX6_row 32 = .ok (.ireturn, 1)) ∧ (decode cX6_row 33 = .ok (.aload_n 0, 1)) ∧ (decode cX6_row 34 = .ok (.getfield 29, 3)) ∧ (decode cX6_row 37 = .ok (.iload_n 1, 1)) ∧ (decode cX6_row 38 = .ok (.iload_n 2, 1)) ∧ (decode cX6_row 39 = .ok (.iload_n 3, 1)) ∧ (decode cX6_row 40 = .ok (.invokevirtual 72, 3)) ∧ (decode cX6_row 43 = .ok (.iconst 1, 1)) := by decide +kernel
theorem dX6_row_23 : decode cX6_row 23 = .ok (.ifCond .ne 10, 3) := qd1_138.1
theorem dX6_row_26 : decode cX6_row 26 = .ok (.aload_n 0, 1) := qd1_138.2.1
theorem dX6_row_27 : decode cX6_row 27 = .ok (.bipush (-2), 2) := qd1_138.2.2.1
theorem dX6_row_29 : decode cX6_row 29 = .ok (.invokevirtual 68, 3) := qd1_138.2.2.2.1
theorem dX6_row_32 : decode cX6_row 32 = .ok (.ireturn, 1) := qd1_138.2.2.2.2.1
theorem dX6_row_33 : decode cX6_row 33 = .ok (.aload_n 0, 1) := qd1_138.2.2.2.2.2.1
theorem dX6_row_34 : decode cX6_row 34 = .ok (.getfield 29, 3) := qd1_138.2.2.2.2.2.2.1
theorem dX6_row_37 : decode cX6_row 37 = .ok (.iload_n 1, 1) := qd1_138.2.2.2.2.2.2.2.1
theorem dX6_row_38 : decode cX6_row 38 = .ok (.iload_n 2, 1) := qd1_138.2.2.2.2.2.2.2.2.1
theorem dX6_row_39 : decode cX6_row 39 = .ok (.iload_n 3, 1) := qd1_138.2.2.2.2.2.2.2.2.2.1
theorem dX6_row_40 : decode cX6_row 40 = .ok (.invokevirtual 72, 3) := qd1_138.2.2.2.2.2.2.2.2.2.2.1
theorem dX6_row_43 : decode cX6_row 43 = .ok (.iconst 1, 1) := qd1_138.2.2.2.2.2.2.2.2.2.2.2
theorem dX6_row_44 : decode cX6_row 44 = .ok (.ireturn, 1) := by decide +kernel
theorem qd1_139 : (decode cX6_set 0 = .ok (.aload_n 0, 1)) ∧ (decode cX6_set 1 = .ok (.iload_n 1, 1)) ∧ (decode cX6_set 2 = .ok (.invokevirtual 76, 3)) ∧ (decode cX6_set 5 = .ok (.istore 5, 2)) ∧ (decode cX6_set 7 = .ok (.iload 5, 2)) ∧ (decode cX6_set 9 = .ok (.ifCond .eq 10, 3)) ∧ (decode cX6_set 12 = .ok (.aload_n 0, 1)) ∧ (decode cX6_set 13 = .ok (.iload 5, 2)) ∧ (decode cX6_set 15 = .ok (.invokevirtual 68, 3)) ∧ (decode cX6_set 18 = .ok (.ireturn, 1)) ∧ (decode cX6_set 19 = .ok (.iload_n 2, 1)) ∧ (decode cX6_set 20 = .ok (.iconst 0, 1)) := by decide +kernel
theorem dX6_set_0 : decode cX6_set 0 = .ok (.aload_n 0, 1) := qd1_139.1
theorem dX6_set_1 : decode cX6_set 1 = .ok (.iload_n 1, 1) := qd1_139.2.1
theorem dX6_set_2 : decode cX6_set 2 = .ok (.invokevirtual 76, 3) := qd1_139.2.2.1
theorem dX6_set_5 : decode cX6_set 5 = .ok (.istore 5, 2) := qd1_139.2.2.2.1
theorem dX6_set_7 : decode cX6_set 7 = .ok (.iload 5, 2) := qd1_139.2.2.2.2.1
theorem dX6_set_9 : decode cX6_set 9 = .ok (.ifCond .eq 10, 3) := qd1_139.2.2.2.2.2.1
theorem dX6_set_12 : decode cX6_set 12 = .ok (.aload_n 0, 1) := qd1_139.2.2.2.2.2.2.1
theorem dX6_set_13 : decode cX6_set 13 = .ok (.iload 5, 2) := qd1_139.2.2.2.2.2.2.2.1
theorem dX6_set_15 : decode cX6_set 15 = .ok (.invokevirtual 68, 3) := qd1_139.2.2.2.2.2.2.2.2.1
theorem dX6_set_18 : decode cX6_set 18 = .ok (.ireturn, 1) := qd1_139.2.2.2.2.2.2.2.2.2.1
theorem dX6_set_19 : decode cX6_set 19 = .ok (.iload_n 2, 1) := qd1_139.2.2.2.2.2.2.2.2.2.2.1
theorem dX6_set_20 : decode cX6_set 20 = .ok (.iconst 0, 1) := qd1_139.2.2.2.2.2.2.2.2.2.2.2
theorem qd1_140 : (decode cX6_set 21 = .ok (.aload_n 0, 1)) ∧ (decode cX6_set 22 = .ok (.getfield 29, 3)) ∧ (decode cX6_set 25 = .ok (.getfield 79, 3)) ∧ (decode cX6_set 28 = .ok (.iload_n 1, 1)) ∧ (decode cX6_set 29 = .ok (.iaload, 1)) ∧ (decode cX6_set 30 = .ok (.iconst 1, 1)) ∧ (decode cX6_set 31 = .ok (.isub, 1)) ∧ (decode cX6_set 32 = .ok (.invokestatic 64, 3)) ∧ (decode cX6_set 35 = .ok (.ifCond .ne 10, 3)) ∧ (decode cX6_set 38 = .ok (.aload_n 0, 1)) ∧ (decode cX6_set 39 = .ok (.bipush (-2), 2)) ∧ (decode cX6_set 41 = .ok (.invokevirtual 68, 3)) := by decide +kernel
theorem dX6_set_21 : decode cX6_set 21 = .ok (.aload_n 0, 1) := qd1_140.1
theorem dX6_set_22 : decode cX6_set 22 = .ok (.getfield 29, 3) := qd1_140.2.1
theorem dX6_set_25 : decode cX6_set 25 = .ok (.getfield 79, 3) := qd1_140.2.2.1
theorem dX6_set_28 : decode cX6_set 28 = .ok (.iload_n 1, 1) := qd1_140.2.2.2.1
theorem dX6_set_29 : decode cX6_set 29 = .ok (.iaload, 1) := qd1_140.2.2.2.2.1
theorem dX6_set_30 : decode cX6_set 30 = .ok (.iconst 1, 1) := qd1_140.2.2.2.2.2.1
theorem dX6_set_31 : decode cX6_set 31 = .ok (.isub, 1) := qd1_140.2.2.2.2.2.2.1
theorem dX6_set_32 : decode cX6_set 32 = .ok (.invokestatic 64, 3) := qd1_140.2.2.2.2.2.2.2.1
theorem dX6_set_35 : decode cX6_set 35 = .ok (.ifCond .ne 10, 3) := qd1_140.2.2.2.2.2.2.2.2.1
theorem dX6_set_38 : decode cX6_set 38 = .ok (.aload_n 0, 1) := qd1_140.2.2.2.2.2.2.2.2.2.1
theorem dX6_set_39 : decode cX6_set 39 = .ok (.bipush (-2), 2) := qd1_140.2.2.2.2.2.2.2.2.2.2.1
theorem dX6_set_41 : decode cX6_set 41 = .ok (.invokevirtual 68, 3) := qd1_140.2.2.2.2.2.2.2.2.2.2.2
theorem qd1_141 : (decode cX6_set 44 = .ok (.ireturn, 1)) ∧ (decode cX6_set 45 = .ok (.aload_n 0, 1)) ∧ (decode cX6_set 46 = .ok (.getfield 29, 3)) ∧ (decode cX6_set 49 = .ok (.iload_n 1, 1)) ∧ (decode cX6_set 50 = .ok (.iload_n 2, 1)) ∧ (decode cX6_set 51 = .ok (.lload_n 3, 1)) ∧ (decode cX6_set 52 = .ok (.invokevirtual 82, 3)) ∧ (decode cX6_set 55 = .ok (.iconst 1, 1)) ∧ (decode cX6_set 56 = .ok (.ireturn, 1)) := by decide +kernel
theorem dX6_set_44 : decode cX6_set 44 = .ok (.ireturn, 1) := qd1_141.1
theorem dX6_set_45 : decode cX6_set 45 = .ok (.aload_n 0, 1) := qd1_141.2.1
theorem dX6_set_46 : decode cX6_set 46 = .ok (.getfield 29, 3) := qd1_141.2.2.1
theorem dX6_set_49 : decode cX6_set 49 = .ok (.iload_n 1, 1) := qd1_141.2.2.2.1
theorem dX6_set_50 : decode cX6_set 50 = .ok (.iload_n 2, 1) := qd1_141.2.2.2.2.1
theorem dX6_set_51 : decode cX6_set 51 = .ok (.lload_n 3, 1) := qd1_141.2.2.2.2.2.1
theorem dX6_set_52 : decode cX6_set 52 = .ok (.invokevirtual 82, 3) := qd1_141.2.2.2.2.2.2.1
theorem dX6_set_55 : decode cX6_set 55 = .ok (.iconst 1, 1) := qd1_141.2.2.2.2.2.2.2.1
theorem dX6_set_56 : decode cX6_set 56 = .ok (.ireturn, 1) := qd1_141.2.2.2.2.2.2.2.2
theorem qd1_142 : (decode cX6_copy 0 = .ok (.iload_n 1, 1)) ∧ (decode cX6_copy 1 = .ok (.invokestatic 60, 3)) ∧ (decode cX6_copy 4 = .ok (.ifCond .eq 10, 3)) ∧ (decode cX6_copy 7 = .ok (.iload_n 2, 1)) ∧ (decode cX6_copy 8 = .ok (.invokestatic 60, 3)) ∧ (decode cX6_copy 11 = .ok (.ifCond .ne 10, 3)) ∧ (decode cX6_copy 14 = .ok (.aload_n 0, 1)) ∧ (decode cX6_copy 15 = .ok (.bipush (-2), 2)) ∧ (decode cX6_copy 17 = .ok (.invokevirtual 68, 3)) ∧ (decode cX6_copy 20 = .ok (.ireturn, 1)) ∧ (decode cX6_copy 21 = .ok (.aload_n 0, 1)) ∧ (decode cX6_copy 22 = .ok (.getfield 29, 3)) := by decide +kernel
theorem dX6_copy_0 : decode cX6_copy 0 = .ok (.iload_n 1, 1) := qd1_142.1
theorem dX6_copy_1 : decode cX6_copy 1 = .ok (.invokestatic 60, 3) := qd1_142.2.1
theorem dX6_copy_4 : decode cX6_copy 4 = .ok (.ifCond .eq 10, 3) := qd1_142.2.2.1
theorem dX6_copy_7 : decode cX6_copy 7 = .ok (.iload_n 2, 1) := qd1_142.2.2.2.1
theorem dX6_copy_8 : decode cX6_copy 8 = .ok (.invokestatic 60, 3) := qd1_142.2.2.2.2.1
theorem dX6_copy_11 : decode cX6_copy 11 = .ok (.ifCond .ne 10, 3) := qd1_142.2.2.2.2.2.1
theorem dX6_copy_14 : decode cX6_copy 14 = .ok (.aload_n 0, 1) := qd1_142.2.2.2.2.2.2.1
theorem dX6_copy_15 : decode cX6_copy 15 = .ok (.bipush (-2), 2) := qd1_142.2.2.2.2.2.2.2.1
theorem dX6_copy_17 : decode cX6_copy 17 = .ok (.invokevirtual 68, 3) := qd1_142.2.2.2.2.2.2.2.2.1
theorem dX6_copy_20 : decode cX6_copy 20 = .ok (.ireturn, 1) := qd1_142.2.2.2.2.2.2.2.2.2.1
theorem dX6_copy_21 : decode cX6_copy 21 = .ok (.aload_n 0, 1) := qd1_142.2.2.2.2.2.2.2.2.2.2.1
theorem dX6_copy_22 : decode cX6_copy 22 = .ok (.getfield 29, 3) := qd1_142.2.2.2.2.2.2.2.2.2.2.2
theorem qd1_143 : (decode cX6_copy 25 = .ok (.iload_n 1, 1)) ∧ (decode cX6_copy 26 = .ok (.invokevirtual 86, 3)) ∧ (decode cX6_copy 29 = .ok (.ifCond .ne 26, 3)) ∧ (decode cX6_copy 32 = .ok (.aload_n 0, 1)) ∧ (decode cX6_copy 33 = .ok (.getfield 29, 3)) ∧ (decode cX6_copy 36 = .ok (.iload_n 2, 1)) ∧ (decode cX6_copy 37 = .ok (.invokevirtual 86, 3)) ∧ (decode cX6_copy 40 = .ok (.ifCond .ne 15, 3)) ∧ (decode cX6_copy 43 = .ok (.aload_n 0, 1)) ∧ (decode cX6_copy 44 = .ok (.getfield 29, 3)) ∧ (decode cX6_copy 47 = .ok (.iload_n 1, 1)) ∧ (decode cX6_copy 48 = .ok (.iload_n 2, 1)) := by decide +kernel
theorem dX6_copy_25 : decode cX6_copy 25 = .ok (.iload_n 1, 1) := qd1_143.1
theorem dX6_copy_26 : decode cX6_copy 26 = .ok (.invokevirtual 86, 3) := qd1_143.2.1
theorem dX6_copy_29 : decode cX6_copy 29 = .ok (.ifCond .ne 26, 3) := qd1_143.2.2.1
theorem dX6_copy_32 : decode cX6_copy 32 = .ok (.aload_n 0, 1) := qd1_143.2.2.2.1
theorem dX6_copy_33 : decode cX6_copy 33 = .ok (.getfield 29, 3) := qd1_143.2.2.2.2.1
theorem dX6_copy_36 : decode cX6_copy 36 = .ok (.iload_n 2, 1) := qd1_143.2.2.2.2.2.1
theorem dX6_copy_37 : decode cX6_copy 37 = .ok (.invokevirtual 86, 3) := qd1_143.2.2.2.2.2.2.1
theorem dX6_copy_40 : decode cX6_copy 40 = .ok (.ifCond .ne 15, 3) := qd1_143.2.2.2.2.2.2.2.1
theorem dX6_copy_43 : decode cX6_copy 43 = .ok (.aload_n 0, 1) := qd1_143.2.2.2.2.2.2.2.2.1
theorem dX6_copy_44 : decode cX6_copy 44 = .ok (.getfield 29, 3) := qd1_143.2.2.2.2.2.2.2.2.2.1
theorem dX6_copy_47 : decode cX6_copy 47 = .ok (.iload_n 1, 1) := qd1_143.2.2.2.2.2.2.2.2.2.2.1
theorem dX6_copy_48 : decode cX6_copy 48 = .ok (.iload_n 2, 1) := qd1_143.2.2.2.2.2.2.2.2.2.2.2
theorem qd1_144 : (decode cX6_copy 49 = .ok (.invokevirtual 89, 3)) ∧ (decode cX6_copy 52 = .ok (.ifCond .eq 10, 3)) ∧ (decode cX6_copy 55 = .ok (.aload_n 0, 1)) ∧ (decode cX6_copy 56 = .ok (.bipush (-3), 2)) ∧ (decode cX6_copy 58 = .ok (.invokevirtual 68, 3)) ∧ (decode cX6_copy 61 = .ok (.ireturn, 1)) ∧ (decode cX6_copy 62 = .ok (.aload_n 0, 1)) ∧ (decode cX6_copy 63 = .ok (.getfield 29, 3)) ∧ (decode cX6_copy 66 = .ok (.getfield 93, 3)) ∧ (decode cX6_copy 69 = .ok (.iload_n 1, 1)) ∧ (decode cX6_copy 70 = .ok (.iaload, 1)) ∧ (decode cX6_copy 71 = .ok (.iconst (-1), 1)) := by decide +kernel
theorem dX6_copy_49 : decode cX6_copy 49 = .ok (.invokevirtual 89, 3) := qd1_144.1
theorem dX6_copy_52 : decode cX6_copy 52 = .ok (.ifCond .eq 10, 3) := qd1_144.2.1
theorem dX6_copy_55 : decode cX6_copy 55 = .ok (.aload_n 0, 1) := qd1_144.2.2.1
theorem dX6_copy_56 : decode cX6_copy 56 = .ok (.bipush (-3), 2) := qd1_144.2.2.2.1
theorem dX6_copy_58 : decode cX6_copy 58 = .ok (.invokevirtual 68, 3) := qd1_144.2.2.2.2.1
theorem dX6_copy_61 : decode cX6_copy 61 = .ok (.ireturn, 1) := qd1_144.2.2.2.2.2.1
theorem dX6_copy_62 : decode cX6_copy 62 = .ok (.aload_n 0, 1) := qd1_144.2.2.2.2.2.2.1
theorem dX6_copy_63 : decode cX6_copy 63 = .ok (.getfield 29, 3) := qd1_144.2.2.2.2.2.2.2.1
theorem dX6_copy_66 : decode cX6_copy 66 = .ok (.getfield 93, 3) := qd1_144.2.2.2.2.2.2.2.2.1
theorem dX6_copy_69 : decode cX6_copy 69 = .ok (.iload_n 1, 1) := qd1_144.2.2.2.2.2.2.2.2.2.1
theorem dX6_copy_70 : decode cX6_copy 70 = .ok (.iaload, 1) := qd1_144.2.2.2.2.2.2.2.2.2.2.1
theorem dX6_copy_71 : decode cX6_copy 71 = .ok (.iconst (-1), 1) := qd1_144.2.2.2.2.2.2.2.2.2.2.2
theorem qd1_145 : (decode cX6_copy 72 = .ok (.if_icmp .eq 16, 3)) ∧ (decode cX6_copy 75 = .ok (.aload_n 0, 1)) ∧ (decode cX6_copy 76 = .ok (.getfield 29, 3)) ∧ (decode cX6_copy 79 = .ok (.getfield 93, 3)) ∧ (decode cX6_copy 82 = .ok (.iload_n 2, 1)) ∧ (decode cX6_copy 83 = .ok (.iaload, 1)) ∧ (decode cX6_copy 84 = .ok (.iconst (-1), 1)) ∧ (decode cX6_copy 85 = .ok (.if_icmp .ne 10, 3)) ∧ (decode cX6_copy 88 = .ok (.aload_n 0, 1)) ∧ (decode cX6_copy 89 = .ok (.bipush (-4), 2)) ∧ (decode cX6_copy 91 = .ok (.invokevirtual 68, 3)) ∧ (decode cX6_copy 94 = .ok (.ireturn, 1)) := by decide +kernel
theorem dX6_copy_72 : decode cX6_copy 72 = .ok (.if_icmp .eq 16, 3) := qd1_145.1
theorem dX6_copy_75 : decode cX6_copy 75 = .ok (.aload_n 0, 1) := qd1_145.2.1
theorem dX6_copy_76 : decode cX6_copy 76 = .ok (.getfield 29, 3) := qd1_145.2.2.1
theorem dX6_copy_79 : decode cX6_copy 79 = .ok (.getfield 93, 3) := qd1_145.2.2.2.1
theorem dX6_copy_82 : decode cX6_copy 82 = .ok (.iload_n 2, 1) := qd1_145.2.2.2.2.1
theorem dX6_copy_83 : decode cX6_copy 83 = .ok (.iaload, 1) := qd1_145.2.2.2.2.2.1
theorem dX6_copy_84 : decode cX6_copy 84 = .ok (.iconst (-1), 1) := qd1_145.2.2.2.2.2.2.1
theorem dX6_copy_85 : decode cX6_copy 85 = .ok (.if_icmp .ne 10, 3) := qd1_145.2.2.2.2.2.2.2.1
theorem dX6_copy_88 : decode cX6_copy 88 = .ok (.aload_n 0, 1) := qd1_145.2.2.2.2.2.2.2.2.1
theorem dX6_copy_89 : decode cX6_copy 89 = .ok (.bipush (-4), 2) := qd1_145.2.2.2.2.2.2.2.2.2.1
theorem dX6_copy_91 : decode cX6_copy 91 = .ok (.invokevirtual 68, 3) := qd1_145.2.2.2.2.2.2.2.2.2.2.1
theorem dX6_copy_94 : decode cX6_copy 94 = .ok (.ireturn, 1) := qd1_145.2.2.2.2.2.2.2.2.2.2.2
theorem qd1_146 : (decode cX6_copy 95 = .ok (.iload 5, 2)) ∧ (decode cX6_copy 97 = .ok (.iconst 0, 1)) ∧ (decode cX6_copy 98 = .ok (.bipush 40, 2)) ∧ (decode cX6_copy 100 = .ok (.invokestatic 64, 3)) ∧ (decode cX6_copy 103 = .ok (.ifCond .eq 44, 3)) ∧ (decode cX6_copy 106 = .ok (.iload_n 3, 1)) ∧ (decode cX6_copy 107 = .ok (.iconst 0, 1)) ∧ (decode cX6_copy 108 = .ok (.aload_n 0, 1)) ∧ (decode cX6_copy 109 = .ok (.getfield 29, 3)) ∧ (decode cX6_copy 112 = .ok (.getfield 79, 3)) ∧ (decode cX6_copy 115 = .ok (.iload_n 1, 1)) ∧ (decode cX6_copy 116 = .ok (.iaload, 1)) := by decide +kernel
theorem dX6_copy_95 : decode cX6_copy 95 = .ok (.iload 5, 2) := qd1_146.1
theorem dX6_copy_97 : decode cX6_copy 97 = .ok (.iconst 0, 1) := qd1_146.2.1
theorem dX6_copy_98 : decode cX6_copy 98 = .ok (.bipush 40, 2) := qd1_146.2.2.1
theorem dX6_copy_100 : decode cX6_copy 100 = .ok (.invokestatic 64, 3) := qd1_146.2.2.2.1
theorem dX6_copy_103 : decode cX6_copy 103 = .ok (.ifCond .eq 44, 3) := qd1_146.2.2.2.2.1
theorem dX6_copy_106 : decode cX6_copy 106 = .ok (.iload_n 3, 1) := qd1_146.2.2.2.2.2.1
theorem dX6_copy_107 : decode cX6_copy 107 = .ok (.iconst 0, 1) := qd1_146.2.2.2.2.2.2.1
theorem dX6_copy_108 : decode cX6_copy 108 = .ok (.aload_n 0, 1) := qd1_146.2.2.2.2.2.2.2.1
theorem dX6_copy_109 : decode cX6_copy 109 = .ok (.getfield 29, 3) := qd1_146.2.2.2.2.2.2.2.2.1
theorem dX6_copy_112 : decode cX6_copy 112 = .ok (.getfield 79, 3) := qd1_146.2.2.2.2.2.2.2.2.2.1
theorem dX6_copy_115 : decode cX6_copy 115 = .ok (.iload_n 1, 1) := qd1_146.2.2.2.2.2.2.2.2.2.2.1
theorem dX6_copy_116 : decode cX6_copy 116 = .ok (.iaload, 1) := qd1_146.2.2.2.2.2.2.2.2.2.2.2
theorem qd1_147 : (decode cX6_copy 117 = .ok (.iload 5, 2)) ∧ (decode cX6_copy 119 = .ok (.isub, 1)) ∧ (decode cX6_copy 120 = .ok (.invokestatic 64, 3)) ∧ (decode cX6_copy 123 = .ok (.ifCond .eq 24, 3)) ∧ (decode cX6_copy 126 = .ok (.iload 4, 2)) ∧ (decode cX6_copy 128 = .ok (.iconst 0, 1)) ∧ (decode cX6_copy 129 = .ok (.aload_n 0, 1)) ∧ (decode cX6_copy 130 = .ok (.getfield 29, 3)) ∧ (decode cX6_copy 133 = .ok (.getfield 79, 3)) ∧ (decode cX6_copy 136 = .ok (.iload_n 2, 1)) ∧ (decode cX6_copy 137 = .ok (.iaload, 1)) ∧ (decode cX6_copy 138 = .ok (.iload 5, 2)) := by decide +kernel
theorem dX6_copy_117 : decode cX6_copy 117 = .ok (.iload 5, 2) := qd1_147.1
theorem dX6_copy_119 : decode cX6_copy 119 = .ok (.isub, 1) := qd1_147.2.1
theorem dX6_copy_120 : decode cX6_copy 120 = .ok (.invokestatic 64, 3) := qd1_147.2.2.1
theorem dX6_copy_123 : decode cX6_copy 123 = .ok (.ifCond .eq 24, 3) := qd1_147.2.2.2.1
theorem dX6_copy_126 : decode cX6_copy 126 = .ok (.iload 4, 2) := qd1_147.2.2.2.2.1
theorem dX6_copy_128 : decode cX6_copy 128 = .ok (.iconst 0, 1) := qd1_147.2.2.2.2.2.1
theorem dX6_copy_129 : decode cX6_copy 129 = .ok (.aload_n 0, 1) := qd1_147.2.2.2.2.2.2.1
theorem dX6_copy_130 : decode cX6_copy 130 = .ok (.getfield 29, 3) := qd1_147.2.2.2.2.2.2.2.1
theorem dX6_copy_133 : decode cX6_copy 133 = .ok (.getfield 79, 3) := qd1_147.2.2.2.2.2.2.2.2.1
theorem dX6_copy_136 : decode cX6_copy 136 = .ok (.iload_n 2, 1) := qd1_147.2.2.2.2.2.2.2.2.2.1
theorem dX6_copy_137 : decode cX6_copy 137 = .ok (.iaload, 1) := qd1_147.2.2.2.2.2.2.2.2.2.2.1
theorem dX6_copy_138 : decode cX6_copy 138 = .ok (.iload 5, 2) := qd1_147.2.2.2.2.2.2.2.2.2.2.2
theorem qd1_148 : (decode cX6_copy 140 = .ok (.isub, 1)) ∧ (decode cX6_copy 141 = .ok (.invokestatic 64, 3)) ∧ (decode cX6_copy 144 = .ok (.ifCond .ne 10, 3)) ∧ (decode cX6_copy 147 = .ok (.aload_n 0, 1)) ∧ (decode cX6_copy 148 = .ok (.bipush (-2), 2)) ∧ (decode cX6_copy 150 = .ok (.invokevirtual 68, 3)) ∧ (decode cX6_copy 153 = .ok (.ireturn, 1)) ∧ (decode cX6_copy 154 = .ok (.aload_n 0, 1)) ∧ (decode cX6_copy 155 = .ok (.getfield 29, 3)) ∧ (decode cX6_copy 158 = .ok (.getfield 96, 3)) ∧ (decode cX6_copy 161 = .ok (.iload_n 1, 1)) ∧ (decode cX6_copy 162 = .ok (.aaload, 1)) := by decide +kernel
theorem dX6_copy_140 : decode cX6_copy 140 = .ok (.isub, 1) := qd1_148.1
theorem dX6_copy_141 : decode cX6_copy 141 = .ok (.invokestatic 64, 3) := qd1_148.2.1
theorem dX6_copy_144 : decode cX6_copy 144 = .ok (.ifCond .ne 10, 3) := qd1_148.2.2.1
theorem dX6_copy_147 : decode cX6_copy 147 = .ok (.aload_n 0, 1) := qd1_148.2.2.2.1
theorem dX6_copy_148 : decode cX6_copy 148 = .ok (.bipush (-2), 2) := qd1_148.2.2.2.2.1
theorem dX6_copy_150 : decode cX6_copy 150 = .ok (.invokevirtual 68, 3) := qd1_148.2.2.2.2.2.1
theorem dX6_copy_153 : decode cX6_copy 153 = .ok (.ireturn, 1) := qd1_148.2.2.2.2.2.2.1
theorem dX6_copy_154 : decode cX6_copy 154 = .ok (.aload_n 0, 1) := qd1_148.2.2.2.2.2.2.2.1
theorem dX6_copy_155 : decode cX6_copy 155 = .ok (.getfield 29, 3) := qd1_148.2.2.2.2.2.2.2.2.1
theorem dX6_copy_158 : decode cX6_copy 158 = .ok (.getfield 96, 3) := qd1_148.2.2.2.2.2.2.2.2.2.1
theorem dX6_copy_161 : decode cX6_copy 161 = .ok (.iload_n 1, 1) := qd1_148.2.2.2.2.2.2.2.2.2.2.1
theorem dX6_copy_162 : decode cX6_copy 162 = .ok (.aaload, 1) := qd1_148.2.2.2.2.2.2.2.2.2.2.2
theorem qd1_149 : (decode cX6_copy 163 = .ok (.iload_n 3, 1)) ∧ (decode cX6_copy 164 = .ok (.aload_n 0, 1)) ∧ (decode cX6_copy 165 = .ok (.getfield 29, 3)) ∧ (decode cX6_copy 168 = .ok (.getfield 96, 3)) ∧ (decode cX6_copy 171 = .ok (.iload_n 2, 1)) ∧ (decode cX6_copy 172 = .ok (.aaload, 1)) ∧ (decode cX6_copy 173 = .ok (.iload 4, 2)) ∧ (decode cX6_copy 175 = .ok (.iload 5, 2)) ∧ (decode cX6_copy 177 = .ok (.invokestatic 100, 3)) ∧ (decode cX6_copy 180 = .ok (.iload 5, 2)) ∧ (decode cX6_copy 182 = .ok (.ireturn, 1)) := by decide +kernel
theorem dX6_copy_163 : decode cX6_copy 163 = .ok (.iload_n 3, 1) := qd1_149.1
theorem dX6_copy_164 : decode cX6_copy 164 = .ok (.aload_n 0, 1) := qd1_149.2.1
theorem dX6_copy_165 : decode cX6_copy 165 = .ok (.getfield 29, 3) := qd1_149.2.2.1
theorem dX6_copy_168 : decode cX6_copy 168 = .ok (.getfield 96, 3) := qd1_149.2.2.2.1
theorem dX6_copy_171 : decode cX6_copy 171 = .ok (.iload_n 2, 1) := qd1_149.2.2.2.2.1
theorem dX6_copy_172 : decode cX6_copy 172 = .ok (.aaload, 1) := qd1_149.2.2.2.2.2.1
theorem dX6_copy_173 : decode cX6_copy 173 = .ok (.iload 4, 2) := qd1_149.2.2.2.2.2.2.1
theorem dX6_copy_175 : decode cX6_copy 175 = .ok (.iload 5, 2) := qd1_149.2.2.2.2.2.2.2.1
theorem dX6_copy_177 : decode cX6_copy 177 = .ok (.invokestatic 100, 3) := qd1_149.2.2.2.2.2.2.2.2.1
theorem dX6_copy_180 : decode cX6_copy 180 = .ok (.iload 5, 2) := qd1_149.2.2.2.2.2.2.2.2.2.1
theorem dX6_copy_182 : decode cX6_copy 182 = .ok (.ireturn, 1) := qd1_149.2.2.2.2.2.2.2.2.2.2
theorem qd1_150 : (decode cX6_element 0 = .ok (.iload_n 1, 1)) ∧ (decode cX6_element 1 = .ok (.invokestatic 60, 3)) ∧ (decode cX6_element 4 = .ok (.ifCond .eq 33, 3)) ∧ (decode cX6_element 7 = .ok (.aload_n 0, 1)) ∧ (decode cX6_element 8 = .ok (.getfield 29, 3)) ∧ (decode cX6_element 11 = .ok (.iload_n 1, 1)) ∧ (decode cX6_element 12 = .ok (.invokevirtual 106, 3)) ∧ (decode cX6_element 15 = .ok (.ifCond .eq 22, 3)) ∧ (decode cX6_element 18 = .ok (.iload_n 2, 1)) ∧ (decode cX6_element 19 = .ok (.iconst 0, 1)) ∧ (decode cX6_element 20 = .ok (.aload_n 0, 1)) ∧ (decode cX6_element 21 = .ok (.getfield 29, 3)) := by decide +kernel
theorem dX6_element_0 : decode cX6_element 0 = .ok (.iload_n 1, 1) := qd1_150.1
theorem dX6_element_1 : decode cX6_element 1 = .ok (.invokestatic 60, 3) := qd1_150.2.1
theorem dX6_element_4 : decode cX6_element 4 = .ok (.ifCond .eq 33, 3) := qd1_150.2.2.1
theorem dX6_element_7 : decode cX6_element 7 = .ok (.aload_n 0, 1) := qd1_150.2.2.2.1
theorem dX6_element_8 : decode cX6_element 8 = .ok (.getfield 29, 3) := qd1_150.2.2.2.2.1
theorem dX6_element_11 : decode cX6_element 11 = .ok (.iload_n 1, 1) := qd1_150.2.2.2.2.2.1
theorem dX6_element_12 : decode cX6_element 12 = .ok (.invokevirtual 106, 3) := qd1_150.2.2.2.2.2.2.1
theorem dX6_element_15 : decode cX6_element 15 = .ok (.ifCond .eq 22, 3) := qd1_150.2.2.2.2.2.2.2.1
theorem dX6_element_18 : decode cX6_element 18 = .ok (.iload_n 2, 1) := qd1_150.2.2.2.2.2.2.2.2.1
theorem dX6_element_19 : decode cX6_element 19 = .ok (.iconst 0, 1) := qd1_150.2.2.2.2.2.2.2.2.2.1
theorem dX6_element_20 : decode cX6_element 20 = .ok (.aload_n 0, 1) := qd1_150.2.2.2.2.2.2.2.2.2.2.1
theorem dX6_element_21 : decode cX6_element 21 = .ok (.getfield 29, 3) := qd1_150.2.2.2.2.2.2.2.2.2.2.2
theorem qd1_151 : (decode cX6_element 24 = .ok (.getfield 79, 3)) ∧ (decode cX6_element 27 = .ok (.iload_n 1, 1)) ∧ (decode cX6_element 28 = .ok (.iaload, 1)) ∧ (decode cX6_element 29 = .ok (.iconst 1, 1)) ∧ (decode cX6_element 30 = .ok (.isub, 1)) ∧ (decode cX6_element 31 = .ok (.invokestatic 64, 3)) ∧ (decode cX6_element 34 = .ok (.ifCond .ne 5, 3)) ∧ (decode cX6_element 37 = .ok (.lconst 0, 1)) ∧ (decode cX6_element 38 = .ok (.lreturn, 1)) ∧ (decode cX6_element 39 = .ok (.aload_n 0, 1)) ∧ (decode cX6_element 40 = .ok (.getfield 29, 3)) ∧ (decode cX6_element 43 = .ok (.getfield 96, 3)) := by decide +kernel
theorem dX6_element_24 : decode cX6_element 24 = .ok (.getfield 79, 3) := qd1_151.1
theorem dX6_element_27 : decode cX6_element 27 = .ok (.iload_n 1, 1) := qd1_151.2.1
theorem dX6_element_28 : decode cX6_element 28 = .ok (.iaload, 1) := qd1_151.2.2.1
theorem dX6_element_29 : decode cX6_element 29 = .ok (.iconst 1, 1) := qd1_151.2.2.2.1
theorem dX6_element_30 : decode cX6_element 30 = .ok (.isub, 1) := qd1_151.2.2.2.2.1
theorem dX6_element_31 : decode cX6_element 31 = .ok (.invokestatic 64, 3) := qd1_151.2.2.2.2.2.1
theorem dX6_element_34 : decode cX6_element 34 = .ok (.ifCond .ne 5, 3) := qd1_151.2.2.2.2.2.2.1
theorem dX6_element_37 : decode cX6_element 37 = .ok (.lconst 0, 1) := qd1_151.2.2.2.2.2.2.2.1
theorem dX6_element_38 : decode cX6_element 38 = .ok (.lreturn, 1) := qd1_151.2.2.2.2.2.2.2.2.1
theorem dX6_element_39 : decode cX6_element 39 = .ok (.aload_n 0, 1) := qd1_151.2.2.2.2.2.2.2.2.2.1
theorem dX6_element_40 : decode cX6_element 40 = .ok (.getfield 29, 3) := qd1_151.2.2.2.2.2.2.2.2.2.2.1
theorem dX6_element_43 : decode cX6_element 43 = .ok (.getfield 96, 3) := qd1_151.2.2.2.2.2.2.2.2.2.2.2
theorem qd1_152 : (decode cX6_element 46 = .ok (.iload_n 1, 1)) ∧ (decode cX6_element 47 = .ok (.aaload, 1)) ∧ (decode cX6_element 48 = .ok (.iload_n 2, 1)) ∧ (decode cX6_element 49 = .ok (.laload, 1)) ∧ (decode cX6_element 50 = .ok (.lreturn, 1)) := by decide +kernel
theorem dX6_element_46 : decode cX6_element 46 = .ok (.iload_n 1, 1) := qd1_152.1
theorem dX6_element_47 : decode cX6_element 47 = .ok (.aaload, 1) := qd1_152.2.1
theorem dX6_element_48 : decode cX6_element 48 = .ok (.iload_n 2, 1) := qd1_152.2.2.1
theorem dX6_element_49 : decode cX6_element 49 = .ok (.laload, 1) := qd1_152.2.2.2.1
theorem dX6_element_50 : decode cX6_element 50 = .ok (.lreturn, 1) := qd1_152.2.2.2.2
theorem qd1_153 : (decode cX6_holds 0 = .ok (.iload_n 1, 1)) ∧ (decode cX6_holds 1 = .ok (.invokestatic 60, 3)) ∧ (decode cX6_holds 4 = .ok (.ifCond .eq 15, 3)) ∧ (decode cX6_holds 7 = .ok (.aload_n 0, 1)) ∧ (decode cX6_holds 8 = .ok (.getfield 29, 3)) ∧ (decode cX6_holds 11 = .ok (.getfield 93, 3)) ∧ (decode cX6_holds 14 = .ok (.iload_n 1, 1)) ∧ (decode cX6_holds 15 = .ok (.iaload, 1)) ∧ (decode cX6_holds 16 = .ok (.goto 4, 3)) ∧ (decode cX6_holds 19 = .ok (.iconst (-1), 1)) ∧ (decode cX6_holds 20 = .ok (.ireturn, 1)) := by decide +kernel
theorem dX6_holds_0 : decode cX6_holds 0 = .ok (.iload_n 1, 1) := qd1_153.1
theorem dX6_holds_1 : decode cX6_holds 1 = .ok (.invokestatic 60, 3) := qd1_153.2.1
theorem dX6_holds_4 : decode cX6_holds 4 = .ok (.ifCond .eq 15, 3) := qd1_153.2.2.1
theorem dX6_holds_7 : decode cX6_holds 7 = .ok (.aload_n 0, 1) := qd1_153.2.2.2.1
theorem dX6_holds_8 : decode cX6_holds 8 = .ok (.getfield 29, 3) := qd1_153.2.2.2.2.1
theorem dX6_holds_11 : decode cX6_holds 11 = .ok (.getfield 93, 3) := qd1_153.2.2.2.2.2.1
theorem dX6_holds_14 : decode cX6_holds 14 = .ok (.iload_n 1, 1) := qd1_153.2.2.2.2.2.2.1
theorem dX6_holds_15 : decode cX6_holds 15 = .ok (.iaload, 1) := qd1_153.2.2.2.2.2.2.2.1
theorem dX6_holds_16 : decode cX6_holds 16 = .ok (.goto 4, 3) := qd1_153.2.2.2.2.2.2.2.2.1
theorem dX6_holds_19 : decode cX6_holds 19 = .ok (.iconst (-1), 1) := qd1_153.2.2.2.2.2.2.2.2.2.1
theorem dX6_holds_20 : decode cX6_holds 20 = .ok (.ireturn, 1) := qd1_153.2.2.2.2.2.2.2.2.2.2
theorem qd1_154 : (decode cX6_show 0 = .ok (.iload_n 1, 1)) ∧ (decode cX6_show 1 = .ok (.invokestatic 60, 3)) ∧ (decode cX6_show 4 = .ok (.ifCond .eq 19, 3)) ∧ (decode cX6_show 7 = .ok (.iload_n 2, 1)) ∧ (decode cX6_show 8 = .ok (.iconst (-1), 1)) ∧ (decode cX6_show 9 = .ok (.if_icmp .eq 21, 3)) ∧ (decode cX6_show 12 = .ok (.aload_n 0, 1)) ∧ (decode cX6_show 13 = .ok (.getfield 12, 3)) ∧ (decode cX6_show 16 = .ok (.iload_n 2, 1)) ∧ (decode cX6_show 17 = .ok (.invokevirtual 109, 3)) ∧ (decode cX6_show 20 = .ok (.ifCond .ne 10, 3)) ∧ (decode cX6_show 23 = .ok (.aload_n 0, 1)) := by decide +kernel
theorem dX6_show_0 : decode cX6_show 0 = .ok (.iload_n 1, 1) := qd1_154.1
theorem dX6_show_1 : decode cX6_show 1 = .ok (.invokestatic 60, 3) := qd1_154.2.1
theorem dX6_show_4 : decode cX6_show 4 = .ok (.ifCond .eq 19, 3) := qd1_154.2.2.1
theorem dX6_show_7 : decode cX6_show 7 = .ok (.iload_n 2, 1) := qd1_154.2.2.2.1
theorem dX6_show_8 : decode cX6_show 8 = .ok (.iconst (-1), 1) := qd1_154.2.2.2.2.1
theorem dX6_show_9 : decode cX6_show 9 = .ok (.if_icmp .eq 21, 3) := qd1_154.2.2.2.2.2.1
theorem dX6_show_12 : decode cX6_show 12 = .ok (.aload_n 0, 1) := qd1_154.2.2.2.2.2.2.1
theorem dX6_show_13 : decode cX6_show 13 = .ok (.getfield 12, 3) := qd1_154.2.2.2.2.2.2.2.1
theorem dX6_show_16 : decode cX6_show 16 = .ok (.iload_n 2, 1) := qd1_154.2.2.2.2.2.2.2.2.1
theorem dX6_show_17 : decode cX6_show 17 = .ok (.invokevirtual 109, 3) := qd1_154.2.2.2.2.2.2.2.2.2.1
theorem dX6_show_20 : decode cX6_show 20 = .ok (.ifCond .ne 10, 3) := qd1_154.2.2.2.2.2.2.2.2.2.2.1
theorem dX6_show_23 : decode cX6_show 23 = .ok (.aload_n 0, 1) := qd1_154.2.2.2.2.2.2.2.2.2.2.2
theorem qd1_155 : (decode cX6_show 24 = .ok (.bipush (-2), 2)) ∧ (decode cX6_show 26 = .ok (.invokevirtual 68, 3)) ∧ (decode cX6_show 29 = .ok (.ireturn, 1)) ∧ (decode cX6_show 30 = .ok (.aload_n 0, 1)) ∧ (decode cX6_show 31 = .ok (.getfield 29, 3)) ∧ (decode cX6_show 34 = .ok (.getfield 93, 3)) ∧ (decode cX6_show 37 = .ok (.iload_n 1, 1)) ∧ (decode cX6_show 38 = .ok (.iload_n 2, 1)) ∧ (decode cX6_show 39 = .ok (.iconst (-1), 1)) ∧ (decode cX6_show 40 = .ok (.if_icmp .ne 7, 3)) ∧ (decode cX6_show 43 = .ok (.iconst (-1), 1)) ∧ (decode cX6_show 44 = .ok (.goto 7, 3)) := by decide +kernel
theorem dX6_show_24 : decode cX6_show 24 = .ok (.bipush (-2), 2) := qd1_155.1
theorem dX6_show_26 : decode cX6_show 26 = .ok (.invokevirtual 68, 3) := qd1_155.2.1
theorem dX6_show_29 : decode cX6_show 29 = .ok (.ireturn, 1) := qd1_155.2.2.1
theorem dX6_show_30 : decode cX6_show 30 = .ok (.aload_n 0, 1) := qd1_155.2.2.2.1
theorem dX6_show_31 : decode cX6_show 31 = .ok (.getfield 29, 3) := qd1_155.2.2.2.2.1
theorem dX6_show_34 : decode cX6_show 34 = .ok (.getfield 93, 3) := qd1_155.2.2.2.2.2.1
theorem dX6_show_37 : decode cX6_show 37 = .ok (.iload_n 1, 1) := qd1_155.2.2.2.2.2.2.1
theorem dX6_show_38 : decode cX6_show 38 = .ok (.iload_n 2, 1) := qd1_155.2.2.2.2.2.2.2.1
theorem dX6_show_39 : decode cX6_show 39 = .ok (.iconst (-1), 1) := qd1_155.2.2.2.2.2.2.2.2.1
theorem dX6_show_40 : decode cX6_show 40 = .ok (.if_icmp .ne 7, 3) := qd1_155.2.2.2.2.2.2.2.2.2.1
theorem dX6_show_43 : decode cX6_show 43 = .ok (.iconst (-1), 1) := qd1_155.2.2.2.2.2.2.2.2.2.2.1
theorem dX6_show_44 : decode cX6_show 44 = .ok (.goto 7, 3) := qd1_155.2.2.2.2.2.2.2.2.2.2.2
theorem qd1_156 : (decode cX6_show 47 = .ok (.bipush 10, 2)) ∧ (decode cX6_show 49 = .ok (.iload_n 2, 1)) ∧ (decode cX6_show 50 = .ok (.iadd, 1)) ∧ (decode cX6_show 51 = .ok (.iastore, 1)) ∧ (decode cX6_show 52 = .ok (.iconst 1, 1)) ∧ (decode cX6_show 53 = .ok (.ireturn, 1)) := by decide +kernel
theorem dX6_show_47 : decode cX6_show 47 = .ok (.bipush 10, 2) := qd1_156.1
theorem dX6_show_49 : decode cX6_show 49 = .ok (.iload_n 2, 1) := qd1_156.2.1
theorem dX6_show_50 : decode cX6_show 50 = .ok (.iadd, 1) := qd1_156.2.2.1
theorem dX6_show_51 : decode cX6_show 51 = .ok (.iastore, 1) := qd1_156.2.2.2.1
theorem dX6_show_52 : decode cX6_show 52 = .ok (.iconst 1, 1) := qd1_156.2.2.2.2.1
theorem dX6_show_53 : decode cX6_show 53 = .ok (.ireturn, 1) := qd1_156.2.2.2.2.2
theorem qd1_157 : (decode cX6_says 0 = .ok (.iload_n 1, 1)) ∧ (decode cX6_says 1 = .ok (.invokestatic 60, 3)) ∧ (decode cX6_says 4 = .ok (.ifCond .eq 12, 3)) ∧ (decode cX6_says 7 = .ok (.iload_n 2, 1)) ∧ (decode cX6_says 8 = .ok (.iconst 0, 1)) ∧ (decode cX6_says 9 = .ok (.iconst 5, 1)) ∧ (decode cX6_says 10 = .ok (.invokestatic 64, 3)) ∧ (decode cX6_says 13 = .ok (.ifCond .ne 10, 3)) ∧ (decode cX6_says 16 = .ok (.aload_n 0, 1)) ∧ (decode cX6_says 17 = .ok (.bipush (-2), 2)) ∧ (decode cX6_says 19 = .ok (.invokevirtual 68, 3)) ∧ (decode cX6_says 22 = .ok (.ireturn, 1)) := by decide +kernel
theorem dX6_says_0 : decode cX6_says 0 = .ok (.iload_n 1, 1) := qd1_157.1
theorem dX6_says_1 : decode cX6_says 1 = .ok (.invokestatic 60, 3) := qd1_157.2.1
theorem dX6_says_4 : decode cX6_says 4 = .ok (.ifCond .eq 12, 3) := qd1_157.2.2.1
theorem dX6_says_7 : decode cX6_says 7 = .ok (.iload_n 2, 1) := qd1_157.2.2.2.1
theorem dX6_says_8 : decode cX6_says 8 = .ok (.iconst 0, 1) := qd1_157.2.2.2.2.1
theorem dX6_says_9 : decode cX6_says 9 = .ok (.iconst 5, 1) := qd1_157.2.2.2.2.2.1
theorem dX6_says_10 : decode cX6_says 10 = .ok (.invokestatic 64, 3) := qd1_157.2.2.2.2.2.2.1
theorem dX6_says_13 : decode cX6_says 13 = .ok (.ifCond .ne 10, 3) := qd1_157.2.2.2.2.2.2.2.1
theorem dX6_says_16 : decode cX6_says 16 = .ok (.aload_n 0, 1) := qd1_157.2.2.2.2.2.2.2.2.1
theorem dX6_says_17 : decode cX6_says 17 = .ok (.bipush (-2), 2) := qd1_157.2.2.2.2.2.2.2.2.2.1
theorem dX6_says_19 : decode cX6_says 19 = .ok (.invokevirtual 68, 3) := qd1_157.2.2.2.2.2.2.2.2.2.2.1
theorem dX6_says_22 : decode cX6_says 22 = .ok (.ireturn, 1) := qd1_157.2.2.2.2.2.2.2.2.2.2.2
theorem qd1_158 : (decode cX6_says 23 = .ok (.aload_n 0, 1)) ∧ (decode cX6_says 24 = .ok (.getfield 29, 3)) ∧ (decode cX6_says 27 = .ok (.iload_n 1, 1)) ∧ (decode cX6_says 28 = .ok (.invokevirtual 110, 3)) ∧ (decode cX6_says 31 = .ok (.istore_n 3, 1)) ∧ (decode cX6_says 32 = .ok (.aload_n 0, 1)) ∧ (decode cX6_says 33 = .ok (.getfield 29, 3)) ∧ (decode cX6_says 36 = .ok (.iload_n 1, 1)) ∧ (decode cX6_says 37 = .ok (.invokevirtual 106, 3)) ∧ (decode cX6_says 40 = .ok (.ifCond .ne 30, 3)) ∧ (decode cX6_says 43 = .ok (.aload_n 0, 1)) ∧ (decode cX6_says 44 = .ok (.getfield 12, 3)) := by decide +kernel
theorem dX6_says_23 : decode cX6_says 23 = .ok (.aload_n 0, 1) := qd1_158.1
theorem dX6_says_24 : decode cX6_says 24 = .ok (.getfield 29, 3) := qd1_158.2.1
theorem dX6_says_27 : decode cX6_says 27 = .ok (.iload_n 1, 1) := qd1_158.2.2.1
theorem dX6_says_28 : decode cX6_says 28 = .ok (.invokevirtual 110, 3) := qd1_158.2.2.2.1
theorem dX6_says_31 : decode cX6_says 31 = .ok (.istore_n 3, 1) := qd1_158.2.2.2.2.1
theorem dX6_says_32 : decode cX6_says 32 = .ok (.aload_n 0, 1) := qd1_158.2.2.2.2.2.1
theorem dX6_says_33 : decode cX6_says 33 = .ok (.getfield 29, 3) := qd1_158.2.2.2.2.2.2.1
theorem dX6_says_36 : decode cX6_says 36 = .ok (.iload_n 1, 1) := qd1_158.2.2.2.2.2.2.2.1
theorem dX6_says_37 : decode cX6_says 37 = .ok (.invokevirtual 106, 3) := qd1_158.2.2.2.2.2.2.2.2.1
theorem dX6_says_40 : decode cX6_says 40 = .ok (.ifCond .ne 30, 3) := qd1_158.2.2.2.2.2.2.2.2.2.1
theorem dX6_says_43 : decode cX6_says 43 = .ok (.aload_n 0, 1) := qd1_158.2.2.2.2.2.2.2.2.2.2.1
theorem dX6_says_44 : decode cX6_says 44 = .ok (.getfield 12, 3) := qd1_158.2.2.2.2.2.2.2.2.2.2.2
theorem qd1_159 : (decode cX6_says 47 = .ok (.iload_n 3, 1)) ∧ (decode cX6_says 48 = .ok (.invokevirtual 109, 3)) ∧ (decode cX6_says 51 = .ok (.ifCond .eq 26, 3)) ∧ (decode cX6_says 54 = .ok (.aload_n 0, 1)) ∧ (decode cX6_says 55 = .ok (.getfield 12, 3)) ∧ (decode cX6_says 58 = .ok (.iload_n 3, 1)) ∧ (decode cX6_says 59 = .ok (.iconst 0, 1)) ∧ (decode cX6_says 60 = .ok (.invokevirtual 113, 3)) ∧ (decode cX6_says 63 = .ok (.iload_n 2, 1)) ∧ (decode cX6_says 64 = .ok (.invokestatic 117, 3)) ∧ (decode cX6_says 67 = .ok (.ifCond .ne 10, 3)) ∧ (decode cX6_says 70 = .ok (.aload_n 0, 1)) := by decide +kernel
theorem dX6_says_47 : decode cX6_says 47 = .ok (.iload_n 3, 1) := qd1_159.1
theorem dX6_says_48 : decode cX6_says 48 = .ok (.invokevirtual 109, 3) := qd1_159.2.1
theorem dX6_says_51 : decode cX6_says 51 = .ok (.ifCond .eq 26, 3) := qd1_159.2.2.1
theorem dX6_says_54 : decode cX6_says 54 = .ok (.aload_n 0, 1) := qd1_159.2.2.2.1
theorem dX6_says_55 : decode cX6_says 55 = .ok (.getfield 12, 3) := qd1_159.2.2.2.2.1
theorem dX6_says_58 : decode cX6_says 58 = .ok (.iload_n 3, 1) := qd1_159.2.2.2.2.2.1
theorem dX6_says_59 : decode cX6_says 59 = .ok (.iconst 0, 1) := qd1_159.2.2.2.2.2.2.1
theorem dX6_says_60 : decode cX6_says 60 = .ok (.invokevirtual 113, 3) := qd1_159.2.2.2.2.2.2.2.1
theorem dX6_says_63 : decode cX6_says 63 = .ok (.iload_n 2, 1) := qd1_159.2.2.2.2.2.2.2.2.1
theorem dX6_says_64 : decode cX6_says 64 = .ok (.invokestatic 117, 3) := qd1_159.2.2.2.2.2.2.2.2.2.1
theorem dX6_says_67 : decode cX6_says 67 = .ok (.ifCond .ne 10, 3) := qd1_159.2.2.2.2.2.2.2.2.2.2.1
theorem dX6_says_70 : decode cX6_says 70 = .ok (.aload_n 0, 1) := qd1_159.2.2.2.2.2.2.2.2.2.2.2
theorem qd1_160 : (decode cX6_says 71 = .ok (.bipush (-3), 2)) ∧ (decode cX6_says 73 = .ok (.invokevirtual 68, 3)) ∧ (decode cX6_says 76 = .ok (.ireturn, 1)) ∧ (decode cX6_says 77 = .ok (.aload_n 0, 1)) ∧ (decode cX6_says 78 = .ok (.getfield 12, 3)) ∧ (decode cX6_says 81 = .ok (.iload_n 3, 1)) ∧ (decode cX6_says 82 = .ok (.invokevirtual 109, 3)) ∧ (decode cX6_says 85 = .ok (.ifCond .ne 10, 3)) ∧ (decode cX6_says 88 = .ok (.aload_n 0, 1)) ∧ (decode cX6_says 89 = .ok (.bipush (-4), 2)) ∧ (decode cX6_says 91 = .ok (.invokevirtual 68, 3)) ∧ (decode cX6_says 94 = .ok (.ireturn, 1)) := by decide +kernel
theorem dX6_says_71 : decode cX6_says 71 = .ok (.bipush (-3), 2) := qd1_160.1
theorem dX6_says_73 : decode cX6_says 73 = .ok (.invokevirtual 68, 3) := qd1_160.2.1
theorem dX6_says_76 : decode cX6_says 76 = .ok (.ireturn, 1) := qd1_160.2.2.1
theorem dX6_says_77 : decode cX6_says 77 = .ok (.aload_n 0, 1) := qd1_160.2.2.2.1
theorem dX6_says_78 : decode cX6_says 78 = .ok (.getfield 12, 3) := qd1_160.2.2.2.2.1
theorem dX6_says_81 : decode cX6_says 81 = .ok (.iload_n 3, 1) := qd1_160.2.2.2.2.2.1
theorem dX6_says_82 : decode cX6_says 82 = .ok (.invokevirtual 109, 3) := qd1_160.2.2.2.2.2.2.1
theorem dX6_says_85 : decode cX6_says 85 = .ok (.ifCond .ne 10, 3) := qd1_160.2.2.2.2.2.2.2.1
theorem dX6_says_88 : decode cX6_says 88 = .ok (.aload_n 0, 1) := qd1_160.2.2.2.2.2.2.2.2.1
theorem dX6_says_89 : decode cX6_says 89 = .ok (.bipush (-4), 2) := qd1_160.2.2.2.2.2.2.2.2.2.1
theorem dX6_says_91 : decode cX6_says 91 = .ok (.invokevirtual 68, 3) := qd1_160.2.2.2.2.2.2.2.2.2.2.1
theorem dX6_says_94 : decode cX6_says 94 = .ok (.ireturn, 1) := qd1_160.2.2.2.2.2.2.2.2.2.2.2
theorem qd1_161 : (decode cX6_says 95 = .ok (.iload_n 2, 1)) ∧ (decode cX6_says 96 = .ok (.lookupswitch 69 #[(0, 36), (4, 46), (5, 46)], 36)) ∧ (decode cX6_says 132 = .ok (.aload_n 0, 1)) ∧ (decode cX6_says 133 = .ok (.getfield 12, 3)) ∧ (decode cX6_says 136 = .ok (.iload_n 3, 1)) ∧ (decode cX6_says 137 = .ok (.iconst 3, 1)) ∧ (decode cX6_says 138 = .ok (.invokevirtual 113, 3)) ∧ (decode cX6_says 141 = .ok (.ireturn, 1)) ∧ (decode cX6_says 142 = .ok (.bipush 100, 2)) ∧ (decode cX6_says 144 = .ok (.aload_n 0, 1)) ∧ (decode cX6_says 145 = .ok (.getfield 12, 3)) ∧ (decode cX6_says 148 = .ok (.iload_n 3, 1)) := by decide +kernel
theorem dX6_says_95 : decode cX6_says 95 = .ok (.iload_n 2, 1) := qd1_161.1
theorem dX6_says_96 : decode cX6_says 96 = .ok (.lookupswitch 69 #[(0, 36), (4, 46), (5, 46)], 36) := qd1_161.2.1
theorem dX6_says_132 : decode cX6_says 132 = .ok (.aload_n 0, 1) := qd1_161.2.2.1
theorem dX6_says_133 : decode cX6_says 133 = .ok (.getfield 12, 3) := qd1_161.2.2.2.1
theorem dX6_says_136 : decode cX6_says 136 = .ok (.iload_n 3, 1) := qd1_161.2.2.2.2.1
theorem dX6_says_137 : decode cX6_says 137 = .ok (.iconst 3, 1) := qd1_161.2.2.2.2.2.1
theorem dX6_says_138 : decode cX6_says 138 = .ok (.invokevirtual 113, 3) := qd1_161.2.2.2.2.2.2.1
theorem dX6_says_141 : decode cX6_says 141 = .ok (.ireturn, 1) := qd1_161.2.2.2.2.2.2.2.1
theorem dX6_says_142 : decode cX6_says 142 = .ok (.bipush 100, 2) := qd1_161.2.2.2.2.2.2.2.2.1
theorem dX6_says_144 : decode cX6_says 144 = .ok (.aload_n 0, 1) := qd1_161.2.2.2.2.2.2.2.2.2.1
theorem dX6_says_145 : decode cX6_says 145 = .ok (.getfield 12, 3) := qd1_161.2.2.2.2.2.2.2.2.2.2.1
theorem dX6_says_148 : decode cX6_says 148 = .ok (.iload_n 3, 1) := qd1_161.2.2.2.2.2.2.2.2.2.2.2
theorem qd1_162 : (decode cX6_says 149 = .ok (.iconst 1, 1)) ∧ (decode cX6_says 150 = .ok (.invokevirtual 113, 3)) ∧ (decode cX6_says 153 = .ok (.imul, 1)) ∧ (decode cX6_says 154 = .ok (.aload_n 0, 1)) ∧ (decode cX6_says 155 = .ok (.getfield 12, 3)) ∧ (decode cX6_says 158 = .ok (.iload_n 3, 1)) ∧ (decode cX6_says 159 = .ok (.iconst 2, 1)) ∧ (decode cX6_says 160 = .ok (.invokevirtual 113, 3)) ∧ (decode cX6_says 163 = .ok (.iadd, 1)) ∧ (decode cX6_says 164 = .ok (.ireturn, 1)) ∧ (decode cX6_says 165 = .ok (.aload_n 0, 1)) ∧ (decode cX6_says 166 = .ok (.getfield 12, 3)) := by decide +kernel
theorem dX6_says_149 : decode cX6_says 149 = .ok (.iconst 1, 1) := qd1_162.1
theorem dX6_says_150 : decode cX6_says 150 = .ok (.invokevirtual 113, 3) := qd1_162.2.1
theorem dX6_says_153 : decode cX6_says 153 = .ok (.imul, 1) := qd1_162.2.2.1
theorem dX6_says_154 : decode cX6_says 154 = .ok (.aload_n 0, 1) := qd1_162.2.2.2.1
theorem dX6_says_155 : decode cX6_says 155 = .ok (.getfield 12, 3) := qd1_162.2.2.2.2.1
theorem dX6_says_158 : decode cX6_says 158 = .ok (.iload_n 3, 1) := qd1_162.2.2.2.2.2.1
theorem dX6_says_159 : decode cX6_says 159 = .ok (.iconst 2, 1) := qd1_162.2.2.2.2.2.2.1
theorem dX6_says_160 : decode cX6_says 160 = .ok (.invokevirtual 113, 3) := qd1_162.2.2.2.2.2.2.2.1
theorem dX6_says_163 : decode cX6_says 163 = .ok (.iadd, 1) := qd1_162.2.2.2.2.2.2.2.2.1
theorem dX6_says_164 : decode cX6_says 164 = .ok (.ireturn, 1) := qd1_162.2.2.2.2.2.2.2.2.2.1
theorem dX6_says_165 : decode cX6_says 165 = .ok (.aload_n 0, 1) := qd1_162.2.2.2.2.2.2.2.2.2.2.1
theorem dX6_says_166 : decode cX6_says 166 = .ok (.getfield 12, 3) := qd1_162.2.2.2.2.2.2.2.2.2.2.2
theorem qd1_163 : (decode cX6_says 169 = .ok (.iload_n 3, 1)) ∧ (decode cX6_says 170 = .ok (.iconst 1, 1)) ∧ (decode cX6_says 171 = .ok (.invokevirtual 113, 3)) ∧ (decode cX6_says 174 = .ok (.ireturn, 1)) := by decide +kernel
theorem dX6_says_169 : decode cX6_says 169 = .ok (.iload_n 3, 1) := qd1_163.1
theorem dX6_says_170 : decode cX6_says 170 = .ok (.iconst 1, 1) := qd1_163.2.1
theorem dX6_says_171 : decode cX6_says 171 = .ok (.invokevirtual 113, 3) := qd1_163.2.2.1
theorem dX6_says_174 : decode cX6_says 174 = .ok (.ireturn, 1) := qd1_163.2.2.2
theorem qd1_164 : (decode cX6_line 0 = .ok (.iload_n 1, 1)) ∧ (decode cX6_line 1 = .ok (.invokestatic 120, 3)) ∧ (decode cX6_line 4 = .ok (.ifCond .eq 58, 3)) ∧ (decode cX6_line 7 = .ok (.iload_n 2, 1)) ∧ (decode cX6_line 8 = .ok (.invokestatic 120, 3)) ∧ (decode cX6_line 11 = .ok (.ifCond .eq 51, 3)) ∧ (decode cX6_line 14 = .ok (.iload_n 1, 1)) ∧ (decode cX6_line 15 = .ok (.iload_n 2, 1)) ∧ (decode cX6_line 16 = .ok (.if_icmp .eq 46, 3)) ∧ (decode cX6_line 19 = .ok (.iload_n 3, 1)) ∧ (decode cX6_line 20 = .ok (.iconst 1, 1)) ∧ (decode cX6_line 21 = .ok (.bipush 7, 2)) := by decide +kernel
theorem dX6_line_0 : decode cX6_line 0 = .ok (.iload_n 1, 1) := qd1_164.1
theorem dX6_line_1 : decode cX6_line 1 = .ok (.invokestatic 120, 3) := qd1_164.2.1
theorem dX6_line_4 : decode cX6_line 4 = .ok (.ifCond .eq 58, 3) := qd1_164.2.2.1
theorem dX6_line_7 : decode cX6_line 7 = .ok (.iload_n 2, 1) := qd1_164.2.2.2.1
theorem dX6_line_8 : decode cX6_line 8 = .ok (.invokestatic 120, 3) := qd1_164.2.2.2.2.1
theorem dX6_line_11 : decode cX6_line 11 = .ok (.ifCond .eq 51, 3) := qd1_164.2.2.2.2.2.1
theorem dX6_line_14 : decode cX6_line 14 = .ok (.iload_n 1, 1) := qd1_164.2.2.2.2.2.2.1
theorem dX6_line_15 : decode cX6_line 15 = .ok (.iload_n 2, 1) := qd1_164.2.2.2.2.2.2.2.1
theorem dX6_line_16 : decode cX6_line 16 = .ok (.if_icmp .eq 46, 3) := qd1_164.2.2.2.2.2.2.2.2.1
theorem dX6_line_19 : decode cX6_line 19 = .ok (.iload_n 3, 1) := qd1_164.2.2.2.2.2.2.2.2.2.1
theorem dX6_line_20 : decode cX6_line 20 = .ok (.iconst 1, 1) := qd1_164.2.2.2.2.2.2.2.2.2.2.1
theorem dX6_line_21 : decode cX6_line 21 = .ok (.bipush 7, 2) := qd1_164.2.2.2.2.2.2.2.2.2.2.2
theorem qd1_165 : (decode cX6_line 23 = .ok (.invokestatic 64, 3)) ∧ (decode cX6_line 26 = .ok (.ifCond .eq 36, 3)) ∧ (decode cX6_line 29 = .ok (.iload 4, 2)) ∧ (decode cX6_line 31 = .ok (.iconst 1, 1)) ∧ (decode cX6_line 32 = .ok (.bipush 60, 2)) ∧ (decode cX6_line 34 = .ok (.invokestatic 64, 3)) ∧ (decode cX6_line 37 = .ok (.ifCond .eq 25, 3)) ∧ (decode cX6_line 40 = .ok (.iload 5, 2)) ∧ (decode cX6_line 42 = .ok (.iconst 1, 1)) ∧ (decode cX6_line 43 = .ok (.sipush 999, 3)) ∧ (decode cX6_line 46 = .ok (.invokestatic 64, 3)) ∧ (decode cX6_line 49 = .ok (.ifCond .eq 13, 3)) := by decide +kernel
theorem dX6_line_23 : decode cX6_line 23 = .ok (.invokestatic 64, 3) := qd1_165.1
theorem dX6_line_26 : decode cX6_line 26 = .ok (.ifCond .eq 36, 3) := qd1_165.2.1
theorem dX6_line_29 : decode cX6_line 29 = .ok (.iload 4, 2) := qd1_165.2.2.1
theorem dX6_line_31 : decode cX6_line 31 = .ok (.iconst 1, 1) := qd1_165.2.2.2.1
theorem dX6_line_32 : decode cX6_line 32 = .ok (.bipush 60, 2) := qd1_165.2.2.2.2.1
theorem dX6_line_34 : decode cX6_line 34 = .ok (.invokestatic 64, 3) := qd1_165.2.2.2.2.2.1
theorem dX6_line_37 : decode cX6_line 37 = .ok (.ifCond .eq 25, 3) := qd1_165.2.2.2.2.2.2.1
theorem dX6_line_40 : decode cX6_line 40 = .ok (.iload 5, 2) := qd1_165.2.2.2.2.2.2.2.1
theorem dX6_line_42 : decode cX6_line 42 = .ok (.iconst 1, 1) := qd1_165.2.2.2.2.2.2.2.2.1
theorem dX6_line_43 : decode cX6_line 43 = .ok (.sipush 999, 3) := qd1_165.2.2.2.2.2.2.2.2.2.1
theorem dX6_line_46 : decode cX6_line 46 = .ok (.invokestatic 64, 3) := qd1_165.2.2.2.2.2.2.2.2.2.2.1
theorem dX6_line_49 : decode cX6_line 49 = .ok (.ifCond .eq 13, 3) := qd1_165.2.2.2.2.2.2.2.2.2.2.2
theorem qd1_166 : (decode cX6_line 52 = .ok (.iload 6, 2)) ∧ (decode cX6_line 54 = .ok (.iconst 0, 1)) ∧ (decode cX6_line 55 = .ok (.iconst 5, 1)) ∧ (decode cX6_line 56 = .ok (.invokestatic 64, 3)) ∧ (decode cX6_line 59 = .ok (.ifCond .ne 10, 3)) ∧ (decode cX6_line 62 = .ok (.aload_n 0, 1)) ∧ (decode cX6_line 63 = .ok (.bipush (-2), 2)) ∧ (decode cX6_line 65 = .ok (.invokevirtual 68, 3)) ∧ (decode cX6_line 68 = .ok (.ireturn, 1)) ∧ (decode cX6_line 69 = .ok (.aload_n 0, 1)) ∧ (decode cX6_line 70 = .ok (.getfield 12, 3)) ∧ (decode cX6_line 73 = .ok (.getfield 123, 3)) := by decide +kernel
theorem dX6_line_52 : decode cX6_line 52 = .ok (.iload 6, 2) := qd1_166.1
theorem dX6_line_54 : decode cX6_line 54 = .ok (.iconst 0, 1) := qd1_166.2.1
theorem dX6_line_55 : decode cX6_line 55 = .ok (.iconst 5, 1) := qd1_166.2.2.1
theorem dX6_line_56 : decode cX6_line 56 = .ok (.invokestatic 64, 3) := qd1_166.2.2.2.1
theorem dX6_line_59 : decode cX6_line 59 = .ok (.ifCond .ne 10, 3) := qd1_166.2.2.2.2.1
theorem dX6_line_62 : decode cX6_line 62 = .ok (.aload_n 0, 1) := qd1_166.2.2.2.2.2.1
theorem dX6_line_63 : decode cX6_line 63 = .ok (.bipush (-2), 2) := qd1_166.2.2.2.2.2.2.1
theorem dX6_line_65 : decode cX6_line 65 = .ok (.invokevirtual 68, 3) := qd1_166.2.2.2.2.2.2.2.1
theorem dX6_line_68 : decode cX6_line 68 = .ok (.ireturn, 1) := qd1_166.2.2.2.2.2.2.2.2.1
theorem dX6_line_69 : decode cX6_line 69 = .ok (.aload_n 0, 1) := qd1_166.2.2.2.2.2.2.2.2.2.1
theorem dX6_line_70 : decode cX6_line 70 = .ok (.getfield 12, 3) := qd1_166.2.2.2.2.2.2.2.2.2.2.1
theorem dX6_line_73 : decode cX6_line 73 = .ok (.getfield 123, 3) := qd1_166.2.2.2.2.2.2.2.2.2.2.2
theorem qd1_167 : (decode cX6_line 76 = .ok (.bipush 20, 2)) ∧ (decode cX6_line 78 = .ok (.if_icmp .lt 10, 3)) ∧ (decode cX6_line 81 = .ok (.aload_n 0, 1)) ∧ (decode cX6_line 82 = .ok (.bipush (-6), 2)) ∧ (decode cX6_line 84 = .ok (.invokevirtual 68, 3)) ∧ (decode cX6_line 87 = .ok (.ireturn, 1)) ∧ (decode cX6_line 88 = .ok (.aload_n 0, 1)) ∧ (decode cX6_line 89 = .ok (.getfield 12, 3)) ∧ (decode cX6_line 92 = .ok (.iload_n 1, 1)) ∧ (decode cX6_line 93 = .ok (.iload_n 2, 1)) ∧ (decode cX6_line 94 = .ok (.iload_n 3, 1)) ∧ (decode cX6_line 95 = .ok (.iload 4, 2)) := by decide +kernel
theorem dX6_line_76 : decode cX6_line 76 = .ok (.bipush 20, 2) := qd1_167.1
theorem dX6_line_78 : decode cX6_line 78 = .ok (.if_icmp .lt 10, 3) := qd1_167.2.1
theorem dX6_line_81 : decode cX6_line 81 = .ok (.aload_n 0, 1) := qd1_167.2.2.1
theorem dX6_line_82 : decode cX6_line 82 = .ok (.bipush (-6), 2) := qd1_167.2.2.2.1
theorem dX6_line_84 : decode cX6_line 84 = .ok (.invokevirtual 68, 3) := qd1_167.2.2.2.2.1
theorem dX6_line_87 : decode cX6_line 87 = .ok (.ireturn, 1) := qd1_167.2.2.2.2.2.1
theorem dX6_line_88 : decode cX6_line 88 = .ok (.aload_n 0, 1) := qd1_167.2.2.2.2.2.2.1
theorem dX6_line_89 : decode cX6_line 89 = .ok (.getfield 12, 3) := qd1_167.2.2.2.2.2.2.2.1
theorem dX6_line_92 : decode cX6_line 92 = .ok (.iload_n 1, 1) := qd1_167.2.2.2.2.2.2.2.2.1
theorem dX6_line_93 : decode cX6_line 93 = .ok (.iload_n 2, 1) := qd1_167.2.2.2.2.2.2.2.2.2.1
theorem dX6_line_94 : decode cX6_line 94 = .ok (.iload_n 3, 1) := qd1_167.2.2.2.2.2.2.2.2.2.2.1
theorem dX6_line_95 : decode cX6_line 95 = .ok (.iload 4, 2) := qd1_167.2.2.2.2.2.2.2.2.2.2.2
theorem qd1_168 : (decode cX6_line 97 = .ok (.iload 5, 2)) ∧ (decode cX6_line 99 = .ok (.iload 6, 2)) ∧ (decode cX6_line 101 = .ok (.invokevirtual 126, 3)) ∧ (decode cX6_line 104 = .ok (.aload_n 0, 1)) ∧ (decode cX6_line 105 = .ok (.getfield 12, 3)) ∧ (decode cX6_line 108 = .ok (.getfield 123, 3)) ∧ (decode cX6_line 111 = .ok (.iconst 1, 1)) ∧ (decode cX6_line 112 = .ok (.isub, 1)) ∧ (decode cX6_line 113 = .ok (.ireturn, 1)) := by decide +kernel
theorem dX6_line_97 : decode cX6_line 97 = .ok (.iload 5, 2) := qd1_168.1
theorem dX6_line_99 : decode cX6_line 99 = .ok (.iload 6, 2) := qd1_168.2.1
theorem dX6_line_101 : decode cX6_line 101 = .ok (.invokevirtual 126, 3) := qd1_168.2.2.1
theorem dX6_line_104 : decode cX6_line 104 = .ok (.aload_n 0, 1) := qd1_168.2.2.2.1
theorem dX6_line_105 : decode cX6_line 105 = .ok (.getfield 12, 3) := qd1_168.2.2.2.2.1
theorem dX6_line_108 : decode cX6_line 108 = .ok (.getfield 123, 3) := qd1_168.2.2.2.2.2.1
theorem dX6_line_111 : decode cX6_line 111 = .ok (.iconst 1, 1) := qd1_168.2.2.2.2.2.2.1
theorem dX6_line_112 : decode cX6_line 112 = .ok (.isub, 1) := qd1_168.2.2.2.2.2.2.2.1
theorem dX6_line_113 : decode cX6_line 113 = .ok (.ireturn, 1) := qd1_168.2.2.2.2.2.2.2.2
