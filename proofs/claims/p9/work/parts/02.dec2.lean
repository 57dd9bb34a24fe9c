theorem qd2_0 : (decode cX6_goods 0 = .ok (.iload_n 1, 1)) ∧ (decode cX6_goods 1 = .ok (.invokestatic 120, 3)) ∧ (decode cX6_goods 4 = .ok (.ifCond .eq 25, 3)) ∧ (decode cX6_goods 7 = .ok (.iload_n 2, 1)) ∧ (decode cX6_goods 8 = .ok (.invokestatic 120, 3)) ∧ (decode cX6_goods 11 = .ok (.ifCond .eq 18, 3)) ∧ (decode cX6_goods 14 = .ok (.iload_n 1, 1)) ∧ (decode cX6_goods 15 = .ok (.iload_n 2, 1)) ∧ (decode cX6_goods 16 = .ok (.if_icmp .eq 13, 3)) ∧ (decode cX6_goods 19 = .ok (.iload_n 3, 1)) ∧ (decode cX6_goods 20 = .ok (.iconst 1, 1)) ∧ (decode cX6_goods 21 = .ok (.bipush 99, 2)) := by decide +kernel
theorem dX6_goods_0 : decode cX6_goods 0 = .ok (.iload_n 1, 1) := qd2_0.1
theorem dX6_goods_1 : decode cX6_goods 1 = .ok (.invokestatic 120, 3) := qd2_0.2.1
theorem dX6_goods_4 : decode cX6_goods 4 = .ok (.ifCond .eq 25, 3) := qd2_0.2.2.1
theorem dX6_goods_7 : decode cX6_goods 7 = .ok (.iload_n 2, 1) := qd2_0.2.2.2.1
theorem dX6_goods_8 : decode cX6_goods 8 = .ok (.invokestatic 120, 3) := qd2_0.2.2.2.2.1
theorem dX6_goods_11 : decode cX6_goods 11 = .ok (.ifCond .eq 18, 3) := qd2_0.2.2.2.2.2.1
theorem dX6_goods_14 : decode cX6_goods 14 = .ok (.iload_n 1, 1) := qd2_0.2.2.2.2.2.2.1
theorem dX6_goods_15 : decode cX6_goods 15 = .ok (.iload_n 2, 1) := qd2_0.2.2.2.2.2.2.2.1
theorem dX6_goods_16 : decode cX6_goods 16 = .ok (.if_icmp .eq 13, 3) := qd2_0.2.2.2.2.2.2.2.2.1
theorem dX6_goods_19 : decode cX6_goods 19 = .ok (.iload_n 3, 1) := qd2_0.2.2.2.2.2.2.2.2.2.1
theorem dX6_goods_20 : decode cX6_goods 20 = .ok (.iconst 1, 1) := qd2_0.2.2.2.2.2.2.2.2.2.2.1
theorem dX6_goods_21 : decode cX6_goods 21 = .ok (.bipush 99, 2) := qd2_0.2.2.2.2.2.2.2.2.2.2.2
theorem qd2_1 : (decode cX6_goods 23 = .ok (.invokestatic 64, 3)) ∧ (decode cX6_goods 26 = .ok (.ifCond .ne 10, 3)) ∧ (decode cX6_goods 29 = .ok (.aload_n 0, 1)) ∧ (decode cX6_goods 30 = .ok (.bipush (-2), 2)) ∧ (decode cX6_goods 32 = .ok (.invokevirtual 68, 3)) ∧ (decode cX6_goods 35 = .ok (.ireturn, 1)) ∧ (decode cX6_goods 36 = .ok (.aload_n 0, 1)) ∧ (decode cX6_goods 37 = .ok (.getfield 12, 3)) ∧ (decode cX6_goods 40 = .ok (.getfield 130, 3)) ∧ (decode cX6_goods 43 = .ok (.bipush 8, 2)) ∧ (decode cX6_goods 45 = .ok (.if_icmp .lt 10, 3)) ∧ (decode cX6_goods 48 = .ok (.aload_n 0, 1)) := by decide +kernel
theorem dX6_goods_23 : decode cX6_goods 23 = .ok (.invokestatic 64, 3) := qd2_1.1
theorem dX6_goods_26 : decode cX6_goods 26 = .ok (.ifCond .ne 10, 3) := qd2_1.2.1
theorem dX6_goods_29 : decode cX6_goods 29 = .ok (.aload_n 0, 1) := qd2_1.2.2.1
theorem dX6_goods_30 : decode cX6_goods 30 = .ok (.bipush (-2), 2) := qd2_1.2.2.2.1
theorem dX6_goods_32 : decode cX6_goods 32 = .ok (.invokevirtual 68, 3) := qd2_1.2.2.2.2.1
theorem dX6_goods_35 : decode cX6_goods 35 = .ok (.ireturn, 1) := qd2_1.2.2.2.2.2.1
theorem dX6_goods_36 : decode cX6_goods 36 = .ok (.aload_n 0, 1) := qd2_1.2.2.2.2.2.2.1
theorem dX6_goods_37 : decode cX6_goods 37 = .ok (.getfield 12, 3) := qd2_1.2.2.2.2.2.2.2.1
theorem dX6_goods_40 : decode cX6_goods 40 = .ok (.getfield 130, 3) := qd2_1.2.2.2.2.2.2.2.2.1
theorem dX6_goods_43 : decode cX6_goods 43 = .ok (.bipush 8, 2) := qd2_1.2.2.2.2.2.2.2.2.2.1
theorem dX6_goods_45 : decode cX6_goods 45 = .ok (.if_icmp .lt 10, 3) := qd2_1.2.2.2.2.2.2.2.2.2.2.1
theorem dX6_goods_48 : decode cX6_goods 48 = .ok (.aload_n 0, 1) := qd2_1.2.2.2.2.2.2.2.2.2.2.2
theorem qd2_2 : (decode cX6_goods 49 = .ok (.bipush (-6), 2)) ∧ (decode cX6_goods 51 = .ok (.invokevirtual 68, 3)) ∧ (decode cX6_goods 54 = .ok (.ireturn, 1)) ∧ (decode cX6_goods 55 = .ok (.aload_n 0, 1)) ∧ (decode cX6_goods 56 = .ok (.getfield 12, 3)) ∧ (decode cX6_goods 59 = .ok (.iload_n 1, 1)) ∧ (decode cX6_goods 60 = .ok (.iload_n 2, 1)) ∧ (decode cX6_goods 61 = .ok (.iload_n 3, 1)) ∧ (decode cX6_goods 62 = .ok (.invokevirtual 133, 3)) ∧ (decode cX6_goods 65 = .ok (.aload_n 0, 1)) ∧ (decode cX6_goods 66 = .ok (.getfield 12, 3)) ∧ (decode cX6_goods 69 = .ok (.getfield 130, 3)) := by decide +kernel
theorem dX6_goods_49 : decode cX6_goods 49 = .ok (.bipush (-6), 2) := qd2_2.1
theorem dX6_goods_51 : decode cX6_goods 51 = .ok (.invokevirtual 68, 3) := qd2_2.2.1
theorem dX6_goods_54 : decode cX6_goods 54 = .ok (.ireturn, 1) := qd2_2.2.2.1
theorem dX6_goods_55 : decode cX6_goods 55 = .ok (.aload_n 0, 1) := qd2_2.2.2.2.1
theorem dX6_goods_56 : decode cX6_goods 56 = .ok (.getfield 12, 3) := qd2_2.2.2.2.2.1
theorem dX6_goods_59 : decode cX6_goods 59 = .ok (.iload_n 1, 1) := qd2_2.2.2.2.2.2.1
theorem dX6_goods_60 : decode cX6_goods 60 = .ok (.iload_n 2, 1) := qd2_2.2.2.2.2.2.2.1
theorem dX6_goods_61 : decode cX6_goods 61 = .ok (.iload_n 3, 1) := qd2_2.2.2.2.2.2.2.2.1
theorem dX6_goods_62 : decode cX6_goods 62 = .ok (.invokevirtual 133, 3) := qd2_2.2.2.2.2.2.2.2.2.1
theorem dX6_goods_65 : decode cX6_goods 65 = .ok (.aload_n 0, 1) := qd2_2.2.2.2.2.2.2.2.2.2.1
theorem dX6_goods_66 : decode cX6_goods 66 = .ok (.getfield 12, 3) := qd2_2.2.2.2.2.2.2.2.2.2.2.1
theorem dX6_goods_69 : decode cX6_goods 69 = .ok (.getfield 130, 3) := qd2_2.2.2.2.2.2.2.2.2.2.2.2
theorem qd2_3 : (decode cX6_goods 72 = .ok (.iconst 1, 1)) ∧ (decode cX6_goods 73 = .ok (.isub, 1)) ∧ (decode cX6_goods 74 = .ok (.ireturn, 1)) := by decide +kernel
theorem dX6_goods_72 : decode cX6_goods 72 = .ok (.iconst 1, 1) := qd2_3.1
theorem dX6_goods_73 : decode cX6_goods 73 = .ok (.isub, 1) := qd2_3.2.1
theorem dX6_goods_74 : decode cX6_goods 74 = .ok (.ireturn, 1) := qd2_3.2.2
theorem qd2_4 : (decode cX6_work 0 = .ok (.aload_n 0, 1)) ∧ (decode cX6_work 1 = .ok (.getfield 12, 3)) ∧ (decode cX6_work 4 = .ok (.iload_n 1, 1)) ∧ (decode cX6_work 5 = .ok (.iload_n 2, 1)) ∧ (decode cX6_work 6 = .ok (.iload_n 3, 1)) ∧ (decode cX6_work 7 = .ok (.invokevirtual 136, 3)) ∧ (decode cX6_work 10 = .ok (.ifCond .eq 15, 3)) ∧ (decode cX6_work 13 = .ok (.iload 4, 2)) ∧ (decode cX6_work 15 = .ok (.iconst 0, 1)) ∧ (decode cX6_work 16 = .ok (.sipush 9999, 3)) ∧ (decode cX6_work 19 = .ok (.invokestatic 64, 3)) ∧ (decode cX6_work 22 = .ok (.ifCond .ne 10, 3)) := by decide +kernel
theorem dX6_work_0 : decode cX6_work 0 = .ok (.aload_n 0, 1) := qd2_4.1
theorem dX6_work_1 : decode cX6_work 1 = .ok (.getfield 12, 3) := qd2_4.2.1
theorem dX6_work_4 : decode cX6_work 4 = .ok (.iload_n 1, 1) := qd2_4.2.2.1
theorem dX6_work_5 : decode cX6_work 5 = .ok (.iload_n 2, 1) := qd2_4.2.2.2.1
theorem dX6_work_6 : decode cX6_work 6 = .ok (.iload_n 3, 1) := qd2_4.2.2.2.2.1
theorem dX6_work_7 : decode cX6_work 7 = .ok (.invokevirtual 136, 3) := qd2_4.2.2.2.2.2.1
theorem dX6_work_10 : decode cX6_work 10 = .ok (.ifCond .eq 15, 3) := qd2_4.2.2.2.2.2.2.1
theorem dX6_work_13 : decode cX6_work 13 = .ok (.iload 4, 2) := qd2_4.2.2.2.2.2.2.2.1
theorem dX6_work_15 : decode cX6_work 15 = .ok (.iconst 0, 1) := qd2_4.2.2.2.2.2.2.2.2.1
theorem dX6_work_16 : decode cX6_work 16 = .ok (.sipush 9999, 3) := qd2_4.2.2.2.2.2.2.2.2.2.1
theorem dX6_work_19 : decode cX6_work 19 = .ok (.invokestatic 64, 3) := qd2_4.2.2.2.2.2.2.2.2.2.2.1
theorem dX6_work_22 : decode cX6_work 22 = .ok (.ifCond .ne 10, 3) := qd2_4.2.2.2.2.2.2.2.2.2.2.2
theorem qd2_5 : (decode cX6_work 25 = .ok (.aload_n 0, 1)) ∧ (decode cX6_work 26 = .ok (.bipush (-2), 2)) ∧ (decode cX6_work 28 = .ok (.invokevirtual 68, 3)) ∧ (decode cX6_work 31 = .ok (.ireturn, 1)) ∧ (decode cX6_work 32 = .ok (.aload_n 0, 1)) ∧ (decode cX6_work 33 = .ok (.getfield 12, 3)) ∧ (decode cX6_work 36 = .ok (.getfield 139, 3)) ∧ (decode cX6_work 39 = .ok (.bipush 7, 2)) ∧ (decode cX6_work 41 = .ok (.if_icmp .lt 10, 3)) ∧ (decode cX6_work 44 = .ok (.aload_n 0, 1)) ∧ (decode cX6_work 45 = .ok (.bipush (-6), 2)) ∧ (decode cX6_work 47 = .ok (.invokevirtual 68, 3)) := by decide +kernel
theorem dX6_work_25 : decode cX6_work 25 = .ok (.aload_n 0, 1) := qd2_5.1
theorem dX6_work_26 : decode cX6_work 26 = .ok (.bipush (-2), 2) := qd2_5.2.1
theorem dX6_work_28 : decode cX6_work 28 = .ok (.invokevirtual 68, 3) := qd2_5.2.2.1
theorem dX6_work_31 : decode cX6_work 31 = .ok (.ireturn, 1) := qd2_5.2.2.2.1
theorem dX6_work_32 : decode cX6_work 32 = .ok (.aload_n 0, 1) := qd2_5.2.2.2.2.1
theorem dX6_work_33 : decode cX6_work 33 = .ok (.getfield 12, 3) := qd2_5.2.2.2.2.2.1
theorem dX6_work_36 : decode cX6_work 36 = .ok (.getfield 139, 3) := qd2_5.2.2.2.2.2.2.1
theorem dX6_work_39 : decode cX6_work 39 = .ok (.bipush 7, 2) := qd2_5.2.2.2.2.2.2.2.1
theorem dX6_work_41 : decode cX6_work 41 = .ok (.if_icmp .lt 10, 3) := qd2_5.2.2.2.2.2.2.2.2.1
theorem dX6_work_44 : decode cX6_work 44 = .ok (.aload_n 0, 1) := qd2_5.2.2.2.2.2.2.2.2.2.1
theorem dX6_work_45 : decode cX6_work 45 = .ok (.bipush (-6), 2) := qd2_5.2.2.2.2.2.2.2.2.2.2.1
theorem dX6_work_47 : decode cX6_work 47 = .ok (.invokevirtual 68, 3) := qd2_5.2.2.2.2.2.2.2.2.2.2.2
theorem qd2_6 : (decode cX6_work 50 = .ok (.ireturn, 1)) ∧ (decode cX6_work 51 = .ok (.aload_n 0, 1)) ∧ (decode cX6_work 52 = .ok (.getfield 12, 3)) ∧ (decode cX6_work 55 = .ok (.iload_n 1, 1)) ∧ (decode cX6_work 56 = .ok (.iload_n 2, 1)) ∧ (decode cX6_work 57 = .ok (.iload_n 3, 1)) ∧ (decode cX6_work 58 = .ok (.iload 4, 2)) ∧ (decode cX6_work 60 = .ok (.invokevirtual 142, 3)) ∧ (decode cX6_work 63 = .ok (.aload_n 0, 1)) ∧ (decode cX6_work 64 = .ok (.getfield 12, 3)) ∧ (decode cX6_work 67 = .ok (.getfield 139, 3)) ∧ (decode cX6_work 70 = .ok (.iconst 1, 1)) := by decide +kernel
theorem dX6_work_50 : decode cX6_work 50 = .ok (.ireturn, 1) := qd2_6.1
theorem dX6_work_51 : decode cX6_work 51 = .ok (.aload_n 0, 1) := qd2_6.2.1
theorem dX6_work_52 : decode cX6_work 52 = .ok (.getfield 12, 3) := qd2_6.2.2.1
theorem dX6_work_55 : decode cX6_work 55 = .ok (.iload_n 1, 1) := qd2_6.2.2.2.1
theorem dX6_work_56 : decode cX6_work 56 = .ok (.iload_n 2, 1) := qd2_6.2.2.2.2.1
theorem dX6_work_57 : decode cX6_work 57 = .ok (.iload_n 3, 1) := qd2_6.2.2.2.2.2.1
theorem dX6_work_58 : decode cX6_work 58 = .ok (.iload 4, 2) := qd2_6.2.2.2.2.2.2.1
theorem dX6_work_60 : decode cX6_work 60 = .ok (.invokevirtual 142, 3) := qd2_6.2.2.2.2.2.2.2.1
theorem dX6_work_63 : decode cX6_work 63 = .ok (.aload_n 0, 1) := qd2_6.2.2.2.2.2.2.2.2.1
theorem dX6_work_64 : decode cX6_work 64 = .ok (.getfield 12, 3) := qd2_6.2.2.2.2.2.2.2.2.2.1
theorem dX6_work_67 : decode cX6_work 67 = .ok (.getfield 139, 3) := qd2_6.2.2.2.2.2.2.2.2.2.2.1
theorem dX6_work_70 : decode cX6_work 70 = .ok (.iconst 1, 1) := qd2_6.2.2.2.2.2.2.2.2.2.2.2
theorem qd2_7 : (decode cX6_work 71 = .ok (.isub, 1)) ∧ (decode cX6_work 72 = .ok (.ireturn, 1)) := by decide +kernel
theorem dX6_work_71 : decode cX6_work 71 = .ok (.isub, 1) := qd2_7.1
theorem dX6_work_72 : decode cX6_work 72 = .ok (.ireturn, 1) := qd2_7.2
theorem qd2_8 : (decode cX6_change 0 = .ok (.iload_n 1, 1)) ∧ (decode cX6_change 1 = .ok (.invokestatic 120, 3)) ∧ (decode cX6_change 4 = .ok (.ifCond .eq 13, 3)) ∧ (decode cX6_change 7 = .ok (.iload_n 2, 1)) ∧ (decode cX6_change 8 = .ok (.iconst 0, 1)) ∧ (decode cX6_change 9 = .ok (.bipush 99, 2)) ∧ (decode cX6_change 11 = .ok (.invokestatic 64, 3)) ∧ (decode cX6_change 14 = .ok (.ifCond .ne 10, 3)) ∧ (decode cX6_change 17 = .ok (.aload_n 0, 1)) ∧ (decode cX6_change 18 = .ok (.bipush (-2), 2)) ∧ (decode cX6_change 20 = .ok (.invokevirtual 68, 3)) ∧ (decode cX6_change 23 = .ok (.ireturn, 1)) := by decide +kernel
theorem dX6_change_0 : decode cX6_change 0 = .ok (.iload_n 1, 1) := qd2_8.1
theorem dX6_change_1 : decode cX6_change 1 = .ok (.invokestatic 120, 3) := qd2_8.2.1
theorem dX6_change_4 : decode cX6_change 4 = .ok (.ifCond .eq 13, 3) := qd2_8.2.2.1
theorem dX6_change_7 : decode cX6_change 7 = .ok (.iload_n 2, 1) := qd2_8.2.2.2.1
theorem dX6_change_8 : decode cX6_change 8 = .ok (.iconst 0, 1) := qd2_8.2.2.2.2.1
theorem dX6_change_9 : decode cX6_change 9 = .ok (.bipush 99, 2) := qd2_8.2.2.2.2.2.1
theorem dX6_change_11 : decode cX6_change 11 = .ok (.invokestatic 64, 3) := qd2_8.2.2.2.2.2.2.1
theorem dX6_change_14 : decode cX6_change 14 = .ok (.ifCond .ne 10, 3) := qd2_8.2.2.2.2.2.2.2.1
theorem dX6_change_17 : decode cX6_change 17 = .ok (.aload_n 0, 1) := qd2_8.2.2.2.2.2.2.2.2.1
theorem dX6_change_18 : decode cX6_change 18 = .ok (.bipush (-2), 2) := qd2_8.2.2.2.2.2.2.2.2.2.1
theorem dX6_change_20 : decode cX6_change 20 = .ok (.invokevirtual 68, 3) := qd2_8.2.2.2.2.2.2.2.2.2.2.1
theorem dX6_change_23 : decode cX6_change 23 = .ok (.ireturn, 1) := qd2_8.2.2.2.2.2.2.2.2.2.2.2
theorem qd2_9 : (decode cX6_change 24 = .ok (.aload_n 0, 1)) ∧ (decode cX6_change 25 = .ok (.getfield 12, 3)) ∧ (decode cX6_change 28 = .ok (.getfield 146, 3)) ∧ (decode cX6_change 31 = .ok (.iload_n 1, 1)) ∧ (decode cX6_change 32 = .ok (.iaload, 1)) ∧ (decode cX6_change 33 = .ok (.istore_n 3, 1)) ∧ (decode cX6_change 34 = .ok (.aload_n 0, 1)) ∧ (decode cX6_change 35 = .ok (.getfield 12, 3)) ∧ (decode cX6_change 38 = .ok (.iload_n 1, 1)) ∧ (decode cX6_change 39 = .ok (.iload_n 2, 1)) ∧ (decode cX6_change 40 = .ok (.invokevirtual 149, 3)) ∧ (decode cX6_change 43 = .ok (.iload_n 3, 1)) := by decide +kernel
theorem dX6_change_24 : decode cX6_change 24 = .ok (.aload_n 0, 1) := qd2_9.1
theorem dX6_change_25 : decode cX6_change 25 = .ok (.getfield 12, 3) := qd2_9.2.1
theorem dX6_change_28 : decode cX6_change 28 = .ok (.getfield 146, 3) := qd2_9.2.2.1
theorem dX6_change_31 : decode cX6_change 31 = .ok (.iload_n 1, 1) := qd2_9.2.2.2.1
theorem dX6_change_32 : decode cX6_change 32 = .ok (.iaload, 1) := qd2_9.2.2.2.2.1
theorem dX6_change_33 : decode cX6_change 33 = .ok (.istore_n 3, 1) := qd2_9.2.2.2.2.2.1
theorem dX6_change_34 : decode cX6_change 34 = .ok (.aload_n 0, 1) := qd2_9.2.2.2.2.2.2.1
theorem dX6_change_35 : decode cX6_change 35 = .ok (.getfield 12, 3) := qd2_9.2.2.2.2.2.2.2.1
theorem dX6_change_38 : decode cX6_change 38 = .ok (.iload_n 1, 1) := qd2_9.2.2.2.2.2.2.2.2.1
theorem dX6_change_39 : decode cX6_change 39 = .ok (.iload_n 2, 1) := qd2_9.2.2.2.2.2.2.2.2.2.1
theorem dX6_change_40 : decode cX6_change 40 = .ok (.invokevirtual 149, 3) := qd2_9.2.2.2.2.2.2.2.2.2.2.1
theorem dX6_change_43 : decode cX6_change 43 = .ok (.iload_n 3, 1) := qd2_9.2.2.2.2.2.2.2.2.2.2.2
theorem dX6_change_44 : decode cX6_change 44 = .ok (.ireturn, 1) := by decide +kernel
theorem qd2_10 : (decode cX6_coin 0 = .ok (.iload_n 1, 1)) ∧ (decode cX6_coin 1 = .ok (.iconst 0, 1)) ∧ (decode cX6_coin 2 = .ok (.iconst 2, 1)) ∧ (decode cX6_coin 3 = .ok (.invokestatic 64, 3)) ∧ (decode cX6_coin 6 = .ok (.ifCond .eq 13, 3)) ∧ (decode cX6_coin 9 = .ok (.iload_n 2, 1)) ∧ (decode cX6_coin 10 = .ok (.iconst 0, 1)) ∧ (decode cX6_coin 11 = .ok (.bipush 9, 2)) ∧ (decode cX6_coin 13 = .ok (.invokestatic 64, 3)) ∧ (decode cX6_coin 16 = .ok (.ifCond .ne 10, 3)) ∧ (decode cX6_coin 19 = .ok (.aload_n 0, 1)) ∧ (decode cX6_coin 20 = .ok (.bipush (-2), 2)) := by decide +kernel
theorem dX6_coin_0 : decode cX6_coin 0 = .ok (.iload_n 1, 1) := qd2_10.1
theorem dX6_coin_1 : decode cX6_coin 1 = .ok (.iconst 0, 1) := qd2_10.2.1
theorem dX6_coin_2 : decode cX6_coin 2 = .ok (.iconst 2, 1) := qd2_10.2.2.1
theorem dX6_coin_3 : decode cX6_coin 3 = .ok (.invokestatic 64, 3) := qd2_10.2.2.2.1
theorem dX6_coin_6 : decode cX6_coin 6 = .ok (.ifCond .eq 13, 3) := qd2_10.2.2.2.2.1
theorem dX6_coin_9 : decode cX6_coin 9 = .ok (.iload_n 2, 1) := qd2_10.2.2.2.2.2.1
theorem dX6_coin_10 : decode cX6_coin 10 = .ok (.iconst 0, 1) := qd2_10.2.2.2.2.2.2.1
theorem dX6_coin_11 : decode cX6_coin 11 = .ok (.bipush 9, 2) := qd2_10.2.2.2.2.2.2.2.1
theorem dX6_coin_13 : decode cX6_coin 13 = .ok (.invokestatic 64, 3) := qd2_10.2.2.2.2.2.2.2.2.1
theorem dX6_coin_16 : decode cX6_coin 16 = .ok (.ifCond .ne 10, 3) := qd2_10.2.2.2.2.2.2.2.2.2.1
theorem dX6_coin_19 : decode cX6_coin 19 = .ok (.aload_n 0, 1) := qd2_10.2.2.2.2.2.2.2.2.2.2.1
theorem dX6_coin_20 : decode cX6_coin 20 = .ok (.bipush (-2), 2) := qd2_10.2.2.2.2.2.2.2.2.2.2.2
theorem qd2_11 : (decode cX6_coin 22 = .ok (.invokevirtual 68, 3)) ∧ (decode cX6_coin 25 = .ok (.ireturn, 1)) ∧ (decode cX6_coin 26 = .ok (.aload_n 0, 1)) ∧ (decode cX6_coin 27 = .ok (.getfield 12, 3)) ∧ (decode cX6_coin 30 = .ok (.getfield 153, 3)) ∧ (decode cX6_coin 33 = .ok (.iload_n 1, 1)) ∧ (decode cX6_coin 34 = .ok (.iaload, 1)) ∧ (decode cX6_coin 35 = .ok (.istore_n 3, 1)) ∧ (decode cX6_coin 36 = .ok (.aload_n 0, 1)) ∧ (decode cX6_coin 37 = .ok (.getfield 12, 3)) ∧ (decode cX6_coin 40 = .ok (.iload_n 1, 1)) ∧ (decode cX6_coin 41 = .ok (.iload_n 2, 1)) := by decide +kernel
theorem dX6_coin_22 : decode cX6_coin 22 = .ok (.invokevirtual 68, 3) := qd2_11.1
theorem dX6_coin_25 : decode cX6_coin 25 = .ok (.ireturn, 1) := qd2_11.2.1
theorem dX6_coin_26 : decode cX6_coin 26 = .ok (.aload_n 0, 1) := qd2_11.2.2.1
theorem dX6_coin_27 : decode cX6_coin 27 = .ok (.getfield 12, 3) := qd2_11.2.2.2.1
theorem dX6_coin_30 : decode cX6_coin 30 = .ok (.getfield 153, 3) := qd2_11.2.2.2.2.1
theorem dX6_coin_33 : decode cX6_coin 33 = .ok (.iload_n 1, 1) := qd2_11.2.2.2.2.2.1
theorem dX6_coin_34 : decode cX6_coin 34 = .ok (.iaload, 1) := qd2_11.2.2.2.2.2.2.1
theorem dX6_coin_35 : decode cX6_coin 35 = .ok (.istore_n 3, 1) := qd2_11.2.2.2.2.2.2.2.1
theorem dX6_coin_36 : decode cX6_coin 36 = .ok (.aload_n 0, 1) := qd2_11.2.2.2.2.2.2.2.2.1
theorem dX6_coin_37 : decode cX6_coin 37 = .ok (.getfield 12, 3) := qd2_11.2.2.2.2.2.2.2.2.2.1
theorem dX6_coin_40 : decode cX6_coin 40 = .ok (.iload_n 1, 1) := qd2_11.2.2.2.2.2.2.2.2.2.2.1
theorem dX6_coin_41 : decode cX6_coin 41 = .ok (.iload_n 2, 1) := qd2_11.2.2.2.2.2.2.2.2.2.2.2
theorem qd2_12 : (decode cX6_coin 42 = .ok (.invokevirtual 156, 3)) ∧ (decode cX6_coin 45 = .ok (.iload_n 3, 1)) ∧ (decode cX6_coin 46 = .ok (.ireturn, 1)) := by decide +kernel
theorem dX6_coin_42 : decode cX6_coin 42 = .ok (.invokevirtual 156, 3) := qd2_12.1
theorem dX6_coin_45 : decode cX6_coin 45 = .ok (.iload_n 3, 1) := qd2_12.2.1
theorem dX6_coin_46 : decode cX6_coin 46 = .ok (.ireturn, 1) := qd2_12.2.2
theorem qd2_13 : (decode cX6_years 0 = .ok (.iload_n 1, 1)) ∧ (decode cX6_years 1 = .ok (.iconst 1, 1)) ∧ (decode cX6_years 2 = .ok (.bipush 30, 2)) ∧ (decode cX6_years 4 = .ok (.invokestatic 64, 3)) ∧ (decode cX6_years 7 = .ok (.ifCond .ne 10, 3)) ∧ (decode cX6_years 10 = .ok (.aload_n 0, 1)) ∧ (decode cX6_years 11 = .ok (.bipush (-2), 2)) ∧ (decode cX6_years 13 = .ok (.invokevirtual 68, 3)) ∧ (decode cX6_years 16 = .ok (.ireturn, 1)) ∧ (decode cX6_years 17 = .ok (.aload_n 0, 1)) ∧ (decode cX6_years 18 = .ok (.getfield 12, 3)) ∧ (decode cX6_years 21 = .ok (.getfield 159, 3)) := by decide +kernel
theorem dX6_years_0 : decode cX6_years 0 = .ok (.iload_n 1, 1) := qd2_13.1
theorem dX6_years_1 : decode cX6_years 1 = .ok (.iconst 1, 1) := qd2_13.2.1
theorem dX6_years_2 : decode cX6_years 2 = .ok (.bipush 30, 2) := qd2_13.2.2.1
theorem dX6_years_4 : decode cX6_years 4 = .ok (.invokestatic 64, 3) := qd2_13.2.2.2.1
theorem dX6_years_7 : decode cX6_years 7 = .ok (.ifCond .ne 10, 3) := qd2_13.2.2.2.2.1
theorem dX6_years_10 : decode cX6_years 10 = .ok (.aload_n 0, 1) := qd2_13.2.2.2.2.2.1
theorem dX6_years_11 : decode cX6_years 11 = .ok (.bipush (-2), 2) := qd2_13.2.2.2.2.2.2.1
theorem dX6_years_13 : decode cX6_years 13 = .ok (.invokevirtual 68, 3) := qd2_13.2.2.2.2.2.2.2.1
theorem dX6_years_16 : decode cX6_years 16 = .ok (.ireturn, 1) := qd2_13.2.2.2.2.2.2.2.2.1
theorem dX6_years_17 : decode cX6_years 17 = .ok (.aload_n 0, 1) := qd2_13.2.2.2.2.2.2.2.2.2.1
theorem dX6_years_18 : decode cX6_years 18 = .ok (.getfield 12, 3) := qd2_13.2.2.2.2.2.2.2.2.2.2.1
theorem dX6_years_21 : decode cX6_years 21 = .ok (.getfield 159, 3) := qd2_13.2.2.2.2.2.2.2.2.2.2.2
theorem qd2_14 : (decode cX6_years 24 = .ok (.istore_n 2, 1)) ∧ (decode cX6_years 25 = .ok (.aload_n 0, 1)) ∧ (decode cX6_years 26 = .ok (.getfield 12, 3)) ∧ (decode cX6_years 29 = .ok (.iload_n 1, 1)) ∧ (decode cX6_years 30 = .ok (.putfield 159, 3)) ∧ (decode cX6_years 33 = .ok (.iload_n 2, 1)) ∧ (decode cX6_years 34 = .ok (.ireturn, 1)) := by decide +kernel
theorem dX6_years_24 : decode cX6_years 24 = .ok (.istore_n 2, 1) := qd2_14.1
theorem dX6_years_25 : decode cX6_years 25 = .ok (.aload_n 0, 1) := qd2_14.2.1
theorem dX6_years_26 : decode cX6_years 26 = .ok (.getfield 12, 3) := qd2_14.2.2.1
theorem dX6_years_29 : decode cX6_years 29 = .ok (.iload_n 1, 1) := qd2_14.2.2.2.1
theorem dX6_years_30 : decode cX6_years 30 = .ok (.putfield 159, 3) := qd2_14.2.2.2.2.1
theorem dX6_years_33 : decode cX6_years 33 = .ok (.iload_n 2, 1) := qd2_14.2.2.2.2.2.1
theorem dX6_years_34 : decode cX6_years 34 = .ok (.ireturn, 1) := qd2_14.2.2.2.2.2.2
theorem qd2_15 : (decode cX6_washed 0 = .ok (.aload_n 0, 1)) ∧ (decode cX6_washed 1 = .ok (.getfield 12, 3)) ∧ (decode cX6_washed 4 = .ok (.iload_n 1, 1)) ∧ (decode cX6_washed 5 = .ok (.invokevirtual 162, 3)) ∧ (decode cX6_washed 8 = .ok (.ifCond .ne 10, 3)) ∧ (decode cX6_washed 11 = .ok (.aload_n 0, 1)) ∧ (decode cX6_washed 12 = .ok (.bipush (-2), 2)) ∧ (decode cX6_washed 14 = .ok (.invokevirtual 68, 3)) ∧ (decode cX6_washed 17 = .ok (.ireturn, 1)) ∧ (decode cX6_washed 18 = .ok (.iload_n 2, 1)) ∧ (decode cX6_washed 19 = .ok (.ifCond .eq 7, 3)) ∧ (decode cX6_washed 22 = .ok (.iconst 1, 1)) := by decide +kernel
theorem dX6_washed_0 : decode cX6_washed 0 = .ok (.aload_n 0, 1) := qd2_15.1
theorem dX6_washed_1 : decode cX6_washed 1 = .ok (.getfield 12, 3) := qd2_15.2.1
theorem dX6_washed_4 : decode cX6_washed 4 = .ok (.iload_n 1, 1) := qd2_15.2.2.1
theorem dX6_washed_5 : decode cX6_washed 5 = .ok (.invokevirtual 162, 3) := qd2_15.2.2.2.1
theorem dX6_washed_8 : decode cX6_washed 8 = .ok (.ifCond .ne 10, 3) := qd2_15.2.2.2.2.1
theorem dX6_washed_11 : decode cX6_washed 11 = .ok (.aload_n 0, 1) := qd2_15.2.2.2.2.2.1
theorem dX6_washed_12 : decode cX6_washed 12 = .ok (.bipush (-2), 2) := qd2_15.2.2.2.2.2.2.1
theorem dX6_washed_14 : decode cX6_washed 14 = .ok (.invokevirtual 68, 3) := qd2_15.2.2.2.2.2.2.2.1
theorem dX6_washed_17 : decode cX6_washed 17 = .ok (.ireturn, 1) := qd2_15.2.2.2.2.2.2.2.2.1
theorem dX6_washed_18 : decode cX6_washed 18 = .ok (.iload_n 2, 1) := qd2_15.2.2.2.2.2.2.2.2.2.1
theorem dX6_washed_19 : decode cX6_washed 19 = .ok (.ifCond .eq 7, 3) := qd2_15.2.2.2.2.2.2.2.2.2.2.1
theorem dX6_washed_22 : decode cX6_washed 22 = .ok (.iconst 1, 1) := qd2_15.2.2.2.2.2.2.2.2.2.2.2
theorem qd2_16 : (decode cX6_washed 23 = .ok (.goto 4, 3)) ∧ (decode cX6_washed 26 = .ok (.iconst 0, 1)) ∧ (decode cX6_washed 27 = .ok (.istore_n 3, 1)) ∧ (decode cX6_washed 28 = .ok (.aload_n 0, 1)) ∧ (decode cX6_washed 29 = .ok (.getfield 12, 3)) ∧ (decode cX6_washed 32 = .ok (.iload_n 1, 1)) ∧ (decode cX6_washed 33 = .ok (.bipush 6, 2)) ∧ (decode cX6_washed 35 = .ok (.invokevirtual 165, 3)) ∧ (decode cX6_washed 38 = .ok (.iload_n 3, 1)) ∧ (decode cX6_washed 39 = .ok (.if_icmp .ne 5, 3)) ∧ (decode cX6_washed 42 = .ok (.iconst 0, 1)) ∧ (decode cX6_washed 43 = .ok (.ireturn, 1)) := by decide +kernel
theorem dX6_washed_23 : decode cX6_washed 23 = .ok (.goto 4, 3) := qd2_16.1
theorem dX6_washed_26 : decode cX6_washed 26 = .ok (.iconst 0, 1) := qd2_16.2.1
theorem dX6_washed_27 : decode cX6_washed 27 = .ok (.istore_n 3, 1) := qd2_16.2.2.1
theorem dX6_washed_28 : decode cX6_washed 28 = .ok (.aload_n 0, 1) := qd2_16.2.2.2.1
theorem dX6_washed_29 : decode cX6_washed 29 = .ok (.getfield 12, 3) := qd2_16.2.2.2.2.1
theorem dX6_washed_32 : decode cX6_washed 32 = .ok (.iload_n 1, 1) := qd2_16.2.2.2.2.2.1
theorem dX6_washed_33 : decode cX6_washed 33 = .ok (.bipush 6, 2) := qd2_16.2.2.2.2.2.2.1
theorem dX6_washed_35 : decode cX6_washed 35 = .ok (.invokevirtual 165, 3) := qd2_16.2.2.2.2.2.2.2.1
theorem dX6_washed_38 : decode cX6_washed 38 = .ok (.iload_n 3, 1) := qd2_16.2.2.2.2.2.2.2.2.1
theorem dX6_washed_39 : decode cX6_washed 39 = .ok (.if_icmp .ne 5, 3) := qd2_16.2.2.2.2.2.2.2.2.2.1
theorem dX6_washed_42 : decode cX6_washed 42 = .ok (.iconst 0, 1) := qd2_16.2.2.2.2.2.2.2.2.2.2.1
theorem dX6_washed_43 : decode cX6_washed 43 = .ok (.ireturn, 1) := qd2_16.2.2.2.2.2.2.2.2.2.2.2
theorem qd2_17 : (decode cX6_washed 44 = .ok (.aload_n 0, 1)) ∧ (decode cX6_washed 45 = .ok (.getfield 12, 3)) ∧ (decode cX6_washed 48 = .ok (.iload_n 1, 1)) ∧ (decode cX6_washed 49 = .ok (.iload_n 3, 1)) ∧ (decode cX6_washed 50 = .ok (.invokevirtual 168, 3)) ∧ (decode cX6_washed 53 = .ok (.iconst 1, 1)) ∧ (decode cX6_washed 54 = .ok (.ireturn, 1)) := by decide +kernel
theorem dX6_washed_44 : decode cX6_washed 44 = .ok (.aload_n 0, 1) := qd2_17.1
theorem dX6_washed_45 : decode cX6_washed 45 = .ok (.getfield 12, 3) := qd2_17.2.1
theorem dX6_washed_48 : decode cX6_washed 48 = .ok (.iload_n 1, 1) := qd2_17.2.2.1
theorem dX6_washed_49 : decode cX6_washed 49 = .ok (.iload_n 3, 1) := qd2_17.2.2.2.1
theorem dX6_washed_50 : decode cX6_washed 50 = .ok (.invokevirtual 168, 3) := qd2_17.2.2.2.2.1
theorem dX6_washed_53 : decode cX6_washed 53 = .ok (.iconst 1, 1) := qd2_17.2.2.2.2.2.1
theorem dX6_washed_54 : decode cX6_washed 54 = .ok (.ireturn, 1) := qd2_17.2.2.2.2.2.2
theorem qd2_18 : (decode cX6_feed 0 = .ok (.iload_n 2, 1)) ∧ (decode cX6_feed 1 = .ok (.iconst 1, 1)) ∧ (decode cX6_feed 2 = .ok (.iconst 4, 1)) ∧ (decode cX6_feed 3 = .ok (.invokestatic 64, 3)) ∧ (decode cX6_feed 6 = .ok (.ifCond .ne 10, 3)) ∧ (decode cX6_feed 9 = .ok (.aload_n 0, 1)) ∧ (decode cX6_feed 10 = .ok (.bipush (-2), 2)) ∧ (decode cX6_feed 12 = .ok (.invokevirtual 68, 3)) ∧ (decode cX6_feed 15 = .ok (.ireturn, 1)) ∧ (decode cX6_feed 16 = .ok (.aload_n 0, 1)) ∧ (decode cX6_feed 17 = .ok (.getfield 22, 3)) ∧ (decode cX6_feed 20 = .ok (.getfield 171, 3)) := by decide +kernel
theorem dX6_feed_0 : decode cX6_feed 0 = .ok (.iload_n 2, 1) := qd2_18.1
theorem dX6_feed_1 : decode cX6_feed 1 = .ok (.iconst 1, 1) := qd2_18.2.1
theorem dX6_feed_2 : decode cX6_feed 2 = .ok (.iconst 4, 1) := qd2_18.2.2.1
theorem dX6_feed_3 : decode cX6_feed 3 = .ok (.invokestatic 64, 3) := qd2_18.2.2.2.1
theorem dX6_feed_6 : decode cX6_feed 6 = .ok (.ifCond .ne 10, 3) := qd2_18.2.2.2.2.1
theorem dX6_feed_9 : decode cX6_feed 9 = .ok (.aload_n 0, 1) := qd2_18.2.2.2.2.2.1
theorem dX6_feed_10 : decode cX6_feed 10 = .ok (.bipush (-2), 2) := qd2_18.2.2.2.2.2.2.1
theorem dX6_feed_12 : decode cX6_feed 12 = .ok (.invokevirtual 68, 3) := qd2_18.2.2.2.2.2.2.2.1
theorem dX6_feed_15 : decode cX6_feed 15 = .ok (.ireturn, 1) := qd2_18.2.2.2.2.2.2.2.2.1
theorem dX6_feed_16 : decode cX6_feed 16 = .ok (.aload_n 0, 1) := qd2_18.2.2.2.2.2.2.2.2.2.1
theorem dX6_feed_17 : decode cX6_feed 17 = .ok (.getfield 22, 3) := qd2_18.2.2.2.2.2.2.2.2.2.2.1
theorem dX6_feed_20 : decode cX6_feed 20 = .ok (.getfield 171, 3) := qd2_18.2.2.2.2.2.2.2.2.2.2.2
theorem qd2_19 : (decode cX6_feed 23 = .ok (.iload_n 2, 1)) ∧ (decode cX6_feed 24 = .ok (.iadd, 1)) ∧ (decode cX6_feed 25 = .ok (.sipush 250, 3)) ∧ (decode cX6_feed 28 = .ok (.if_icmp .le 10, 3)) ∧ (decode cX6_feed 31 = .ok (.aload_n 0, 1)) ∧ (decode cX6_feed 32 = .ok (.bipush (-6), 2)) ∧ (decode cX6_feed 34 = .ok (.invokevirtual 68, 3)) ∧ (decode cX6_feed 37 = .ok (.ireturn, 1)) ∧ (decode cX6_feed 38 = .ok (.iload_n 2, 1)) ∧ (decode cX6_feed 39 = .ok (.iconst 1, 1)) ∧ (decode cX6_feed 40 = .ok (.isub, 1)) ∧ (decode cX6_feed 41 = .ok (.istore_n 3, 1)) := by decide +kernel
theorem dX6_feed_23 : decode cX6_feed 23 = .ok (.iload_n 2, 1) := qd2_19.1
theorem dX6_feed_24 : decode cX6_feed 24 = .ok (.iadd, 1) := qd2_19.2.1
theorem dX6_feed_25 : decode cX6_feed 25 = .ok (.sipush 250, 3) := qd2_19.2.2.1
theorem dX6_feed_28 : decode cX6_feed 28 = .ok (.if_icmp .le 10, 3) := qd2_19.2.2.2.1
theorem dX6_feed_31 : decode cX6_feed 31 = .ok (.aload_n 0, 1) := qd2_19.2.2.2.2.1
theorem dX6_feed_32 : decode cX6_feed 32 = .ok (.bipush (-6), 2) := qd2_19.2.2.2.2.2.1
theorem dX6_feed_34 : decode cX6_feed 34 = .ok (.invokevirtual 68, 3) := qd2_19.2.2.2.2.2.2.1
theorem dX6_feed_37 : decode cX6_feed 37 = .ok (.ireturn, 1) := qd2_19.2.2.2.2.2.2.2.1
theorem dX6_feed_38 : decode cX6_feed 38 = .ok (.iload_n 2, 1) := qd2_19.2.2.2.2.2.2.2.2.1
theorem dX6_feed_39 : decode cX6_feed 39 = .ok (.iconst 1, 1) := qd2_19.2.2.2.2.2.2.2.2.2.1
theorem dX6_feed_40 : decode cX6_feed 40 = .ok (.isub, 1) := qd2_19.2.2.2.2.2.2.2.2.2.2.1
theorem dX6_feed_41 : decode cX6_feed 41 = .ok (.istore_n 3, 1) := qd2_19.2.2.2.2.2.2.2.2.2.2.2
theorem qd2_20 : (decode cX6_feed 42 = .ok (.iload_n 3, 1)) ∧ (decode cX6_feed 43 = .ok (.ifCond .lt 26, 3)) ∧ (decode cX6_feed 46 = .ok (.aload_n 0, 1)) ∧ (decode cX6_feed 47 = .ok (.getfield 22, 3)) ∧ (decode cX6_feed 50 = .ok (.iload_n 1, 1)) ∧ (decode cX6_feed 51 = .ok (.bipush 8, 2)) ∧ (decode cX6_feed 53 = .ok (.iload_n 3, 1)) ∧ (decode cX6_feed 54 = .ok (.imul, 1)) ∧ (decode cX6_feed 55 = .ok (.ishr, 1)) ∧ (decode cX6_feed 56 = .ok (.sipush 255, 3)) ∧ (decode cX6_feed 59 = .ok (.iand, 1)) ∧ (decode cX6_feed 60 = .ok (.invokevirtual 174, 3)) := by decide +kernel
theorem dX6_feed_42 : decode cX6_feed 42 = .ok (.iload_n 3, 1) := qd2_20.1
theorem dX6_feed_43 : decode cX6_feed 43 = .ok (.ifCond .lt 26, 3) := qd2_20.2.1
theorem dX6_feed_46 : decode cX6_feed 46 = .ok (.aload_n 0, 1) := qd2_20.2.2.1
theorem dX6_feed_47 : decode cX6_feed 47 = .ok (.getfield 22, 3) := qd2_20.2.2.2.1
theorem dX6_feed_50 : decode cX6_feed 50 = .ok (.iload_n 1, 1) := qd2_20.2.2.2.2.1
theorem dX6_feed_51 : decode cX6_feed 51 = .ok (.bipush 8, 2) := qd2_20.2.2.2.2.2.1
theorem dX6_feed_53 : decode cX6_feed 53 = .ok (.iload_n 3, 1) := qd2_20.2.2.2.2.2.2.1
theorem dX6_feed_54 : decode cX6_feed 54 = .ok (.imul, 1) := qd2_20.2.2.2.2.2.2.2.1
theorem dX6_feed_55 : decode cX6_feed 55 = .ok (.ishr, 1) := qd2_20.2.2.2.2.2.2.2.2.1
theorem dX6_feed_56 : decode cX6_feed 56 = .ok (.sipush 255, 3) := qd2_20.2.2.2.2.2.2.2.2.2.1
theorem dX6_feed_59 : decode cX6_feed 59 = .ok (.iand, 1) := qd2_20.2.2.2.2.2.2.2.2.2.2.1
theorem dX6_feed_60 : decode cX6_feed 60 = .ok (.invokevirtual 174, 3) := qd2_20.2.2.2.2.2.2.2.2.2.2.2
theorem qd2_21 : (decode cX6_feed 63 = .ok (.iinc 3 (-1), 3)) ∧ (decode cX6_feed 66 = .ok (.goto (-24), 3)) ∧ (decode cX6_feed 69 = .ok (.aload_n 0, 1)) ∧ (decode cX6_feed 70 = .ok (.getfield 22, 3)) ∧ (decode cX6_feed 73 = .ok (.getfield 171, 3)) ∧ (decode cX6_feed 76 = .ok (.ireturn, 1)) := by decide +kernel
theorem dX6_feed_63 : decode cX6_feed 63 = .ok (.iinc 3 (-1), 3) := qd2_21.1
theorem dX6_feed_66 : decode cX6_feed 66 = .ok (.goto (-24), 3) := qd2_21.2.1
theorem dX6_feed_69 : decode cX6_feed 69 = .ok (.aload_n 0, 1) := qd2_21.2.2.1
theorem dX6_feed_70 : decode cX6_feed 70 = .ok (.getfield 22, 3) := qd2_21.2.2.2.1
theorem dX6_feed_73 : decode cX6_feed 73 = .ok (.getfield 171, 3) := qd2_21.2.2.2.2.1
theorem dX6_feed_76 : decode cX6_feed 76 = .ok (.ireturn, 1) := qd2_21.2.2.2.2.2
theorem qd2_22 : (decode cX6_wipe 0 = .ok (.aload_n 0, 1)) ∧ (decode cX6_wipe 1 = .ok (.getfield 22, 3)) ∧ (decode cX6_wipe 4 = .ok (.getfield 171, 3)) ∧ (decode cX6_wipe 7 = .ok (.istore_n 1, 1)) ∧ (decode cX6_wipe 8 = .ok (.aload_n 0, 1)) ∧ (decode cX6_wipe 9 = .ok (.getfield 22, 3)) ∧ (decode cX6_wipe 12 = .ok (.iconst 0, 1)) ∧ (decode cX6_wipe 13 = .ok (.putfield 171, 3)) ∧ (decode cX6_wipe 16 = .ok (.iload_n 1, 1)) ∧ (decode cX6_wipe 17 = .ok (.ireturn, 1)) := by decide +kernel
theorem dX6_wipe_0 : decode cX6_wipe 0 = .ok (.aload_n 0, 1) := qd2_22.1
theorem dX6_wipe_1 : decode cX6_wipe 1 = .ok (.getfield 22, 3) := qd2_22.2.1
theorem dX6_wipe_4 : decode cX6_wipe 4 = .ok (.getfield 171, 3) := qd2_22.2.2.1
theorem dX6_wipe_7 : decode cX6_wipe 7 = .ok (.istore_n 1, 1) := qd2_22.2.2.2.1
theorem dX6_wipe_8 : decode cX6_wipe 8 = .ok (.aload_n 0, 1) := qd2_22.2.2.2.2.1
theorem dX6_wipe_9 : decode cX6_wipe 9 = .ok (.getfield 22, 3) := qd2_22.2.2.2.2.2.1
theorem dX6_wipe_12 : decode cX6_wipe 12 = .ok (.iconst 0, 1) := qd2_22.2.2.2.2.2.2.1
theorem dX6_wipe_13 : decode cX6_wipe 13 = .ok (.putfield 171, 3) := qd2_22.2.2.2.2.2.2.2.1
theorem dX6_wipe_16 : decode cX6_wipe 16 = .ok (.iload_n 1, 1) := qd2_22.2.2.2.2.2.2.2.2.1
theorem dX6_wipe_17 : decode cX6_wipe 17 = .ok (.ireturn, 1) := qd2_22.2.2.2.2.2.2.2.2.2
theorem qd2_23 : (decode cX6_land 0 = .ok (.aload_n 0, 1)) ∧ (decode cX6_land 1 = .ok (.getfield 36, 3)) ∧ (decode cX6_land 4 = .ok (.getfield 177, 3)) ∧ (decode cX6_land 7 = .ok (.astore_n 1, 1)) ∧ (decode cX6_land 8 = .ok (.aload_n 1, 1)) ∧ (decode cX6_land 9 = .ok (.aload_n 0, 1)) ∧ (decode cX6_land 10 = .ok (.getfield 12, 3)) ∧ (decode cX6_land 13 = .ok (.invokevirtual 180, 3)) ∧ (decode cX6_land 16 = .ok (.aload_n 0, 1)) ∧ (decode cX6_land 17 = .ok (.getfield 22, 3)) ∧ (decode cX6_land 20 = .ok (.aload_n 1, 1)) ∧ (decode cX6_land 21 = .ok (.invokevirtual 184, 3)) := by decide +kernel
theorem dX6_land_0 : decode cX6_land 0 = .ok (.aload_n 0, 1) := qd2_23.1
theorem dX6_land_1 : decode cX6_land 1 = .ok (.getfield 36, 3) := qd2_23.2.1
theorem dX6_land_4 : decode cX6_land 4 = .ok (.getfield 177, 3) := qd2_23.2.2.1
theorem dX6_land_7 : decode cX6_land 7 = .ok (.astore_n 1, 1) := qd2_23.2.2.2.1
theorem dX6_land_8 : decode cX6_land 8 = .ok (.aload_n 1, 1) := qd2_23.2.2.2.2.1
theorem dX6_land_9 : decode cX6_land 9 = .ok (.aload_n 0, 1) := qd2_23.2.2.2.2.2.1
theorem dX6_land_10 : decode cX6_land 10 = .ok (.getfield 12, 3) := qd2_23.2.2.2.2.2.2.1
theorem dX6_land_13 : decode cX6_land 13 = .ok (.invokevirtual 180, 3) := qd2_23.2.2.2.2.2.2.2.1
theorem dX6_land_16 : decode cX6_land 16 = .ok (.aload_n 0, 1) := qd2_23.2.2.2.2.2.2.2.2.1
theorem dX6_land_17 : decode cX6_land 17 = .ok (.getfield 22, 3) := qd2_23.2.2.2.2.2.2.2.2.2.1
theorem dX6_land_20 : decode cX6_land 20 = .ok (.aload_n 1, 1) := qd2_23.2.2.2.2.2.2.2.2.2.2.1
theorem dX6_land_21 : decode cX6_land 21 = .ok (.invokevirtual 184, 3) := qd2_23.2.2.2.2.2.2.2.2.2.2.2
theorem qd2_24 : (decode cX6_land 24 = .ok (.istore_n 2, 1)) ∧ (decode cX6_land 25 = .ok (.aload_n 0, 1)) ∧ (decode cX6_land 26 = .ok (.getfield 22, 3)) ∧ (decode cX6_land 29 = .ok (.iconst 0, 1)) ∧ (decode cX6_land 30 = .ok (.putfield 171, 3)) ∧ (decode cX6_land 33 = .ok (.iload_n 2, 1)) ∧ (decode cX6_land 34 = .ok (.ifCond .ge 12, 3)) ∧ (decode cX6_land 37 = .ok (.aload_n 0, 1)) ∧ (decode cX6_land 38 = .ok (.bipush (-2), 2)) ∧ (decode cX6_land 40 = .ok (.invokevirtual 68, 3)) ∧ (decode cX6_land 43 = .ok (.pop, 1)) ∧ (decode cX6_land 44 = .ok (.iload_n 2, 1)) := by decide +kernel
theorem dX6_land_24 : decode cX6_land 24 = .ok (.istore_n 2, 1) := qd2_24.1
theorem dX6_land_25 : decode cX6_land 25 = .ok (.aload_n 0, 1) := qd2_24.2.1
theorem dX6_land_26 : decode cX6_land 26 = .ok (.getfield 22, 3) := qd2_24.2.2.1
theorem dX6_land_29 : decode cX6_land 29 = .ok (.iconst 0, 1) := qd2_24.2.2.2.1
theorem dX6_land_30 : decode cX6_land 30 = .ok (.putfield 171, 3) := qd2_24.2.2.2.2.1
theorem dX6_land_33 : decode cX6_land 33 = .ok (.iload_n 2, 1) := qd2_24.2.2.2.2.2.1
theorem dX6_land_34 : decode cX6_land 34 = .ok (.ifCond .ge 12, 3) := qd2_24.2.2.2.2.2.2.1
theorem dX6_land_37 : decode cX6_land 37 = .ok (.aload_n 0, 1) := qd2_24.2.2.2.2.2.2.2.1
theorem dX6_land_38 : decode cX6_land 38 = .ok (.bipush (-2), 2) := qd2_24.2.2.2.2.2.2.2.2.1
theorem dX6_land_40 : decode cX6_land 40 = .ok (.invokevirtual 68, 3) := qd2_24.2.2.2.2.2.2.2.2.2.1
theorem dX6_land_43 : decode cX6_land 43 = .ok (.pop, 1) := qd2_24.2.2.2.2.2.2.2.2.2.2.1
theorem dX6_land_44 : decode cX6_land 44 = .ok (.iload_n 2, 1) := qd2_24.2.2.2.2.2.2.2.2.2.2.2
theorem qd2_25 : (decode cX6_land 45 = .ok (.ireturn, 1)) ∧ (decode cX6_land 46 = .ok (.aload_n 0, 1)) ∧ (decode cX6_land 47 = .ok (.getfield 12, 3)) ∧ (decode cX6_land 50 = .ok (.aload_n 1, 1)) ∧ (decode cX6_land 51 = .ok (.invokevirtual 180, 3)) ∧ (decode cX6_land 54 = .ok (.iload_n 2, 1)) ∧ (decode cX6_land 55 = .ok (.ireturn, 1)) := by decide +kernel
theorem dX6_land_45 : decode cX6_land 45 = .ok (.ireturn, 1) := qd2_25.1
theorem dX6_land_46 : decode cX6_land 46 = .ok (.aload_n 0, 1) := qd2_25.2.1
theorem dX6_land_47 : decode cX6_land 47 = .ok (.getfield 12, 3) := qd2_25.2.2.1
theorem dX6_land_50 : decode cX6_land 50 = .ok (.aload_n 1, 1) := qd2_25.2.2.2.1
theorem dX6_land_51 : decode cX6_land 51 = .ok (.invokevirtual 180, 3) := qd2_25.2.2.2.2.1
theorem dX6_land_54 : decode cX6_land 54 = .ok (.iload_n 2, 1) := qd2_25.2.2.2.2.2.1
theorem dX6_land_55 : decode cX6_land 55 = .ok (.ireturn, 1) := qd2_25.2.2.2.2.2.2
theorem qd2_26 : (decode cX6_lineOf 0 = .ok (.aload_n 0, 1)) ∧ (decode cX6_lineOf 1 = .ok (.getfield 12, 3)) ∧ (decode cX6_lineOf 4 = .ok (.iload_n 1, 1)) ∧ (decode cX6_lineOf 5 = .ok (.invokevirtual 162, 3)) ∧ (decode cX6_lineOf 8 = .ok (.ifCond .eq 13, 3)) ∧ (decode cX6_lineOf 11 = .ok (.iload_n 2, 1)) ∧ (decode cX6_lineOf 12 = .ok (.iconst 0, 1)) ∧ (decode cX6_lineOf 13 = .ok (.bipush 6, 2)) ∧ (decode cX6_lineOf 15 = .ok (.invokestatic 64, 3)) ∧ (decode cX6_lineOf 18 = .ok (.ifCond .ne 10, 3)) ∧ (decode cX6_lineOf 21 = .ok (.aload_n 0, 1)) ∧ (decode cX6_lineOf 22 = .ok (.bipush (-2), 2)) := by decide +kernel
theorem dX6_lineOf_0 : decode cX6_lineOf 0 = .ok (.aload_n 0, 1) := qd2_26.1
theorem dX6_lineOf_1 : decode cX6_lineOf 1 = .ok (.getfield 12, 3) := qd2_26.2.1
theorem dX6_lineOf_4 : decode cX6_lineOf 4 = .ok (.iload_n 1, 1) := qd2_26.2.2.1
theorem dX6_lineOf_5 : decode cX6_lineOf 5 = .ok (.invokevirtual 162, 3) := qd2_26.2.2.2.1
theorem dX6_lineOf_8 : decode cX6_lineOf 8 = .ok (.ifCond .eq 13, 3) := qd2_26.2.2.2.2.1
theorem dX6_lineOf_11 : decode cX6_lineOf 11 = .ok (.iload_n 2, 1) := qd2_26.2.2.2.2.2.1
theorem dX6_lineOf_12 : decode cX6_lineOf 12 = .ok (.iconst 0, 1) := qd2_26.2.2.2.2.2.2.1
theorem dX6_lineOf_13 : decode cX6_lineOf 13 = .ok (.bipush 6, 2) := qd2_26.2.2.2.2.2.2.2.1
theorem dX6_lineOf_15 : decode cX6_lineOf 15 = .ok (.invokestatic 64, 3) := qd2_26.2.2.2.2.2.2.2.2.1
theorem dX6_lineOf_18 : decode cX6_lineOf 18 = .ok (.ifCond .ne 10, 3) := qd2_26.2.2.2.2.2.2.2.2.2.1
theorem dX6_lineOf_21 : decode cX6_lineOf 21 = .ok (.aload_n 0, 1) := qd2_26.2.2.2.2.2.2.2.2.2.2.1
theorem dX6_lineOf_22 : decode cX6_lineOf 22 = .ok (.bipush (-2), 2) := qd2_26.2.2.2.2.2.2.2.2.2.2.2
theorem qd2_27 : (decode cX6_lineOf 24 = .ok (.invokevirtual 68, 3)) ∧ (decode cX6_lineOf 27 = .ok (.ireturn, 1)) ∧ (decode cX6_lineOf 28 = .ok (.aload_n 0, 1)) ∧ (decode cX6_lineOf 29 = .ok (.getfield 12, 3)) ∧ (decode cX6_lineOf 32 = .ok (.iload_n 1, 1)) ∧ (decode cX6_lineOf 33 = .ok (.iload_n 2, 1)) ∧ (decode cX6_lineOf 34 = .ok (.invokevirtual 165, 3)) ∧ (decode cX6_lineOf 37 = .ok (.ireturn, 1)) := by decide +kernel
theorem dX6_lineOf_24 : decode cX6_lineOf 24 = .ok (.invokevirtual 68, 3) := qd2_27.1
theorem dX6_lineOf_27 : decode cX6_lineOf 27 = .ok (.ireturn, 1) := qd2_27.2.1
theorem dX6_lineOf_28 : decode cX6_lineOf 28 = .ok (.aload_n 0, 1) := qd2_27.2.2.1
theorem dX6_lineOf_29 : decode cX6_lineOf 29 = .ok (.getfield 12, 3) := qd2_27.2.2.2.1
theorem dX6_lineOf_32 : decode cX6_lineOf 32 = .ok (.iload_n 1, 1) := qd2_27.2.2.2.2.1
theorem dX6_lineOf_33 : decode cX6_lineOf 33 = .ok (.iload_n 2, 1) := qd2_27.2.2.2.2.2.1
theorem dX6_lineOf_34 : decode cX6_lineOf 34 = .ok (.invokevirtual 165, 3) := qd2_27.2.2.2.2.2.2.1
theorem dX6_lineOf_37 : decode cX6_lineOf 37 = .ok (.ireturn, 1) := qd2_27.2.2.2.2.2.2.2
theorem qd2_28 : (decode cX6_goodsOf 0 = .ok (.aload_n 0, 1)) ∧ (decode cX6_goodsOf 1 = .ok (.getfield 12, 3)) ∧ (decode cX6_goodsOf 4 = .ok (.iload_n 1, 1)) ∧ (decode cX6_goodsOf 5 = .ok (.invokevirtual 188, 3)) ∧ (decode cX6_goodsOf 8 = .ok (.ifCond .eq 12, 3)) ∧ (decode cX6_goodsOf 11 = .ok (.iload_n 2, 1)) ∧ (decode cX6_goodsOf 12 = .ok (.iconst 0, 1)) ∧ (decode cX6_goodsOf 13 = .ok (.iconst 2, 1)) ∧ (decode cX6_goodsOf 14 = .ok (.invokestatic 64, 3)) ∧ (decode cX6_goodsOf 17 = .ok (.ifCond .ne 10, 3)) ∧ (decode cX6_goodsOf 20 = .ok (.aload_n 0, 1)) ∧ (decode cX6_goodsOf 21 = .ok (.bipush (-2), 2)) := by decide +kernel
theorem dX6_goodsOf_0 : decode cX6_goodsOf 0 = .ok (.aload_n 0, 1) := qd2_28.1
theorem dX6_goodsOf_1 : decode cX6_goodsOf 1 = .ok (.getfield 12, 3) := qd2_28.2.1
theorem dX6_goodsOf_4 : decode cX6_goodsOf 4 = .ok (.iload_n 1, 1) := qd2_28.2.2.1
theorem dX6_goodsOf_5 : decode cX6_goodsOf 5 = .ok (.invokevirtual 188, 3) := qd2_28.2.2.2.1
theorem dX6_goodsOf_8 : decode cX6_goodsOf 8 = .ok (.ifCond .eq 12, 3) := qd2_28.2.2.2.2.1
theorem dX6_goodsOf_11 : decode cX6_goodsOf 11 = .ok (.iload_n 2, 1) := qd2_28.2.2.2.2.2.1
theorem dX6_goodsOf_12 : decode cX6_goodsOf 12 = .ok (.iconst 0, 1) := qd2_28.2.2.2.2.2.2.1
theorem dX6_goodsOf_13 : decode cX6_goodsOf 13 = .ok (.iconst 2, 1) := qd2_28.2.2.2.2.2.2.2.1
theorem dX6_goodsOf_14 : decode cX6_goodsOf 14 = .ok (.invokestatic 64, 3) := qd2_28.2.2.2.2.2.2.2.2.1
theorem dX6_goodsOf_17 : decode cX6_goodsOf 17 = .ok (.ifCond .ne 10, 3) := qd2_28.2.2.2.2.2.2.2.2.2.1
theorem dX6_goodsOf_20 : decode cX6_goodsOf 20 = .ok (.aload_n 0, 1) := qd2_28.2.2.2.2.2.2.2.2.2.2.1
theorem dX6_goodsOf_21 : decode cX6_goodsOf 21 = .ok (.bipush (-2), 2) := qd2_28.2.2.2.2.2.2.2.2.2.2.2
theorem qd2_29 : (decode cX6_goodsOf 23 = .ok (.invokevirtual 68, 3)) ∧ (decode cX6_goodsOf 26 = .ok (.ireturn, 1)) ∧ (decode cX6_goodsOf 27 = .ok (.aload_n 0, 1)) ∧ (decode cX6_goodsOf 28 = .ok (.getfield 12, 3)) ∧ (decode cX6_goodsOf 31 = .ok (.iload_n 1, 1)) ∧ (decode cX6_goodsOf 32 = .ok (.iload_n 2, 1)) ∧ (decode cX6_goodsOf 33 = .ok (.invokevirtual 191, 3)) ∧ (decode cX6_goodsOf 36 = .ok (.ireturn, 1)) := by decide +kernel
theorem dX6_goodsOf_23 : decode cX6_goodsOf 23 = .ok (.invokevirtual 68, 3) := qd2_29.1
theorem dX6_goodsOf_26 : decode cX6_goodsOf 26 = .ok (.ireturn, 1) := qd2_29.2.1
theorem dX6_goodsOf_27 : decode cX6_goodsOf 27 = .ok (.aload_n 0, 1) := qd2_29.2.2.1
theorem dX6_goodsOf_28 : decode cX6_goodsOf 28 = .ok (.getfield 12, 3) := qd2_29.2.2.2.1
theorem dX6_goodsOf_31 : decode cX6_goodsOf 31 = .ok (.iload_n 1, 1) := qd2_29.2.2.2.2.1
theorem dX6_goodsOf_32 : decode cX6_goodsOf 32 = .ok (.iload_n 2, 1) := qd2_29.2.2.2.2.2.1
theorem dX6_goodsOf_33 : decode cX6_goodsOf 33 = .ok (.invokevirtual 191, 3) := qd2_29.2.2.2.2.2.2.1
theorem dX6_goodsOf_36 : decode cX6_goodsOf 36 = .ok (.ireturn, 1) := qd2_29.2.2.2.2.2.2.2
theorem qd2_30 : (decode cX6_workOf 0 = .ok (.aload_n 0, 1)) ∧ (decode cX6_workOf 1 = .ok (.getfield 12, 3)) ∧ (decode cX6_workOf 4 = .ok (.iload_n 1, 1)) ∧ (decode cX6_workOf 5 = .ok (.invokevirtual 109, 3)) ∧ (decode cX6_workOf 8 = .ok (.ifCond .eq 12, 3)) ∧ (decode cX6_workOf 11 = .ok (.iload_n 2, 1)) ∧ (decode cX6_workOf 12 = .ok (.iconst 0, 1)) ∧ (decode cX6_workOf 13 = .ok (.iconst 4, 1)) ∧ (decode cX6_workOf 14 = .ok (.invokestatic 64, 3)) ∧ (decode cX6_workOf 17 = .ok (.ifCond .ne 10, 3)) ∧ (decode cX6_workOf 20 = .ok (.aload_n 0, 1)) ∧ (decode cX6_workOf 21 = .ok (.bipush (-2), 2)) := by decide +kernel
theorem dX6_workOf_0 : decode cX6_workOf 0 = .ok (.aload_n 0, 1) := qd2_30.1
theorem dX6_workOf_1 : decode cX6_workOf 1 = .ok (.getfield 12, 3) := qd2_30.2.1
theorem dX6_workOf_4 : decode cX6_workOf 4 = .ok (.iload_n 1, 1) := qd2_30.2.2.1
theorem dX6_workOf_5 : decode cX6_workOf 5 = .ok (.invokevirtual 109, 3) := qd2_30.2.2.2.1
theorem dX6_workOf_8 : decode cX6_workOf 8 = .ok (.ifCond .eq 12, 3) := qd2_30.2.2.2.2.1
theorem dX6_workOf_11 : decode cX6_workOf 11 = .ok (.iload_n 2, 1) := qd2_30.2.2.2.2.2.1
theorem dX6_workOf_12 : decode cX6_workOf 12 = .ok (.iconst 0, 1) := qd2_30.2.2.2.2.2.2.1
theorem dX6_workOf_13 : decode cX6_workOf 13 = .ok (.iconst 4, 1) := qd2_30.2.2.2.2.2.2.2.1
theorem dX6_workOf_14 : decode cX6_workOf 14 = .ok (.invokestatic 64, 3) := qd2_30.2.2.2.2.2.2.2.2.1
theorem dX6_workOf_17 : decode cX6_workOf 17 = .ok (.ifCond .ne 10, 3) := qd2_30.2.2.2.2.2.2.2.2.2.1
theorem dX6_workOf_20 : decode cX6_workOf 20 = .ok (.aload_n 0, 1) := qd2_30.2.2.2.2.2.2.2.2.2.2.1
theorem dX6_workOf_21 : decode cX6_workOf 21 = .ok (.bipush (-2), 2) := qd2_30.2.2.2.2.2.2.2.2.2.2.2
theorem qd2_31 : (decode cX6_workOf 23 = .ok (.invokevirtual 68, 3)) ∧ (decode cX6_workOf 26 = .ok (.ireturn, 1)) ∧ (decode cX6_workOf 27 = .ok (.aload_n 0, 1)) ∧ (decode cX6_workOf 28 = .ok (.getfield 12, 3)) ∧ (decode cX6_workOf 31 = .ok (.iload_n 1, 1)) ∧ (decode cX6_workOf 32 = .ok (.iload_n 2, 1)) ∧ (decode cX6_workOf 33 = .ok (.invokevirtual 113, 3)) ∧ (decode cX6_workOf 36 = .ok (.ireturn, 1)) := by decide +kernel
theorem dX6_workOf_23 : decode cX6_workOf 23 = .ok (.invokevirtual 68, 3) := qd2_31.1
theorem dX6_workOf_26 : decode cX6_workOf 26 = .ok (.ireturn, 1) := qd2_31.2.1
theorem dX6_workOf_27 : decode cX6_workOf 27 = .ok (.aload_n 0, 1) := qd2_31.2.2.1
theorem dX6_workOf_28 : decode cX6_workOf 28 = .ok (.getfield 12, 3) := qd2_31.2.2.2.1
theorem dX6_workOf_31 : decode cX6_workOf 31 = .ok (.iload_n 1, 1) := qd2_31.2.2.2.2.1
theorem dX6_workOf_32 : decode cX6_workOf 32 = .ok (.iload_n 2, 1) := qd2_31.2.2.2.2.2.1
theorem dX6_workOf_33 : decode cX6_workOf 33 = .ok (.invokevirtual 113, 3) := qd2_31.2.2.2.2.2.2.1
theorem dX6_workOf_36 : decode cX6_workOf 36 = .ok (.ireturn, 1) := qd2_31.2.2.2.2.2.2.2
theorem qd2_32 : (decode cX6_cheapest 0 = .ok (.iload_n 1, 1)) ∧ (decode cX6_cheapest 1 = .ok (.invokestatic 120, 3)) ∧ (decode cX6_cheapest 4 = .ok (.ifCond .eq 10, 3)) ∧ (decode cX6_cheapest 7 = .ok (.iload_n 2, 1)) ∧ (decode cX6_cheapest 8 = .ok (.invokestatic 120, 3)) ∧ (decode cX6_cheapest 11 = .ok (.ifCond .ne 10, 3)) ∧ (decode cX6_cheapest 14 = .ok (.aload_n 0, 1)) ∧ (decode cX6_cheapest 15 = .ok (.bipush (-2), 2)) ∧ (decode cX6_cheapest 17 = .ok (.invokevirtual 68, 3)) ∧ (decode cX6_cheapest 20 = .ok (.ireturn, 1)) ∧ (decode cX6_cheapest 21 = .ok (.iload_n 1, 1)) ∧ (decode cX6_cheapest 22 = .ok (.iload_n 2, 1)) := by decide +kernel
theorem dX6_cheapest_0 : decode cX6_cheapest 0 = .ok (.iload_n 1, 1) := qd2_32.1
theorem dX6_cheapest_1 : decode cX6_cheapest 1 = .ok (.invokestatic 120, 3) := qd2_32.2.1
theorem dX6_cheapest_4 : decode cX6_cheapest 4 = .ok (.ifCond .eq 10, 3) := qd2_32.2.2.1
theorem dX6_cheapest_7 : decode cX6_cheapest 7 = .ok (.iload_n 2, 1) := qd2_32.2.2.2.1
theorem dX6_cheapest_8 : decode cX6_cheapest 8 = .ok (.invokestatic 120, 3) := qd2_32.2.2.2.2.1
theorem dX6_cheapest_11 : decode cX6_cheapest 11 = .ok (.ifCond .ne 10, 3) := qd2_32.2.2.2.2.2.1
theorem dX6_cheapest_14 : decode cX6_cheapest 14 = .ok (.aload_n 0, 1) := qd2_32.2.2.2.2.2.2.1
theorem dX6_cheapest_15 : decode cX6_cheapest 15 = .ok (.bipush (-2), 2) := qd2_32.2.2.2.2.2.2.2.1
theorem dX6_cheapest_17 : decode cX6_cheapest 17 = .ok (.invokevirtual 68, 3) := qd2_32.2.2.2.2.2.2.2.2.1
theorem dX6_cheapest_20 : decode cX6_cheapest 20 = .ok (.ireturn, 1) := qd2_32.2.2.2.2.2.2.2.2.2.1
theorem dX6_cheapest_21 : decode cX6_cheapest 21 = .ok (.iload_n 1, 1) := qd2_32.2.2.2.2.2.2.2.2.2.2.1
theorem dX6_cheapest_22 : decode cX6_cheapest 22 = .ok (.iload_n 2, 1) := qd2_32.2.2.2.2.2.2.2.2.2.2.2
theorem qd2_33 : (decode cX6_cheapest 23 = .ok (.if_icmp .ne 5, 3)) ∧ (decode cX6_cheapest 26 = .ok (.iconst 0, 1)) ∧ (decode cX6_cheapest 27 = .ok (.ireturn, 1)) ∧ (decode cX6_cheapest 28 = .ok (.aload_n 0, 1)) ∧ (decode cX6_cheapest 29 = .ok (.getfield 44, 3)) ∧ (decode cX6_cheapest 32 = .ok (.aload_n 0, 1)) ∧ (decode cX6_cheapest 33 = .ok (.getfield 12, 3)) ∧ (decode cX6_cheapest 36 = .ok (.iload_n 1, 1)) ∧ (decode cX6_cheapest 37 = .ok (.iload_n 2, 1)) ∧ (decode cX6_cheapest 38 = .ok (.invokevirtual 194, 3)) ∧ (decode cX6_cheapest 41 = .ok (.istore_n 3, 1)) ∧ (decode cX6_cheapest 42 = .ok (.iload_n 3, 1)) := by decide +kernel
theorem dX6_cheapest_23 : decode cX6_cheapest 23 = .ok (.if_icmp .ne 5, 3) := qd2_33.1
theorem dX6_cheapest_26 : decode cX6_cheapest 26 = .ok (.iconst 0, 1) := qd2_33.2.1
theorem dX6_cheapest_27 : decode cX6_cheapest 27 = .ok (.ireturn, 1) := qd2_33.2.2.1
theorem dX6_cheapest_28 : decode cX6_cheapest 28 = .ok (.aload_n 0, 1) := qd2_33.2.2.2.1
theorem dX6_cheapest_29 : decode cX6_cheapest 29 = .ok (.getfield 44, 3) := qd2_33.2.2.2.2.1
theorem dX6_cheapest_32 : decode cX6_cheapest 32 = .ok (.aload_n 0, 1) := qd2_33.2.2.2.2.2.1
theorem dX6_cheapest_33 : decode cX6_cheapest 33 = .ok (.getfield 12, 3) := qd2_33.2.2.2.2.2.2.1
theorem dX6_cheapest_36 : decode cX6_cheapest 36 = .ok (.iload_n 1, 1) := qd2_33.2.2.2.2.2.2.2.1
theorem dX6_cheapest_37 : decode cX6_cheapest 37 = .ok (.iload_n 2, 1) := qd2_33.2.2.2.2.2.2.2.2.1
theorem dX6_cheapest_38 : decode cX6_cheapest 38 = .ok (.invokevirtual 194, 3) := qd2_33.2.2.2.2.2.2.2.2.2.1
theorem dX6_cheapest_41 : decode cX6_cheapest 41 = .ok (.istore_n 3, 1) := qd2_33.2.2.2.2.2.2.2.2.2.2.1
theorem dX6_cheapest_42 : decode cX6_cheapest 42 = .ok (.iload_n 3, 1) := qd2_33.2.2.2.2.2.2.2.2.2.2.2
theorem qd2_34 : (decode cX6_cheapest 43 = .ok (.iconst (-1), 1)) ∧ (decode cX6_cheapest 44 = .ok (.if_icmp .ne 12, 3)) ∧ (decode cX6_cheapest 47 = .ok (.aload_n 0, 1)) ∧ (decode cX6_cheapest 48 = .ok (.bipush (-5), 2)) ∧ (decode cX6_cheapest 50 = .ok (.invokevirtual 68, 3)) ∧ (decode cX6_cheapest 53 = .ok (.goto 4, 3)) ∧ (decode cX6_cheapest 56 = .ok (.iload_n 3, 1)) ∧ (decode cX6_cheapest 57 = .ok (.ireturn, 1)) := by decide +kernel
theorem dX6_cheapest_43 : decode cX6_cheapest 43 = .ok (.iconst (-1), 1) := qd2_34.1
theorem dX6_cheapest_44 : decode cX6_cheapest 44 = .ok (.if_icmp .ne 12, 3) := qd2_34.2.1
theorem dX6_cheapest_47 : decode cX6_cheapest 47 = .ok (.aload_n 0, 1) := qd2_34.2.2.1
theorem dX6_cheapest_48 : decode cX6_cheapest 48 = .ok (.bipush (-5), 2) := qd2_34.2.2.2.1
theorem dX6_cheapest_50 : decode cX6_cheapest 50 = .ok (.invokevirtual 68, 3) := qd2_34.2.2.2.2.1
theorem dX6_cheapest_53 : decode cX6_cheapest 53 = .ok (.goto 4, 3) := qd2_34.2.2.2.2.2.1
theorem dX6_cheapest_56 : decode cX6_cheapest 56 = .ok (.iload_n 3, 1) := qd2_34.2.2.2.2.2.2.1
theorem dX6_cheapest_57 : decode cX6_cheapest 57 = .ok (.ireturn, 1) := qd2_34.2.2.2.2.2.2.2
theorem qd2_35 : (decode cX6_way 0 = .ok (.iload_n 2, 1)) ∧ (decode cX6_way 1 = .ok (.bipush 10, 2)) ∧ (decode cX6_way 3 = .ok (.bipush 46, 2)) ∧ (decode cX6_way 5 = .ok (.invokestatic 64, 3)) ∧ (decode cX6_way 8 = .ok (.istore_n 3, 1)) ∧ (decode cX6_way 9 = .ok (.aload_n 0, 1)) ∧ (decode cX6_way 10 = .ok (.getfield 12, 3)) ∧ (decode cX6_way 13 = .ok (.iload_n 1, 1)) ∧ (decode cX6_way 14 = .ok (.invokevirtual 188, 3)) ∧ (decode cX6_way 17 = .ok (.ifCond .eq 16, 3)) ∧ (decode cX6_way 20 = .ok (.iload_n 2, 1)) ∧ (decode cX6_way 21 = .ok (.iconst 0, 1)) := by decide +kernel
theorem dX6_way_0 : decode cX6_way 0 = .ok (.iload_n 2, 1) := qd2_35.1
theorem dX6_way_1 : decode cX6_way 1 = .ok (.bipush 10, 2) := qd2_35.2.1
theorem dX6_way_3 : decode cX6_way 3 = .ok (.bipush 46, 2) := qd2_35.2.2.1
theorem dX6_way_5 : decode cX6_way 5 = .ok (.invokestatic 64, 3) := qd2_35.2.2.2.1
theorem dX6_way_8 : decode cX6_way 8 = .ok (.istore_n 3, 1) := qd2_35.2.2.2.2.1
theorem dX6_way_9 : decode cX6_way 9 = .ok (.aload_n 0, 1) := qd2_35.2.2.2.2.2.1
theorem dX6_way_10 : decode cX6_way 10 = .ok (.getfield 12, 3) := qd2_35.2.2.2.2.2.2.1
theorem dX6_way_13 : decode cX6_way 13 = .ok (.iload_n 1, 1) := qd2_35.2.2.2.2.2.2.2.1
theorem dX6_way_14 : decode cX6_way 14 = .ok (.invokevirtual 188, 3) := qd2_35.2.2.2.2.2.2.2.2.1
theorem dX6_way_17 : decode cX6_way 17 = .ok (.ifCond .eq 16, 3) := qd2_35.2.2.2.2.2.2.2.2.2.1
theorem dX6_way_20 : decode cX6_way 20 = .ok (.iload_n 2, 1) := qd2_35.2.2.2.2.2.2.2.2.2.2.1
theorem dX6_way_21 : decode cX6_way 21 = .ok (.iconst 0, 1) := qd2_35.2.2.2.2.2.2.2.2.2.2.2
theorem qd2_36 : (decode cX6_way 22 = .ok (.iconst 3, 1)) ∧ (decode cX6_way 23 = .ok (.invokestatic 64, 3)) ∧ (decode cX6_way 26 = .ok (.ifCond .ne 14, 3)) ∧ (decode cX6_way 29 = .ok (.iload_n 3, 1)) ∧ (decode cX6_way 30 = .ok (.ifCond .ne 10, 3)) ∧ (decode cX6_way 33 = .ok (.aload_n 0, 1)) ∧ (decode cX6_way 34 = .ok (.bipush (-2), 2)) ∧ (decode cX6_way 36 = .ok (.invokevirtual 68, 3)) ∧ (decode cX6_way 39 = .ok (.ireturn, 1)) ∧ (decode cX6_way 40 = .ok (.aload_n 0, 1)) ∧ (decode cX6_way 41 = .ok (.getfield 44, 3)) ∧ (decode cX6_way 44 = .ok (.getfield 200, 3)) := by decide +kernel
theorem dX6_way_22 : decode cX6_way 22 = .ok (.iconst 3, 1) := qd2_36.1
theorem dX6_way_23 : decode cX6_way 23 = .ok (.invokestatic 64, 3) := qd2_36.2.1
theorem dX6_way_26 : decode cX6_way 26 = .ok (.ifCond .ne 14, 3) := qd2_36.2.2.1
theorem dX6_way_29 : decode cX6_way 29 = .ok (.iload_n 3, 1) := qd2_36.2.2.2.1
theorem dX6_way_30 : decode cX6_way 30 = .ok (.ifCond .ne 10, 3) := qd2_36.2.2.2.2.1
theorem dX6_way_33 : decode cX6_way 33 = .ok (.aload_n 0, 1) := qd2_36.2.2.2.2.2.1
theorem dX6_way_34 : decode cX6_way 34 = .ok (.bipush (-2), 2) := qd2_36.2.2.2.2.2.2.1
theorem dX6_way_36 : decode cX6_way 36 = .ok (.invokevirtual 68, 3) := qd2_36.2.2.2.2.2.2.2.1
theorem dX6_way_39 : decode cX6_way 39 = .ok (.ireturn, 1) := qd2_36.2.2.2.2.2.2.2.2.1
theorem dX6_way_40 : decode cX6_way 40 = .ok (.aload_n 0, 1) := qd2_36.2.2.2.2.2.2.2.2.2.1
theorem dX6_way_41 : decode cX6_way 41 = .ok (.getfield 44, 3) := qd2_36.2.2.2.2.2.2.2.2.2.2.1
theorem dX6_way_44 : decode cX6_way 44 = .ok (.getfield 200, 3) := qd2_36.2.2.2.2.2.2.2.2.2.2.2
theorem qd2_37 : (decode cX6_way 47 = .ok (.astore 4, 2)) ∧ (decode cX6_way 49 = .ok (.aload 4, 2)) ∧ (decode cX6_way 51 = .ok (.aload_n 0, 1)) ∧ (decode cX6_way 52 = .ok (.getfield 12, 3)) ∧ (decode cX6_way 55 = .ok (.aload_n 0, 1)) ∧ (decode cX6_way 56 = .ok (.getfield 12, 3)) ∧ (decode cX6_way 59 = .ok (.invokevirtual 204, 3)) ∧ (decode cX6_way 62 = .ok (.invokevirtual 208, 3)) ∧ (decode cX6_way 65 = .ok (.aload 4, 2)) ∧ (decode cX6_way 67 = .ok (.aload_n 0, 1)) ∧ (decode cX6_way 68 = .ok (.getfield 12, 3)) ∧ (decode cX6_way 71 = .ok (.iload_n 1, 1)) := by decide +kernel
theorem dX6_way_47 : decode cX6_way 47 = .ok (.astore 4, 2) := qd2_37.1
theorem dX6_way_49 : decode cX6_way 49 = .ok (.aload 4, 2) := qd2_37.2.1
theorem dX6_way_51 : decode cX6_way 51 = .ok (.aload_n 0, 1) := qd2_37.2.2.1
theorem dX6_way_52 : decode cX6_way 52 = .ok (.getfield 12, 3) := qd2_37.2.2.2.1
theorem dX6_way_55 : decode cX6_way 55 = .ok (.aload_n 0, 1) := qd2_37.2.2.2.2.1
theorem dX6_way_56 : decode cX6_way 56 = .ok (.getfield 12, 3) := qd2_37.2.2.2.2.2.1
theorem dX6_way_59 : decode cX6_way 59 = .ok (.invokevirtual 204, 3) := qd2_37.2.2.2.2.2.2.1
theorem dX6_way_62 : decode cX6_way 62 = .ok (.invokevirtual 208, 3) := qd2_37.2.2.2.2.2.2.2.1
theorem dX6_way_65 : decode cX6_way 65 = .ok (.aload 4, 2) := qd2_37.2.2.2.2.2.2.2.2.1
theorem dX6_way_67 : decode cX6_way 67 = .ok (.aload_n 0, 1) := qd2_37.2.2.2.2.2.2.2.2.2.1
theorem dX6_way_68 : decode cX6_way 68 = .ok (.getfield 12, 3) := qd2_37.2.2.2.2.2.2.2.2.2.2.1
theorem dX6_way_71 : decode cX6_way 71 = .ok (.iload_n 1, 1) := qd2_37.2.2.2.2.2.2.2.2.2.2.2
theorem qd2_38 : (decode cX6_way 72 = .ok (.iconst 0, 1)) ∧ (decode cX6_way 73 = .ok (.invokevirtual 191, 3)) ∧ (decode cX6_way 76 = .ok (.aload_n 0, 1)) ∧ (decode cX6_way 77 = .ok (.getfield 12, 3)) ∧ (decode cX6_way 80 = .ok (.iload_n 1, 1)) ∧ (decode cX6_way 81 = .ok (.iconst 1, 1)) ∧ (decode cX6_way 82 = .ok (.invokevirtual 191, 3)) ∧ (decode cX6_way 85 = .ok (.invokevirtual 214, 3)) ∧ (decode cX6_way 88 = .ok (.ifCond .ne 10, 3)) ∧ (decode cX6_way 91 = .ok (.aload_n 0, 1)) ∧ (decode cX6_way 92 = .ok (.bipush (-5), 2)) ∧ (decode cX6_way 94 = .ok (.invokevirtual 68, 3)) := by decide +kernel
theorem dX6_way_72 : decode cX6_way 72 = .ok (.iconst 0, 1) := qd2_38.1
theorem dX6_way_73 : decode cX6_way 73 = .ok (.invokevirtual 191, 3) := qd2_38.2.1
theorem dX6_way_76 : decode cX6_way 76 = .ok (.aload_n 0, 1) := qd2_38.2.2.1
theorem dX6_way_77 : decode cX6_way 77 = .ok (.getfield 12, 3) := qd2_38.2.2.2.1
theorem dX6_way_80 : decode cX6_way 80 = .ok (.iload_n 1, 1) := qd2_38.2.2.2.2.1
theorem dX6_way_81 : decode cX6_way 81 = .ok (.iconst 1, 1) := qd2_38.2.2.2.2.2.1
theorem dX6_way_82 : decode cX6_way 82 = .ok (.invokevirtual 191, 3) := qd2_38.2.2.2.2.2.2.1
theorem dX6_way_85 : decode cX6_way 85 = .ok (.invokevirtual 214, 3) := qd2_38.2.2.2.2.2.2.2.1
theorem dX6_way_88 : decode cX6_way 88 = .ok (.ifCond .ne 10, 3) := qd2_38.2.2.2.2.2.2.2.2.1
theorem dX6_way_91 : decode cX6_way 91 = .ok (.aload_n 0, 1) := qd2_38.2.2.2.2.2.2.2.2.2.1
theorem dX6_way_92 : decode cX6_way 92 = .ok (.bipush (-5), 2) := qd2_38.2.2.2.2.2.2.2.2.2.2.1
theorem dX6_way_94 : decode cX6_way 94 = .ok (.invokevirtual 68, 3) := qd2_38.2.2.2.2.2.2.2.2.2.2.2
theorem qd2_39 : (decode cX6_way 97 = .ok (.ireturn, 1)) ∧ (decode cX6_way 98 = .ok (.iload_n 3, 1)) ∧ (decode cX6_way 99 = .ok (.ifCond .eq 32, 3)) ∧ (decode cX6_way 102 = .ok (.aload 4, 2)) ∧ (decode cX6_way 104 = .ok (.iload_n 2, 1)) ∧ (decode cX6_way 105 = .ok (.bipush 10, 2)) ∧ (decode cX6_way 107 = .ok (.isub, 1)) ∧ (decode cX6_way 108 = .ok (.invokevirtual 217, 3)) ∧ (decode cX6_way 111 = .ok (.istore 5, 2)) ∧ (decode cX6_way 113 = .ok (.iload 5, 2)) ∧ (decode cX6_way 115 = .ok (.iconst (-1), 1)) ∧ (decode cX6_way 116 = .ok (.if_icmp .ne 12, 3)) := by decide +kernel
theorem dX6_way_97 : decode cX6_way 97 = .ok (.ireturn, 1) := qd2_39.1
theorem dX6_way_98 : decode cX6_way 98 = .ok (.iload_n 3, 1) := qd2_39.2.1
theorem dX6_way_99 : decode cX6_way 99 = .ok (.ifCond .eq 32, 3) := qd2_39.2.2.1
theorem dX6_way_102 : decode cX6_way 102 = .ok (.aload 4, 2) := qd2_39.2.2.2.1
theorem dX6_way_104 : decode cX6_way 104 = .ok (.iload_n 2, 1) := qd2_39.2.2.2.2.1
theorem dX6_way_105 : decode cX6_way 105 = .ok (.bipush 10, 2) := qd2_39.2.2.2.2.2.1
theorem dX6_way_107 : decode cX6_way 107 = .ok (.isub, 1) := qd2_39.2.2.2.2.2.2.1
theorem dX6_way_108 : decode cX6_way 108 = .ok (.invokevirtual 217, 3) := qd2_39.2.2.2.2.2.2.2.1
theorem dX6_way_111 : decode cX6_way 111 = .ok (.istore 5, 2) := qd2_39.2.2.2.2.2.2.2.2.1
theorem dX6_way_113 : decode cX6_way 113 = .ok (.iload 5, 2) := qd2_39.2.2.2.2.2.2.2.2.2.1
theorem dX6_way_115 : decode cX6_way 115 = .ok (.iconst (-1), 1) := qd2_39.2.2.2.2.2.2.2.2.2.2.1
theorem dX6_way_116 : decode cX6_way 116 = .ok (.if_icmp .ne 12, 3) := qd2_39.2.2.2.2.2.2.2.2.2.2.2
theorem qd2_40 : (decode cX6_way 119 = .ok (.aload_n 0, 1)) ∧ (decode cX6_way 120 = .ok (.bipush (-2), 2)) ∧ (decode cX6_way 122 = .ok (.invokevirtual 68, 3)) ∧ (decode cX6_way 125 = .ok (.goto 5, 3)) ∧ (decode cX6_way 128 = .ok (.iload 5, 2)) ∧ (decode cX6_way 130 = .ok (.ireturn, 1)) ∧ (decode cX6_way 131 = .ok (.iload_n 2, 1)) ∧ (decode cX6_way 132 = .ok (.tableswitch 47 0 2 #[28, 34, 40], 28)) ∧ (decode cX6_way 160 = .ok (.aload 4, 2)) ∧ (decode cX6_way 162 = .ok (.invokevirtual 220, 3)) ∧ (decode cX6_way 165 = .ok (.ireturn, 1)) ∧ (decode cX6_way 166 = .ok (.aload 4, 2)) := by decide +kernel
theorem dX6_way_119 : decode cX6_way 119 = .ok (.aload_n 0, 1) := qd2_40.1
theorem dX6_way_120 : decode cX6_way 120 = .ok (.bipush (-2), 2) := qd2_40.2.1
theorem dX6_way_122 : decode cX6_way 122 = .ok (.invokevirtual 68, 3) := qd2_40.2.2.1
theorem dX6_way_125 : decode cX6_way 125 = .ok (.goto 5, 3) := qd2_40.2.2.2.1
theorem dX6_way_128 : decode cX6_way 128 = .ok (.iload 5, 2) := qd2_40.2.2.2.2.1
theorem dX6_way_130 : decode cX6_way 130 = .ok (.ireturn, 1) := qd2_40.2.2.2.2.2.1
theorem dX6_way_131 : decode cX6_way 131 = .ok (.iload_n 2, 1) := qd2_40.2.2.2.2.2.2.1
theorem dX6_way_132 : decode cX6_way 132 = .ok (.tableswitch 47 0 2 #[28, 34, 40], 28) := qd2_40.2.2.2.2.2.2.2.1
theorem dX6_way_160 : decode cX6_way 160 = .ok (.aload 4, 2) := qd2_40.2.2.2.2.2.2.2.2.1
theorem dX6_way_162 : decode cX6_way 162 = .ok (.invokevirtual 220, 3) := qd2_40.2.2.2.2.2.2.2.2.2.1
theorem dX6_way_165 : decode cX6_way 165 = .ok (.ireturn, 1) := qd2_40.2.2.2.2.2.2.2.2.2.2.1
theorem dX6_way_166 : decode cX6_way 166 = .ok (.aload 4, 2) := qd2_40.2.2.2.2.2.2.2.2.2.2.2
theorem qd2_41 : (decode cX6_way 168 = .ok (.invokevirtual 223, 3)) ∧ (decode cX6_way 171 = .ok (.ireturn, 1)) ∧ (decode cX6_way 172 = .ok (.aload 4, 2)) ∧ (decode cX6_way 174 = .ok (.iconst 0, 1)) ∧ (decode cX6_way 175 = .ok (.invokevirtual 226, 3)) ∧ (decode cX6_way 178 = .ok (.ireturn, 1)) ∧ (decode cX6_way 179 = .ok (.aload 4, 2)) ∧ (decode cX6_way 181 = .ok (.aload 4, 2)) ∧ (decode cX6_way 183 = .ok (.getfield 229, 3)) ∧ (decode cX6_way 186 = .ok (.iconst 1, 1)) ∧ (decode cX6_way 187 = .ok (.isub, 1)) ∧ (decode cX6_way 188 = .ok (.invokevirtual 226, 3)) := by decide +kernel
theorem dX6_way_168 : decode cX6_way 168 = .ok (.invokevirtual 223, 3) := qd2_41.1
theorem dX6_way_171 : decode cX6_way 171 = .ok (.ireturn, 1) := qd2_41.2.1
theorem dX6_way_172 : decode cX6_way 172 = .ok (.aload 4, 2) := qd2_41.2.2.1
theorem dX6_way_174 : decode cX6_way 174 = .ok (.iconst 0, 1) := qd2_41.2.2.2.1
theorem dX6_way_175 : decode cX6_way 175 = .ok (.invokevirtual 226, 3) := qd2_41.2.2.2.2.1
theorem dX6_way_178 : decode cX6_way 178 = .ok (.ireturn, 1) := qd2_41.2.2.2.2.2.1
theorem dX6_way_179 : decode cX6_way 179 = .ok (.aload 4, 2) := qd2_41.2.2.2.2.2.2.1
theorem dX6_way_181 : decode cX6_way 181 = .ok (.aload 4, 2) := qd2_41.2.2.2.2.2.2.2.1
theorem dX6_way_183 : decode cX6_way 183 = .ok (.getfield 229, 3) := qd2_41.2.2.2.2.2.2.2.2.1
theorem dX6_way_186 : decode cX6_way 186 = .ok (.iconst 1, 1) := qd2_41.2.2.2.2.2.2.2.2.2.1
theorem dX6_way_187 : decode cX6_way 187 = .ok (.isub, 1) := qd2_41.2.2.2.2.2.2.2.2.2.2.1
theorem dX6_way_188 : decode cX6_way 188 = .ok (.invokevirtual 226, 3) := qd2_41.2.2.2.2.2.2.2.2.2.2.2
theorem dX6_way_191 : decode cX6_way 191 = .ok (.ireturn, 1) := by decide +kernel
theorem qd2_42 : (decode cX6_free 0 = .ok (.aload_n 0, 1)) ∧ (decode cX6_free 1 = .ok (.getfield 36, 3)) ∧ (decode cX6_free 4 = .ok (.aload_n 0, 1)) ∧ (decode cX6_free 5 = .ok (.getfield 12, 3)) ∧ (decode cX6_free 8 = .ok (.iconst 0, 1)) ∧ (decode cX6_free 9 = .ok (.invokevirtual 232, 3)) ∧ (decode cX6_free 12 = .ok (.ireturn, 1)) := by decide +kernel
theorem dX6_free_0 : decode cX6_free 0 = .ok (.aload_n 0, 1) := qd2_42.1
theorem dX6_free_1 : decode cX6_free 1 = .ok (.getfield 36, 3) := qd2_42.2.1
theorem dX6_free_4 : decode cX6_free 4 = .ok (.aload_n 0, 1) := qd2_42.2.2.1
theorem dX6_free_5 : decode cX6_free 5 = .ok (.getfield 12, 3) := qd2_42.2.2.2.1
theorem dX6_free_8 : decode cX6_free 8 = .ok (.iconst 0, 1) := qd2_42.2.2.2.2.1
theorem dX6_free_9 : decode cX6_free 9 = .ok (.invokevirtual 232, 3) := qd2_42.2.2.2.2.2.1
theorem dX6_free_12 : decode cX6_free 12 = .ok (.ireturn, 1) := qd2_42.2.2.2.2.2.2
theorem qd2_43 : (decode cX6_turn 0 = .ok (.iload_n 1, 1)) ∧ (decode cX6_turn 1 = .ok (.bipush 10, 2)) ∧ (decode cX6_turn 3 = .ok (.bipush 10, 2)) ∧ (decode cX6_turn 5 = .ok (.aload_n 0, 1)) ∧ (decode cX6_turn 6 = .ok (.getfield 12, 3)) ∧ (decode cX6_turn 9 = .ok (.getfield 123, 3)) ∧ (decode cX6_turn 12 = .ok (.iadd, 1)) ∧ (decode cX6_turn 13 = .ok (.iconst 1, 1)) ∧ (decode cX6_turn 14 = .ok (.isub, 1)) ∧ (decode cX6_turn 15 = .ok (.invokestatic 64, 3)) ∧ (decode cX6_turn 18 = .ok (.istore_n 2, 1)) ∧ (decode cX6_turn 19 = .ok (.iload_n 1, 1)) := by decide +kernel
theorem dX6_turn_0 : decode cX6_turn 0 = .ok (.iload_n 1, 1) := qd2_43.1
theorem dX6_turn_1 : decode cX6_turn 1 = .ok (.bipush 10, 2) := qd2_43.2.1
theorem dX6_turn_3 : decode cX6_turn 3 = .ok (.bipush 10, 2) := qd2_43.2.2.1
theorem dX6_turn_5 : decode cX6_turn 5 = .ok (.aload_n 0, 1) := qd2_43.2.2.2.1
theorem dX6_turn_6 : decode cX6_turn 6 = .ok (.getfield 12, 3) := qd2_43.2.2.2.2.1
theorem dX6_turn_9 : decode cX6_turn 9 = .ok (.getfield 123, 3) := qd2_43.2.2.2.2.2.1
theorem dX6_turn_12 : decode cX6_turn 12 = .ok (.iadd, 1) := qd2_43.2.2.2.2.2.2.1
theorem dX6_turn_13 : decode cX6_turn 13 = .ok (.iconst 1, 1) := qd2_43.2.2.2.2.2.2.2.1
theorem dX6_turn_14 : decode cX6_turn 14 = .ok (.isub, 1) := qd2_43.2.2.2.2.2.2.2.2.1
theorem dX6_turn_15 : decode cX6_turn 15 = .ok (.invokestatic 64, 3) := qd2_43.2.2.2.2.2.2.2.2.2.1
theorem dX6_turn_18 : decode cX6_turn 18 = .ok (.istore_n 2, 1) := qd2_43.2.2.2.2.2.2.2.2.2.2.1
theorem dX6_turn_19 : decode cX6_turn 19 = .ok (.iload_n 1, 1) := qd2_43.2.2.2.2.2.2.2.2.2.2.2
theorem qd2_44 : (decode cX6_turn 20 = .ok (.iconst 0, 1)) ∧ (decode cX6_turn 21 = .ok (.iconst 1, 1)) ∧ (decode cX6_turn 22 = .ok (.invokestatic 64, 3)) ∧ (decode cX6_turn 25 = .ok (.ifCond .ne 14, 3)) ∧ (decode cX6_turn 28 = .ok (.iload_n 2, 1)) ∧ (decode cX6_turn 29 = .ok (.ifCond .ne 10, 3)) ∧ (decode cX6_turn 32 = .ok (.aload_n 0, 1)) ∧ (decode cX6_turn 33 = .ok (.bipush (-2), 2)) ∧ (decode cX6_turn 35 = .ok (.invokevirtual 68, 3)) ∧ (decode cX6_turn 38 = .ok (.ireturn, 1)) ∧ (decode cX6_turn 39 = .ok (.aload_n 0, 1)) ∧ (decode cX6_turn 40 = .ok (.getfield 44, 3)) := by decide +kernel
theorem dX6_turn_20 : decode cX6_turn 20 = .ok (.iconst 0, 1) := qd2_44.1
theorem dX6_turn_21 : decode cX6_turn 21 = .ok (.iconst 1, 1) := qd2_44.2.1
theorem dX6_turn_22 : decode cX6_turn 22 = .ok (.invokestatic 64, 3) := qd2_44.2.2.1
theorem dX6_turn_25 : decode cX6_turn 25 = .ok (.ifCond .ne 14, 3) := qd2_44.2.2.2.1
theorem dX6_turn_28 : decode cX6_turn 28 = .ok (.iload_n 2, 1) := qd2_44.2.2.2.2.1
theorem dX6_turn_29 : decode cX6_turn 29 = .ok (.ifCond .ne 10, 3) := qd2_44.2.2.2.2.2.1
theorem dX6_turn_32 : decode cX6_turn 32 = .ok (.aload_n 0, 1) := qd2_44.2.2.2.2.2.2.1
theorem dX6_turn_33 : decode cX6_turn 33 = .ok (.bipush (-2), 2) := qd2_44.2.2.2.2.2.2.2.1
theorem dX6_turn_35 : decode cX6_turn 35 = .ok (.invokevirtual 68, 3) := qd2_44.2.2.2.2.2.2.2.2.1
theorem dX6_turn_38 : decode cX6_turn 38 = .ok (.ireturn, 1) := qd2_44.2.2.2.2.2.2.2.2.2.1
theorem dX6_turn_39 : decode cX6_turn 39 = .ok (.aload_n 0, 1) := qd2_44.2.2.2.2.2.2.2.2.2.2.1
theorem dX6_turn_40 : decode cX6_turn 40 = .ok (.getfield 44, 3) := qd2_44.2.2.2.2.2.2.2.2.2.2.2
theorem qd2_45 : (decode cX6_turn 43 = .ok (.aload_n 0, 1)) ∧ (decode cX6_turn 44 = .ok (.getfield 12, 3)) ∧ (decode cX6_turn 47 = .ok (.invokevirtual 236, 3)) ∧ (decode cX6_turn 50 = .ok (.iload_n 2, 1)) ∧ (decode cX6_turn 51 = .ok (.ifCond .eq 16, 3)) ∧ (decode cX6_turn 54 = .ok (.aload_n 0, 1)) ∧ (decode cX6_turn 55 = .ok (.getfield 44, 3)) ∧ (decode cX6_turn 58 = .ok (.getfield 239, 3)) ∧ (decode cX6_turn 61 = .ok (.iload_n 1, 1)) ∧ (decode cX6_turn 62 = .ok (.bipush 10, 2)) ∧ (decode cX6_turn 64 = .ok (.isub, 1)) ∧ (decode cX6_turn 65 = .ok (.iaload, 1)) := by decide +kernel
theorem dX6_turn_43 : decode cX6_turn 43 = .ok (.aload_n 0, 1) := qd2_45.1
theorem dX6_turn_44 : decode cX6_turn 44 = .ok (.getfield 12, 3) := qd2_45.2.1
theorem dX6_turn_47 : decode cX6_turn 47 = .ok (.invokevirtual 236, 3) := qd2_45.2.2.1
theorem dX6_turn_50 : decode cX6_turn 50 = .ok (.iload_n 2, 1) := qd2_45.2.2.2.1
theorem dX6_turn_51 : decode cX6_turn 51 = .ok (.ifCond .eq 16, 3) := qd2_45.2.2.2.2.1
theorem dX6_turn_54 : decode cX6_turn 54 = .ok (.aload_n 0, 1) := qd2_45.2.2.2.2.2.1
theorem dX6_turn_55 : decode cX6_turn 55 = .ok (.getfield 44, 3) := qd2_45.2.2.2.2.2.2.1
theorem dX6_turn_58 : decode cX6_turn 58 = .ok (.getfield 239, 3) := qd2_45.2.2.2.2.2.2.2.1
theorem dX6_turn_61 : decode cX6_turn 61 = .ok (.iload_n 1, 1) := qd2_45.2.2.2.2.2.2.2.2.1
theorem dX6_turn_62 : decode cX6_turn 62 = .ok (.bipush 10, 2) := qd2_45.2.2.2.2.2.2.2.2.2.1
theorem dX6_turn_64 : decode cX6_turn 64 = .ok (.isub, 1) := qd2_45.2.2.2.2.2.2.2.2.2.2.1
theorem dX6_turn_65 : decode cX6_turn 65 = .ok (.iaload, 1) := qd2_45.2.2.2.2.2.2.2.2.2.2.2
theorem qd2_46 : (decode cX6_turn 66 = .ok (.ireturn, 1)) ∧ (decode cX6_turn 67 = .ok (.iload_n 1, 1)) ∧ (decode cX6_turn 68 = .ok (.ifCond .ne 13, 3)) ∧ (decode cX6_turn 71 = .ok (.aload_n 0, 1)) ∧ (decode cX6_turn 72 = .ok (.getfield 44, 3)) ∧ (decode cX6_turn 75 = .ok (.getfield 242, 3)) ∧ (decode cX6_turn 78 = .ok (.goto 10, 3)) ∧ (decode cX6_turn 81 = .ok (.aload_n 0, 1)) ∧ (decode cX6_turn 82 = .ok (.getfield 44, 3)) ∧ (decode cX6_turn 85 = .ok (.getfield 245, 3)) ∧ (decode cX6_turn 88 = .ok (.ireturn, 1)) := by decide +kernel
theorem dX6_turn_66 : decode cX6_turn 66 = .ok (.ireturn, 1) := qd2_46.1
theorem dX6_turn_67 : decode cX6_turn 67 = .ok (.iload_n 1, 1) := qd2_46.2.1
theorem dX6_turn_68 : decode cX6_turn 68 = .ok (.ifCond .ne 13, 3) := qd2_46.2.2.1
theorem dX6_turn_71 : decode cX6_turn 71 = .ok (.aload_n 0, 1) := qd2_46.2.2.2.1
theorem dX6_turn_72 : decode cX6_turn 72 = .ok (.getfield 44, 3) := qd2_46.2.2.2.2.1
theorem dX6_turn_75 : decode cX6_turn 75 = .ok (.getfield 242, 3) := qd2_46.2.2.2.2.2.1
theorem dX6_turn_78 : decode cX6_turn 78 = .ok (.goto 10, 3) := qd2_46.2.2.2.2.2.2.1
theorem dX6_turn_81 : decode cX6_turn 81 = .ok (.aload_n 0, 1) := qd2_46.2.2.2.2.2.2.2.1
theorem dX6_turn_82 : decode cX6_turn 82 = .ok (.getfield 44, 3) := qd2_46.2.2.2.2.2.2.2.2.1
theorem dX6_turn_85 : decode cX6_turn 85 = .ok (.getfield 245, 3) := qd2_46.2.2.2.2.2.2.2.2.2.1
theorem dX6_turn_88 : decode cX6_turn 88 = .ok (.ireturn, 1) := qd2_46.2.2.2.2.2.2.2.2.2.2
theorem qd2_47 : (decode cX6_total 0 = .ok (.iload_n 1, 1)) ∧ (decode cX6_total 1 = .ok (.iconst 0, 1)) ∧ (decode cX6_total 2 = .ok (.iconst 1, 1)) ∧ (decode cX6_total 3 = .ok (.aload_n 0, 1)) ∧ (decode cX6_total 4 = .ok (.getfield 12, 3)) ∧ (decode cX6_total 7 = .ok (.getfield 139, 3)) ∧ (decode cX6_total 10 = .ok (.ishl, 1)) ∧ (decode cX6_total 11 = .ok (.iconst 1, 1)) ∧ (decode cX6_total 12 = .ok (.isub, 1)) ∧ (decode cX6_total 13 = .ok (.invokestatic 64, 3)) ∧ (decode cX6_total 16 = .ok (.ifCond .ne 10, 3)) ∧ (decode cX6_total 19 = .ok (.aload_n 0, 1)) := by decide +kernel
theorem dX6_total_0 : decode cX6_total 0 = .ok (.iload_n 1, 1) := qd2_47.1
theorem dX6_total_1 : decode cX6_total 1 = .ok (.iconst 0, 1) := qd2_47.2.1
theorem dX6_total_2 : decode cX6_total 2 = .ok (.iconst 1, 1) := qd2_47.2.2.1
theorem dX6_total_3 : decode cX6_total 3 = .ok (.aload_n 0, 1) := qd2_47.2.2.2.1
theorem dX6_total_4 : decode cX6_total 4 = .ok (.getfield 12, 3) := qd2_47.2.2.2.2.1
theorem dX6_total_7 : decode cX6_total 7 = .ok (.getfield 139, 3) := qd2_47.2.2.2.2.2.1
theorem dX6_total_10 : decode cX6_total 10 = .ok (.ishl, 1) := qd2_47.2.2.2.2.2.2.1
theorem dX6_total_11 : decode cX6_total 11 = .ok (.iconst 1, 1) := qd2_47.2.2.2.2.2.2.2.1
theorem dX6_total_12 : decode cX6_total 12 = .ok (.isub, 1) := qd2_47.2.2.2.2.2.2.2.2.1
theorem dX6_total_13 : decode cX6_total 13 = .ok (.invokestatic 64, 3) := qd2_47.2.2.2.2.2.2.2.2.2.1
theorem dX6_total_16 : decode cX6_total 16 = .ok (.ifCond .ne 10, 3) := qd2_47.2.2.2.2.2.2.2.2.2.2.1
theorem dX6_total_19 : decode cX6_total 19 = .ok (.aload_n 0, 1) := qd2_47.2.2.2.2.2.2.2.2.2.2.2
theorem qd2_48 : (decode cX6_total 20 = .ok (.bipush (-2), 2)) ∧ (decode cX6_total 22 = .ok (.invokevirtual 68, 3)) ∧ (decode cX6_total 25 = .ok (.ireturn, 1)) ∧ (decode cX6_total 26 = .ok (.aload_n 0, 1)) ∧ (decode cX6_total 27 = .ok (.getfield 36, 3)) ∧ (decode cX6_total 30 = .ok (.aload_n 0, 1)) ∧ (decode cX6_total 31 = .ok (.getfield 12, 3)) ∧ (decode cX6_total 34 = .ok (.iload_n 1, 1)) ∧ (decode cX6_total 35 = .ok (.invokevirtual 248, 3)) ∧ (decode cX6_total 38 = .ok (.ireturn, 1)) := by decide +kernel
theorem dX6_total_20 : decode cX6_total 20 = .ok (.bipush (-2), 2) := qd2_48.1
theorem dX6_total_22 : decode cX6_total 22 = .ok (.invokevirtual 68, 3) := qd2_48.2.1
theorem dX6_total_25 : decode cX6_total 25 = .ok (.ireturn, 1) := qd2_48.2.2.1
theorem dX6_total_26 : decode cX6_total 26 = .ok (.aload_n 0, 1) := qd2_48.2.2.2.1
theorem dX6_total_27 : decode cX6_total 27 = .ok (.getfield 36, 3) := qd2_48.2.2.2.2.1
theorem dX6_total_30 : decode cX6_total 30 = .ok (.aload_n 0, 1) := qd2_48.2.2.2.2.2.1
theorem dX6_total_31 : decode cX6_total 31 = .ok (.getfield 12, 3) := qd2_48.2.2.2.2.2.2.1
theorem dX6_total_34 : decode cX6_total 34 = .ok (.iload_n 1, 1) := qd2_48.2.2.2.2.2.2.2.1
theorem dX6_total_35 : decode cX6_total 35 = .ok (.invokevirtual 248, 3) := qd2_48.2.2.2.2.2.2.2.2.1
theorem dX6_total_38 : decode cX6_total 38 = .ok (.ireturn, 1) := qd2_48.2.2.2.2.2.2.2.2.2
theorem qd2_49 : (decode cX6_best 0 = .ok (.aload_n 0, 1)) ∧ (decode cX6_best 1 = .ok (.getfield 36, 3)) ∧ (decode cX6_best 4 = .ok (.aload_n 0, 1)) ∧ (decode cX6_best 5 = .ok (.getfield 12, 3)) ∧ (decode cX6_best 8 = .ok (.invokevirtual 251, 3)) ∧ (decode cX6_best 11 = .ok (.ireturn, 1)) := by decide +kernel
theorem dX6_best_0 : decode cX6_best 0 = .ok (.aload_n 0, 1) := qd2_49.1
theorem dX6_best_1 : decode cX6_best 1 = .ok (.getfield 36, 3) := qd2_49.2.1
theorem dX6_best_4 : decode cX6_best 4 = .ok (.aload_n 0, 1) := qd2_49.2.2.1
theorem dX6_best_5 : decode cX6_best 5 = .ok (.getfield 12, 3) := qd2_49.2.2.2.1
theorem dX6_best_8 : decode cX6_best 8 = .ok (.invokevirtual 251, 3) := qd2_49.2.2.2.2.1
theorem dX6_best_11 : decode cX6_best 11 = .ok (.ireturn, 1) := qd2_49.2.2.2.2.2
theorem qd2_50 : (decode cX6_worth 0 = .ok (.aload_n 0, 1)) ∧ (decode cX6_worth 1 = .ok (.iload_n 1, 1)) ∧ (decode cX6_worth 2 = .ok (.invokevirtual 254, 3)) ∧ (decode cX6_worth 5 = .ok (.istore_n 2, 1)) ∧ (decode cX6_worth 6 = .ok (.iload_n 2, 1)) ∧ (decode cX6_worth 7 = .ok (.ifCond .eq 13, 3)) ∧ (decode cX6_worth 10 = .ok (.ldc_w 257, 3)) ∧ (decode cX6_worth 13 = .ok (.aload_n 0, 1)) ∧ (decode cX6_worth 14 = .ok (.iload_n 2, 1)) ∧ (decode cX6_worth 15 = .ok (.invokevirtual 68, 3)) ∧ (decode cX6_worth 18 = .ok (.iadd, 1)) ∧ (decode cX6_worth 19 = .ok (.ireturn, 1)) := by decide +kernel
theorem dX6_worth_0 : decode cX6_worth 0 = .ok (.aload_n 0, 1) := qd2_50.1
theorem dX6_worth_1 : decode cX6_worth 1 = .ok (.iload_n 1, 1) := qd2_50.2.1
theorem dX6_worth_2 : decode cX6_worth 2 = .ok (.invokevirtual 254, 3) := qd2_50.2.2.1
theorem dX6_worth_5 : decode cX6_worth 5 = .ok (.istore_n 2, 1) := qd2_50.2.2.2.1
theorem dX6_worth_6 : decode cX6_worth 6 = .ok (.iload_n 2, 1) := qd2_50.2.2.2.2.1
theorem dX6_worth_7 : decode cX6_worth 7 = .ok (.ifCond .eq 13, 3) := qd2_50.2.2.2.2.2.1
theorem dX6_worth_10 : decode cX6_worth 10 = .ok (.ldc_w 257, 3) := qd2_50.2.2.2.2.2.2.1
theorem dX6_worth_13 : decode cX6_worth 13 = .ok (.aload_n 0, 1) := qd2_50.2.2.2.2.2.2.2.1
theorem dX6_worth_14 : decode cX6_worth 14 = .ok (.iload_n 2, 1) := qd2_50.2.2.2.2.2.2.2.2.1
theorem dX6_worth_15 : decode cX6_worth 15 = .ok (.invokevirtual 68, 3) := qd2_50.2.2.2.2.2.2.2.2.2.1
theorem dX6_worth_18 : decode cX6_worth 18 = .ok (.iadd, 1) := qd2_50.2.2.2.2.2.2.2.2.2.2.1
theorem dX6_worth_19 : decode cX6_worth 19 = .ok (.ireturn, 1) := qd2_50.2.2.2.2.2.2.2.2.2.2.2
theorem qd2_51 : (decode cX6_worth 20 = .ok (.aload_n 0, 1)) ∧ (decode cX6_worth 21 = .ok (.getfield 36, 3)) ∧ (decode cX6_worth 24 = .ok (.aload_n 0, 1)) ∧ (decode cX6_worth 25 = .ok (.getfield 12, 3)) ∧ (decode cX6_worth 28 = .ok (.iload_n 1, 1)) ∧ (decode cX6_worth 29 = .ok (.aload_n 0, 1)) ∧ (decode cX6_worth 30 = .ok (.getfield 12, 3)) ∧ (decode cX6_worth 33 = .ok (.getfield 159, 3)) ∧ (decode cX6_worth 36 = .ok (.invokevirtual 258, 3)) ∧ (decode cX6_worth 39 = .ok (.ireturn, 1)) := by decide +kernel
theorem dX6_worth_20 : decode cX6_worth 20 = .ok (.aload_n 0, 1) := qd2_51.1
theorem dX6_worth_21 : decode cX6_worth 21 = .ok (.getfield 36, 3) := qd2_51.2.1
theorem dX6_worth_24 : decode cX6_worth 24 = .ok (.aload_n 0, 1) := qd2_51.2.2.1
theorem dX6_worth_25 : decode cX6_worth 25 = .ok (.getfield 12, 3) := qd2_51.2.2.2.1
theorem dX6_worth_28 : decode cX6_worth 28 = .ok (.iload_n 1, 1) := qd2_51.2.2.2.2.1
theorem dX6_worth_29 : decode cX6_worth 29 = .ok (.aload_n 0, 1) := qd2_51.2.2.2.2.2.1
theorem dX6_worth_30 : decode cX6_worth 30 = .ok (.getfield 12, 3) := qd2_51.2.2.2.2.2.2.1
theorem dX6_worth_33 : decode cX6_worth 33 = .ok (.getfield 159, 3) := qd2_51.2.2.2.2.2.2.2.1
theorem dX6_worth_36 : decode cX6_worth 36 = .ok (.invokevirtual 258, 3) := qd2_51.2.2.2.2.2.2.2.2.1
theorem dX6_worth_39 : decode cX6_worth 39 = .ok (.ireturn, 1) := qd2_51.2.2.2.2.2.2.2.2.2
theorem qd2_52 : (decode cX6_first 0 = .ok (.aload_n 0, 1)) ∧ (decode cX6_first 1 = .ok (.getfield 36, 3)) ∧ (decode cX6_first 4 = .ok (.aload_n 0, 1)) ∧ (decode cX6_first 5 = .ok (.getfield 12, 3)) ∧ (decode cX6_first 8 = .ok (.invokevirtual 261, 3)) ∧ (decode cX6_first 11 = .ok (.ireturn, 1)) := by decide +kernel
theorem dX6_first_0 : decode cX6_first 0 = .ok (.aload_n 0, 1) := qd2_52.1
theorem dX6_first_1 : decode cX6_first 1 = .ok (.getfield 36, 3) := qd2_52.2.1
theorem dX6_first_4 : decode cX6_first 4 = .ok (.aload_n 0, 1) := qd2_52.2.2.1
theorem dX6_first_5 : decode cX6_first 5 = .ok (.getfield 12, 3) := qd2_52.2.2.2.1
theorem dX6_first_8 : decode cX6_first 8 = .ok (.invokevirtual 261, 3) := qd2_52.2.2.2.2.1
theorem dX6_first_11 : decode cX6_first 11 = .ok (.ireturn, 1) := qd2_52.2.2.2.2.2
theorem qd2_53 : (decode cX6_greedy 0 = .ok (.aload_n 0, 1)) ∧ (decode cX6_greedy 1 = .ok (.getfield 36, 3)) ∧ (decode cX6_greedy 4 = .ok (.aload_n 0, 1)) ∧ (decode cX6_greedy 5 = .ok (.getfield 12, 3)) ∧ (decode cX6_greedy 8 = .ok (.invokevirtual 264, 3)) ∧ (decode cX6_greedy 11 = .ok (.ireturn, 1)) := by decide +kernel
theorem dX6_greedy_0 : decode cX6_greedy 0 = .ok (.aload_n 0, 1) := qd2_53.1
theorem dX6_greedy_1 : decode cX6_greedy 1 = .ok (.getfield 36, 3) := qd2_53.2.1
theorem dX6_greedy_4 : decode cX6_greedy 4 = .ok (.aload_n 0, 1) := qd2_53.2.2.1
theorem dX6_greedy_5 : decode cX6_greedy 5 = .ok (.getfield 12, 3) := qd2_53.2.2.2.1
theorem dX6_greedy_8 : decode cX6_greedy 8 = .ok (.invokevirtual 264, 3) := qd2_53.2.2.2.2.1
theorem dX6_greedy_11 : decode cX6_greedy 11 = .ok (.ireturn, 1) := qd2_53.2.2.2.2.2
theorem qd2_54 : (decode cX6_gap 0 = .ok (.aload_n 0, 1)) ∧ (decode cX6_gap 1 = .ok (.getfield 36, 3)) ∧ (decode cX6_gap 4 = .ok (.aload_n 0, 1)) ∧ (decode cX6_gap 5 = .ok (.getfield 12, 3)) ∧ (decode cX6_gap 8 = .ok (.aload_n 0, 1)) ∧ (decode cX6_gap 9 = .ok (.getfield 36, 3)) ∧ (decode cX6_gap 12 = .ok (.aload_n 0, 1)) ∧ (decode cX6_gap 13 = .ok (.getfield 12, 3)) ∧ (decode cX6_gap 16 = .ok (.invokevirtual 264, 3)) ∧ (decode cX6_gap 19 = .ok (.invokevirtual 248, 3)) ∧ (decode cX6_gap 22 = .ok (.aload_n 0, 1)) ∧ (decode cX6_gap 23 = .ok (.getfield 36, 3)) := by decide +kernel
theorem dX6_gap_0 : decode cX6_gap 0 = .ok (.aload_n 0, 1) := qd2_54.1
theorem dX6_gap_1 : decode cX6_gap 1 = .ok (.getfield 36, 3) := qd2_54.2.1
theorem dX6_gap_4 : decode cX6_gap 4 = .ok (.aload_n 0, 1) := qd2_54.2.2.1
theorem dX6_gap_5 : decode cX6_gap 5 = .ok (.getfield 12, 3) := qd2_54.2.2.2.1
theorem dX6_gap_8 : decode cX6_gap 8 = .ok (.aload_n 0, 1) := qd2_54.2.2.2.2.1
theorem dX6_gap_9 : decode cX6_gap 9 = .ok (.getfield 36, 3) := qd2_54.2.2.2.2.2.1
theorem dX6_gap_12 : decode cX6_gap 12 = .ok (.aload_n 0, 1) := qd2_54.2.2.2.2.2.2.1
theorem dX6_gap_13 : decode cX6_gap 13 = .ok (.getfield 12, 3) := qd2_54.2.2.2.2.2.2.2.1
theorem dX6_gap_16 : decode cX6_gap 16 = .ok (.invokevirtual 264, 3) := qd2_54.2.2.2.2.2.2.2.2.1
theorem dX6_gap_19 : decode cX6_gap 19 = .ok (.invokevirtual 248, 3) := qd2_54.2.2.2.2.2.2.2.2.2.1
theorem dX6_gap_22 : decode cX6_gap 22 = .ok (.aload_n 0, 1) := qd2_54.2.2.2.2.2.2.2.2.2.2.1
theorem dX6_gap_23 : decode cX6_gap 23 = .ok (.getfield 36, 3) := qd2_54.2.2.2.2.2.2.2.2.2.2.2
theorem qd2_55 : (decode cX6_gap 26 = .ok (.aload_n 0, 1)) ∧ (decode cX6_gap 27 = .ok (.getfield 12, 3)) ∧ (decode cX6_gap 30 = .ok (.aload_n 0, 1)) ∧ (decode cX6_gap 31 = .ok (.getfield 36, 3)) ∧ (decode cX6_gap 34 = .ok (.aload_n 0, 1)) ∧ (decode cX6_gap 35 = .ok (.getfield 12, 3)) ∧ (decode cX6_gap 38 = .ok (.invokevirtual 251, 3)) ∧ (decode cX6_gap 41 = .ok (.invokevirtual 248, 3)) ∧ (decode cX6_gap 44 = .ok (.isub, 1)) ∧ (decode cX6_gap 45 = .ok (.ireturn, 1)) := by decide +kernel
theorem dX6_gap_26 : decode cX6_gap 26 = .ok (.aload_n 0, 1) := qd2_55.1
theorem dX6_gap_27 : decode cX6_gap 27 = .ok (.getfield 12, 3) := qd2_55.2.1
theorem dX6_gap_30 : decode cX6_gap 30 = .ok (.aload_n 0, 1) := qd2_55.2.2.1
theorem dX6_gap_31 : decode cX6_gap 31 = .ok (.getfield 36, 3) := qd2_55.2.2.2.1
theorem dX6_gap_34 : decode cX6_gap 34 = .ok (.aload_n 0, 1) := qd2_55.2.2.2.2.1
theorem dX6_gap_35 : decode cX6_gap 35 = .ok (.getfield 12, 3) := qd2_55.2.2.2.2.2.1
theorem dX6_gap_38 : decode cX6_gap 38 = .ok (.invokevirtual 251, 3) := qd2_55.2.2.2.2.2.2.1
theorem dX6_gap_41 : decode cX6_gap 41 = .ok (.invokevirtual 248, 3) := qd2_55.2.2.2.2.2.2.2.1
theorem dX6_gap_44 : decode cX6_gap 44 = .ok (.isub, 1) := qd2_55.2.2.2.2.2.2.2.2.1
theorem dX6_gap_45 : decode cX6_gap 45 = .ok (.ireturn, 1) := qd2_55.2.2.2.2.2.2.2.2.2
theorem qd2_56 : (decode cX6_edge 0 = .ok (.aload_n 0, 1)) ∧ (decode cX6_edge 1 = .ok (.iload_n 1, 1)) ∧ (decode cX6_edge 2 = .ok (.invokevirtual 254, 3)) ∧ (decode cX6_edge 5 = .ok (.istore_n 2, 1)) ∧ (decode cX6_edge 6 = .ok (.iload_n 2, 1)) ∧ (decode cX6_edge 7 = .ok (.ifCond .eq 9, 3)) ∧ (decode cX6_edge 10 = .ok (.aload_n 0, 1)) ∧ (decode cX6_edge 11 = .ok (.iload_n 2, 1)) ∧ (decode cX6_edge 12 = .ok (.invokevirtual 68, 3)) ∧ (decode cX6_edge 15 = .ok (.ireturn, 1)) ∧ (decode cX6_edge 16 = .ok (.iconst 1, 1)) ∧ (decode cX6_edge 17 = .ok (.istore_n 3, 1)) := by decide +kernel
theorem dX6_edge_0 : decode cX6_edge 0 = .ok (.aload_n 0, 1) := qd2_56.1
theorem dX6_edge_1 : decode cX6_edge 1 = .ok (.iload_n 1, 1) := qd2_56.2.1
theorem dX6_edge_2 : decode cX6_edge 2 = .ok (.invokevirtual 254, 3) := qd2_56.2.2.1
theorem dX6_edge_5 : decode cX6_edge 5 = .ok (.istore_n 2, 1) := qd2_56.2.2.2.1
theorem dX6_edge_6 : decode cX6_edge 6 = .ok (.iload_n 2, 1) := qd2_56.2.2.2.2.1
theorem dX6_edge_7 : decode cX6_edge 7 = .ok (.ifCond .eq 9, 3) := qd2_56.2.2.2.2.2.1
theorem dX6_edge_10 : decode cX6_edge 10 = .ok (.aload_n 0, 1) := qd2_56.2.2.2.2.2.2.1
theorem dX6_edge_11 : decode cX6_edge 11 = .ok (.iload_n 2, 1) := qd2_56.2.2.2.2.2.2.2.1
theorem dX6_edge_12 : decode cX6_edge 12 = .ok (.invokevirtual 68, 3) := qd2_56.2.2.2.2.2.2.2.2.1
theorem dX6_edge_15 : decode cX6_edge 15 = .ok (.ireturn, 1) := qd2_56.2.2.2.2.2.2.2.2.2.1
theorem dX6_edge_16 : decode cX6_edge 16 = .ok (.iconst 1, 1) := qd2_56.2.2.2.2.2.2.2.2.2.2.1
theorem dX6_edge_17 : decode cX6_edge 17 = .ok (.istore_n 3, 1) := qd2_56.2.2.2.2.2.2.2.2.2.2.2
theorem qd2_57 : (decode cX6_edge 18 = .ok (.iload_n 3, 1)) ∧ (decode cX6_edge 19 = .ok (.bipush 30, 2)) ∧ (decode cX6_edge 21 = .ok (.if_icmp .gt 27, 3)) ∧ (decode cX6_edge 24 = .ok (.aload_n 0, 1)) ∧ (decode cX6_edge 25 = .ok (.getfield 36, 3)) ∧ (decode cX6_edge 28 = .ok (.aload_n 0, 1)) ∧ (decode cX6_edge 29 = .ok (.getfield 12, 3)) ∧ (decode cX6_edge 32 = .ok (.iload_n 1, 1)) ∧ (decode cX6_edge 33 = .ok (.iload_n 3, 1)) ∧ (decode cX6_edge 34 = .ok (.invokevirtual 258, 3)) ∧ (decode cX6_edge 37 = .ok (.ifCond .le 5, 3)) ∧ (decode cX6_edge 40 = .ok (.iload_n 3, 1)) := by decide +kernel
theorem dX6_edge_18 : decode cX6_edge 18 = .ok (.iload_n 3, 1) := qd2_57.1
theorem dX6_edge_19 : decode cX6_edge 19 = .ok (.bipush 30, 2) := qd2_57.2.1
theorem dX6_edge_21 : decode cX6_edge 21 = .ok (.if_icmp .gt 27, 3) := qd2_57.2.2.1
theorem dX6_edge_24 : decode cX6_edge 24 = .ok (.aload_n 0, 1) := qd2_57.2.2.2.1
theorem dX6_edge_25 : decode cX6_edge 25 = .ok (.getfield 36, 3) := qd2_57.2.2.2.2.1
theorem dX6_edge_28 : decode cX6_edge 28 = .ok (.aload_n 0, 1) := qd2_57.2.2.2.2.2.1
theorem dX6_edge_29 : decode cX6_edge 29 = .ok (.getfield 12, 3) := qd2_57.2.2.2.2.2.2.1
theorem dX6_edge_32 : decode cX6_edge 32 = .ok (.iload_n 1, 1) := qd2_57.2.2.2.2.2.2.2.1
theorem dX6_edge_33 : decode cX6_edge 33 = .ok (.iload_n 3, 1) := qd2_57.2.2.2.2.2.2.2.2.1
theorem dX6_edge_34 : decode cX6_edge 34 = .ok (.invokevirtual 258, 3) := qd2_57.2.2.2.2.2.2.2.2.2.1
theorem dX6_edge_37 : decode cX6_edge 37 = .ok (.ifCond .le 5, 3) := qd2_57.2.2.2.2.2.2.2.2.2.2.1
theorem dX6_edge_40 : decode cX6_edge 40 = .ok (.iload_n 3, 1) := qd2_57.2.2.2.2.2.2.2.2.2.2.2
theorem qd2_58 : (decode cX6_edge 41 = .ok (.ireturn, 1)) ∧ (decode cX6_edge 42 = .ok (.iinc 3 1, 3)) ∧ (decode cX6_edge 45 = .ok (.goto (-27), 3)) ∧ (decode cX6_edge 48 = .ok (.iconst (-1), 1)) ∧ (decode cX6_edge 49 = .ok (.ireturn, 1)) := by decide +kernel
theorem dX6_edge_41 : decode cX6_edge 41 = .ok (.ireturn, 1) := qd2_58.1
theorem dX6_edge_42 : decode cX6_edge 42 = .ok (.iinc 3 1, 3) := qd2_58.2.1
theorem dX6_edge_45 : decode cX6_edge 45 = .ok (.goto (-27), 3) := qd2_58.2.2.1
theorem dX6_edge_48 : decode cX6_edge 48 = .ok (.iconst (-1), 1) := qd2_58.2.2.2.1
theorem dX6_edge_49 : decode cX6_edge 49 = .ok (.ireturn, 1) := qd2_58.2.2.2.2
theorem qd2_59 : (decode cX6_never 0 = .ok (.aload_n 0, 1)) ∧ (decode cX6_never 1 = .ok (.getfield 36, 3)) ∧ (decode cX6_never 4 = .ok (.aload_n 0, 1)) ∧ (decode cX6_never 5 = .ok (.getfield 12, 3)) ∧ (decode cX6_never 8 = .ok (.invokevirtual 267, 3)) ∧ (decode cX6_never 11 = .ok (.ireturn, 1)) := by decide +kernel
theorem dX6_never_0 : decode cX6_never 0 = .ok (.aload_n 0, 1) := qd2_59.1
theorem dX6_never_1 : decode cX6_never 1 = .ok (.getfield 36, 3) := qd2_59.2.1
theorem dX6_never_4 : decode cX6_never 4 = .ok (.aload_n 0, 1) := qd2_59.2.2.1
theorem dX6_never_5 : decode cX6_never 5 = .ok (.getfield 12, 3) := qd2_59.2.2.2.1
theorem dX6_never_8 : decode cX6_never 8 = .ok (.invokevirtual 267, 3) := qd2_59.2.2.2.2.1
theorem dX6_never_11 : decode cX6_never 11 = .ok (.ireturn, 1) := qd2_59.2.2.2.2.2
theorem qd2_60 : (decode cX6_one 0 = .ok (.iload_n 1, 1)) ∧ (decode cX6_one 1 = .ok (.iconst 0, 1)) ∧ (decode cX6_one 2 = .ok (.iconst 2, 1)) ∧ (decode cX6_one 3 = .ok (.invokestatic 64, 3)) ∧ (decode cX6_one 6 = .ok (.ifCond .eq 13, 3)) ∧ (decode cX6_one 9 = .ok (.iload_n 2, 1)) ∧ (decode cX6_one 10 = .ok (.iconst 0, 1)) ∧ (decode cX6_one 11 = .ok (.bipush 99, 2)) ∧ (decode cX6_one 13 = .ok (.invokestatic 64, 3)) ∧ (decode cX6_one 16 = .ok (.ifCond .ne 10, 3)) ∧ (decode cX6_one 19 = .ok (.aload_n 0, 1)) ∧ (decode cX6_one 20 = .ok (.bipush (-2), 2)) := by decide +kernel
theorem dX6_one_0 : decode cX6_one 0 = .ok (.iload_n 1, 1) := qd2_60.1
theorem dX6_one_1 : decode cX6_one 1 = .ok (.iconst 0, 1) := qd2_60.2.1
theorem dX6_one_2 : decode cX6_one 2 = .ok (.iconst 2, 1) := qd2_60.2.2.1
theorem dX6_one_3 : decode cX6_one 3 = .ok (.invokestatic 64, 3) := qd2_60.2.2.2.1
theorem dX6_one_6 : decode cX6_one 6 = .ok (.ifCond .eq 13, 3) := qd2_60.2.2.2.2.1
theorem dX6_one_9 : decode cX6_one 9 = .ok (.iload_n 2, 1) := qd2_60.2.2.2.2.2.1
theorem dX6_one_10 : decode cX6_one 10 = .ok (.iconst 0, 1) := qd2_60.2.2.2.2.2.2.1
theorem dX6_one_11 : decode cX6_one 11 = .ok (.bipush 99, 2) := qd2_60.2.2.2.2.2.2.2.1
theorem dX6_one_13 : decode cX6_one 13 = .ok (.invokestatic 64, 3) := qd2_60.2.2.2.2.2.2.2.2.1
theorem dX6_one_16 : decode cX6_one 16 = .ok (.ifCond .ne 10, 3) := qd2_60.2.2.2.2.2.2.2.2.2.1
theorem dX6_one_19 : decode cX6_one 19 = .ok (.aload_n 0, 1) := qd2_60.2.2.2.2.2.2.2.2.2.2.1
theorem dX6_one_20 : decode cX6_one 20 = .ok (.bipush (-2), 2) := qd2_60.2.2.2.2.2.2.2.2.2.2.2
theorem qd2_61 : (decode cX6_one 22 = .ok (.invokevirtual 68, 3)) ∧ (decode cX6_one 25 = .ok (.ireturn, 1)) ∧ (decode cX6_one 26 = .ok (.aload_n 0, 1)) ∧ (decode cX6_one 27 = .ok (.getfield 36, 3)) ∧ (decode cX6_one 30 = .ok (.aload_n 0, 1)) ∧ (decode cX6_one 31 = .ok (.getfield 12, 3)) ∧ (decode cX6_one 34 = .ok (.iload_n 1, 1)) ∧ (decode cX6_one 35 = .ok (.iload_n 2, 1)) ∧ (decode cX6_one 36 = .ok (.invokevirtual 270, 3)) ∧ (decode cX6_one 39 = .ok (.ireturn, 1)) := by decide +kernel
theorem dX6_one_22 : decode cX6_one 22 = .ok (.invokevirtual 68, 3) := qd2_61.1
theorem dX6_one_25 : decode cX6_one 25 = .ok (.ireturn, 1) := qd2_61.2.1
theorem dX6_one_26 : decode cX6_one 26 = .ok (.aload_n 0, 1) := qd2_61.2.2.1
theorem dX6_one_27 : decode cX6_one 27 = .ok (.getfield 36, 3) := qd2_61.2.2.2.1
theorem dX6_one_30 : decode cX6_one 30 = .ok (.aload_n 0, 1) := qd2_61.2.2.2.2.1
theorem dX6_one_31 : decode cX6_one 31 = .ok (.getfield 12, 3) := qd2_61.2.2.2.2.2.1
theorem dX6_one_34 : decode cX6_one 34 = .ok (.iload_n 1, 1) := qd2_61.2.2.2.2.2.2.1
theorem dX6_one_35 : decode cX6_one 35 = .ok (.iload_n 2, 1) := qd2_61.2.2.2.2.2.2.2.1
theorem dX6_one_36 : decode cX6_one 36 = .ok (.invokevirtual 270, 3) := qd2_61.2.2.2.2.2.2.2.2.1
theorem dX6_one_39 : decode cX6_one 39 = .ok (.ireturn, 1) := qd2_61.2.2.2.2.2.2.2.2.2
theorem qd2_62 : (decode cX6_which 0 = .ok (.iload_n 1, 1)) ∧ (decode cX6_which 1 = .ok (.iconst 0, 1)) ∧ (decode cX6_which 2 = .ok (.bipush 99, 2)) ∧ (decode cX6_which 4 = .ok (.invokestatic 64, 3)) ∧ (decode cX6_which 7 = .ok (.ifCond .ne 10, 3)) ∧ (decode cX6_which 10 = .ok (.aload_n 0, 1)) ∧ (decode cX6_which 11 = .ok (.bipush (-2), 2)) ∧ (decode cX6_which 13 = .ok (.invokevirtual 68, 3)) ∧ (decode cX6_which 16 = .ok (.ireturn, 1)) ∧ (decode cX6_which 17 = .ok (.iconst 0, 1)) ∧ (decode cX6_which 18 = .ok (.istore_n 2, 1)) ∧ (decode cX6_which 19 = .ok (.aload_n 0, 1)) := by decide +kernel
theorem dX6_which_0 : decode cX6_which 0 = .ok (.iload_n 1, 1) := qd2_62.1
theorem dX6_which_1 : decode cX6_which 1 = .ok (.iconst 0, 1) := qd2_62.2.1
theorem dX6_which_2 : decode cX6_which 2 = .ok (.bipush 99, 2) := qd2_62.2.2.1
theorem dX6_which_4 : decode cX6_which 4 = .ok (.invokestatic 64, 3) := qd2_62.2.2.2.1
theorem dX6_which_7 : decode cX6_which 7 = .ok (.ifCond .ne 10, 3) := qd2_62.2.2.2.2.1
theorem dX6_which_10 : decode cX6_which 10 = .ok (.aload_n 0, 1) := qd2_62.2.2.2.2.2.1
theorem dX6_which_11 : decode cX6_which 11 = .ok (.bipush (-2), 2) := qd2_62.2.2.2.2.2.2.1
theorem dX6_which_13 : decode cX6_which 13 = .ok (.invokevirtual 68, 3) := qd2_62.2.2.2.2.2.2.2.1
theorem dX6_which_16 : decode cX6_which 16 = .ok (.ireturn, 1) := qd2_62.2.2.2.2.2.2.2.2.1
theorem dX6_which_17 : decode cX6_which 17 = .ok (.iconst 0, 1) := qd2_62.2.2.2.2.2.2.2.2.2.1
theorem dX6_which_18 : decode cX6_which 18 = .ok (.istore_n 2, 1) := qd2_62.2.2.2.2.2.2.2.2.2.2.1
theorem dX6_which_19 : decode cX6_which 19 = .ok (.aload_n 0, 1) := qd2_62.2.2.2.2.2.2.2.2.2.2.2
theorem qd2_63 : (decode cX6_which 20 = .ok (.getfield 36, 3)) ∧ (decode cX6_which 23 = .ok (.aload_n 0, 1)) ∧ (decode cX6_which 24 = .ok (.getfield 12, 3)) ∧ (decode cX6_which 27 = .ok (.iconst 0, 1)) ∧ (decode cX6_which 28 = .ok (.iload_n 1, 1)) ∧ (decode cX6_which 29 = .ok (.invokevirtual 270, 3)) ∧ (decode cX6_which 32 = .ok (.istore_n 3, 1)) ∧ (decode cX6_which 33 = .ok (.iconst 1, 1)) ∧ (decode cX6_which 34 = .ok (.istore 4, 2)) ∧ (decode cX6_which 36 = .ok (.iload 4, 2)) ∧ (decode cX6_which 38 = .ok (.iconst 3, 1)) ∧ (decode cX6_which 39 = .ok (.if_icmp .ge 37, 3)) := by decide +kernel
theorem dX6_which_20 : decode cX6_which 20 = .ok (.getfield 36, 3) := qd2_63.1
theorem dX6_which_23 : decode cX6_which 23 = .ok (.aload_n 0, 1) := qd2_63.2.1
theorem dX6_which_24 : decode cX6_which 24 = .ok (.getfield 12, 3) := qd2_63.2.2.1
theorem dX6_which_27 : decode cX6_which 27 = .ok (.iconst 0, 1) := qd2_63.2.2.2.1
theorem dX6_which_28 : decode cX6_which 28 = .ok (.iload_n 1, 1) := qd2_63.2.2.2.2.1
theorem dX6_which_29 : decode cX6_which 29 = .ok (.invokevirtual 270, 3) := qd2_63.2.2.2.2.2.1
theorem dX6_which_32 : decode cX6_which 32 = .ok (.istore_n 3, 1) := qd2_63.2.2.2.2.2.2.1
theorem dX6_which_33 : decode cX6_which 33 = .ok (.iconst 1, 1) := qd2_63.2.2.2.2.2.2.2.1
theorem dX6_which_34 : decode cX6_which 34 = .ok (.istore 4, 2) := qd2_63.2.2.2.2.2.2.2.2.1
theorem dX6_which_36 : decode cX6_which 36 = .ok (.iload 4, 2) := qd2_63.2.2.2.2.2.2.2.2.2.1
theorem dX6_which_38 : decode cX6_which 38 = .ok (.iconst 3, 1) := qd2_63.2.2.2.2.2.2.2.2.2.2.1
theorem dX6_which_39 : decode cX6_which 39 = .ok (.if_icmp .ge 37, 3) := qd2_63.2.2.2.2.2.2.2.2.2.2.2
theorem qd2_64 : (decode cX6_which 42 = .ok (.aload_n 0, 1)) ∧ (decode cX6_which 43 = .ok (.getfield 36, 3)) ∧ (decode cX6_which 46 = .ok (.aload_n 0, 1)) ∧ (decode cX6_which 47 = .ok (.getfield 12, 3)) ∧ (decode cX6_which 50 = .ok (.iload 4, 2)) ∧ (decode cX6_which 52 = .ok (.iload_n 1, 1)) ∧ (decode cX6_which 53 = .ok (.invokevirtual 270, 3)) ∧ (decode cX6_which 56 = .ok (.istore 5, 2)) ∧ (decode cX6_which 58 = .ok (.iload 5, 2)) ∧ (decode cX6_which 60 = .ok (.iload_n 3, 1)) ∧ (decode cX6_which 61 = .ok (.if_icmp .ge 9, 3)) ∧ (decode cX6_which 64 = .ok (.iload 4, 2)) := by decide +kernel
theorem dX6_which_42 : decode cX6_which 42 = .ok (.aload_n 0, 1) := qd2_64.1
theorem dX6_which_43 : decode cX6_which 43 = .ok (.getfield 36, 3) := qd2_64.2.1
theorem dX6_which_46 : decode cX6_which 46 = .ok (.aload_n 0, 1) := qd2_64.2.2.1
theorem dX6_which_47 : decode cX6_which 47 = .ok (.getfield 12, 3) := qd2_64.2.2.2.1
theorem dX6_which_50 : decode cX6_which 50 = .ok (.iload 4, 2) := qd2_64.2.2.2.2.1
theorem dX6_which_52 : decode cX6_which 52 = .ok (.iload_n 1, 1) := qd2_64.2.2.2.2.2.1
theorem dX6_which_53 : decode cX6_which 53 = .ok (.invokevirtual 270, 3) := qd2_64.2.2.2.2.2.2.1
theorem dX6_which_56 : decode cX6_which 56 = .ok (.istore 5, 2) := qd2_64.2.2.2.2.2.2.2.1
theorem dX6_which_58 : decode cX6_which 58 = .ok (.iload 5, 2) := qd2_64.2.2.2.2.2.2.2.2.1
theorem dX6_which_60 : decode cX6_which 60 = .ok (.iload_n 3, 1) := qd2_64.2.2.2.2.2.2.2.2.2.1
theorem dX6_which_61 : decode cX6_which 61 = .ok (.if_icmp .ge 9, 3) := qd2_64.2.2.2.2.2.2.2.2.2.2.1
theorem dX6_which_64 : decode cX6_which 64 = .ok (.iload 4, 2) := qd2_64.2.2.2.2.2.2.2.2.2.2.2
theorem qd2_65 : (decode cX6_which 66 = .ok (.istore_n 2, 1)) ∧ (decode cX6_which 67 = .ok (.iload 5, 2)) ∧ (decode cX6_which 69 = .ok (.istore_n 3, 1)) ∧ (decode cX6_which 70 = .ok (.iinc 4 1, 3)) ∧ (decode cX6_which 73 = .ok (.goto (-37), 3)) ∧ (decode cX6_which 76 = .ok (.iload_n 2, 1)) ∧ (decode cX6_which 77 = .ok (.ireturn, 1)) := by decide +kernel
theorem dX6_which_66 : decode cX6_which 66 = .ok (.istore_n 2, 1) := qd2_65.1
theorem dX6_which_67 : decode cX6_which 67 = .ok (.iload 5, 2) := qd2_65.2.1
theorem dX6_which_69 : decode cX6_which 69 = .ok (.istore_n 3, 1) := qd2_65.2.2.1
theorem dX6_which_70 : decode cX6_which 70 = .ok (.iinc 4 1, 3) := qd2_65.2.2.2.1
theorem dX6_which_73 : decode cX6_which 73 = .ok (.goto (-37), 3) := qd2_65.2.2.2.2.1
theorem dX6_which_76 : decode cX6_which 76 = .ok (.iload_n 2, 1) := qd2_65.2.2.2.2.2.1
theorem dX6_which_77 : decode cX6_which 77 = .ok (.ireturn, 1) := qd2_65.2.2.2.2.2.2
theorem qd2_66 : (decode cX6_earns 0 = .ok (.iload_n 1, 1)) ∧ (decode cX6_earns 1 = .ok (.iconst 0, 1)) ∧ (decode cX6_earns 2 = .ok (.iconst 5, 1)) ∧ (decode cX6_earns 3 = .ok (.invokestatic 64, 3)) ∧ (decode cX6_earns 6 = .ok (.ifCond .ne 10, 3)) ∧ (decode cX6_earns 9 = .ok (.aload_n 0, 1)) ∧ (decode cX6_earns 10 = .ok (.bipush (-2), 2)) ∧ (decode cX6_earns 12 = .ok (.invokevirtual 68, 3)) ∧ (decode cX6_earns 15 = .ok (.ireturn, 1)) ∧ (decode cX6_earns 16 = .ok (.aload_n 0, 1)) ∧ (decode cX6_earns 17 = .ok (.getfield 44, 3)) ∧ (decode cX6_earns 20 = .ok (.aload_n 0, 1)) := by decide +kernel
theorem dX6_earns_0 : decode cX6_earns 0 = .ok (.iload_n 1, 1) := qd2_66.1
theorem dX6_earns_1 : decode cX6_earns 1 = .ok (.iconst 0, 1) := qd2_66.2.1
theorem dX6_earns_2 : decode cX6_earns 2 = .ok (.iconst 5, 1) := qd2_66.2.2.1
theorem dX6_earns_3 : decode cX6_earns 3 = .ok (.invokestatic 64, 3) := qd2_66.2.2.2.1
theorem dX6_earns_6 : decode cX6_earns 6 = .ok (.ifCond .ne 10, 3) := qd2_66.2.2.2.2.1
theorem dX6_earns_9 : decode cX6_earns 9 = .ok (.aload_n 0, 1) := qd2_66.2.2.2.2.2.1
theorem dX6_earns_10 : decode cX6_earns 10 = .ok (.bipush (-2), 2) := qd2_66.2.2.2.2.2.2.1
theorem dX6_earns_12 : decode cX6_earns 12 = .ok (.invokevirtual 68, 3) := qd2_66.2.2.2.2.2.2.2.1
theorem dX6_earns_15 : decode cX6_earns 15 = .ok (.ireturn, 1) := qd2_66.2.2.2.2.2.2.2.2.1
theorem dX6_earns_16 : decode cX6_earns 16 = .ok (.aload_n 0, 1) := qd2_66.2.2.2.2.2.2.2.2.2.1
theorem dX6_earns_17 : decode cX6_earns 17 = .ok (.getfield 44, 3) := qd2_66.2.2.2.2.2.2.2.2.2.2.1
theorem dX6_earns_20 : decode cX6_earns 20 = .ok (.aload_n 0, 1) := qd2_66.2.2.2.2.2.2.2.2.2.2.2
theorem qd2_67 : (decode cX6_earns 21 = .ok (.getfield 12, 3)) ∧ (decode cX6_earns 24 = .ok (.aload_n 0, 1)) ∧ (decode cX6_earns 25 = .ok (.getfield 44, 3)) ∧ (decode cX6_earns 28 = .ok (.getfield 273, 3)) ∧ (decode cX6_earns 31 = .ok (.invokevirtual 276, 3)) ∧ (decode cX6_earns 34 = .ok (.aload_n 0, 1)) ∧ (decode cX6_earns 35 = .ok (.getfield 44, 3)) ∧ (decode cX6_earns 38 = .ok (.getfield 273, 3)) ∧ (decode cX6_earns 41 = .ok (.iload_n 1, 1)) ∧ (decode cX6_earns 42 = .ok (.iaload, 1)) ∧ (decode cX6_earns 43 = .ok (.ireturn, 1)) := by decide +kernel
theorem dX6_earns_21 : decode cX6_earns 21 = .ok (.getfield 12, 3) := qd2_67.1
theorem dX6_earns_24 : decode cX6_earns 24 = .ok (.aload_n 0, 1) := qd2_67.2.1
theorem dX6_earns_25 : decode cX6_earns 25 = .ok (.getfield 44, 3) := qd2_67.2.2.1
theorem dX6_earns_28 : decode cX6_earns 28 = .ok (.getfield 273, 3) := qd2_67.2.2.2.1
theorem dX6_earns_31 : decode cX6_earns 31 = .ok (.invokevirtual 276, 3) := qd2_67.2.2.2.2.1
theorem dX6_earns_34 : decode cX6_earns 34 = .ok (.aload_n 0, 1) := qd2_67.2.2.2.2.2.1
theorem dX6_earns_35 : decode cX6_earns 35 = .ok (.getfield 44, 3) := qd2_67.2.2.2.2.2.2.1
theorem dX6_earns_38 : decode cX6_earns 38 = .ok (.getfield 273, 3) := qd2_67.2.2.2.2.2.2.2.1
theorem dX6_earns_41 : decode cX6_earns 41 = .ok (.iload_n 1, 1) := qd2_67.2.2.2.2.2.2.2.2.1
theorem dX6_earns_42 : decode cX6_earns 42 = .ok (.iaload, 1) := qd2_67.2.2.2.2.2.2.2.2.2.1
theorem dX6_earns_43 : decode cX6_earns 43 = .ok (.ireturn, 1) := qd2_67.2.2.2.2.2.2.2.2.2.2
theorem qd2_68 : (decode cX6_gains 0 = .ok (.iload_n 1, 1)) ∧ (decode cX6_gains 1 = .ok (.iconst 0, 1)) ∧ (decode cX6_gains 2 = .ok (.iconst 5, 1)) ∧ (decode cX6_gains 3 = .ok (.invokestatic 64, 3)) ∧ (decode cX6_gains 6 = .ok (.ifCond .eq 11, 3)) ∧ (decode cX6_gains 9 = .ok (.aload_n 0, 1)) ∧ (decode cX6_gains 10 = .ok (.iload_n 2, 1)) ∧ (decode cX6_gains 11 = .ok (.invokevirtual 254, 3)) ∧ (decode cX6_gains 14 = .ok (.goto 5, 3)) ∧ (decode cX6_gains 17 = .ok (.bipush (-2), 2)) ∧ (decode cX6_gains 19 = .ok (.istore_n 3, 1)) ∧ (decode cX6_gains 20 = .ok (.iload_n 3, 1)) := by decide +kernel
theorem dX6_gains_0 : decode cX6_gains 0 = .ok (.iload_n 1, 1) := qd2_68.1
theorem dX6_gains_1 : decode cX6_gains 1 = .ok (.iconst 0, 1) := qd2_68.2.1
theorem dX6_gains_2 : decode cX6_gains 2 = .ok (.iconst 5, 1) := qd2_68.2.2.1
theorem dX6_gains_3 : decode cX6_gains 3 = .ok (.invokestatic 64, 3) := qd2_68.2.2.2.1
theorem dX6_gains_6 : decode cX6_gains 6 = .ok (.ifCond .eq 11, 3) := qd2_68.2.2.2.2.1
theorem dX6_gains_9 : decode cX6_gains 9 = .ok (.aload_n 0, 1) := qd2_68.2.2.2.2.2.1
theorem dX6_gains_10 : decode cX6_gains 10 = .ok (.iload_n 2, 1) := qd2_68.2.2.2.2.2.2.1
theorem dX6_gains_11 : decode cX6_gains 11 = .ok (.invokevirtual 254, 3) := qd2_68.2.2.2.2.2.2.2.1
theorem dX6_gains_14 : decode cX6_gains 14 = .ok (.goto 5, 3) := qd2_68.2.2.2.2.2.2.2.2.1
theorem dX6_gains_17 : decode cX6_gains 17 = .ok (.bipush (-2), 2) := qd2_68.2.2.2.2.2.2.2.2.2.1
theorem dX6_gains_19 : decode cX6_gains 19 = .ok (.istore_n 3, 1) := qd2_68.2.2.2.2.2.2.2.2.2.2.1
theorem dX6_gains_20 : decode cX6_gains 20 = .ok (.iload_n 3, 1) := qd2_68.2.2.2.2.2.2.2.2.2.2.2
theorem qd2_69 : (decode cX6_gains 21 = .ok (.ifCond .eq 13, 3)) ∧ (decode cX6_gains 24 = .ok (.ldc_w 257, 3)) ∧ (decode cX6_gains 27 = .ok (.aload_n 0, 1)) ∧ (decode cX6_gains 28 = .ok (.iload_n 3, 1)) ∧ (decode cX6_gains 29 = .ok (.invokevirtual 68, 3)) ∧ (decode cX6_gains 32 = .ok (.iadd, 1)) ∧ (decode cX6_gains 33 = .ok (.ireturn, 1)) ∧ (decode cX6_gains 34 = .ok (.aload_n 0, 1)) ∧ (decode cX6_gains 35 = .ok (.getfield 36, 3)) ∧ (decode cX6_gains 38 = .ok (.aload_n 0, 1)) ∧ (decode cX6_gains 39 = .ok (.getfield 12, 3)) ∧ (decode cX6_gains 42 = .ok (.iload_n 2, 1)) := by decide +kernel
theorem dX6_gains_21 : decode cX6_gains 21 = .ok (.ifCond .eq 13, 3) := qd2_69.1
theorem dX6_gains_24 : decode cX6_gains 24 = .ok (.ldc_w 257, 3) := qd2_69.2.1
theorem dX6_gains_27 : decode cX6_gains 27 = .ok (.aload_n 0, 1) := qd2_69.2.2.1
theorem dX6_gains_28 : decode cX6_gains 28 = .ok (.iload_n 3, 1) := qd2_69.2.2.2.1
theorem dX6_gains_29 : decode cX6_gains 29 = .ok (.invokevirtual 68, 3) := qd2_69.2.2.2.2.1
theorem dX6_gains_32 : decode cX6_gains 32 = .ok (.iadd, 1) := qd2_69.2.2.2.2.2.1
theorem dX6_gains_33 : decode cX6_gains 33 = .ok (.ireturn, 1) := qd2_69.2.2.2.2.2.2.1
theorem dX6_gains_34 : decode cX6_gains 34 = .ok (.aload_n 0, 1) := qd2_69.2.2.2.2.2.2.2.1
theorem dX6_gains_35 : decode cX6_gains 35 = .ok (.getfield 36, 3) := qd2_69.2.2.2.2.2.2.2.2.1
theorem dX6_gains_38 : decode cX6_gains 38 = .ok (.aload_n 0, 1) := qd2_69.2.2.2.2.2.2.2.2.2.1
theorem dX6_gains_39 : decode cX6_gains 39 = .ok (.getfield 12, 3) := qd2_69.2.2.2.2.2.2.2.2.2.2.1
theorem dX6_gains_42 : decode cX6_gains 42 = .ok (.iload_n 2, 1) := qd2_69.2.2.2.2.2.2.2.2.2.2.2
theorem qd2_70 : (decode cX6_gains 43 = .ok (.invokevirtual 280, 3)) ∧ (decode cX6_gains 46 = .ok (.aload_n 0, 1)) ∧ (decode cX6_gains 47 = .ok (.getfield 36, 3)) ∧ (decode cX6_gains 50 = .ok (.getfield 283, 3)) ∧ (decode cX6_gains 53 = .ok (.iload_n 1, 1)) ∧ (decode cX6_gains 54 = .ok (.iaload, 1)) ∧ (decode cX6_gains 55 = .ok (.ireturn, 1)) := by decide +kernel
theorem dX6_gains_43 : decode cX6_gains 43 = .ok (.invokevirtual 280, 3) := qd2_70.1
theorem dX6_gains_46 : decode cX6_gains 46 = .ok (.aload_n 0, 1) := qd2_70.2.1
theorem dX6_gains_47 : decode cX6_gains 47 = .ok (.getfield 36, 3) := qd2_70.2.2.1
theorem dX6_gains_50 : decode cX6_gains 50 = .ok (.getfield 283, 3) := qd2_70.2.2.2.1
theorem dX6_gains_53 : decode cX6_gains 53 = .ok (.iload_n 1, 1) := qd2_70.2.2.2.2.1
theorem dX6_gains_54 : decode cX6_gains 54 = .ok (.iaload, 1) := qd2_70.2.2.2.2.2.1
theorem dX6_gains_55 : decode cX6_gains 55 = .ok (.ireturn, 1) := qd2_70.2.2.2.2.2.2
theorem qd2_71 : (decode cX6_losers 0 = .ok (.aload_n 0, 1)) ∧ (decode cX6_losers 1 = .ok (.iload_n 1, 1)) ∧ (decode cX6_losers 2 = .ok (.invokevirtual 254, 3)) ∧ (decode cX6_losers 5 = .ok (.istore_n 2, 1)) ∧ (decode cX6_losers 6 = .ok (.iload_n 2, 1)) ∧ (decode cX6_losers 7 = .ok (.ifCond .eq 9, 3)) ∧ (decode cX6_losers 10 = .ok (.aload_n 0, 1)) ∧ (decode cX6_losers 11 = .ok (.iload_n 2, 1)) ∧ (decode cX6_losers 12 = .ok (.invokevirtual 68, 3)) ∧ (decode cX6_losers 15 = .ok (.ireturn, 1)) ∧ (decode cX6_losers 16 = .ok (.aload_n 0, 1)) ∧ (decode cX6_losers 17 = .ok (.getfield 36, 3)) := by decide +kernel
theorem dX6_losers_0 : decode cX6_losers 0 = .ok (.aload_n 0, 1) := qd2_71.1
theorem dX6_losers_1 : decode cX6_losers 1 = .ok (.iload_n 1, 1) := qd2_71.2.1
theorem dX6_losers_2 : decode cX6_losers 2 = .ok (.invokevirtual 254, 3) := qd2_71.2.2.1
theorem dX6_losers_5 : decode cX6_losers 5 = .ok (.istore_n 2, 1) := qd2_71.2.2.2.1
theorem dX6_losers_6 : decode cX6_losers 6 = .ok (.iload_n 2, 1) := qd2_71.2.2.2.2.1
theorem dX6_losers_7 : decode cX6_losers 7 = .ok (.ifCond .eq 9, 3) := qd2_71.2.2.2.2.2.1
theorem dX6_losers_10 : decode cX6_losers 10 = .ok (.aload_n 0, 1) := qd2_71.2.2.2.2.2.2.1
theorem dX6_losers_11 : decode cX6_losers 11 = .ok (.iload_n 2, 1) := qd2_71.2.2.2.2.2.2.2.1
theorem dX6_losers_12 : decode cX6_losers 12 = .ok (.invokevirtual 68, 3) := qd2_71.2.2.2.2.2.2.2.2.1
theorem dX6_losers_15 : decode cX6_losers 15 = .ok (.ireturn, 1) := qd2_71.2.2.2.2.2.2.2.2.2.1
theorem dX6_losers_16 : decode cX6_losers 16 = .ok (.aload_n 0, 1) := qd2_71.2.2.2.2.2.2.2.2.2.2.1
theorem dX6_losers_17 : decode cX6_losers 17 = .ok (.getfield 36, 3) := qd2_71.2.2.2.2.2.2.2.2.2.2.2
theorem qd2_72 : (decode cX6_losers 20 = .ok (.aload_n 0, 1)) ∧ (decode cX6_losers 21 = .ok (.getfield 12, 3)) ∧ (decode cX6_losers 24 = .ok (.iload_n 1, 1)) ∧ (decode cX6_losers 25 = .ok (.invokevirtual 280, 3)) ∧ (decode cX6_losers 28 = .ok (.iconst 0, 1)) ∧ (decode cX6_losers 29 = .ok (.istore_n 3, 1)) ∧ (decode cX6_losers 30 = .ok (.iconst 0, 1)) ∧ (decode cX6_losers 31 = .ok (.istore 4, 2)) ∧ (decode cX6_losers 33 = .ok (.iload 4, 2)) ∧ (decode cX6_losers 35 = .ok (.bipush 6, 2)) ∧ (decode cX6_losers 37 = .ok (.if_icmp .ge 29, 3)) ∧ (decode cX6_losers 40 = .ok (.aload_n 0, 1)) := by decide +kernel
theorem dX6_losers_20 : decode cX6_losers 20 = .ok (.aload_n 0, 1) := qd2_72.1
theorem dX6_losers_21 : decode cX6_losers 21 = .ok (.getfield 12, 3) := qd2_72.2.1
theorem dX6_losers_24 : decode cX6_losers 24 = .ok (.iload_n 1, 1) := qd2_72.2.2.1
theorem dX6_losers_25 : decode cX6_losers 25 = .ok (.invokevirtual 280, 3) := qd2_72.2.2.2.1
theorem dX6_losers_28 : decode cX6_losers 28 = .ok (.iconst 0, 1) := qd2_72.2.2.2.2.1
theorem dX6_losers_29 : decode cX6_losers 29 = .ok (.istore_n 3, 1) := qd2_72.2.2.2.2.2.1
theorem dX6_losers_30 : decode cX6_losers 30 = .ok (.iconst 0, 1) := qd2_72.2.2.2.2.2.2.1
theorem dX6_losers_31 : decode cX6_losers 31 = .ok (.istore 4, 2) := qd2_72.2.2.2.2.2.2.2.1
theorem dX6_losers_33 : decode cX6_losers 33 = .ok (.iload 4, 2) := qd2_72.2.2.2.2.2.2.2.2.1
theorem dX6_losers_35 : decode cX6_losers 35 = .ok (.bipush 6, 2) := qd2_72.2.2.2.2.2.2.2.2.2.1
theorem dX6_losers_37 : decode cX6_losers 37 = .ok (.if_icmp .ge 29, 3) := qd2_72.2.2.2.2.2.2.2.2.2.2.1
theorem dX6_losers_40 : decode cX6_losers 40 = .ok (.aload_n 0, 1) := qd2_72.2.2.2.2.2.2.2.2.2.2.2
theorem qd2_73 : (decode cX6_losers 41 = .ok (.getfield 36, 3)) ∧ (decode cX6_losers 44 = .ok (.getfield 283, 3)) ∧ (decode cX6_losers 47 = .ok (.iload 4, 2)) ∧ (decode cX6_losers 49 = .ok (.iaload, 1)) ∧ (decode cX6_losers 50 = .ok (.ifCond .ge 10, 3)) ∧ (decode cX6_losers 53 = .ok (.iload_n 3, 1)) ∧ (decode cX6_losers 54 = .ok (.iconst 1, 1)) ∧ (decode cX6_losers 55 = .ok (.iload 4, 2)) ∧ (decode cX6_losers 57 = .ok (.ishl, 1)) ∧ (decode cX6_losers 58 = .ok (.ior, 1)) ∧ (decode cX6_losers 59 = .ok (.istore_n 3, 1)) ∧ (decode cX6_losers 60 = .ok (.iinc 4 1, 3)) := by decide +kernel
theorem dX6_losers_41 : decode cX6_losers 41 = .ok (.getfield 36, 3) := qd2_73.1
theorem dX6_losers_44 : decode cX6_losers 44 = .ok (.getfield 283, 3) := qd2_73.2.1
theorem dX6_losers_47 : decode cX6_losers 47 = .ok (.iload 4, 2) := qd2_73.2.2.1
theorem dX6_losers_49 : decode cX6_losers 49 = .ok (.iaload, 1) := qd2_73.2.2.2.1
theorem dX6_losers_50 : decode cX6_losers 50 = .ok (.ifCond .ge 10, 3) := qd2_73.2.2.2.2.1
theorem dX6_losers_53 : decode cX6_losers 53 = .ok (.iload_n 3, 1) := qd2_73.2.2.2.2.2.1
theorem dX6_losers_54 : decode cX6_losers 54 = .ok (.iconst 1, 1) := qd2_73.2.2.2.2.2.2.1
theorem dX6_losers_55 : decode cX6_losers 55 = .ok (.iload 4, 2) := qd2_73.2.2.2.2.2.2.2.1
theorem dX6_losers_57 : decode cX6_losers 57 = .ok (.ishl, 1) := qd2_73.2.2.2.2.2.2.2.2.1
theorem dX6_losers_58 : decode cX6_losers 58 = .ok (.ior, 1) := qd2_73.2.2.2.2.2.2.2.2.2.1
theorem dX6_losers_59 : decode cX6_losers 59 = .ok (.istore_n 3, 1) := qd2_73.2.2.2.2.2.2.2.2.2.2.1
theorem dX6_losers_60 : decode cX6_losers 60 = .ok (.iinc 4 1, 3) := qd2_73.2.2.2.2.2.2.2.2.2.2.2
theorem qd2_74 : (decode cX6_losers 63 = .ok (.goto (-30), 3)) ∧ (decode cX6_losers 66 = .ok (.iload_n 3, 1)) ∧ (decode cX6_losers 67 = .ok (.ireturn, 1)) := by decide +kernel
theorem dX6_losers_63 : decode cX6_losers 63 = .ok (.goto (-30), 3) := qd2_74.1
theorem dX6_losers_66 : decode cX6_losers 66 = .ok (.iload_n 3, 1) := qd2_74.2.1
theorem dX6_losers_67 : decode cX6_losers 67 = .ok (.ireturn, 1) := qd2_74.2.2
theorem qd2_75 : (decode cX6_port 0 = .ok (.iload_n 1, 1)) ∧ (decode cX6_port 1 = .ok (.invokestatic 120, 3)) ∧ (decode cX6_port 4 = .ok (.ifCond .ne 10, 3)) ∧ (decode cX6_port 7 = .ok (.aload_n 0, 1)) ∧ (decode cX6_port 8 = .ok (.bipush (-2), 2)) ∧ (decode cX6_port 10 = .ok (.invokevirtual 68, 3)) ∧ (decode cX6_port 13 = .ok (.ireturn, 1)) ∧ (decode cX6_port 14 = .ok (.aload_n 0, 1)) ∧ (decode cX6_port 15 = .ok (.getfield 44, 3)) ∧ (decode cX6_port 18 = .ok (.aload_n 0, 1)) ∧ (decode cX6_port 19 = .ok (.getfield 12, 3)) ∧ (decode cX6_port 22 = .ok (.iload_n 1, 1)) := by decide +kernel
theorem dX6_port_0 : decode cX6_port 0 = .ok (.iload_n 1, 1) := qd2_75.1
theorem dX6_port_1 : decode cX6_port 1 = .ok (.invokestatic 120, 3) := qd2_75.2.1
theorem dX6_port_4 : decode cX6_port 4 = .ok (.ifCond .ne 10, 3) := qd2_75.2.2.1
theorem dX6_port_7 : decode cX6_port 7 = .ok (.aload_n 0, 1) := qd2_75.2.2.2.1
theorem dX6_port_8 : decode cX6_port 8 = .ok (.bipush (-2), 2) := qd2_75.2.2.2.2.1
theorem dX6_port_10 : decode cX6_port 10 = .ok (.invokevirtual 68, 3) := qd2_75.2.2.2.2.2.1
theorem dX6_port_13 : decode cX6_port 13 = .ok (.ireturn, 1) := qd2_75.2.2.2.2.2.2.1
theorem dX6_port_14 : decode cX6_port 14 = .ok (.aload_n 0, 1) := qd2_75.2.2.2.2.2.2.2.1
theorem dX6_port_15 : decode cX6_port 15 = .ok (.getfield 44, 3) := qd2_75.2.2.2.2.2.2.2.2.1
theorem dX6_port_18 : decode cX6_port 18 = .ok (.aload_n 0, 1) := qd2_75.2.2.2.2.2.2.2.2.2.1
theorem dX6_port_19 : decode cX6_port 19 = .ok (.getfield 12, 3) := qd2_75.2.2.2.2.2.2.2.2.2.2.1
theorem dX6_port_22 : decode cX6_port 22 = .ok (.iload_n 1, 1) := qd2_75.2.2.2.2.2.2.2.2.2.2.2
theorem qd2_76 : (decode cX6_port 23 = .ok (.iload_n 2, 1)) ∧ (decode cX6_port 24 = .ok (.invokevirtual 286, 3)) ∧ (decode cX6_port 27 = .ok (.ireturn, 1)) := by decide +kernel
theorem dX6_port_23 : decode cX6_port 23 = .ok (.iload_n 2, 1) := qd2_76.1
theorem dX6_port_24 : decode cX6_port 24 = .ok (.invokevirtual 286, 3) := qd2_76.2.1
theorem dX6_port_27 : decode cX6_port 27 = .ok (.ireturn, 1) := qd2_76.2.2
theorem qd2_77 : (decode cX6_hangs 0 = .ok (.aload_n 0, 1)) ∧ (decode cX6_hangs 1 = .ok (.getfield 44, 3)) ∧ (decode cX6_hangs 4 = .ok (.aload_n 0, 1)) ∧ (decode cX6_hangs 5 = .ok (.getfield 12, 3)) ∧ (decode cX6_hangs 8 = .ok (.invokevirtual 290, 3)) ∧ (decode cX6_hangs 11 = .ok (.istore_n 1, 1)) ∧ (decode cX6_hangs 12 = .ok (.iload_n 1, 1)) ∧ (decode cX6_hangs 13 = .ok (.iconst (-1), 1)) ∧ (decode cX6_hangs 14 = .ok (.if_icmp .ne 12, 3)) ∧ (decode cX6_hangs 17 = .ok (.aload_n 0, 1)) ∧ (decode cX6_hangs 18 = .ok (.bipush (-5), 2)) ∧ (decode cX6_hangs 20 = .ok (.invokevirtual 68, 3)) := by decide +kernel
theorem dX6_hangs_0 : decode cX6_hangs 0 = .ok (.aload_n 0, 1) := qd2_77.1
theorem dX6_hangs_1 : decode cX6_hangs 1 = .ok (.getfield 44, 3) := qd2_77.2.1
theorem dX6_hangs_4 : decode cX6_hangs 4 = .ok (.aload_n 0, 1) := qd2_77.2.2.1
theorem dX6_hangs_5 : decode cX6_hangs 5 = .ok (.getfield 12, 3) := qd2_77.2.2.2.1
theorem dX6_hangs_8 : decode cX6_hangs 8 = .ok (.invokevirtual 290, 3) := qd2_77.2.2.2.2.1
theorem dX6_hangs_11 : decode cX6_hangs 11 = .ok (.istore_n 1, 1) := qd2_77.2.2.2.2.2.1
theorem dX6_hangs_12 : decode cX6_hangs 12 = .ok (.iload_n 1, 1) := qd2_77.2.2.2.2.2.2.1
theorem dX6_hangs_13 : decode cX6_hangs 13 = .ok (.iconst (-1), 1) := qd2_77.2.2.2.2.2.2.2.1
theorem dX6_hangs_14 : decode cX6_hangs 14 = .ok (.if_icmp .ne 12, 3) := qd2_77.2.2.2.2.2.2.2.2.1
theorem dX6_hangs_17 : decode cX6_hangs 17 = .ok (.aload_n 0, 1) := qd2_77.2.2.2.2.2.2.2.2.2.1
theorem dX6_hangs_18 : decode cX6_hangs 18 = .ok (.bipush (-5), 2) := qd2_77.2.2.2.2.2.2.2.2.2.2.1
theorem dX6_hangs_20 : decode cX6_hangs 20 = .ok (.invokevirtual 68, 3) := qd2_77.2.2.2.2.2.2.2.2.2.2.2
theorem qd2_78 : (decode cX6_hangs 23 = .ok (.goto 4, 3)) ∧ (decode cX6_hangs 26 = .ok (.iload_n 1, 1)) ∧ (decode cX6_hangs 27 = .ok (.ireturn, 1)) := by decide +kernel
theorem dX6_hangs_23 : decode cX6_hangs 23 = .ok (.goto 4, 3) := qd2_78.1
theorem dX6_hangs_26 : decode cX6_hangs 26 = .ok (.iload_n 1, 1) := qd2_78.2.1
theorem dX6_hangs_27 : decode cX6_hangs 27 = .ok (.ireturn, 1) := qd2_78.2.2
theorem qd2_79 : (decode cX6_plan 0 = .ok (.aload_n 0, 1)) ∧ (decode cX6_plan 1 = .ok (.iload_n 1, 1)) ∧ (decode cX6_plan 2 = .ok (.iload_n 2, 1)) ∧ (decode cX6_plan 3 = .ok (.invokevirtual 293, 3)) ∧ (decode cX6_plan 6 = .ok (.istore_n 3, 1)) ∧ (decode cX6_plan 7 = .ok (.iload_n 3, 1)) ∧ (decode cX6_plan 8 = .ok (.ifCond .eq 9, 3)) ∧ (decode cX6_plan 11 = .ok (.aload_n 0, 1)) ∧ (decode cX6_plan 12 = .ok (.iload_n 3, 1)) ∧ (decode cX6_plan 13 = .ok (.invokevirtual 68, 3)) ∧ (decode cX6_plan 16 = .ok (.ireturn, 1)) ∧ (decode cX6_plan 17 = .ok (.aload_n 0, 1)) := by decide +kernel
theorem dX6_plan_0 : decode cX6_plan 0 = .ok (.aload_n 0, 1) := qd2_79.1
theorem dX6_plan_1 : decode cX6_plan 1 = .ok (.iload_n 1, 1) := qd2_79.2.1
theorem dX6_plan_2 : decode cX6_plan 2 = .ok (.iload_n 2, 1) := qd2_79.2.2.1
theorem dX6_plan_3 : decode cX6_plan 3 = .ok (.invokevirtual 293, 3) := qd2_79.2.2.2.1
theorem dX6_plan_6 : decode cX6_plan 6 = .ok (.istore_n 3, 1) := qd2_79.2.2.2.2.1
theorem dX6_plan_7 : decode cX6_plan 7 = .ok (.iload_n 3, 1) := qd2_79.2.2.2.2.2.1
theorem dX6_plan_8 : decode cX6_plan 8 = .ok (.ifCond .eq 9, 3) := qd2_79.2.2.2.2.2.2.1
theorem dX6_plan_11 : decode cX6_plan 11 = .ok (.aload_n 0, 1) := qd2_79.2.2.2.2.2.2.2.1
theorem dX6_plan_12 : decode cX6_plan 12 = .ok (.iload_n 3, 1) := qd2_79.2.2.2.2.2.2.2.2.1
theorem dX6_plan_13 : decode cX6_plan 13 = .ok (.invokevirtual 68, 3) := qd2_79.2.2.2.2.2.2.2.2.2.1
theorem dX6_plan_16 : decode cX6_plan 16 = .ok (.ireturn, 1) := qd2_79.2.2.2.2.2.2.2.2.2.2.1
theorem dX6_plan_17 : decode cX6_plan 17 = .ok (.aload_n 0, 1) := qd2_79.2.2.2.2.2.2.2.2.2.2.2
theorem qd2_80 : (decode cX6_plan 18 = .ok (.getfield 36, 3)) ∧ (decode cX6_plan 21 = .ok (.aload_n 0, 1)) ∧ (decode cX6_plan 22 = .ok (.getfield 12, 3)) ∧ (decode cX6_plan 25 = .ok (.aload_n 0, 1)) ∧ (decode cX6_plan 26 = .ok (.getfield 29, 3)) ∧ (decode cX6_plan 29 = .ok (.getfield 96, 3)) ∧ (decode cX6_plan 32 = .ok (.iload_n 1, 1)) ∧ (decode cX6_plan 33 = .ok (.aaload, 1)) ∧ (decode cX6_plan 34 = .ok (.iload_n 2, 1)) ∧ (decode cX6_plan 35 = .ok (.invokevirtual 296, 3)) ∧ (decode cX6_plan 38 = .ok (.iconst (-1), 1)) ∧ (decode cX6_plan 39 = .ok (.if_icmp .eq 10, 3)) := by decide +kernel
theorem dX6_plan_18 : decode cX6_plan 18 = .ok (.getfield 36, 3) := qd2_80.1
theorem dX6_plan_21 : decode cX6_plan 21 = .ok (.aload_n 0, 1) := qd2_80.2.1
theorem dX6_plan_22 : decode cX6_plan 22 = .ok (.getfield 12, 3) := qd2_80.2.2.1
theorem dX6_plan_25 : decode cX6_plan 25 = .ok (.aload_n 0, 1) := qd2_80.2.2.2.1
theorem dX6_plan_26 : decode cX6_plan 26 = .ok (.getfield 29, 3) := qd2_80.2.2.2.2.1
theorem dX6_plan_29 : decode cX6_plan 29 = .ok (.getfield 96, 3) := qd2_80.2.2.2.2.2.1
theorem dX6_plan_32 : decode cX6_plan 32 = .ok (.iload_n 1, 1) := qd2_80.2.2.2.2.2.2.1
theorem dX6_plan_33 : decode cX6_plan 33 = .ok (.aaload, 1) := qd2_80.2.2.2.2.2.2.2.1
theorem dX6_plan_34 : decode cX6_plan 34 = .ok (.iload_n 2, 1) := qd2_80.2.2.2.2.2.2.2.2.1
theorem dX6_plan_35 : decode cX6_plan 35 = .ok (.invokevirtual 296, 3) := qd2_80.2.2.2.2.2.2.2.2.2.1
theorem dX6_plan_38 : decode cX6_plan 38 = .ok (.iconst (-1), 1) := qd2_80.2.2.2.2.2.2.2.2.2.2.1
theorem dX6_plan_39 : decode cX6_plan 39 = .ok (.if_icmp .eq 10, 3) := qd2_80.2.2.2.2.2.2.2.2.2.2.2
theorem qd2_81 : (decode cX6_plan 42 = .ok (.aload_n 0, 1)) ∧ (decode cX6_plan 43 = .ok (.bipush (-5), 2)) ∧ (decode cX6_plan 45 = .ok (.invokevirtual 68, 3)) ∧ (decode cX6_plan 48 = .ok (.ireturn, 1)) ∧ (decode cX6_plan 49 = .ok (.aload_n 0, 1)) ∧ (decode cX6_plan 50 = .ok (.getfield 36, 3)) ∧ (decode cX6_plan 53 = .ok (.aload_n 0, 1)) ∧ (decode cX6_plan 54 = .ok (.getfield 12, 3)) ∧ (decode cX6_plan 57 = .ok (.aload_n 0, 1)) ∧ (decode cX6_plan 58 = .ok (.getfield 29, 3)) ∧ (decode cX6_plan 61 = .ok (.getfield 96, 3)) ∧ (decode cX6_plan 64 = .ok (.iload_n 1, 1)) := by decide +kernel
theorem dX6_plan_42 : decode cX6_plan 42 = .ok (.aload_n 0, 1) := qd2_81.1
theorem dX6_plan_43 : decode cX6_plan 43 = .ok (.bipush (-5), 2) := qd2_81.2.1
theorem dX6_plan_45 : decode cX6_plan 45 = .ok (.invokevirtual 68, 3) := qd2_81.2.2.1
theorem dX6_plan_48 : decode cX6_plan 48 = .ok (.ireturn, 1) := qd2_81.2.2.2.1
theorem dX6_plan_49 : decode cX6_plan 49 = .ok (.aload_n 0, 1) := qd2_81.2.2.2.2.1
theorem dX6_plan_50 : decode cX6_plan 50 = .ok (.getfield 36, 3) := qd2_81.2.2.2.2.2.1
theorem dX6_plan_53 : decode cX6_plan 53 = .ok (.aload_n 0, 1) := qd2_81.2.2.2.2.2.2.1
theorem dX6_plan_54 : decode cX6_plan 54 = .ok (.getfield 12, 3) := qd2_81.2.2.2.2.2.2.2.1
theorem dX6_plan_57 : decode cX6_plan 57 = .ok (.aload_n 0, 1) := qd2_81.2.2.2.2.2.2.2.2.1
theorem dX6_plan_58 : decode cX6_plan 58 = .ok (.getfield 29, 3) := qd2_81.2.2.2.2.2.2.2.2.2.1
theorem dX6_plan_61 : decode cX6_plan 61 = .ok (.getfield 96, 3) := qd2_81.2.2.2.2.2.2.2.2.2.2.1
theorem dX6_plan_64 : decode cX6_plan 64 = .ok (.iload_n 1, 1) := qd2_81.2.2.2.2.2.2.2.2.2.2.2
theorem qd2_82 : (decode cX6_plan 65 = .ok (.aaload, 1)) ∧ (decode cX6_plan 66 = .ok (.iload_n 2, 1)) ∧ (decode cX6_plan 67 = .ok (.invokevirtual 300, 3)) ∧ (decode cX6_plan 70 = .ok (.ireturn, 1)) := by decide +kernel
theorem dX6_plan_65 : decode cX6_plan 65 = .ok (.aaload, 1) := qd2_82.1
theorem dX6_plan_66 : decode cX6_plan 66 = .ok (.iload_n 2, 1) := qd2_82.2.1
theorem dX6_plan_67 : decode cX6_plan 67 = .ok (.invokevirtual 300, 3) := qd2_82.2.2.1
theorem dX6_plan_70 : decode cX6_plan 70 = .ok (.ireturn, 1) := qd2_82.2.2.2
theorem qd2_83 : (decode cX6_judge 0 = .ok (.aload_n 0, 1)) ∧ (decode cX6_judge 1 = .ok (.iload_n 1, 1)) ∧ (decode cX6_judge 2 = .ok (.iload_n 2, 1)) ∧ (decode cX6_judge 3 = .ok (.invokevirtual 293, 3)) ∧ (decode cX6_judge 6 = .ok (.istore_n 3, 1)) ∧ (decode cX6_judge 7 = .ok (.iload_n 3, 1)) ∧ (decode cX6_judge 8 = .ok (.ifCond .eq 9, 3)) ∧ (decode cX6_judge 11 = .ok (.aload_n 0, 1)) ∧ (decode cX6_judge 12 = .ok (.iload_n 3, 1)) ∧ (decode cX6_judge 13 = .ok (.invokevirtual 68, 3)) ∧ (decode cX6_judge 16 = .ok (.ireturn, 1)) ∧ (decode cX6_judge 17 = .ok (.aload_n 0, 1)) := by decide +kernel
theorem dX6_judge_0 : decode cX6_judge 0 = .ok (.aload_n 0, 1) := qd2_83.1
theorem dX6_judge_1 : decode cX6_judge 1 = .ok (.iload_n 1, 1) := qd2_83.2.1
theorem dX6_judge_2 : decode cX6_judge 2 = .ok (.iload_n 2, 1) := qd2_83.2.2.1
theorem dX6_judge_3 : decode cX6_judge 3 = .ok (.invokevirtual 293, 3) := qd2_83.2.2.2.1
theorem dX6_judge_6 : decode cX6_judge 6 = .ok (.istore_n 3, 1) := qd2_83.2.2.2.2.1
theorem dX6_judge_7 : decode cX6_judge 7 = .ok (.iload_n 3, 1) := qd2_83.2.2.2.2.2.1
theorem dX6_judge_8 : decode cX6_judge 8 = .ok (.ifCond .eq 9, 3) := qd2_83.2.2.2.2.2.2.1
theorem dX6_judge_11 : decode cX6_judge 11 = .ok (.aload_n 0, 1) := qd2_83.2.2.2.2.2.2.2.1
theorem dX6_judge_12 : decode cX6_judge 12 = .ok (.iload_n 3, 1) := qd2_83.2.2.2.2.2.2.2.2.1
theorem dX6_judge_13 : decode cX6_judge 13 = .ok (.invokevirtual 68, 3) := qd2_83.2.2.2.2.2.2.2.2.2.1
theorem dX6_judge_16 : decode cX6_judge 16 = .ok (.ireturn, 1) := qd2_83.2.2.2.2.2.2.2.2.2.2.1
theorem dX6_judge_17 : decode cX6_judge 17 = .ok (.aload_n 0, 1) := qd2_83.2.2.2.2.2.2.2.2.2.2.2
theorem qd2_84 : (decode cX6_judge 18 = .ok (.getfield 36, 3)) ∧ (decode cX6_judge 21 = .ok (.aload_n 0, 1)) ∧ (decode cX6_judge 22 = .ok (.getfield 12, 3)) ∧ (decode cX6_judge 25 = .ok (.aload_n 0, 1)) ∧ (decode cX6_judge 26 = .ok (.getfield 29, 3)) ∧ (decode cX6_judge 29 = .ok (.getfield 96, 3)) ∧ (decode cX6_judge 32 = .ok (.iload_n 1, 1)) ∧ (decode cX6_judge 33 = .ok (.aaload, 1)) ∧ (decode cX6_judge 34 = .ok (.iload_n 2, 1)) ∧ (decode cX6_judge 35 = .ok (.invokevirtual 296, 3)) ∧ (decode cX6_judge 38 = .ok (.ireturn, 1)) := by decide +kernel
theorem dX6_judge_18 : decode cX6_judge 18 = .ok (.getfield 36, 3) := qd2_84.1
theorem dX6_judge_21 : decode cX6_judge 21 = .ok (.aload_n 0, 1) := qd2_84.2.1
theorem dX6_judge_22 : decode cX6_judge 22 = .ok (.getfield 12, 3) := qd2_84.2.2.1
theorem dX6_judge_25 : decode cX6_judge 25 = .ok (.aload_n 0, 1) := qd2_84.2.2.2.1
theorem dX6_judge_26 : decode cX6_judge 26 = .ok (.getfield 29, 3) := qd2_84.2.2.2.2.1
theorem dX6_judge_29 : decode cX6_judge 29 = .ok (.getfield 96, 3) := qd2_84.2.2.2.2.2.1
theorem dX6_judge_32 : decode cX6_judge 32 = .ok (.iload_n 1, 1) := qd2_84.2.2.2.2.2.2.1
theorem dX6_judge_33 : decode cX6_judge 33 = .ok (.aaload, 1) := qd2_84.2.2.2.2.2.2.2.1
theorem dX6_judge_34 : decode cX6_judge 34 = .ok (.iload_n 2, 1) := qd2_84.2.2.2.2.2.2.2.2.1
theorem dX6_judge_35 : decode cX6_judge 35 = .ok (.invokevirtual 296, 3) := qd2_84.2.2.2.2.2.2.2.2.2.1
theorem dX6_judge_38 : decode cX6_judge 38 = .ok (.ireturn, 1) := qd2_84.2.2.2.2.2.2.2.2.2.2
theorem qd2_85 : (decode cX6_year 0 = .ok (.iload_n 1, 1)) ∧ (decode cX6_year 1 = .ok (.iconst (-1), 1)) ∧ (decode cX6_year 2 = .ok (.if_icmp .ne 7, 3)) ∧ (decode cX6_year 5 = .ok (.iconst 0, 1)) ∧ (decode cX6_year 6 = .ok (.goto 8, 3)) ∧ (decode cX6_year 9 = .ok (.aload_n 0, 1)) ∧ (decode cX6_year 10 = .ok (.iload_n 1, 1)) ∧ (decode cX6_year 11 = .ok (.invokevirtual 254, 3)) ∧ (decode cX6_year 14 = .ok (.istore_n 2, 1)) ∧ (decode cX6_year 15 = .ok (.iload_n 2, 1)) ∧ (decode cX6_year 16 = .ok (.ifCond .eq 9, 3)) ∧ (decode cX6_year 19 = .ok (.aload_n 0, 1)) := by decide +kernel
theorem dX6_year_0 : decode cX6_year 0 = .ok (.iload_n 1, 1) := qd2_85.1
theorem dX6_year_1 : decode cX6_year 1 = .ok (.iconst (-1), 1) := qd2_85.2.1
theorem dX6_year_2 : decode cX6_year 2 = .ok (.if_icmp .ne 7, 3) := qd2_85.2.2.1
theorem dX6_year_5 : decode cX6_year 5 = .ok (.iconst 0, 1) := qd2_85.2.2.2.1
theorem dX6_year_6 : decode cX6_year 6 = .ok (.goto 8, 3) := qd2_85.2.2.2.2.1
theorem dX6_year_9 : decode cX6_year 9 = .ok (.aload_n 0, 1) := qd2_85.2.2.2.2.2.1
theorem dX6_year_10 : decode cX6_year 10 = .ok (.iload_n 1, 1) := qd2_85.2.2.2.2.2.2.1
theorem dX6_year_11 : decode cX6_year 11 = .ok (.invokevirtual 254, 3) := qd2_85.2.2.2.2.2.2.2.1
theorem dX6_year_14 : decode cX6_year 14 = .ok (.istore_n 2, 1) := qd2_85.2.2.2.2.2.2.2.2.1
theorem dX6_year_15 : decode cX6_year 15 = .ok (.iload_n 2, 1) := qd2_85.2.2.2.2.2.2.2.2.2.1
theorem dX6_year_16 : decode cX6_year 16 = .ok (.ifCond .eq 9, 3) := qd2_85.2.2.2.2.2.2.2.2.2.2.1
theorem dX6_year_19 : decode cX6_year 19 = .ok (.aload_n 0, 1) := qd2_85.2.2.2.2.2.2.2.2.2.2.2
theorem qd2_86 : (decode cX6_year 20 = .ok (.iload_n 2, 1)) ∧ (decode cX6_year 21 = .ok (.invokevirtual 68, 3)) ∧ (decode cX6_year 24 = .ok (.ireturn, 1)) ∧ (decode cX6_year 25 = .ok (.aload_n 0, 1)) ∧ (decode cX6_year 26 = .ok (.iload_n 1, 1)) ∧ (decode cX6_year 27 = .ok (.invokevirtual 303, 3)) ∧ (decode cX6_year 30 = .ok (.ireturn, 1)) := by decide +kernel
theorem dX6_year_20 : decode cX6_year 20 = .ok (.iload_n 2, 1) := qd2_86.1
theorem dX6_year_21 : decode cX6_year 21 = .ok (.invokevirtual 68, 3) := qd2_86.2.1
theorem dX6_year_24 : decode cX6_year 24 = .ok (.ireturn, 1) := qd2_86.2.2.1
theorem dX6_year_25 : decode cX6_year 25 = .ok (.aload_n 0, 1) := qd2_86.2.2.2.1
theorem dX6_year_26 : decode cX6_year 26 = .ok (.iload_n 1, 1) := qd2_86.2.2.2.2.1
theorem dX6_year_27 : decode cX6_year 27 = .ok (.invokevirtual 303, 3) := qd2_86.2.2.2.2.2.1
theorem dX6_year_30 : decode cX6_year 30 = .ok (.ireturn, 1) := qd2_86.2.2.2.2.2.2
theorem qd2_87 : (decode cX6_run 0 = .ok (.iload_n 1, 1)) ∧ (decode cX6_run 1 = .ok (.iconst 1, 1)) ∧ (decode cX6_run 2 = .ok (.bipush 20, 2)) ∧ (decode cX6_run 4 = .ok (.invokestatic 64, 3)) ∧ (decode cX6_run 7 = .ok (.ifCond .ne 10, 3)) ∧ (decode cX6_run 10 = .ok (.aload_n 0, 1)) ∧ (decode cX6_run 11 = .ok (.bipush (-2), 2)) ∧ (decode cX6_run 13 = .ok (.invokevirtual 68, 3)) ∧ (decode cX6_run 16 = .ok (.ireturn, 1)) ∧ (decode cX6_run 17 = .ok (.iconst 0, 1)) ∧ (decode cX6_run 18 = .ok (.istore_n 2, 1)) ∧ (decode cX6_run 19 = .ok (.iconst 0, 1)) := by decide +kernel
theorem dX6_run_0 : decode cX6_run 0 = .ok (.iload_n 1, 1) := qd2_87.1
theorem dX6_run_1 : decode cX6_run 1 = .ok (.iconst 1, 1) := qd2_87.2.1
theorem dX6_run_2 : decode cX6_run 2 = .ok (.bipush 20, 2) := qd2_87.2.2.1
theorem dX6_run_4 : decode cX6_run 4 = .ok (.invokestatic 64, 3) := qd2_87.2.2.2.1
theorem dX6_run_7 : decode cX6_run 7 = .ok (.ifCond .ne 10, 3) := qd2_87.2.2.2.2.1
theorem dX6_run_10 : decode cX6_run 10 = .ok (.aload_n 0, 1) := qd2_87.2.2.2.2.2.1
theorem dX6_run_11 : decode cX6_run 11 = .ok (.bipush (-2), 2) := qd2_87.2.2.2.2.2.2.1
theorem dX6_run_13 : decode cX6_run 13 = .ok (.invokevirtual 68, 3) := qd2_87.2.2.2.2.2.2.2.1
theorem dX6_run_16 : decode cX6_run 16 = .ok (.ireturn, 1) := qd2_87.2.2.2.2.2.2.2.2.1
theorem dX6_run_17 : decode cX6_run 17 = .ok (.iconst 0, 1) := qd2_87.2.2.2.2.2.2.2.2.2.1
theorem dX6_run_18 : decode cX6_run 18 = .ok (.istore_n 2, 1) := qd2_87.2.2.2.2.2.2.2.2.2.2.1
theorem dX6_run_19 : decode cX6_run 19 = .ok (.iconst 0, 1) := qd2_87.2.2.2.2.2.2.2.2.2.2.2
theorem qd2_88 : (decode cX6_run 20 = .ok (.istore_n 3, 1)) ∧ (decode cX6_run 21 = .ok (.iload_n 3, 1)) ∧ (decode cX6_run 22 = .ok (.iload_n 1, 1)) ∧ (decode cX6_run 23 = .ok (.if_icmp .ge 27, 3)) ∧ (decode cX6_run 26 = .ok (.iload_n 2, 1)) ∧ (decode cX6_run 27 = .ok (.aload_n 0, 1)) ∧ (decode cX6_run 28 = .ok (.aload_n 0, 1)) ∧ (decode cX6_run 29 = .ok (.getfield 36, 3)) ∧ (decode cX6_run 32 = .ok (.aload_n 0, 1)) ∧ (decode cX6_run 33 = .ok (.getfield 12, 3)) ∧ (decode cX6_run 36 = .ok (.invokevirtual 261, 3)) ∧ (decode cX6_run 39 = .ok (.invokevirtual 303, 3)) := by decide +kernel
theorem dX6_run_20 : decode cX6_run 20 = .ok (.istore_n 3, 1) := qd2_88.1
theorem dX6_run_21 : decode cX6_run 21 = .ok (.iload_n 3, 1) := qd2_88.2.1
theorem dX6_run_22 : decode cX6_run 22 = .ok (.iload_n 1, 1) := qd2_88.2.2.1
theorem dX6_run_23 : decode cX6_run 23 = .ok (.if_icmp .ge 27, 3) := qd2_88.2.2.2.1
theorem dX6_run_26 : decode cX6_run 26 = .ok (.iload_n 2, 1) := qd2_88.2.2.2.2.1
theorem dX6_run_27 : decode cX6_run 27 = .ok (.aload_n 0, 1) := qd2_88.2.2.2.2.2.1
theorem dX6_run_28 : decode cX6_run 28 = .ok (.aload_n 0, 1) := qd2_88.2.2.2.2.2.2.1
theorem dX6_run_29 : decode cX6_run 29 = .ok (.getfield 36, 3) := qd2_88.2.2.2.2.2.2.2.1
theorem dX6_run_32 : decode cX6_run 32 = .ok (.aload_n 0, 1) := qd2_88.2.2.2.2.2.2.2.2.1
theorem dX6_run_33 : decode cX6_run 33 = .ok (.getfield 12, 3) := qd2_88.2.2.2.2.2.2.2.2.2.1
theorem dX6_run_36 : decode cX6_run 36 = .ok (.invokevirtual 261, 3) := qd2_88.2.2.2.2.2.2.2.2.2.2.1
theorem dX6_run_39 : decode cX6_run 39 = .ok (.invokevirtual 303, 3) := qd2_88.2.2.2.2.2.2.2.2.2.2.2
theorem qd2_89 : (decode cX6_run 42 = .ok (.iadd, 1)) ∧ (decode cX6_run 43 = .ok (.istore_n 2, 1)) ∧ (decode cX6_run 44 = .ok (.iinc 3 1, 3)) ∧ (decode cX6_run 47 = .ok (.goto (-26), 3)) ∧ (decode cX6_run 50 = .ok (.iload_n 2, 1)) ∧ (decode cX6_run 51 = .ok (.ireturn, 1)) := by decide +kernel
theorem dX6_run_42 : decode cX6_run 42 = .ok (.iadd, 1) := qd2_89.1
theorem dX6_run_43 : decode cX6_run 43 = .ok (.istore_n 2, 1) := qd2_89.2.1
theorem dX6_run_44 : decode cX6_run 44 = .ok (.iinc 3 1, 3) := qd2_89.2.2.1
theorem dX6_run_47 : decode cX6_run 47 = .ok (.goto (-26), 3) := qd2_89.2.2.2.1
theorem dX6_run_50 : decode cX6_run 50 = .ok (.iload_n 2, 1) := qd2_89.2.2.2.2.1
theorem dX6_run_51 : decode cX6_run 51 = .ok (.ireturn, 1) := qd2_89.2.2.2.2.2
theorem qd2_90 : (decode cX6_image 0 = .ok (.aload_n 0, 1)) ∧ (decode cX6_image 1 = .ok (.getfield 16, 3)) ∧ (decode cX6_image 4 = .ok (.aload_n 0, 1)) ∧ (decode cX6_image 5 = .ok (.getfield 12, 3)) ∧ (decode cX6_image 8 = .ok (.invokevirtual 180, 3)) ∧ (decode cX6_image 11 = .ok (.aload_n 0, 1)) ∧ (decode cX6_image 12 = .ok (.iconst 1, 1)) ∧ (decode cX6_image 13 = .ok (.putfield 49, 3)) ∧ (decode cX6_image 16 = .ok (.iconst 1, 1)) ∧ (decode cX6_image 17 = .ok (.ireturn, 1)) := by decide +kernel
theorem dX6_image_0 : decode cX6_image 0 = .ok (.aload_n 0, 1) := qd2_90.1
theorem dX6_image_1 : decode cX6_image 1 = .ok (.getfield 16, 3) := qd2_90.2.1
theorem dX6_image_4 : decode cX6_image 4 = .ok (.aload_n 0, 1) := qd2_90.2.2.1
theorem dX6_image_5 : decode cX6_image 5 = .ok (.getfield 12, 3) := qd2_90.2.2.2.1
theorem dX6_image_8 : decode cX6_image 8 = .ok (.invokevirtual 180, 3) := qd2_90.2.2.2.2.1
theorem dX6_image_11 : decode cX6_image 11 = .ok (.aload_n 0, 1) := qd2_90.2.2.2.2.2.1
theorem dX6_image_12 : decode cX6_image 12 = .ok (.iconst 1, 1) := qd2_90.2.2.2.2.2.2.1
theorem dX6_image_13 : decode cX6_image 13 = .ok (.putfield 49, 3) := qd2_90.2.2.2.2.2.2.2.1
theorem dX6_image_16 : decode cX6_image 16 = .ok (.iconst 1, 1) := qd2_90.2.2.2.2.2.2.2.2.1
theorem dX6_image_17 : decode cX6_image 17 = .ok (.ireturn, 1) := qd2_90.2.2.2.2.2.2.2.2.2
theorem qd2_91 : (decode cX6_back 0 = .ok (.aload_n 0, 1)) ∧ (decode cX6_back 1 = .ok (.getfield 49, 3)) ∧ (decode cX6_back 4 = .ok (.ifCond .ne 10, 3)) ∧ (decode cX6_back 7 = .ok (.aload_n 0, 1)) ∧ (decode cX6_back 8 = .ok (.bipush (-5), 2)) ∧ (decode cX6_back 10 = .ok (.invokevirtual 68, 3)) ∧ (decode cX6_back 13 = .ok (.ireturn, 1)) ∧ (decode cX6_back 14 = .ok (.aload_n 0, 1)) ∧ (decode cX6_back 15 = .ok (.getfield 12, 3)) ∧ (decode cX6_back 18 = .ok (.aload_n 0, 1)) ∧ (decode cX6_back 19 = .ok (.getfield 16, 3)) ∧ (decode cX6_back 22 = .ok (.invokevirtual 180, 3)) := by decide +kernel
theorem dX6_back_0 : decode cX6_back 0 = .ok (.aload_n 0, 1) := qd2_91.1
theorem dX6_back_1 : decode cX6_back 1 = .ok (.getfield 49, 3) := qd2_91.2.1
theorem dX6_back_4 : decode cX6_back 4 = .ok (.ifCond .ne 10, 3) := qd2_91.2.2.1
theorem dX6_back_7 : decode cX6_back 7 = .ok (.aload_n 0, 1) := qd2_91.2.2.2.1
theorem dX6_back_8 : decode cX6_back 8 = .ok (.bipush (-5), 2) := qd2_91.2.2.2.2.1
theorem dX6_back_10 : decode cX6_back 10 = .ok (.invokevirtual 68, 3) := qd2_91.2.2.2.2.2.1
theorem dX6_back_13 : decode cX6_back 13 = .ok (.ireturn, 1) := qd2_91.2.2.2.2.2.2.1
theorem dX6_back_14 : decode cX6_back 14 = .ok (.aload_n 0, 1) := qd2_91.2.2.2.2.2.2.2.1
theorem dX6_back_15 : decode cX6_back 15 = .ok (.getfield 12, 3) := qd2_91.2.2.2.2.2.2.2.2.1
theorem dX6_back_18 : decode cX6_back 18 = .ok (.aload_n 0, 1) := qd2_91.2.2.2.2.2.2.2.2.2.1
theorem dX6_back_19 : decode cX6_back 19 = .ok (.getfield 16, 3) := qd2_91.2.2.2.2.2.2.2.2.2.2.1
theorem dX6_back_22 : decode cX6_back 22 = .ok (.invokevirtual 180, 3) := qd2_91.2.2.2.2.2.2.2.2.2.2.2
theorem qd2_92 : (decode cX6_back 25 = .ok (.aload_n 0, 1)) ∧ (decode cX6_back 26 = .ok (.getfield 29, 3)) ∧ (decode cX6_back 29 = .ok (.aload_n 0, 1)) ∧ (decode cX6_back 30 = .ok (.getfield 12, 3)) ∧ (decode cX6_back 33 = .ok (.getfield 139, 3)) ∧ (decode cX6_back 36 = .ok (.invokevirtual 306, 3)) ∧ (decode cX6_back 39 = .ok (.iconst 1, 1)) ∧ (decode cX6_back 40 = .ok (.ireturn, 1)) := by decide +kernel
theorem dX6_back_25 : decode cX6_back 25 = .ok (.aload_n 0, 1) := qd2_92.1
theorem dX6_back_26 : decode cX6_back 26 = .ok (.getfield 29, 3) := qd2_92.2.1
theorem dX6_back_29 : decode cX6_back 29 = .ok (.aload_n 0, 1) := qd2_92.2.2.1
theorem dX6_back_30 : decode cX6_back 30 = .ok (.getfield 12, 3) := qd2_92.2.2.2.1
theorem dX6_back_33 : decode cX6_back 33 = .ok (.getfield 139, 3) := qd2_92.2.2.2.2.1
theorem dX6_back_36 : decode cX6_back 36 = .ok (.invokevirtual 306, 3) := qd2_92.2.2.2.2.2.1
theorem dX6_back_39 : decode cX6_back 39 = .ok (.iconst 1, 1) := qd2_92.2.2.2.2.2.2.1
theorem dX6_back_40 : decode cX6_back 40 = .ok (.ireturn, 1) := qd2_92.2.2.2.2.2.2.2
theorem qd2_93 : (decode cX6_status 0 = .ok (.iload_n 1, 1)) ∧ (decode cX6_status 1 = .ok (.tableswitch 120 0 8 #[51, 59, 67, 75, 86, 91, 96, 104, 112], 51)) ∧ (decode cX6_status 52 = .ok (.aload_n 0, 1)) ∧ (decode cX6_status 53 = .ok (.getfield 12, 3)) ∧ (decode cX6_status 56 = .ok (.getfield 123, 3)) ∧ (decode cX6_status 59 = .ok (.ireturn, 1)) ∧ (decode cX6_status 60 = .ok (.aload_n 0, 1)) ∧ (decode cX6_status 61 = .ok (.getfield 12, 3)) ∧ (decode cX6_status 64 = .ok (.getfield 130, 3)) ∧ (decode cX6_status 67 = .ok (.ireturn, 1)) ∧ (decode cX6_status 68 = .ok (.aload_n 0, 1)) ∧ (decode cX6_status 69 = .ok (.getfield 12, 3)) := by decide +kernel
theorem dX6_status_0 : decode cX6_status 0 = .ok (.iload_n 1, 1) := qd2_93.1
theorem dX6_status_1 : decode cX6_status 1 = .ok (.tableswitch 120 0 8 #[51, 59, 67, 75, 86, 91, 96, 104, 112], 51) := qd2_93.2.1
theorem dX6_status_52 : decode cX6_status 52 = .ok (.aload_n 0, 1) := qd2_93.2.2.1
theorem dX6_status_53 : decode cX6_status 53 = .ok (.getfield 12, 3) := qd2_93.2.2.2.1
theorem dX6_status_56 : decode cX6_status 56 = .ok (.getfield 123, 3) := qd2_93.2.2.2.2.1
theorem dX6_status_59 : decode cX6_status 59 = .ok (.ireturn, 1) := qd2_93.2.2.2.2.2.1
theorem dX6_status_60 : decode cX6_status 60 = .ok (.aload_n 0, 1) := qd2_93.2.2.2.2.2.2.1
theorem dX6_status_61 : decode cX6_status 61 = .ok (.getfield 12, 3) := qd2_93.2.2.2.2.2.2.2.1
theorem dX6_status_64 : decode cX6_status 64 = .ok (.getfield 130, 3) := qd2_93.2.2.2.2.2.2.2.2.1
theorem dX6_status_67 : decode cX6_status 67 = .ok (.ireturn, 1) := qd2_93.2.2.2.2.2.2.2.2.2.1
theorem dX6_status_68 : decode cX6_status 68 = .ok (.aload_n 0, 1) := qd2_93.2.2.2.2.2.2.2.2.2.2.1
theorem dX6_status_69 : decode cX6_status 69 = .ok (.getfield 12, 3) := qd2_93.2.2.2.2.2.2.2.2.2.2.2
theorem qd2_94 : (decode cX6_status 72 = .ok (.getfield 139, 3)) ∧ (decode cX6_status 75 = .ok (.ireturn, 1)) ∧ (decode cX6_status 76 = .ok (.aload_n 0, 1)) ∧ (decode cX6_status 77 = .ok (.getfield 12, 3)) ∧ (decode cX6_status 80 = .ok (.invokevirtual 309, 3)) ∧ (decode cX6_status 83 = .ok (.invokestatic 312, 3)) ∧ (decode cX6_status 86 = .ok (.ireturn, 1)) ∧ (decode cX6_status 87 = .ok (.aload_n 0, 1)) ∧ (decode cX6_status 88 = .ok (.getfield 53, 3)) ∧ (decode cX6_status 91 = .ok (.ireturn, 1)) ∧ (decode cX6_status 92 = .ok (.aload_n 0, 1)) ∧ (decode cX6_status 93 = .ok (.getfield 57, 3)) := by decide +kernel
theorem dX6_status_72 : decode cX6_status 72 = .ok (.getfield 139, 3) := qd2_94.1
theorem dX6_status_75 : decode cX6_status 75 = .ok (.ireturn, 1) := qd2_94.2.1
theorem dX6_status_76 : decode cX6_status 76 = .ok (.aload_n 0, 1) := qd2_94.2.2.1
theorem dX6_status_77 : decode cX6_status 77 = .ok (.getfield 12, 3) := qd2_94.2.2.2.1
theorem dX6_status_80 : decode cX6_status 80 = .ok (.invokevirtual 309, 3) := qd2_94.2.2.2.2.1
theorem dX6_status_83 : decode cX6_status 83 = .ok (.invokestatic 312, 3) := qd2_94.2.2.2.2.2.1
theorem dX6_status_86 : decode cX6_status 86 = .ok (.ireturn, 1) := qd2_94.2.2.2.2.2.2.1
theorem dX6_status_87 : decode cX6_status 87 = .ok (.aload_n 0, 1) := qd2_94.2.2.2.2.2.2.2.1
theorem dX6_status_88 : decode cX6_status 88 = .ok (.getfield 53, 3) := qd2_94.2.2.2.2.2.2.2.2.1
theorem dX6_status_91 : decode cX6_status 91 = .ok (.ireturn, 1) := qd2_94.2.2.2.2.2.2.2.2.2.1
theorem dX6_status_92 : decode cX6_status 92 = .ok (.aload_n 0, 1) := qd2_94.2.2.2.2.2.2.2.2.2.2.1
theorem dX6_status_93 : decode cX6_status 93 = .ok (.getfield 57, 3) := qd2_94.2.2.2.2.2.2.2.2.2.2.2
theorem qd2_95 : (decode cX6_status 96 = .ok (.ireturn, 1)) ∧ (decode cX6_status 97 = .ok (.aload_n 0, 1)) ∧ (decode cX6_status 98 = .ok (.getfield 12, 3)) ∧ (decode cX6_status 101 = .ok (.getfield 159, 3)) ∧ (decode cX6_status 104 = .ok (.ireturn, 1)) ∧ (decode cX6_status 105 = .ok (.aload_n 0, 1)) ∧ (decode cX6_status 106 = .ok (.getfield 22, 3)) ∧ (decode cX6_status 109 = .ok (.getfield 171, 3)) ∧ (decode cX6_status 112 = .ok (.ireturn, 1)) ∧ (decode cX6_status 113 = .ok (.aload_n 0, 1)) ∧ (decode cX6_status 114 = .ok (.getfield 29, 3)) ∧ (decode cX6_status 117 = .ok (.invokevirtual 317, 3)) := by decide +kernel
theorem dX6_status_96 : decode cX6_status 96 = .ok (.ireturn, 1) := qd2_95.1
theorem dX6_status_97 : decode cX6_status 97 = .ok (.aload_n 0, 1) := qd2_95.2.1
theorem dX6_status_98 : decode cX6_status 98 = .ok (.getfield 12, 3) := qd2_95.2.2.1
theorem dX6_status_101 : decode cX6_status 101 = .ok (.getfield 159, 3) := qd2_95.2.2.2.1
theorem dX6_status_104 : decode cX6_status 104 = .ok (.ireturn, 1) := qd2_95.2.2.2.2.1
theorem dX6_status_105 : decode cX6_status 105 = .ok (.aload_n 0, 1) := qd2_95.2.2.2.2.2.1
theorem dX6_status_106 : decode cX6_status 106 = .ok (.getfield 22, 3) := qd2_95.2.2.2.2.2.2.1
theorem dX6_status_109 : decode cX6_status 109 = .ok (.getfield 171, 3) := qd2_95.2.2.2.2.2.2.2.1
theorem dX6_status_112 : decode cX6_status 112 = .ok (.ireturn, 1) := qd2_95.2.2.2.2.2.2.2.2.1
theorem dX6_status_113 : decode cX6_status 113 = .ok (.aload_n 0, 1) := qd2_95.2.2.2.2.2.2.2.2.2.1
theorem dX6_status_114 : decode cX6_status 114 = .ok (.getfield 29, 3) := qd2_95.2.2.2.2.2.2.2.2.2.2.1
theorem dX6_status_117 : decode cX6_status 117 = .ok (.invokevirtual 317, 3) := qd2_95.2.2.2.2.2.2.2.2.2.2.2
theorem qd2_96 : (decode cX6_status 120 = .ok (.ireturn, 1)) ∧ (decode cX6_status 121 = .ok (.iload_n 1, 1)) ∧ (decode cX6_status 122 = .ok (.bipush 12, 2)) ∧ (decode cX6_status 124 = .ok (.bipush 16, 2)) ∧ (decode cX6_status 126 = .ok (.invokestatic 64, 3)) ∧ (decode cX6_status 129 = .ok (.ifCond .eq 15, 3)) ∧ (decode cX6_status 132 = .ok (.aload_n 0, 1)) ∧ (decode cX6_status 133 = .ok (.getfield 45, 3)) ∧ (decode cX6_status 136 = .ok (.iload_n 1, 1)) ∧ (decode cX6_status 137 = .ok (.bipush 12, 2)) ∧ (decode cX6_status 139 = .ok (.isub, 1)) ∧ (decode cX6_status 140 = .ok (.iaload, 1)) := by decide +kernel
theorem dX6_status_120 : decode cX6_status 120 = .ok (.ireturn, 1) := qd2_96.1
theorem dX6_status_121 : decode cX6_status 121 = .ok (.iload_n 1, 1) := qd2_96.2.1
theorem dX6_status_122 : decode cX6_status 122 = .ok (.bipush 12, 2) := qd2_96.2.2.1
theorem dX6_status_124 : decode cX6_status 124 = .ok (.bipush 16, 2) := qd2_96.2.2.2.1
theorem dX6_status_126 : decode cX6_status 126 = .ok (.invokestatic 64, 3) := qd2_96.2.2.2.2.1
theorem dX6_status_129 : decode cX6_status 129 = .ok (.ifCond .eq 15, 3) := qd2_96.2.2.2.2.2.1
theorem dX6_status_132 : decode cX6_status 132 = .ok (.aload_n 0, 1) := qd2_96.2.2.2.2.2.2.1
theorem dX6_status_133 : decode cX6_status 133 = .ok (.getfield 45, 3) := qd2_96.2.2.2.2.2.2.2.1
theorem dX6_status_136 : decode cX6_status 136 = .ok (.iload_n 1, 1) := qd2_96.2.2.2.2.2.2.2.2.1
theorem dX6_status_137 : decode cX6_status 137 = .ok (.bipush 12, 2) := qd2_96.2.2.2.2.2.2.2.2.2.1
theorem dX6_status_139 : decode cX6_status 139 = .ok (.isub, 1) := qd2_96.2.2.2.2.2.2.2.2.2.2.1
theorem dX6_status_140 : decode cX6_status 140 = .ok (.iaload, 1) := qd2_96.2.2.2.2.2.2.2.2.2.2.2
theorem qd2_97 : (decode cX6_status 141 = .ok (.goto 4, 3)) ∧ (decode cX6_status 144 = .ok (.iconst (-1), 1)) ∧ (decode cX6_status 145 = .ok (.ireturn, 1)) := by decide +kernel
theorem dX6_status_141 : decode cX6_status 141 = .ok (.goto 4, 3) := qd2_97.1
theorem dX6_status_144 : decode cX6_status 144 = .ok (.iconst (-1), 1) := qd2_97.2.1
theorem dX6_status_145 : decode cX6_status 145 = .ok (.ireturn, 1) := qd2_97.2.2
theorem qd2_98 : (decode cX6_refuse 0 = .ok (.iload_n 1, 1)) ∧ (decode cX6_refuse 1 = .ok (.bipush (-6), 2)) ∧ (decode cX6_refuse 3 = .ok (.bipush (-2), 2)) ∧ (decode cX6_refuse 5 = .ok (.invokestatic 64, 3)) ∧ (decode cX6_refuse 8 = .ok (.ifCond .eq 16, 3)) ∧ (decode cX6_refuse 11 = .ok (.aload_n 0, 1)) ∧ (decode cX6_refuse 12 = .ok (.getfield 45, 3)) ∧ (decode cX6_refuse 15 = .ok (.bipush (-2), 2)) ∧ (decode cX6_refuse 17 = .ok (.iload_n 1, 1)) ∧ (decode cX6_refuse 18 = .ok (.isub, 1)) ∧ (decode cX6_refuse 19 = .ok (.dup2, 1)) ∧ (decode cX6_refuse 20 = .ok (.iaload, 1)) := by decide +kernel
theorem dX6_refuse_0 : decode cX6_refuse 0 = .ok (.iload_n 1, 1) := qd2_98.1
theorem dX6_refuse_1 : decode cX6_refuse 1 = .ok (.bipush (-6), 2) := qd2_98.2.1
theorem dX6_refuse_3 : decode cX6_refuse 3 = .ok (.bipush (-2), 2) := qd2_98.2.2.1
theorem dX6_refuse_5 : decode cX6_refuse 5 = .ok (.invokestatic 64, 3) := qd2_98.2.2.2.1
theorem dX6_refuse_8 : decode cX6_refuse 8 = .ok (.ifCond .eq 16, 3) := qd2_98.2.2.2.2.1
theorem dX6_refuse_11 : decode cX6_refuse 11 = .ok (.aload_n 0, 1) := qd2_98.2.2.2.2.2.1
theorem dX6_refuse_12 : decode cX6_refuse 12 = .ok (.getfield 45, 3) := qd2_98.2.2.2.2.2.2.1
theorem dX6_refuse_15 : decode cX6_refuse 15 = .ok (.bipush (-2), 2) := qd2_98.2.2.2.2.2.2.2.1
theorem dX6_refuse_17 : decode cX6_refuse 17 = .ok (.iload_n 1, 1) := qd2_98.2.2.2.2.2.2.2.2.1
theorem dX6_refuse_18 : decode cX6_refuse 18 = .ok (.isub, 1) := qd2_98.2.2.2.2.2.2.2.2.2.1
theorem dX6_refuse_19 : decode cX6_refuse 19 = .ok (.dup2, 1) := qd2_98.2.2.2.2.2.2.2.2.2.2.1
theorem dX6_refuse_20 : decode cX6_refuse 20 = .ok (.iaload, 1) := qd2_98.2.2.2.2.2.2.2.2.2.2.2
theorem qd2_99 : (decode cX6_refuse 21 = .ok (.iconst 1, 1)) ∧ (decode cX6_refuse 22 = .ok (.iadd, 1)) ∧ (decode cX6_refuse 23 = .ok (.iastore, 1)) ∧ (decode cX6_refuse 24 = .ok (.iload_n 1, 1)) ∧ (decode cX6_refuse 25 = .ok (.ireturn, 1)) := by decide +kernel
theorem dX6_refuse_21 : decode cX6_refuse 21 = .ok (.iconst 1, 1) := qd2_99.1
theorem dX6_refuse_22 : decode cX6_refuse 22 = .ok (.iadd, 1) := qd2_99.2.1
theorem dX6_refuse_23 : decode cX6_refuse 23 = .ok (.iastore, 1) := qd2_99.2.2.1
theorem dX6_refuse_24 : decode cX6_refuse 24 = .ok (.iload_n 1, 1) := qd2_99.2.2.2.1
theorem dX6_refuse_25 : decode cX6_refuse 25 = .ok (.ireturn, 1) := qd2_99.2.2.2.2
theorem qd2_100 : (decode cX6_noRow 0 = .ok (.iload_n 1, 1)) ∧ (decode cX6_noRow 1 = .ok (.invokestatic 60, 3)) ∧ (decode cX6_noRow 4 = .ok (.ifCond .ne 6, 3)) ∧ (decode cX6_noRow 7 = .ok (.bipush (-2), 2)) ∧ (decode cX6_noRow 9 = .ok (.ireturn, 1)) ∧ (decode cX6_noRow 10 = .ok (.aload_n 0, 1)) ∧ (decode cX6_noRow 11 = .ok (.getfield 29, 3)) ∧ (decode cX6_noRow 14 = .ok (.iload_n 1, 1)) ∧ (decode cX6_noRow 15 = .ok (.invokevirtual 86, 3)) ∧ (decode cX6_noRow 18 = .ok (.ifCond .eq 6, 3)) ∧ (decode cX6_noRow 21 = .ok (.bipush (-3), 2)) ∧ (decode cX6_noRow 23 = .ok (.ireturn, 1)) := by decide +kernel
theorem dX6_noRow_0 : decode cX6_noRow 0 = .ok (.iload_n 1, 1) := qd2_100.1
theorem dX6_noRow_1 : decode cX6_noRow 1 = .ok (.invokestatic 60, 3) := qd2_100.2.1
theorem dX6_noRow_4 : decode cX6_noRow 4 = .ok (.ifCond .ne 6, 3) := qd2_100.2.2.1
theorem dX6_noRow_7 : decode cX6_noRow 7 = .ok (.bipush (-2), 2) := qd2_100.2.2.2.1
theorem dX6_noRow_9 : decode cX6_noRow 9 = .ok (.ireturn, 1) := qd2_100.2.2.2.2.1
theorem dX6_noRow_10 : decode cX6_noRow 10 = .ok (.aload_n 0, 1) := qd2_100.2.2.2.2.2.1
theorem dX6_noRow_11 : decode cX6_noRow 11 = .ok (.getfield 29, 3) := qd2_100.2.2.2.2.2.2.1
theorem dX6_noRow_14 : decode cX6_noRow 14 = .ok (.iload_n 1, 1) := qd2_100.2.2.2.2.2.2.2.1
theorem dX6_noRow_15 : decode cX6_noRow 15 = .ok (.invokevirtual 86, 3) := qd2_100.2.2.2.2.2.2.2.2.1
theorem dX6_noRow_18 : decode cX6_noRow 18 = .ok (.ifCond .eq 6, 3) := qd2_100.2.2.2.2.2.2.2.2.2.1
theorem dX6_noRow_21 : decode cX6_noRow 21 = .ok (.bipush (-3), 2) := qd2_100.2.2.2.2.2.2.2.2.2.2.1
theorem dX6_noRow_23 : decode cX6_noRow 23 = .ok (.ireturn, 1) := qd2_100.2.2.2.2.2.2.2.2.2.2.2
theorem qd2_101 : (decode cX6_noRow 24 = .ok (.aload_n 0, 1)) ∧ (decode cX6_noRow 25 = .ok (.getfield 29, 3)) ∧ (decode cX6_noRow 28 = .ok (.iload_n 1, 1)) ∧ (decode cX6_noRow 29 = .ok (.invokevirtual 106, 3)) ∧ (decode cX6_noRow 32 = .ok (.ifCond .eq 7, 3)) ∧ (decode cX6_noRow 35 = .ok (.iconst 0, 1)) ∧ (decode cX6_noRow 36 = .ok (.goto 5, 3)) ∧ (decode cX6_noRow 39 = .ok (.bipush (-4), 2)) ∧ (decode cX6_noRow 41 = .ok (.ireturn, 1)) := by decide +kernel
theorem dX6_noRow_24 : decode cX6_noRow 24 = .ok (.aload_n 0, 1) := qd2_101.1
theorem dX6_noRow_25 : decode cX6_noRow 25 = .ok (.getfield 29, 3) := qd2_101.2.1
theorem dX6_noRow_28 : decode cX6_noRow 28 = .ok (.iload_n 1, 1) := qd2_101.2.2.1
theorem dX6_noRow_29 : decode cX6_noRow 29 = .ok (.invokevirtual 106, 3) := qd2_101.2.2.2.1
theorem dX6_noRow_32 : decode cX6_noRow 32 = .ok (.ifCond .eq 7, 3) := qd2_101.2.2.2.2.1
theorem dX6_noRow_35 : decode cX6_noRow 35 = .ok (.iconst 0, 1) := qd2_101.2.2.2.2.2.1
theorem dX6_noRow_36 : decode cX6_noRow 36 = .ok (.goto 5, 3) := qd2_101.2.2.2.2.2.2.1
theorem dX6_noRow_39 : decode cX6_noRow 39 = .ok (.bipush (-4), 2) := qd2_101.2.2.2.2.2.2.2.1
theorem dX6_noRow_41 : decode cX6_noRow 41 = .ok (.ireturn, 1) := qd2_101.2.2.2.2.2.2.2.2
theorem qd2_102 : (decode cX6_noPlan 0 = .ok (.iload_n 2, 1)) ∧ (decode cX6_noPlan 1 = .ok (.iconst 0, 1)) ∧ (decode cX6_noPlan 2 = .ok (.bipush 30, 2)) ∧ (decode cX6_noPlan 4 = .ok (.invokestatic 64, 3)) ∧ (decode cX6_noPlan 7 = .ok (.ifCond .ne 6, 3)) ∧ (decode cX6_noPlan 10 = .ok (.bipush (-2), 2)) ∧ (decode cX6_noPlan 12 = .ok (.ireturn, 1)) ∧ (decode cX6_noPlan 13 = .ok (.aload_n 0, 1)) ∧ (decode cX6_noPlan 14 = .ok (.iload_n 1, 1)) ∧ (decode cX6_noPlan 15 = .ok (.invokevirtual 76, 3)) ∧ (decode cX6_noPlan 18 = .ok (.istore_n 3, 1)) ∧ (decode cX6_noPlan 19 = .ok (.iload_n 3, 1)) := by decide +kernel
theorem dX6_noPlan_0 : decode cX6_noPlan 0 = .ok (.iload_n 2, 1) := qd2_102.1
theorem dX6_noPlan_1 : decode cX6_noPlan 1 = .ok (.iconst 0, 1) := qd2_102.2.1
theorem dX6_noPlan_2 : decode cX6_noPlan 2 = .ok (.bipush 30, 2) := qd2_102.2.2.1
theorem dX6_noPlan_4 : decode cX6_noPlan 4 = .ok (.invokestatic 64, 3) := qd2_102.2.2.2.1
theorem dX6_noPlan_7 : decode cX6_noPlan 7 = .ok (.ifCond .ne 6, 3) := qd2_102.2.2.2.2.1
theorem dX6_noPlan_10 : decode cX6_noPlan 10 = .ok (.bipush (-2), 2) := qd2_102.2.2.2.2.2.1
theorem dX6_noPlan_12 : decode cX6_noPlan 12 = .ok (.ireturn, 1) := qd2_102.2.2.2.2.2.2.1
theorem dX6_noPlan_13 : decode cX6_noPlan 13 = .ok (.aload_n 0, 1) := qd2_102.2.2.2.2.2.2.2.1
theorem dX6_noPlan_14 : decode cX6_noPlan 14 = .ok (.iload_n 1, 1) := qd2_102.2.2.2.2.2.2.2.2.1
theorem dX6_noPlan_15 : decode cX6_noPlan 15 = .ok (.invokevirtual 76, 3) := qd2_102.2.2.2.2.2.2.2.2.2.1
theorem dX6_noPlan_18 : decode cX6_noPlan 18 = .ok (.istore_n 3, 1) := qd2_102.2.2.2.2.2.2.2.2.2.2.1
theorem dX6_noPlan_19 : decode cX6_noPlan 19 = .ok (.iload_n 3, 1) := qd2_102.2.2.2.2.2.2.2.2.2.2.2
theorem qd2_103 : (decode cX6_noPlan 20 = .ok (.ifCond .eq 5, 3)) ∧ (decode cX6_noPlan 23 = .ok (.iload_n 3, 1)) ∧ (decode cX6_noPlan 24 = .ok (.ireturn, 1)) ∧ (decode cX6_noPlan 25 = .ok (.aload_n 0, 1)) ∧ (decode cX6_noPlan 26 = .ok (.getfield 29, 3)) ∧ (decode cX6_noPlan 29 = .ok (.getfield 79, 3)) ∧ (decode cX6_noPlan 32 = .ok (.iload_n 1, 1)) ∧ (decode cX6_noPlan 33 = .ok (.iaload, 1)) ∧ (decode cX6_noPlan 34 = .ok (.iload_n 2, 1)) ∧ (decode cX6_noPlan 35 = .ok (.if_icmp .ge 8, 3)) ∧ (decode cX6_noPlan 38 = .ok (.bipush (-2), 2)) ∧ (decode cX6_noPlan 40 = .ok (.goto 4, 3)) := by decide +kernel
theorem dX6_noPlan_20 : decode cX6_noPlan 20 = .ok (.ifCond .eq 5, 3) := qd2_103.1
theorem dX6_noPlan_23 : decode cX6_noPlan 23 = .ok (.iload_n 3, 1) := qd2_103.2.1
theorem dX6_noPlan_24 : decode cX6_noPlan 24 = .ok (.ireturn, 1) := qd2_103.2.2.1
theorem dX6_noPlan_25 : decode cX6_noPlan 25 = .ok (.aload_n 0, 1) := qd2_103.2.2.2.1
theorem dX6_noPlan_26 : decode cX6_noPlan 26 = .ok (.getfield 29, 3) := qd2_103.2.2.2.2.1
theorem dX6_noPlan_29 : decode cX6_noPlan 29 = .ok (.getfield 79, 3) := qd2_103.2.2.2.2.2.1
theorem dX6_noPlan_32 : decode cX6_noPlan 32 = .ok (.iload_n 1, 1) := qd2_103.2.2.2.2.2.2.1
theorem dX6_noPlan_33 : decode cX6_noPlan 33 = .ok (.iaload, 1) := qd2_103.2.2.2.2.2.2.2.1
theorem dX6_noPlan_34 : decode cX6_noPlan 34 = .ok (.iload_n 2, 1) := qd2_103.2.2.2.2.2.2.2.2.1
theorem dX6_noPlan_35 : decode cX6_noPlan 35 = .ok (.if_icmp .ge 8, 3) := qd2_103.2.2.2.2.2.2.2.2.2.1
theorem dX6_noPlan_38 : decode cX6_noPlan 38 = .ok (.bipush (-2), 2) := qd2_103.2.2.2.2.2.2.2.2.2.2.1
theorem dX6_noPlan_40 : decode cX6_noPlan 40 = .ok (.goto 4, 3) := qd2_103.2.2.2.2.2.2.2.2.2.2.2
theorem qd2_104 : (decode cX6_noPlan 43 = .ok (.iconst 0, 1)) ∧ (decode cX6_noPlan 44 = .ok (.ireturn, 1)) := by decide +kernel
theorem dX6_noPlan_43 : decode cX6_noPlan 43 = .ok (.iconst 0, 1) := qd2_104.1
theorem dX6_noPlan_44 : decode cX6_noPlan 44 = .ok (.ireturn, 1) := qd2_104.2
theorem qd2_105 : (decode cX6_noChoice 0 = .ok (.aload_n 0, 1)) ∧ (decode cX6_noChoice 1 = .ok (.getfield 12, 3)) ∧ (decode cX6_noChoice 4 = .ok (.iload_n 1, 1)) ∧ (decode cX6_noChoice 5 = .ok (.invokevirtual 109, 3)) ∧ (decode cX6_noChoice 8 = .ok (.ifCond .ne 6, 3)) ∧ (decode cX6_noChoice 11 = .ok (.bipush (-2), 2)) ∧ (decode cX6_noChoice 13 = .ok (.ireturn, 1)) ∧ (decode cX6_noChoice 14 = .ok (.aload_n 0, 1)) ∧ (decode cX6_noChoice 15 = .ok (.getfield 12, 3)) ∧ (decode cX6_noChoice 18 = .ok (.iload_n 1, 1)) ∧ (decode cX6_noChoice 19 = .ok (.invokevirtual 320, 3)) ∧ (decode cX6_noChoice 22 = .ok (.ifCond .eq 8, 3)) := by decide +kernel
theorem dX6_noChoice_0 : decode cX6_noChoice 0 = .ok (.aload_n 0, 1) := qd2_105.1
theorem dX6_noChoice_1 : decode cX6_noChoice 1 = .ok (.getfield 12, 3) := qd2_105.2.1
theorem dX6_noChoice_4 : decode cX6_noChoice 4 = .ok (.iload_n 1, 1) := qd2_105.2.2.1
theorem dX6_noChoice_5 : decode cX6_noChoice 5 = .ok (.invokevirtual 109, 3) := qd2_105.2.2.2.1
theorem dX6_noChoice_8 : decode cX6_noChoice 8 = .ok (.ifCond .ne 6, 3) := qd2_105.2.2.2.2.1
theorem dX6_noChoice_11 : decode cX6_noChoice 11 = .ok (.bipush (-2), 2) := qd2_105.2.2.2.2.2.1
theorem dX6_noChoice_13 : decode cX6_noChoice 13 = .ok (.ireturn, 1) := qd2_105.2.2.2.2.2.2.1
theorem dX6_noChoice_14 : decode cX6_noChoice 14 = .ok (.aload_n 0, 1) := qd2_105.2.2.2.2.2.2.2.1
theorem dX6_noChoice_15 : decode cX6_noChoice 15 = .ok (.getfield 12, 3) := qd2_105.2.2.2.2.2.2.2.2.1
theorem dX6_noChoice_18 : decode cX6_noChoice 18 = .ok (.iload_n 1, 1) := qd2_105.2.2.2.2.2.2.2.2.2.1
theorem dX6_noChoice_19 : decode cX6_noChoice 19 = .ok (.invokevirtual 320, 3) := qd2_105.2.2.2.2.2.2.2.2.2.2.1
theorem dX6_noChoice_22 : decode cX6_noChoice 22 = .ok (.ifCond .eq 8, 3) := qd2_105.2.2.2.2.2.2.2.2.2.2.2
theorem qd2_106 : (decode cX6_noChoice 25 = .ok (.bipush (-5), 2)) ∧ (decode cX6_noChoice 27 = .ok (.goto 4, 3)) ∧ (decode cX6_noChoice 30 = .ok (.iconst 0, 1)) ∧ (decode cX6_noChoice 31 = .ok (.ireturn, 1)) := by decide +kernel
theorem dX6_noChoice_25 : decode cX6_noChoice 25 = .ok (.bipush (-5), 2) := qd2_106.1
theorem dX6_noChoice_27 : decode cX6_noChoice 27 = .ok (.goto 4, 3) := qd2_106.2.1
theorem dX6_noChoice_30 : decode cX6_noChoice 30 = .ok (.iconst 0, 1) := qd2_106.2.2.1
theorem dX6_noChoice_31 : decode cX6_noChoice 31 = .ok (.ireturn, 1) := qd2_106.2.2.2
theorem qd2_107 : (decode cX6_passYear 0 = .ok (.aload_n 0, 1)) ∧ (decode cX6_passYear 1 = .ok (.getfield 36, 3)) ∧ (decode cX6_passYear 4 = .ok (.aload_n 0, 1)) ∧ (decode cX6_passYear 5 = .ok (.getfield 12, 3)) ∧ (decode cX6_passYear 8 = .ok (.iload_n 1, 1)) ∧ (decode cX6_passYear 9 = .ok (.invokevirtual 323, 3)) ∧ (decode cX6_passYear 12 = .ok (.istore_n 2, 1)) ∧ (decode cX6_passYear 13 = .ok (.aload_n 0, 1)) ∧ (decode cX6_passYear 14 = .ok (.dup, 1)) ∧ (decode cX6_passYear 15 = .ok (.getfield 53, 3)) ∧ (decode cX6_passYear 18 = .ok (.iconst 1, 1)) ∧ (decode cX6_passYear 19 = .ok (.iadd, 1)) := by decide +kernel
theorem dX6_passYear_0 : decode cX6_passYear 0 = .ok (.aload_n 0, 1) := qd2_107.1
theorem dX6_passYear_1 : decode cX6_passYear 1 = .ok (.getfield 36, 3) := qd2_107.2.1
theorem dX6_passYear_4 : decode cX6_passYear 4 = .ok (.aload_n 0, 1) := qd2_107.2.2.1
theorem dX6_passYear_5 : decode cX6_passYear 5 = .ok (.getfield 12, 3) := qd2_107.2.2.2.1
theorem dX6_passYear_8 : decode cX6_passYear 8 = .ok (.iload_n 1, 1) := qd2_107.2.2.2.2.1
theorem dX6_passYear_9 : decode cX6_passYear 9 = .ok (.invokevirtual 323, 3) := qd2_107.2.2.2.2.2.1
theorem dX6_passYear_12 : decode cX6_passYear 12 = .ok (.istore_n 2, 1) := qd2_107.2.2.2.2.2.2.1
theorem dX6_passYear_13 : decode cX6_passYear 13 = .ok (.aload_n 0, 1) := qd2_107.2.2.2.2.2.2.2.1
theorem dX6_passYear_14 : decode cX6_passYear 14 = .ok (.dup, 1) := qd2_107.2.2.2.2.2.2.2.2.1
theorem dX6_passYear_15 : decode cX6_passYear 15 = .ok (.getfield 53, 3) := qd2_107.2.2.2.2.2.2.2.2.2.1
theorem dX6_passYear_18 : decode cX6_passYear 18 = .ok (.iconst 1, 1) := qd2_107.2.2.2.2.2.2.2.2.2.2.1
theorem dX6_passYear_19 : decode cX6_passYear 19 = .ok (.iadd, 1) := qd2_107.2.2.2.2.2.2.2.2.2.2.2
theorem qd2_108 : (decode cX6_passYear 20 = .ok (.putfield 53, 3)) ∧ (decode cX6_passYear 23 = .ok (.aload_n 0, 1)) ∧ (decode cX6_passYear 24 = .ok (.dup, 1)) ∧ (decode cX6_passYear 25 = .ok (.getfield 57, 3)) ∧ (decode cX6_passYear 28 = .ok (.iload_n 2, 1)) ∧ (decode cX6_passYear 29 = .ok (.iadd, 1)) ∧ (decode cX6_passYear 30 = .ok (.putfield 57, 3)) ∧ (decode cX6_passYear 33 = .ok (.iload_n 2, 1)) ∧ (decode cX6_passYear 34 = .ok (.ireturn, 1)) := by decide +kernel
theorem dX6_passYear_20 : decode cX6_passYear 20 = .ok (.putfield 53, 3) := qd2_108.1
theorem dX6_passYear_23 : decode cX6_passYear 23 = .ok (.aload_n 0, 1) := qd2_108.2.1
theorem dX6_passYear_24 : decode cX6_passYear 24 = .ok (.dup, 1) := qd2_108.2.2.1
theorem dX6_passYear_25 : decode cX6_passYear 25 = .ok (.getfield 57, 3) := qd2_108.2.2.2.1
theorem dX6_passYear_28 : decode cX6_passYear 28 = .ok (.iload_n 2, 1) := qd2_108.2.2.2.2.1
theorem dX6_passYear_29 : decode cX6_passYear 29 = .ok (.iadd, 1) := qd2_108.2.2.2.2.2.1
theorem dX6_passYear_30 : decode cX6_passYear 30 = .ok (.putfield 57, 3) := qd2_108.2.2.2.2.2.2.1
theorem dX6_passYear_33 : decode cX6_passYear 33 = .ok (.iload_n 2, 1) := qd2_108.2.2.2.2.2.2.2.1
theorem dX6_passYear_34 : decode cX6_passYear 34 = .ok (.ireturn, 1) := qd2_108.2.2.2.2.2.2.2.2
theorem qd2_109 : (decode cX6_within 0 = .ok (.iload_n 0, 1)) ∧ (decode cX6_within 1 = .ok (.iload_n 1, 1)) ∧ (decode cX6_within 2 = .ok (.if_icmp .lt 12, 3)) ∧ (decode cX6_within 5 = .ok (.iload_n 0, 1)) ∧ (decode cX6_within 6 = .ok (.iload_n 2, 1)) ∧ (decode cX6_within 7 = .ok (.if_icmp .gt 7, 3)) ∧ (decode cX6_within 10 = .ok (.iconst 1, 1)) ∧ (decode cX6_within 11 = .ok (.goto 4, 3)) ∧ (decode cX6_within 14 = .ok (.iconst 0, 1)) ∧ (decode cX6_within 15 = .ok (.ireturn, 1)) := by decide +kernel
theorem dX6_within_0 : decode cX6_within 0 = .ok (.iload_n 0, 1) := qd2_109.1
theorem dX6_within_1 : decode cX6_within 1 = .ok (.iload_n 1, 1) := qd2_109.2.1
theorem dX6_within_2 : decode cX6_within 2 = .ok (.if_icmp .lt 12, 3) := qd2_109.2.2.1
theorem dX6_within_5 : decode cX6_within 5 = .ok (.iload_n 0, 1) := qd2_109.2.2.2.1
theorem dX6_within_6 : decode cX6_within 6 = .ok (.iload_n 2, 1) := qd2_109.2.2.2.2.1
theorem dX6_within_7 : decode cX6_within 7 = .ok (.if_icmp .gt 7, 3) := qd2_109.2.2.2.2.2.1
theorem dX6_within_10 : decode cX6_within 10 = .ok (.iconst 1, 1) := qd2_109.2.2.2.2.2.2.1
theorem dX6_within_11 : decode cX6_within 11 = .ok (.goto 4, 3) := qd2_109.2.2.2.2.2.2.2.1
theorem dX6_within_14 : decode cX6_within 14 = .ok (.iconst 0, 1) := qd2_109.2.2.2.2.2.2.2.2.1
theorem dX6_within_15 : decode cX6_within 15 = .ok (.ireturn, 1) := qd2_109.2.2.2.2.2.2.2.2.2
theorem qd2_110 : (decode cX6_isPlace 0 = .ok (.iload_n 0, 1)) ∧ (decode cX6_isPlace 1 = .ok (.iconst 0, 1)) ∧ (decode cX6_isPlace 2 = .ok (.bipush 11, 2)) ∧ (decode cX6_isPlace 4 = .ok (.invokestatic 64, 3)) ∧ (decode cX6_isPlace 7 = .ok (.ireturn, 1)) := by decide +kernel
theorem dX6_isPlace_0 : decode cX6_isPlace 0 = .ok (.iload_n 0, 1) := qd2_110.1
theorem dX6_isPlace_1 : decode cX6_isPlace 1 = .ok (.iconst 0, 1) := qd2_110.2.1
theorem dX6_isPlace_2 : decode cX6_isPlace 2 = .ok (.bipush 11, 2) := qd2_110.2.2.1
theorem dX6_isPlace_4 : decode cX6_isPlace 4 = .ok (.invokestatic 64, 3) := qd2_110.2.2.2.1
theorem dX6_isPlace_7 : decode cX6_isPlace 7 = .ok (.ireturn, 1) := qd2_110.2.2.2.2
theorem qd2_111 : (decode cX6_isUnder 0 = .ok (.iload_n 0, 1)) ∧ (decode cX6_isUnder 1 = .ok (.istore_n 2, 1)) ∧ (decode cX6_isUnder 2 = .ok (.iconst 0, 1)) ∧ (decode cX6_isUnder 3 = .ok (.istore_n 3, 1)) ∧ (decode cX6_isUnder 4 = .ok (.iload_n 3, 1)) ∧ (decode cX6_isUnder 5 = .ok (.getstatic 326, 3)) ∧ (decode cX6_isUnder 8 = .ok (.arraylength, 1)) ∧ (decode cX6_isUnder 9 = .ok (.if_icmp .ge 31, 3)) ∧ (decode cX6_isUnder 12 = .ok (.iload_n 2, 1)) ∧ (decode cX6_isUnder 13 = .ok (.iconst 0, 1)) ∧ (decode cX6_isUnder 14 = .ok (.iconst 5, 1)) ∧ (decode cX6_isUnder 15 = .ok (.invokestatic 64, 3)) := by decide +kernel
theorem dX6_isUnder_0 : decode cX6_isUnder 0 = .ok (.iload_n 0, 1) := qd2_111.1
theorem dX6_isUnder_1 : decode cX6_isUnder 1 = .ok (.istore_n 2, 1) := qd2_111.2.1
theorem dX6_isUnder_2 : decode cX6_isUnder 2 = .ok (.iconst 0, 1) := qd2_111.2.2.1
theorem dX6_isUnder_3 : decode cX6_isUnder 3 = .ok (.istore_n 3, 1) := qd2_111.2.2.2.1
theorem dX6_isUnder_4 : decode cX6_isUnder 4 = .ok (.iload_n 3, 1) := qd2_111.2.2.2.2.1
theorem dX6_isUnder_5 : decode cX6_isUnder 5 = .ok (.getstatic 326, 3) := qd2_111.2.2.2.2.2.1
theorem dX6_isUnder_8 : decode cX6_isUnder 8 = .ok (.arraylength, 1) := qd2_111.2.2.2.2.2.2.1
theorem dX6_isUnder_9 : decode cX6_isUnder 9 = .ok (.if_icmp .ge 31, 3) := qd2_111.2.2.2.2.2.2.2.1
theorem dX6_isUnder_12 : decode cX6_isUnder 12 = .ok (.iload_n 2, 1) := qd2_111.2.2.2.2.2.2.2.2.1
theorem dX6_isUnder_13 : decode cX6_isUnder 13 = .ok (.iconst 0, 1) := qd2_111.2.2.2.2.2.2.2.2.2.1
theorem dX6_isUnder_14 : decode cX6_isUnder 14 = .ok (.iconst 5, 1) := qd2_111.2.2.2.2.2.2.2.2.2.2.1
theorem dX6_isUnder_15 : decode cX6_isUnder 15 = .ok (.invokestatic 64, 3) := qd2_111.2.2.2.2.2.2.2.2.2.2.2
theorem qd2_112 : (decode cX6_isUnder 18 = .ok (.ifCond .eq 22, 3)) ∧ (decode cX6_isUnder 21 = .ok (.iload_n 2, 1)) ∧ (decode cX6_isUnder 22 = .ok (.iload_n 1, 1)) ∧ (decode cX6_isUnder 23 = .ok (.if_icmp .ne 5, 3)) ∧ (decode cX6_isUnder 26 = .ok (.iconst 1, 1)) ∧ (decode cX6_isUnder 27 = .ok (.ireturn, 1)) ∧ (decode cX6_isUnder 28 = .ok (.getstatic 326, 3)) ∧ (decode cX6_isUnder 31 = .ok (.iload_n 2, 1)) ∧ (decode cX6_isUnder 32 = .ok (.iaload, 1)) ∧ (decode cX6_isUnder 33 = .ok (.istore_n 2, 1)) ∧ (decode cX6_isUnder 34 = .ok (.iinc 3 1, 3)) ∧ (decode cX6_isUnder 37 = .ok (.goto (-33), 3)) := by decide +kernel
theorem dX6_isUnder_18 : decode cX6_isUnder 18 = .ok (.ifCond .eq 22, 3) := qd2_112.1
theorem dX6_isUnder_21 : decode cX6_isUnder 21 = .ok (.iload_n 2, 1) := qd2_112.2.1
theorem dX6_isUnder_22 : decode cX6_isUnder 22 = .ok (.iload_n 1, 1) := qd2_112.2.2.1
theorem dX6_isUnder_23 : decode cX6_isUnder 23 = .ok (.if_icmp .ne 5, 3) := qd2_112.2.2.2.1
theorem dX6_isUnder_26 : decode cX6_isUnder 26 = .ok (.iconst 1, 1) := qd2_112.2.2.2.2.1
theorem dX6_isUnder_27 : decode cX6_isUnder 27 = .ok (.ireturn, 1) := qd2_112.2.2.2.2.2.1
theorem dX6_isUnder_28 : decode cX6_isUnder 28 = .ok (.getstatic 326, 3) := qd2_112.2.2.2.2.2.2.1
theorem dX6_isUnder_31 : decode cX6_isUnder 31 = .ok (.iload_n 2, 1) := qd2_112.2.2.2.2.2.2.2.1
theorem dX6_isUnder_32 : decode cX6_isUnder 32 = .ok (.iaload, 1) := qd2_112.2.2.2.2.2.2.2.2.1
theorem dX6_isUnder_33 : decode cX6_isUnder 33 = .ok (.istore_n 2, 1) := qd2_112.2.2.2.2.2.2.2.2.2.1
theorem dX6_isUnder_34 : decode cX6_isUnder 34 = .ok (.iinc 3 1, 3) := qd2_112.2.2.2.2.2.2.2.2.2.2.1
theorem dX6_isUnder_37 : decode cX6_isUnder 37 = .ok (.goto (-33), 3) := qd2_112.2.2.2.2.2.2.2.2.2.2.2
theorem qd2_113 : (decode cX6_isUnder 40 = .ok (.iconst 0, 1)) ∧ (decode cX6_isUnder 41 = .ok (.ireturn, 1)) := by decide +kernel
theorem dX6_isUnder_40 : decode cX6_isUnder 40 = .ok (.iconst 0, 1) := qd2_113.1
theorem dX6_isUnder_41 : decode cX6_isUnder 41 = .ok (.ireturn, 1) := qd2_113.2
theorem qd2_114 : (decode cX7_init 0 = .ok (.aload_n 0, 1)) ∧ (decode cX7_init 1 = .ok (.invokespecial 1, 3)) ∧ (decode cX7_init 4 = .ok (.aload_n 0, 1)) ∧ (decode cX7_init 5 = .ok (.bipush 8, 2)) ∧ (decode cX7_init 7 = .ok (.newarray .int, 2)) ∧ (decode cX7_init 9 = .ok (.putfield 7, 3)) ∧ (decode cX7_init 12 = .ok (.aload_n 0, 1)) ∧ (decode cX7_init 13 = .ok (.bipush 8, 2)) ∧ (decode cX7_init 15 = .ok (.newarray .int, 2)) ∧ (decode cX7_init 17 = .ok (.putfield 13, 3)) ∧ (decode cX7_init 20 = .ok (.aload_n 0, 1)) ∧ (decode cX7_init 21 = .ok (.bipush 8, 2)) := by decide +kernel
theorem dX7_init_0 : decode cX7_init 0 = .ok (.aload_n 0, 1) := qd2_114.1
theorem dX7_init_1 : decode cX7_init 1 = .ok (.invokespecial 1, 3) := qd2_114.2.1
theorem dX7_init_4 : decode cX7_init 4 = .ok (.aload_n 0, 1) := qd2_114.2.2.1
theorem dX7_init_5 : decode cX7_init 5 = .ok (.bipush 8, 2) := qd2_114.2.2.2.1
theorem dX7_init_7 : decode cX7_init 7 = .ok (.newarray .int, 2) := qd2_114.2.2.2.2.1
theorem dX7_init_9 : decode cX7_init 9 = .ok (.putfield 7, 3) := qd2_114.2.2.2.2.2.1
theorem dX7_init_12 : decode cX7_init 12 = .ok (.aload_n 0, 1) := qd2_114.2.2.2.2.2.2.1
theorem dX7_init_13 : decode cX7_init 13 = .ok (.bipush 8, 2) := qd2_114.2.2.2.2.2.2.2.1
theorem dX7_init_15 : decode cX7_init 15 = .ok (.newarray .int, 2) := qd2_114.2.2.2.2.2.2.2.2.1
theorem dX7_init_17 : decode cX7_init 17 = .ok (.putfield 13, 3) := qd2_114.2.2.2.2.2.2.2.2.2.1
theorem dX7_init_20 : decode cX7_init 20 = .ok (.aload_n 0, 1) := qd2_114.2.2.2.2.2.2.2.2.2.2.1
theorem dX7_init_21 : decode cX7_init 21 = .ok (.bipush 8, 2) := qd2_114.2.2.2.2.2.2.2.2.2.2.2
theorem qd2_115 : (decode cX7_init 23 = .ok (.newarray .int, 2)) ∧ (decode cX7_init 25 = .ok (.putfield 16, 3)) ∧ (decode cX7_init 28 = .ok (.aload_n 0, 1)) ∧ (decode cX7_init 29 = .ok (.bipush 8, 2)) ∧ (decode cX7_init 31 = .ok (.bipush 40, 2)) ∧ (decode cX7_init 33 = .ok (.multianewarray 19 2, 4)) ∧ (decode cX7_init 37 = .ok (.putfield 21, 3)) ∧ (decode cX7_init 40 = .ok (.aload_n 0, 1)) ∧ (decode cX7_init 41 = .ok (.bipush 40, 2)) ∧ (decode cX7_init 43 = .ok (.newarray .long, 2)) ∧ (decode cX7_init 45 = .ok (.putfield 24, 3)) ∧ (decode cX7_init 48 = .ok (.aload_n 0, 1)) := by decide +kernel
theorem dX7_init_23 : decode cX7_init 23 = .ok (.newarray .int, 2) := qd2_115.1
theorem dX7_init_25 : decode cX7_init 25 = .ok (.putfield 16, 3) := qd2_115.2.1
theorem dX7_init_28 : decode cX7_init 28 = .ok (.aload_n 0, 1) := qd2_115.2.2.1
theorem dX7_init_29 : decode cX7_init 29 = .ok (.bipush 8, 2) := qd2_115.2.2.2.1
theorem dX7_init_31 : decode cX7_init 31 = .ok (.bipush 40, 2) := qd2_115.2.2.2.2.1
theorem dX7_init_33 : decode cX7_init 33 = .ok (.multianewarray 19 2, 4) := qd2_115.2.2.2.2.2.1
theorem dX7_init_37 : decode cX7_init 37 = .ok (.putfield 21, 3) := qd2_115.2.2.2.2.2.2.1
theorem dX7_init_40 : decode cX7_init 40 = .ok (.aload_n 0, 1) := qd2_115.2.2.2.2.2.2.2.1
theorem dX7_init_41 : decode cX7_init 41 = .ok (.bipush 40, 2) := qd2_115.2.2.2.2.2.2.2.2.1
theorem dX7_init_43 : decode cX7_init 43 = .ok (.newarray .long, 2) := qd2_115.2.2.2.2.2.2.2.2.2.1
theorem dX7_init_45 : decode cX7_init 45 = .ok (.putfield 24, 3) := qd2_115.2.2.2.2.2.2.2.2.2.2.1
theorem dX7_init_48 : decode cX7_init 48 = .ok (.aload_n 0, 1) := qd2_115.2.2.2.2.2.2.2.2.2.2.2
theorem qd2_116 : (decode cX7_init 49 = .ok (.bipush 8, 2)) ∧ (decode cX7_init 51 = .ok (.newarray .int, 2)) ∧ (decode cX7_init 53 = .ok (.putfield 28, 3)) ∧ (decode cX7_init 56 = .ok (.aload_n 0, 1)) ∧ (decode cX7_init 57 = .ok (.sipush 250, 3)) ∧ (decode cX7_init 60 = .ok (.newarray .int, 2)) ∧ (decode cX7_init 62 = .ok (.putfield 31, 3)) ∧ (decode cX7_init 65 = .ok (.aload_n 0, 1)) ∧ (decode cX7_init 66 = .ok (.bipush 8, 2)) ∧ (decode cX7_init 68 = .ok (.newarray .int, 2)) ∧ (decode cX7_init 70 = .ok (.putfield 34, 3)) ∧ (decode cX7_init 73 = .ok (.aload_n 0, 1)) := by decide +kernel
theorem dX7_init_49 : decode cX7_init 49 = .ok (.bipush 8, 2) := qd2_116.1
theorem dX7_init_51 : decode cX7_init 51 = .ok (.newarray .int, 2) := qd2_116.2.1
theorem dX7_init_53 : decode cX7_init 53 = .ok (.putfield 28, 3) := qd2_116.2.2.1
theorem dX7_init_56 : decode cX7_init 56 = .ok (.aload_n 0, 1) := qd2_116.2.2.2.1
theorem dX7_init_57 : decode cX7_init 57 = .ok (.sipush 250, 3) := qd2_116.2.2.2.2.1
theorem dX7_init_60 : decode cX7_init 60 = .ok (.newarray .int, 2) := qd2_116.2.2.2.2.2.1
theorem dX7_init_62 : decode cX7_init 62 = .ok (.putfield 31, 3) := qd2_116.2.2.2.2.2.2.1
theorem dX7_init_65 : decode cX7_init 65 = .ok (.aload_n 0, 1) := qd2_116.2.2.2.2.2.2.2.1
theorem dX7_init_66 : decode cX7_init 66 = .ok (.bipush 8, 2) := qd2_116.2.2.2.2.2.2.2.2.1
theorem dX7_init_68 : decode cX7_init 68 = .ok (.newarray .int, 2) := qd2_116.2.2.2.2.2.2.2.2.2.1
theorem dX7_init_70 : decode cX7_init 70 = .ok (.putfield 34, 3) := qd2_116.2.2.2.2.2.2.2.2.2.2.1
theorem dX7_init_73 : decode cX7_init 73 = .ok (.aload_n 0, 1) := qd2_116.2.2.2.2.2.2.2.2.2.2.2
theorem qd2_117 : (decode cX7_init 74 = .ok (.bipush 20, 2)) ∧ (decode cX7_init 76 = .ok (.bipush 7, 2)) ∧ (decode cX7_init 78 = .ok (.multianewarray 37 2, 4)) ∧ (decode cX7_init 82 = .ok (.putfield 39, 3)) ∧ (decode cX7_init 85 = .ok (.aload_n 0, 1)) ∧ (decode cX7_init 86 = .ok (.bipush 12, 2)) ∧ (decode cX7_init 88 = .ok (.newarray .int, 2)) ∧ (decode cX7_init 90 = .ok (.putfield 42, 3)) ∧ (decode cX7_init 93 = .ok (.aload_n 0, 1)) ∧ (decode cX7_init 94 = .ok (.iconst 3, 1)) ∧ (decode cX7_init 95 = .ok (.newarray .int, 2)) ∧ (decode cX7_init 97 = .ok (.dup, 1)) := by decide +kernel
theorem dX7_init_74 : decode cX7_init 74 = .ok (.bipush 20, 2) := qd2_117.1
theorem dX7_init_76 : decode cX7_init 76 = .ok (.bipush 7, 2) := qd2_117.2.1
theorem dX7_init_78 : decode cX7_init 78 = .ok (.multianewarray 37 2, 4) := qd2_117.2.2.1
theorem dX7_init_82 : decode cX7_init 82 = .ok (.putfield 39, 3) := qd2_117.2.2.2.1
theorem dX7_init_85 : decode cX7_init 85 = .ok (.aload_n 0, 1) := qd2_117.2.2.2.2.1
theorem dX7_init_86 : decode cX7_init 86 = .ok (.bipush 12, 2) := qd2_117.2.2.2.2.2.1
theorem dX7_init_88 : decode cX7_init 88 = .ok (.newarray .int, 2) := qd2_117.2.2.2.2.2.2.1
theorem dX7_init_90 : decode cX7_init 90 = .ok (.putfield 42, 3) := qd2_117.2.2.2.2.2.2.2.1
theorem dX7_init_93 : decode cX7_init 93 = .ok (.aload_n 0, 1) := qd2_117.2.2.2.2.2.2.2.2.1
theorem dX7_init_94 : decode cX7_init 94 = .ok (.iconst 3, 1) := qd2_117.2.2.2.2.2.2.2.2.2.1
theorem dX7_init_95 : decode cX7_init 95 = .ok (.newarray .int, 2) := qd2_117.2.2.2.2.2.2.2.2.2.2.1
theorem dX7_init_97 : decode cX7_init 97 = .ok (.dup, 1) := qd2_117.2.2.2.2.2.2.2.2.2.2.2
theorem qd2_118 : (decode cX7_init 98 = .ok (.iconst 0, 1)) ∧ (decode cX7_init 99 = .ok (.iconst 1, 1)) ∧ (decode cX7_init 100 = .ok (.iastore, 1)) ∧ (decode cX7_init 101 = .ok (.dup, 1)) ∧ (decode cX7_init 102 = .ok (.iconst 1, 1)) ∧ (decode cX7_init 103 = .ok (.iconst 1, 1)) ∧ (decode cX7_init 104 = .ok (.iastore, 1)) ∧ (decode cX7_init 105 = .ok (.dup, 1)) ∧ (decode cX7_init 106 = .ok (.iconst 2, 1)) ∧ (decode cX7_init 107 = .ok (.iconst 1, 1)) ∧ (decode cX7_init 108 = .ok (.iastore, 1)) ∧ (decode cX7_init 109 = .ok (.putfield 45, 3)) := by decide +kernel
theorem dX7_init_98 : decode cX7_init 98 = .ok (.iconst 0, 1) := qd2_118.1
theorem dX7_init_99 : decode cX7_init 99 = .ok (.iconst 1, 1) := qd2_118.2.1
theorem dX7_init_100 : decode cX7_init 100 = .ok (.iastore, 1) := qd2_118.2.2.1
theorem dX7_init_101 : decode cX7_init 101 = .ok (.dup, 1) := qd2_118.2.2.2.1
theorem dX7_init_102 : decode cX7_init 102 = .ok (.iconst 1, 1) := qd2_118.2.2.2.2.1
theorem dX7_init_103 : decode cX7_init 103 = .ok (.iconst 1, 1) := qd2_118.2.2.2.2.2.1
theorem dX7_init_104 : decode cX7_init 104 = .ok (.iastore, 1) := qd2_118.2.2.2.2.2.2.1
theorem dX7_init_105 : decode cX7_init 105 = .ok (.dup, 1) := qd2_118.2.2.2.2.2.2.2.1
theorem dX7_init_106 : decode cX7_init 106 = .ok (.iconst 2, 1) := qd2_118.2.2.2.2.2.2.2.2.1
theorem dX7_init_107 : decode cX7_init 107 = .ok (.iconst 1, 1) := qd2_118.2.2.2.2.2.2.2.2.2.1
theorem dX7_init_108 : decode cX7_init 108 = .ok (.iastore, 1) := qd2_118.2.2.2.2.2.2.2.2.2.2.1
theorem dX7_init_109 : decode cX7_init 109 = .ok (.putfield 45, 3) := qd2_118.2.2.2.2.2.2.2.2.2.2.2
theorem qd2_119 : (decode cX7_init 112 = .ok (.aload_n 0, 1)) ∧ (decode cX7_init 113 = .ok (.bipush 8, 2)) ∧ (decode cX7_init 115 = .ok (.iconst 3, 1)) ∧ (decode cX7_init 116 = .ok (.multianewarray 37 2, 4)) ∧ (decode cX7_init 120 = .ok (.putfield 48, 3)) ∧ (decode cX7_init 123 = .ok (.aload_n 0, 1)) ∧ (decode cX7_init 124 = .ok (.bipush 7, 2)) ∧ (decode cX7_init 126 = .ok (.iconst 5, 1)) ∧ (decode cX7_init 127 = .ok (.multianewarray 37 2, 4)) ∧ (decode cX7_init 131 = .ok (.putfield 51, 3)) ∧ (decode cX7_init 134 = .ok (.aload_n 0, 1)) ∧ (decode cX7_init 135 = .ok (.bipush 10, 2)) := by decide +kernel
theorem dX7_init_112 : decode cX7_init 112 = .ok (.aload_n 0, 1) := qd2_119.1
theorem dX7_init_113 : decode cX7_init 113 = .ok (.bipush 8, 2) := qd2_119.2.1
theorem dX7_init_115 : decode cX7_init 115 = .ok (.iconst 3, 1) := qd2_119.2.2.1
theorem dX7_init_116 : decode cX7_init 116 = .ok (.multianewarray 37 2, 4) := qd2_119.2.2.2.1
theorem dX7_init_120 : decode cX7_init 120 = .ok (.putfield 48, 3) := qd2_119.2.2.2.2.1
theorem dX7_init_123 : decode cX7_init 123 = .ok (.aload_n 0, 1) := qd2_119.2.2.2.2.2.1
theorem dX7_init_124 : decode cX7_init 124 = .ok (.bipush 7, 2) := qd2_119.2.2.2.2.2.2.1
theorem dX7_init_126 : decode cX7_init 126 = .ok (.iconst 5, 1) := qd2_119.2.2.2.2.2.2.2.1
theorem dX7_init_127 : decode cX7_init 127 = .ok (.multianewarray 37 2, 4) := qd2_119.2.2.2.2.2.2.2.2.1
theorem dX7_init_131 : decode cX7_init 131 = .ok (.putfield 51, 3) := qd2_119.2.2.2.2.2.2.2.2.2.1
theorem dX7_init_134 : decode cX7_init 134 = .ok (.aload_n 0, 1) := qd2_119.2.2.2.2.2.2.2.2.2.2.1
theorem dX7_init_135 : decode cX7_init 135 = .ok (.bipush 10, 2) := qd2_119.2.2.2.2.2.2.2.2.2.2.2
theorem qd2_120 : (decode cX7_init 137 = .ok (.putfield 54, 3)) ∧ (decode cX7_init 140 = .ok (.aload_n 0, 1)) ∧ (decode cX7_init 141 = .ok (.iconst 2, 1)) ∧ (decode cX7_init 142 = .ok (.newarray .int, 2)) ∧ (decode cX7_init 144 = .ok (.putfield 58, 3)) ∧ (decode cX7_init 147 = .ok (.aload_n 0, 1)) ∧ (decode cX7_init 148 = .ok (.bipush 20, 2)) ∧ (decode cX7_init 150 = .ok (.newarray .int, 2)) ∧ (decode cX7_init 152 = .ok (.putfield 61, 3)) ∧ (decode cX7_init 155 = .ok (.aload_n 0, 1)) ∧ (decode cX7_init 156 = .ok (.bipush 36, 2)) ∧ (decode cX7_init 158 = .ok (.newarray .int, 2)) := by decide +kernel
theorem dX7_init_137 : decode cX7_init 137 = .ok (.putfield 54, 3) := qd2_120.1
theorem dX7_init_140 : decode cX7_init 140 = .ok (.aload_n 0, 1) := qd2_120.2.1
theorem dX7_init_141 : decode cX7_init 141 = .ok (.iconst 2, 1) := qd2_120.2.2.1
theorem dX7_init_142 : decode cX7_init 142 = .ok (.newarray .int, 2) := qd2_120.2.2.2.1
theorem dX7_init_144 : decode cX7_init 144 = .ok (.putfield 58, 3) := qd2_120.2.2.2.2.1
theorem dX7_init_147 : decode cX7_init 147 = .ok (.aload_n 0, 1) := qd2_120.2.2.2.2.2.1
theorem dX7_init_148 : decode cX7_init 148 = .ok (.bipush 20, 2) := qd2_120.2.2.2.2.2.2.1
theorem dX7_init_150 : decode cX7_init 150 = .ok (.newarray .int, 2) := qd2_120.2.2.2.2.2.2.2.1
theorem dX7_init_152 : decode cX7_init 152 = .ok (.putfield 61, 3) := qd2_120.2.2.2.2.2.2.2.2.1
theorem dX7_init_155 : decode cX7_init 155 = .ok (.aload_n 0, 1) := qd2_120.2.2.2.2.2.2.2.2.2.1
theorem dX7_init_156 : decode cX7_init 156 = .ok (.bipush 36, 2) := qd2_120.2.2.2.2.2.2.2.2.2.2.1
theorem dX7_init_158 : decode cX7_init 158 = .ok (.newarray .int, 2) := qd2_120.2.2.2.2.2.2.2.2.2.2.2
theorem qd2_121 : (decode cX7_init 160 = .ok (.putfield 64, 3)) ∧ (decode cX7_init 163 = .ok (.aload_n 0, 1)) ∧ (decode cX7_init 164 = .ok (.bipush 37, 2)) ∧ (decode cX7_init 166 = .ok (.newarray .int, 2)) ∧ (decode cX7_init 168 = .ok (.putfield 67, 3)) ∧ (decode cX7_init 171 = .ok (.aload_n 0, 1)) ∧ (decode cX7_init 172 = .ok (.bipush 36, 2)) ∧ (decode cX7_init 174 = .ok (.newarray .int, 2)) ∧ (decode cX7_init 176 = .ok (.putfield 70, 3)) ∧ (decode cX7_init 179 = .ok (.aload_n 0, 1)) ∧ (decode cX7_init 180 = .ok (.sipush 128, 3)) ∧ (decode cX7_init 183 = .ok (.newarray .int, 2)) := by decide +kernel
theorem dX7_init_160 : decode cX7_init 160 = .ok (.putfield 64, 3) := qd2_121.1
theorem dX7_init_163 : decode cX7_init 163 = .ok (.aload_n 0, 1) := qd2_121.2.1
theorem dX7_init_164 : decode cX7_init 164 = .ok (.bipush 37, 2) := qd2_121.2.2.1
theorem dX7_init_166 : decode cX7_init 166 = .ok (.newarray .int, 2) := qd2_121.2.2.2.1
theorem dX7_init_168 : decode cX7_init 168 = .ok (.putfield 67, 3) := qd2_121.2.2.2.2.1
theorem dX7_init_171 : decode cX7_init 171 = .ok (.aload_n 0, 1) := qd2_121.2.2.2.2.2.1
theorem dX7_init_172 : decode cX7_init 172 = .ok (.bipush 36, 2) := qd2_121.2.2.2.2.2.2.1
theorem dX7_init_174 : decode cX7_init 174 = .ok (.newarray .int, 2) := qd2_121.2.2.2.2.2.2.2.1
theorem dX7_init_176 : decode cX7_init 176 = .ok (.putfield 70, 3) := qd2_121.2.2.2.2.2.2.2.2.1
theorem dX7_init_179 : decode cX7_init 179 = .ok (.aload_n 0, 1) := qd2_121.2.2.2.2.2.2.2.2.2.1
theorem dX7_init_180 : decode cX7_init 180 = .ok (.sipush 128, 3) := qd2_121.2.2.2.2.2.2.2.2.2.2.1
theorem dX7_init_183 : decode cX7_init 183 = .ok (.newarray .int, 2) := qd2_121.2.2.2.2.2.2.2.2.2.2.2
theorem qd2_122 : (decode cX7_init 185 = .ok (.putfield 73, 3)) ∧ (decode cX7_init 188 = .ok (.iconst 0, 1)) ∧ (decode cX7_init 189 = .ok (.istore_n 1, 1)) ∧ (decode cX7_init 190 = .ok (.iload_n 1, 1)) ∧ (decode cX7_init 191 = .ok (.bipush 12, 2)) ∧ (decode cX7_init 193 = .ok (.if_icmp .ge 17, 3)) ∧ (decode cX7_init 196 = .ok (.aload_n 0, 1)) ∧ (decode cX7_init 197 = .ok (.getfield 42, 3)) ∧ (decode cX7_init 200 = .ok (.iload_n 1, 1)) ∧ (decode cX7_init 201 = .ok (.bipush 9, 2)) ∧ (decode cX7_init 203 = .ok (.iastore, 1)) ∧ (decode cX7_init 204 = .ok (.iinc 1 1, 3)) := by decide +kernel
theorem dX7_init_185 : decode cX7_init 185 = .ok (.putfield 73, 3) := qd2_122.1
theorem dX7_init_188 : decode cX7_init 188 = .ok (.iconst 0, 1) := qd2_122.2.1
theorem dX7_init_189 : decode cX7_init 189 = .ok (.istore_n 1, 1) := qd2_122.2.2.1
theorem dX7_init_190 : decode cX7_init 190 = .ok (.iload_n 1, 1) := qd2_122.2.2.2.1
theorem dX7_init_191 : decode cX7_init 191 = .ok (.bipush 12, 2) := qd2_122.2.2.2.2.1
theorem dX7_init_193 : decode cX7_init 193 = .ok (.if_icmp .ge 17, 3) := qd2_122.2.2.2.2.2.1
theorem dX7_init_196 : decode cX7_init 196 = .ok (.aload_n 0, 1) := qd2_122.2.2.2.2.2.2.1
theorem dX7_init_197 : decode cX7_init 197 = .ok (.getfield 42, 3) := qd2_122.2.2.2.2.2.2.2.1
theorem dX7_init_200 : decode cX7_init 200 = .ok (.iload_n 1, 1) := qd2_122.2.2.2.2.2.2.2.2.1
theorem dX7_init_201 : decode cX7_init 201 = .ok (.bipush 9, 2) := qd2_122.2.2.2.2.2.2.2.2.2.1
theorem dX7_init_203 : decode cX7_init 203 = .ok (.iastore, 1) := qd2_122.2.2.2.2.2.2.2.2.2.2.1
theorem dX7_init_204 : decode cX7_init 204 = .ok (.iinc 1 1, 3) := qd2_122.2.2.2.2.2.2.2.2.2.2.2
theorem qd2_123 : (decode cX7_init 207 = .ok (.goto (-17), 3)) ∧ (decode cX7_init 210 = .ok (.return_, 1)) := by decide +kernel
theorem dX7_init_207 : decode cX7_init 207 = .ok (.goto (-17), 3) := qd2_123.1
theorem dX7_init_210 : decode cX7_init 210 = .ok (.return_, 1) := qd2_123.2
theorem qd2_124 : (decode cX7_refuse 0 = .ok (.aload_n 0, 1)) ∧ (decode cX7_refuse 1 = .ok (.getfield 34, 3)) ∧ (decode cX7_refuse 4 = .ok (.iload_n 1, 1)) ∧ (decode cX7_refuse 5 = .ok (.ineg, 1)) ∧ (decode cX7_refuse 6 = .ok (.dup2, 1)) ∧ (decode cX7_refuse 7 = .ok (.iaload, 1)) ∧ (decode cX7_refuse 8 = .ok (.iconst 1, 1)) ∧ (decode cX7_refuse 9 = .ok (.iadd, 1)) ∧ (decode cX7_refuse 10 = .ok (.iastore, 1)) ∧ (decode cX7_refuse 11 = .ok (.iload_n 1, 1)) ∧ (decode cX7_refuse 12 = .ok (.ireturn, 1)) := by decide +kernel
theorem dX7_refuse_0 : decode cX7_refuse 0 = .ok (.aload_n 0, 1) := qd2_124.1
theorem dX7_refuse_1 : decode cX7_refuse 1 = .ok (.getfield 34, 3) := qd2_124.2.1
theorem dX7_refuse_4 : decode cX7_refuse 4 = .ok (.iload_n 1, 1) := qd2_124.2.2.1
theorem dX7_refuse_5 : decode cX7_refuse 5 = .ok (.ineg, 1) := qd2_124.2.2.2.1
theorem dX7_refuse_6 : decode cX7_refuse 6 = .ok (.dup2, 1) := qd2_124.2.2.2.2.1
theorem dX7_refuse_7 : decode cX7_refuse 7 = .ok (.iaload, 1) := qd2_124.2.2.2.2.2.1
theorem dX7_refuse_8 : decode cX7_refuse 8 = .ok (.iconst 1, 1) := qd2_124.2.2.2.2.2.2.1
theorem dX7_refuse_9 : decode cX7_refuse 9 = .ok (.iadd, 1) := qd2_124.2.2.2.2.2.2.2.1
theorem dX7_refuse_10 : decode cX7_refuse 10 = .ok (.iastore, 1) := qd2_124.2.2.2.2.2.2.2.2.1
theorem dX7_refuse_11 : decode cX7_refuse 11 = .ok (.iload_n 1, 1) := qd2_124.2.2.2.2.2.2.2.2.2.1
theorem dX7_refuse_12 : decode cX7_refuse 12 = .ok (.ireturn, 1) := qd2_124.2.2.2.2.2.2.2.2.2.2
theorem qd2_125 : (decode cX7_in 0 = .ok (.lload_n 0, 1)) ∧ (decode cX7_in 1 = .ok (.lload_n 2, 1)) ∧ (decode cX7_in 2 = .ok (.lcmp, 1)) ∧ (decode cX7_in 3 = .ok (.ifCond .lt 14, 3)) ∧ (decode cX7_in 6 = .ok (.lload_n 0, 1)) ∧ (decode cX7_in 7 = .ok (.lload 4, 2)) ∧ (decode cX7_in 9 = .ok (.lcmp, 1)) ∧ (decode cX7_in 10 = .ok (.ifCond .gt 7, 3)) ∧ (decode cX7_in 13 = .ok (.iconst 1, 1)) ∧ (decode cX7_in 14 = .ok (.goto 4, 3)) ∧ (decode cX7_in 17 = .ok (.iconst 0, 1)) ∧ (decode cX7_in 18 = .ok (.ireturn, 1)) := by decide +kernel
theorem dX7_in_0 : decode cX7_in 0 = .ok (.lload_n 0, 1) := qd2_125.1
theorem dX7_in_1 : decode cX7_in 1 = .ok (.lload_n 2, 1) := qd2_125.2.1
theorem dX7_in_2 : decode cX7_in 2 = .ok (.lcmp, 1) := qd2_125.2.2.1
theorem dX7_in_3 : decode cX7_in 3 = .ok (.ifCond .lt 14, 3) := qd2_125.2.2.2.1
theorem dX7_in_6 : decode cX7_in 6 = .ok (.lload_n 0, 1) := qd2_125.2.2.2.2.1
theorem dX7_in_7 : decode cX7_in 7 = .ok (.lload 4, 2) := qd2_125.2.2.2.2.2.1
theorem dX7_in_9 : decode cX7_in 9 = .ok (.lcmp, 1) := qd2_125.2.2.2.2.2.2.1
theorem dX7_in_10 : decode cX7_in 10 = .ok (.ifCond .gt 7, 3) := qd2_125.2.2.2.2.2.2.2.1
theorem dX7_in_13 : decode cX7_in 13 = .ok (.iconst 1, 1) := qd2_125.2.2.2.2.2.2.2.2.1
theorem dX7_in_14 : decode cX7_in 14 = .ok (.goto 4, 3) := qd2_125.2.2.2.2.2.2.2.2.2.1
theorem dX7_in_17 : decode cX7_in 17 = .ok (.iconst 0, 1) := qd2_125.2.2.2.2.2.2.2.2.2.2.1
theorem dX7_in_18 : decode cX7_in 18 = .ok (.ireturn, 1) := qd2_125.2.2.2.2.2.2.2.2.2.2.2
theorem qd2_126 : (decode cX7_isPlace 0 = .ok (.iload_n 0, 1)) ∧ (decode cX7_isPlace 1 = .ok (.i2l, 1)) ∧ (decode cX7_isPlace 2 = .ok (.lconst 0, 1)) ∧ (decode cX7_isPlace 3 = .ok (.ldc2_w 76, 3)) ∧ (decode cX7_isPlace 6 = .ok (.invokestatic 78, 3)) ∧ (decode cX7_isPlace 9 = .ok (.ireturn, 1)) := by decide +kernel
theorem dX7_isPlace_0 : decode cX7_isPlace 0 = .ok (.iload_n 0, 1) := qd2_126.1
theorem dX7_isPlace_1 : decode cX7_isPlace 1 = .ok (.i2l, 1) := qd2_126.2.1
theorem dX7_isPlace_2 : decode cX7_isPlace 2 = .ok (.lconst 0, 1) := qd2_126.2.2.1
theorem dX7_isPlace_3 : decode cX7_isPlace 3 = .ok (.ldc2_w 76, 3) := qd2_126.2.2.2.1
theorem dX7_isPlace_6 : decode cX7_isPlace 6 = .ok (.invokestatic 78, 3) := qd2_126.2.2.2.2.1
theorem dX7_isPlace_9 : decode cX7_isPlace 9 = .ok (.ireturn, 1) := qd2_126.2.2.2.2.2
theorem qd2_127 : (decode cX7_isLine 0 = .ok (.iload_n 1, 1)) ∧ (decode cX7_isLine 1 = .ok (.i2l, 1)) ∧ (decode cX7_isLine 2 = .ok (.lconst 0, 1)) ∧ (decode cX7_isLine 3 = .ok (.aload_n 0, 1)) ∧ (decode cX7_isLine 4 = .ok (.getfield 82, 3)) ∧ (decode cX7_isLine 7 = .ok (.iconst 1, 1)) ∧ (decode cX7_isLine 8 = .ok (.isub, 1)) ∧ (decode cX7_isLine 9 = .ok (.i2l, 1)) ∧ (decode cX7_isLine 10 = .ok (.invokestatic 78, 3)) ∧ (decode cX7_isLine 13 = .ok (.ireturn, 1)) := by decide +kernel
theorem dX7_isLine_0 : decode cX7_isLine 0 = .ok (.iload_n 1, 1) := qd2_127.1
theorem dX7_isLine_1 : decode cX7_isLine 1 = .ok (.i2l, 1) := qd2_127.2.1
theorem dX7_isLine_2 : decode cX7_isLine 2 = .ok (.lconst 0, 1) := qd2_127.2.2.1
theorem dX7_isLine_3 : decode cX7_isLine 3 = .ok (.aload_n 0, 1) := qd2_127.2.2.2.1
theorem dX7_isLine_4 : decode cX7_isLine 4 = .ok (.getfield 82, 3) := qd2_127.2.2.2.2.1
theorem dX7_isLine_7 : decode cX7_isLine 7 = .ok (.iconst 1, 1) := qd2_127.2.2.2.2.2.1
theorem dX7_isLine_8 : decode cX7_isLine 8 = .ok (.isub, 1) := qd2_127.2.2.2.2.2.2.1
theorem dX7_isLine_9 : decode cX7_isLine 9 = .ok (.i2l, 1) := qd2_127.2.2.2.2.2.2.2.1
theorem dX7_isLine_10 : decode cX7_isLine 10 = .ok (.invokestatic 78, 3) := qd2_127.2.2.2.2.2.2.2.2.1
theorem dX7_isLine_13 : decode cX7_isLine 13 = .ok (.ireturn, 1) := qd2_127.2.2.2.2.2.2.2.2.2
theorem qd2_128 : (decode cX7_isWork 0 = .ok (.iload_n 1, 1)) ∧ (decode cX7_isWork 1 = .ok (.i2l, 1)) ∧ (decode cX7_isWork 2 = .ok (.lconst 0, 1)) ∧ (decode cX7_isWork 3 = .ok (.aload_n 0, 1)) ∧ (decode cX7_isWork 4 = .ok (.getfield 85, 3)) ∧ (decode cX7_isWork 7 = .ok (.iconst 1, 1)) ∧ (decode cX7_isWork 8 = .ok (.isub, 1)) ∧ (decode cX7_isWork 9 = .ok (.i2l, 1)) ∧ (decode cX7_isWork 10 = .ok (.invokestatic 78, 3)) ∧ (decode cX7_isWork 13 = .ok (.ireturn, 1)) := by decide +kernel
theorem dX7_isWork_0 : decode cX7_isWork 0 = .ok (.iload_n 1, 1) := qd2_128.1
theorem dX7_isWork_1 : decode cX7_isWork 1 = .ok (.i2l, 1) := qd2_128.2.1
theorem dX7_isWork_2 : decode cX7_isWork 2 = .ok (.lconst 0, 1) := qd2_128.2.2.1
theorem dX7_isWork_3 : decode cX7_isWork 3 = .ok (.aload_n 0, 1) := qd2_128.2.2.2.1
theorem dX7_isWork_4 : decode cX7_isWork 4 = .ok (.getfield 85, 3) := qd2_128.2.2.2.2.1
theorem dX7_isWork_7 : decode cX7_isWork 7 = .ok (.iconst 1, 1) := qd2_128.2.2.2.2.2.1
theorem dX7_isWork_8 : decode cX7_isWork 8 = .ok (.isub, 1) := qd2_128.2.2.2.2.2.2.1
theorem dX7_isWork_9 : decode cX7_isWork 9 = .ok (.i2l, 1) := qd2_128.2.2.2.2.2.2.2.1
theorem dX7_isWork_10 : decode cX7_isWork 10 = .ok (.invokestatic 78, 3) := qd2_128.2.2.2.2.2.2.2.2.1
theorem dX7_isWork_13 : decode cX7_isWork 13 = .ok (.ireturn, 1) := qd2_128.2.2.2.2.2.2.2.2.2
theorem qd2_129 : (decode cX7_row 0 = .ok (.iload_n 1, 1)) ∧ (decode cX7_row 1 = .ok (.i2l, 1)) ∧ (decode cX7_row 2 = .ok (.lconst 0, 1)) ∧ (decode cX7_row 3 = .ok (.ldc2_w 88, 3)) ∧ (decode cX7_row 6 = .ok (.invokestatic 78, 3)) ∧ (decode cX7_row 9 = .ok (.ifCond .eq 27, 3)) ∧ (decode cX7_row 12 = .ok (.iload_n 2, 1)) ∧ (decode cX7_row 13 = .ok (.i2l, 1)) ∧ (decode cX7_row 14 = .ok (.lconst 0, 1)) ∧ (decode cX7_row 15 = .ok (.ldc2_w 90, 3)) ∧ (decode cX7_row 18 = .ok (.invokestatic 78, 3)) ∧ (decode cX7_row 21 = .ok (.ifCond .eq 15, 3)) := by decide +kernel
theorem dX7_row_0 : decode cX7_row 0 = .ok (.iload_n 1, 1) := qd2_129.1
theorem dX7_row_1 : decode cX7_row 1 = .ok (.i2l, 1) := qd2_129.2.1
theorem dX7_row_2 : decode cX7_row 2 = .ok (.lconst 0, 1) := qd2_129.2.2.1
theorem dX7_row_3 : decode cX7_row 3 = .ok (.ldc2_w 88, 3) := qd2_129.2.2.2.1
theorem dX7_row_6 : decode cX7_row 6 = .ok (.invokestatic 78, 3) := qd2_129.2.2.2.2.1
theorem dX7_row_9 : decode cX7_row 9 = .ok (.ifCond .eq 27, 3) := qd2_129.2.2.2.2.2.1
theorem dX7_row_12 : decode cX7_row 12 = .ok (.iload_n 2, 1) := qd2_129.2.2.2.2.2.2.1
theorem dX7_row_13 : decode cX7_row 13 = .ok (.i2l, 1) := qd2_129.2.2.2.2.2.2.2.1
theorem dX7_row_14 : decode cX7_row 14 = .ok (.lconst 0, 1) := qd2_129.2.2.2.2.2.2.2.2.1
theorem dX7_row_15 : decode cX7_row 15 = .ok (.ldc2_w 90, 3) := qd2_129.2.2.2.2.2.2.2.2.2.1
theorem dX7_row_18 : decode cX7_row 18 = .ok (.invokestatic 78, 3) := qd2_129.2.2.2.2.2.2.2.2.2.2.1
theorem dX7_row_21 : decode cX7_row 21 = .ok (.ifCond .eq 15, 3) := qd2_129.2.2.2.2.2.2.2.2.2.2.2
theorem qd2_130 : (decode cX7_row 24 = .ok (.iload_n 3, 1)) ∧ (decode cX7_row 25 = .ok (.i2l, 1)) ∧ (decode cX7_row 26 = .ok (.lconst 0, 1)) ∧ (decode cX7_row 27 = .ok (.ldc2_w 92, 3)) ∧ (decode cX7_row 30 = .ok (.invokestatic 78, 3)) ∧ (decode cX7_row 33 = .ok (.ifCond .ne 10, 3)) ∧ (decode cX7_row 36 = .ok (.aload_n 0, 1)) ∧ (decode cX7_row 37 = .ok (.bipush (-2), 2)) ∧ (decode cX7_row 39 = .ok (.invokevirtual 94, 3)) ∧ (decode cX7_row 42 = .ok (.ireturn, 1)) ∧ (decode cX7_row 43 = .ok (.aload_n 0, 1)) ∧ (decode cX7_row 44 = .ok (.getfield 7, 3)) := by decide +kernel
theorem dX7_row_24 : decode cX7_row 24 = .ok (.iload_n 3, 1) := qd2_130.1
theorem dX7_row_25 : decode cX7_row 25 = .ok (.i2l, 1) := qd2_130.2.1
theorem dX7_row_26 : decode cX7_row 26 = .ok (.lconst 0, 1) := qd2_130.2.2.1
theorem dX7_row_27 : decode cX7_row 27 = .ok (.ldc2_w 92, 3) := qd2_130.2.2.2.1
theorem dX7_row_30 : decode cX7_row 30 = .ok (.invokestatic 78, 3) := qd2_130.2.2.2.2.1
theorem dX7_row_33 : decode cX7_row 33 = .ok (.ifCond .ne 10, 3) := qd2_130.2.2.2.2.2.1
theorem dX7_row_36 : decode cX7_row 36 = .ok (.aload_n 0, 1) := qd2_130.2.2.2.2.2.2.1
theorem dX7_row_37 : decode cX7_row 37 = .ok (.bipush (-2), 2) := qd2_130.2.2.2.2.2.2.2.1
theorem dX7_row_39 : decode cX7_row 39 = .ok (.invokevirtual 94, 3) := qd2_130.2.2.2.2.2.2.2.2.1
theorem dX7_row_42 : decode cX7_row 42 = .ok (.ireturn, 1) := qd2_130.2.2.2.2.2.2.2.2.2.1
theorem dX7_row_43 : decode cX7_row 43 = .ok (.aload_n 0, 1) := qd2_130.2.2.2.2.2.2.2.2.2.2.1
theorem dX7_row_44 : decode cX7_row 44 = .ok (.getfield 7, 3) := qd2_130.2.2.2.2.2.2.2.2.2.2.2
theorem qd2_131 : (decode cX7_row 47 = .ok (.iload_n 1, 1)) ∧ (decode cX7_row 48 = .ok (.iconst 1, 1)) ∧ (decode cX7_row 49 = .ok (.iastore, 1)) ∧ (decode cX7_row 50 = .ok (.aload_n 0, 1)) ∧ (decode cX7_row 51 = .ok (.getfield 13, 3)) ∧ (decode cX7_row 54 = .ok (.iload_n 1, 1)) ∧ (decode cX7_row 55 = .ok (.iload_n 2, 1)) ∧ (decode cX7_row 56 = .ok (.iastore, 1)) ∧ (decode cX7_row 57 = .ok (.aload_n 0, 1)) ∧ (decode cX7_row 58 = .ok (.getfield 16, 3)) ∧ (decode cX7_row 61 = .ok (.iload_n 1, 1)) ∧ (decode cX7_row 62 = .ok (.iload_n 3, 1)) := by decide +kernel
theorem dX7_row_47 : decode cX7_row 47 = .ok (.iload_n 1, 1) := qd2_131.1
theorem dX7_row_48 : decode cX7_row 48 = .ok (.iconst 1, 1) := qd2_131.2.1
theorem dX7_row_49 : decode cX7_row 49 = .ok (.iastore, 1) := qd2_131.2.2.1
theorem dX7_row_50 : decode cX7_row 50 = .ok (.aload_n 0, 1) := qd2_131.2.2.2.1
theorem dX7_row_51 : decode cX7_row 51 = .ok (.getfield 13, 3) := qd2_131.2.2.2.2.1
theorem dX7_row_54 : decode cX7_row 54 = .ok (.iload_n 1, 1) := qd2_131.2.2.2.2.2.1
theorem dX7_row_55 : decode cX7_row 55 = .ok (.iload_n 2, 1) := qd2_131.2.2.2.2.2.2.1
theorem dX7_row_56 : decode cX7_row 56 = .ok (.iastore, 1) := qd2_131.2.2.2.2.2.2.2.1
theorem dX7_row_57 : decode cX7_row 57 = .ok (.aload_n 0, 1) := qd2_131.2.2.2.2.2.2.2.2.1
theorem dX7_row_58 : decode cX7_row 58 = .ok (.getfield 16, 3) := qd2_131.2.2.2.2.2.2.2.2.2.1
theorem dX7_row_61 : decode cX7_row 61 = .ok (.iload_n 1, 1) := qd2_131.2.2.2.2.2.2.2.2.2.2.1
theorem dX7_row_62 : decode cX7_row 62 = .ok (.iload_n 3, 1) := qd2_131.2.2.2.2.2.2.2.2.2.2.2
theorem qd2_132 : (decode cX7_row 63 = .ok (.iastore, 1)) ∧ (decode cX7_row 64 = .ok (.iconst 0, 1)) ∧ (decode cX7_row 65 = .ok (.istore 4, 2)) ∧ (decode cX7_row 67 = .ok (.iload 4, 2)) ∧ (decode cX7_row 69 = .ok (.bipush 40, 2)) ∧ (decode cX7_row 71 = .ok (.if_icmp .ge 19, 3)) ∧ (decode cX7_row 74 = .ok (.aload_n 0, 1)) ∧ (decode cX7_row 75 = .ok (.getfield 21, 3)) ∧ (decode cX7_row 78 = .ok (.iload_n 1, 1)) ∧ (decode cX7_row 79 = .ok (.aaload, 1)) ∧ (decode cX7_row 80 = .ok (.iload 4, 2)) ∧ (decode cX7_row 82 = .ok (.lconst 0, 1)) := by decide +kernel
theorem dX7_row_63 : decode cX7_row 63 = .ok (.iastore, 1) := qd2_132.1
theorem dX7_row_64 : decode cX7_row 64 = .ok (.iconst 0, 1) := qd2_132.2.1
theorem dX7_row_65 : decode cX7_row 65 = .ok (.istore 4, 2) := qd2_132.2.2.1
theorem dX7_row_67 : decode cX7_row 67 = .ok (.iload 4, 2) := qd2_132.2.2.2.1
theorem dX7_row_69 : decode cX7_row 69 = .ok (.bipush 40, 2) := qd2_132.2.2.2.2.1
theorem dX7_row_71 : decode cX7_row 71 = .ok (.if_icmp .ge 19, 3) := qd2_132.2.2.2.2.2.1
theorem dX7_row_74 : decode cX7_row 74 = .ok (.aload_n 0, 1) := qd2_132.2.2.2.2.2.2.1
theorem dX7_row_75 : decode cX7_row 75 = .ok (.getfield 21, 3) := qd2_132.2.2.2.2.2.2.2.1
theorem dX7_row_78 : decode cX7_row 78 = .ok (.iload_n 1, 1) := qd2_132.2.2.2.2.2.2.2.2.1
theorem dX7_row_79 : decode cX7_row 79 = .ok (.aaload, 1) := qd2_132.2.2.2.2.2.2.2.2.2.1
theorem dX7_row_80 : decode cX7_row 80 = .ok (.iload 4, 2) := qd2_132.2.2.2.2.2.2.2.2.2.2.1
theorem dX7_row_82 : decode cX7_row 82 = .ok (.lconst 0, 1) := qd2_132.2.2.2.2.2.2.2.2.2.2.2
theorem qd2_133 : (decode cX7_row 83 = .ok (.lastore, 1)) ∧ (decode cX7_row 84 = .ok (.iinc 4 1, 3)) ∧ (decode cX7_row 87 = .ok (.goto (-20), 3)) ∧ (decode cX7_row 90 = .ok (.iconst 1, 1)) ∧ (decode cX7_row 91 = .ok (.ireturn, 1)) := by decide +kernel
theorem dX7_row_83 : decode cX7_row 83 = .ok (.lastore, 1) := qd2_133.1
theorem dX7_row_84 : decode cX7_row 84 = .ok (.iinc 4 1, 3) := qd2_133.2.1
theorem dX7_row_87 : decode cX7_row 87 = .ok (.goto (-20), 3) := qd2_133.2.2.1
theorem dX7_row_90 : decode cX7_row 90 = .ok (.iconst 1, 1) := qd2_133.2.2.2.1
theorem dX7_row_91 : decode cX7_row 91 = .ok (.ireturn, 1) := qd2_133.2.2.2.2
theorem qd2_134 : (decode cX7_fit 0 = .ok (.iload_n 0, 1)) ∧ (decode cX7_fit 1 = .ok (.tableswitch 47 0 3 #[31, 36, 41, 45], 31)) ∧ (decode cX7_fit 32 = .ok (.lload_n 1, 1)) ∧ (decode cX7_fit 33 = .ok (.l2i, 1)) ∧ (decode cX7_fit 34 = .ok (.i2b, 1)) ∧ (decode cX7_fit 35 = .ok (.i2l, 1)) ∧ (decode cX7_fit 36 = .ok (.lreturn, 1)) ∧ (decode cX7_fit 37 = .ok (.lload_n 1, 1)) ∧ (decode cX7_fit 38 = .ok (.l2i, 1)) ∧ (decode cX7_fit 39 = .ok (.i2s, 1)) ∧ (decode cX7_fit 40 = .ok (.i2l, 1)) ∧ (decode cX7_fit 41 = .ok (.lreturn, 1)) := by decide +kernel
theorem dX7_fit_0 : decode cX7_fit 0 = .ok (.iload_n 0, 1) := qd2_134.1
theorem dX7_fit_1 : decode cX7_fit 1 = .ok (.tableswitch 47 0 3 #[31, 36, 41, 45], 31) := qd2_134.2.1
theorem dX7_fit_32 : decode cX7_fit 32 = .ok (.lload_n 1, 1) := qd2_134.2.2.1
theorem dX7_fit_33 : decode cX7_fit 33 = .ok (.l2i, 1) := qd2_134.2.2.2.1
theorem dX7_fit_34 : decode cX7_fit 34 = .ok (.i2b, 1) := qd2_134.2.2.2.2.1
theorem dX7_fit_35 : decode cX7_fit 35 = .ok (.i2l, 1) := qd2_134.2.2.2.2.2.1
theorem dX7_fit_36 : decode cX7_fit 36 = .ok (.lreturn, 1) := qd2_134.2.2.2.2.2.2.1
theorem dX7_fit_37 : decode cX7_fit 37 = .ok (.lload_n 1, 1) := qd2_134.2.2.2.2.2.2.2.1
theorem dX7_fit_38 : decode cX7_fit 38 = .ok (.l2i, 1) := qd2_134.2.2.2.2.2.2.2.2.1
theorem dX7_fit_39 : decode cX7_fit 39 = .ok (.i2s, 1) := qd2_134.2.2.2.2.2.2.2.2.2.1
theorem dX7_fit_40 : decode cX7_fit 40 = .ok (.i2l, 1) := qd2_134.2.2.2.2.2.2.2.2.2.2.1
theorem dX7_fit_41 : decode cX7_fit 41 = .ok (.lreturn, 1) := qd2_134.2.2.2.2.2.2.2.2.2.2.2
theorem qd2_135 : (decode cX7_fit 42 = .ok (.lload_n 1, 1)) ∧ (decode cX7_fit 43 = .ok (.l2i, 1)) ∧ (decode cX7_fit 44 = .ok (.i2l, 1)) ∧ (decode cX7_fit 45 = .ok (.lreturn, 1)) ∧ (decode cX7_fit 46 = .ok (.lload_n 1, 1)) ∧ (decode cX7_fit 47 = .ok (.lreturn, 1)) ∧ (decode cX7_fit 48 = .ok (.lload_n 1, 1)) ∧ (decode cX7_fit 49 = .ok (.lconst 0, 1)) ∧ (decode cX7_fit 50 = .ok (.lcmp, 1)) ∧ (decode cX7_fit 51 = .ok (.ifCond .eq 7, 3)) ∧ (decode cX7_fit 54 = .ok (.lconst 1, 1)) ∧ (decode cX7_fit 55 = .ok (.goto 4, 3)) := by decide +kernel
theorem dX7_fit_42 : decode cX7_fit 42 = .ok (.lload_n 1, 1) := qd2_135.1
theorem dX7_fit_43 : decode cX7_fit 43 = .ok (.l2i, 1) := qd2_135.2.1
theorem dX7_fit_44 : decode cX7_fit 44 = .ok (.i2l, 1) := qd2_135.2.2.1
theorem dX7_fit_45 : decode cX7_fit 45 = .ok (.lreturn, 1) := qd2_135.2.2.2.1
theorem dX7_fit_46 : decode cX7_fit 46 = .ok (.lload_n 1, 1) := qd2_135.2.2.2.2.1
theorem dX7_fit_47 : decode cX7_fit 47 = .ok (.lreturn, 1) := qd2_135.2.2.2.2.2.1
theorem dX7_fit_48 : decode cX7_fit 48 = .ok (.lload_n 1, 1) := qd2_135.2.2.2.2.2.2.1
theorem dX7_fit_49 : decode cX7_fit 49 = .ok (.lconst 0, 1) := qd2_135.2.2.2.2.2.2.2.1
theorem dX7_fit_50 : decode cX7_fit 50 = .ok (.lcmp, 1) := qd2_135.2.2.2.2.2.2.2.2.1
theorem dX7_fit_51 : decode cX7_fit 51 = .ok (.ifCond .eq 7, 3) := qd2_135.2.2.2.2.2.2.2.2.2.1
theorem dX7_fit_54 : decode cX7_fit 54 = .ok (.lconst 1, 1) := qd2_135.2.2.2.2.2.2.2.2.2.2.1
theorem dX7_fit_55 : decode cX7_fit 55 = .ok (.goto 4, 3) := qd2_135.2.2.2.2.2.2.2.2.2.2.2
theorem qd2_136 : (decode cX7_fit 58 = .ok (.lconst 0, 1)) ∧ (decode cX7_fit 59 = .ok (.lreturn, 1)) := by decide +kernel
theorem dX7_fit_58 : decode cX7_fit 58 = .ok (.lconst 0, 1) := qd2_136.1
theorem dX7_fit_59 : decode cX7_fit 59 = .ok (.lreturn, 1) := qd2_136.2
theorem qd2_137 : (decode cX7_set 0 = .ok (.iload_n 1, 1)) ∧ (decode cX7_set 1 = .ok (.i2l, 1)) ∧ (decode cX7_set 2 = .ok (.lconst 0, 1)) ∧ (decode cX7_set 3 = .ok (.ldc2_w 88, 3)) ∧ (decode cX7_set 6 = .ok (.invokestatic 78, 3)) ∧ (decode cX7_set 9 = .ok (.ifCond .ne 10, 3)) ∧ (decode cX7_set 12 = .ok (.aload_n 0, 1)) ∧ (decode cX7_set 13 = .ok (.bipush (-2), 2)) ∧ (decode cX7_set 15 = .ok (.invokevirtual 94, 3)) ∧ (decode cX7_set 18 = .ok (.ireturn, 1)) ∧ (decode cX7_set 19 = .ok (.aload_n 0, 1)) ∧ (decode cX7_set 20 = .ok (.getfield 7, 3)) := by decide +kernel
theorem dX7_set_0 : decode cX7_set 0 = .ok (.iload_n 1, 1) := qd2_137.1
theorem dX7_set_1 : decode cX7_set 1 = .ok (.i2l, 1) := qd2_137.2.1
theorem dX7_set_2 : decode cX7_set 2 = .ok (.lconst 0, 1) := qd2_137.2.2.1
theorem dX7_set_3 : decode cX7_set 3 = .ok (.ldc2_w 88, 3) := qd2_137.2.2.2.1
theorem dX7_set_6 : decode cX7_set 6 = .ok (.invokestatic 78, 3) := qd2_137.2.2.2.2.1
theorem dX7_set_9 : decode cX7_set 9 = .ok (.ifCond .ne 10, 3) := qd2_137.2.2.2.2.2.1
theorem dX7_set_12 : decode cX7_set 12 = .ok (.aload_n 0, 1) := qd2_137.2.2.2.2.2.2.1
theorem dX7_set_13 : decode cX7_set 13 = .ok (.bipush (-2), 2) := qd2_137.2.2.2.2.2.2.2.1
theorem dX7_set_15 : decode cX7_set 15 = .ok (.invokevirtual 94, 3) := qd2_137.2.2.2.2.2.2.2.2.1
theorem dX7_set_18 : decode cX7_set 18 = .ok (.ireturn, 1) := qd2_137.2.2.2.2.2.2.2.2.2.1
theorem dX7_set_19 : decode cX7_set 19 = .ok (.aload_n 0, 1) := qd2_137.2.2.2.2.2.2.2.2.2.2.1
theorem dX7_set_20 : decode cX7_set 20 = .ok (.getfield 7, 3) := qd2_137.2.2.2.2.2.2.2.2.2.2.2
theorem qd2_138 : (decode cX7_set 23 = .ok (.iload_n 1, 1)) ∧ (decode cX7_set 24 = .ok (.iaload, 1)) ∧ (decode cX7_set 25 = .ok (.iconst 2, 1)) ∧ (decode cX7_set 26 = .ok (.if_icmp .ne 10, 3)) ∧ (decode cX7_set 29 = .ok (.aload_n 0, 1)) ∧ (decode cX7_set 30 = .ok (.bipush (-3), 2)) ∧ (decode cX7_set 32 = .ok (.invokevirtual 94, 3)) ∧ (decode cX7_set 35 = .ok (.ireturn, 1)) ∧ (decode cX7_set 36 = .ok (.aload_n 0, 1)) ∧ (decode cX7_set 37 = .ok (.getfield 7, 3)) ∧ (decode cX7_set 40 = .ok (.iload_n 1, 1)) ∧ (decode cX7_set 41 = .ok (.iaload, 1)) := by decide +kernel
theorem dX7_set_23 : decode cX7_set 23 = .ok (.iload_n 1, 1) := qd2_138.1
theorem dX7_set_24 : decode cX7_set 24 = .ok (.iaload, 1) := qd2_138.2.1
theorem dX7_set_25 : decode cX7_set 25 = .ok (.iconst 2, 1) := qd2_138.2.2.1
theorem dX7_set_26 : decode cX7_set 26 = .ok (.if_icmp .ne 10, 3) := qd2_138.2.2.2.1
theorem dX7_set_29 : decode cX7_set 29 = .ok (.aload_n 0, 1) := qd2_138.2.2.2.2.1
theorem dX7_set_30 : decode cX7_set 30 = .ok (.bipush (-3), 2) := qd2_138.2.2.2.2.2.1
theorem dX7_set_32 : decode cX7_set 32 = .ok (.invokevirtual 94, 3) := qd2_138.2.2.2.2.2.2.1
theorem dX7_set_35 : decode cX7_set 35 = .ok (.ireturn, 1) := qd2_138.2.2.2.2.2.2.2.1
theorem dX7_set_36 : decode cX7_set 36 = .ok (.aload_n 0, 1) := qd2_138.2.2.2.2.2.2.2.2.1
theorem dX7_set_37 : decode cX7_set 37 = .ok (.getfield 7, 3) := qd2_138.2.2.2.2.2.2.2.2.2.1
theorem dX7_set_40 : decode cX7_set 40 = .ok (.iload_n 1, 1) := qd2_138.2.2.2.2.2.2.2.2.2.2.1
theorem dX7_set_41 : decode cX7_set 41 = .ok (.iaload, 1) := qd2_138.2.2.2.2.2.2.2.2.2.2.2
theorem qd2_139 : (decode cX7_set 42 = .ok (.ifCond .ne 10, 3)) ∧ (decode cX7_set 45 = .ok (.aload_n 0, 1)) ∧ (decode cX7_set 46 = .ok (.bipush (-4), 2)) ∧ (decode cX7_set 48 = .ok (.invokevirtual 94, 3)) ∧ (decode cX7_set 51 = .ok (.ireturn, 1)) ∧ (decode cX7_set 52 = .ok (.iload_n 2, 1)) ∧ (decode cX7_set 53 = .ok (.i2l, 1)) ∧ (decode cX7_set 54 = .ok (.lconst 0, 1)) ∧ (decode cX7_set 55 = .ok (.aload_n 0, 1)) ∧ (decode cX7_set 56 = .ok (.getfield 16, 3)) ∧ (decode cX7_set 59 = .ok (.iload_n 1, 1)) ∧ (decode cX7_set 60 = .ok (.iaload, 1)) := by decide +kernel
theorem dX7_set_42 : decode cX7_set 42 = .ok (.ifCond .ne 10, 3) := qd2_139.1
theorem dX7_set_45 : decode cX7_set 45 = .ok (.aload_n 0, 1) := qd2_139.2.1
theorem dX7_set_46 : decode cX7_set 46 = .ok (.bipush (-4), 2) := qd2_139.2.2.1
theorem dX7_set_48 : decode cX7_set 48 = .ok (.invokevirtual 94, 3) := qd2_139.2.2.2.1
theorem dX7_set_51 : decode cX7_set 51 = .ok (.ireturn, 1) := qd2_139.2.2.2.2.1
theorem dX7_set_52 : decode cX7_set 52 = .ok (.iload_n 2, 1) := qd2_139.2.2.2.2.2.1
theorem dX7_set_53 : decode cX7_set 53 = .ok (.i2l, 1) := qd2_139.2.2.2.2.2.2.1
theorem dX7_set_54 : decode cX7_set 54 = .ok (.lconst 0, 1) := qd2_139.2.2.2.2.2.2.2.1
theorem dX7_set_55 : decode cX7_set 55 = .ok (.aload_n 0, 1) := qd2_139.2.2.2.2.2.2.2.2.1
theorem dX7_set_56 : decode cX7_set 56 = .ok (.getfield 16, 3) := qd2_139.2.2.2.2.2.2.2.2.2.1
theorem dX7_set_59 : decode cX7_set 59 = .ok (.iload_n 1, 1) := qd2_139.2.2.2.2.2.2.2.2.2.2.1
theorem dX7_set_60 : decode cX7_set 60 = .ok (.iaload, 1) := qd2_139.2.2.2.2.2.2.2.2.2.2.2
theorem qd2_140 : (decode cX7_set 61 = .ok (.iconst 1, 1)) ∧ (decode cX7_set 62 = .ok (.isub, 1)) ∧ (decode cX7_set 63 = .ok (.i2l, 1)) ∧ (decode cX7_set 64 = .ok (.invokestatic 78, 3)) ∧ (decode cX7_set 67 = .ok (.ifCond .ne 10, 3)) ∧ (decode cX7_set 70 = .ok (.aload_n 0, 1)) ∧ (decode cX7_set 71 = .ok (.bipush (-2), 2)) ∧ (decode cX7_set 73 = .ok (.invokevirtual 94, 3)) ∧ (decode cX7_set 76 = .ok (.ireturn, 1)) ∧ (decode cX7_set 77 = .ok (.aload_n 0, 1)) ∧ (decode cX7_set 78 = .ok (.getfield 21, 3)) ∧ (decode cX7_set 81 = .ok (.iload_n 1, 1)) := by decide +kernel
theorem dX7_set_61 : decode cX7_set 61 = .ok (.iconst 1, 1) := qd2_140.1
theorem dX7_set_62 : decode cX7_set 62 = .ok (.isub, 1) := qd2_140.2.1
theorem dX7_set_63 : decode cX7_set 63 = .ok (.i2l, 1) := qd2_140.2.2.1
theorem dX7_set_64 : decode cX7_set 64 = .ok (.invokestatic 78, 3) := qd2_140.2.2.2.1
theorem dX7_set_67 : decode cX7_set 67 = .ok (.ifCond .ne 10, 3) := qd2_140.2.2.2.2.1
theorem dX7_set_70 : decode cX7_set 70 = .ok (.aload_n 0, 1) := qd2_140.2.2.2.2.2.1
theorem dX7_set_71 : decode cX7_set 71 = .ok (.bipush (-2), 2) := qd2_140.2.2.2.2.2.2.1
theorem dX7_set_73 : decode cX7_set 73 = .ok (.invokevirtual 94, 3) := qd2_140.2.2.2.2.2.2.2.1
theorem dX7_set_76 : decode cX7_set 76 = .ok (.ireturn, 1) := qd2_140.2.2.2.2.2.2.2.2.1
theorem dX7_set_77 : decode cX7_set 77 = .ok (.aload_n 0, 1) := qd2_140.2.2.2.2.2.2.2.2.2.1
theorem dX7_set_78 : decode cX7_set 78 = .ok (.getfield 21, 3) := qd2_140.2.2.2.2.2.2.2.2.2.2.1
theorem dX7_set_81 : decode cX7_set 81 = .ok (.iload_n 1, 1) := qd2_140.2.2.2.2.2.2.2.2.2.2.2
theorem qd2_141 : (decode cX7_set 82 = .ok (.aaload, 1)) ∧ (decode cX7_set 83 = .ok (.iload_n 2, 1)) ∧ (decode cX7_set 84 = .ok (.aload_n 0, 1)) ∧ (decode cX7_set 85 = .ok (.getfield 13, 3)) ∧ (decode cX7_set 88 = .ok (.iload_n 1, 1)) ∧ (decode cX7_set 89 = .ok (.iaload, 1)) ∧ (decode cX7_set 90 = .ok (.lload_n 3, 1)) ∧ (decode cX7_set 91 = .ok (.invokestatic 98, 3)) ∧ (decode cX7_set 94 = .ok (.lastore, 1)) ∧ (decode cX7_set 95 = .ok (.iconst 1, 1)) ∧ (decode cX7_set 96 = .ok (.ireturn, 1)) := by decide +kernel
theorem dX7_set_82 : decode cX7_set 82 = .ok (.aaload, 1) := qd2_141.1
theorem dX7_set_83 : decode cX7_set 83 = .ok (.iload_n 2, 1) := qd2_141.2.1
theorem dX7_set_84 : decode cX7_set 84 = .ok (.aload_n 0, 1) := qd2_141.2.2.1
theorem dX7_set_85 : decode cX7_set 85 = .ok (.getfield 13, 3) := qd2_141.2.2.2.1
theorem dX7_set_88 : decode cX7_set 88 = .ok (.iload_n 1, 1) := qd2_141.2.2.2.2.1
theorem dX7_set_89 : decode cX7_set 89 = .ok (.iaload, 1) := qd2_141.2.2.2.2.2.1
theorem dX7_set_90 : decode cX7_set 90 = .ok (.lload_n 3, 1) := qd2_141.2.2.2.2.2.2.1
theorem dX7_set_91 : decode cX7_set 91 = .ok (.invokestatic 98, 3) := qd2_141.2.2.2.2.2.2.2.1
theorem dX7_set_94 : decode cX7_set 94 = .ok (.lastore, 1) := qd2_141.2.2.2.2.2.2.2.2.1
theorem dX7_set_95 : decode cX7_set 95 = .ok (.iconst 1, 1) := qd2_141.2.2.2.2.2.2.2.2.2.1
theorem dX7_set_96 : decode cX7_set 96 = .ok (.ireturn, 1) := qd2_141.2.2.2.2.2.2.2.2.2.2
theorem qd2_142 : (decode cX7_copy 0 = .ok (.iload_n 1, 1)) ∧ (decode cX7_copy 1 = .ok (.i2l, 1)) ∧ (decode cX7_copy 2 = .ok (.lconst 0, 1)) ∧ (decode cX7_copy 3 = .ok (.ldc2_w 88, 3)) ∧ (decode cX7_copy 6 = .ok (.invokestatic 78, 3)) ∧ (decode cX7_copy 9 = .ok (.ifCond .eq 15, 3)) ∧ (decode cX7_copy 12 = .ok (.iload_n 2, 1)) ∧ (decode cX7_copy 13 = .ok (.i2l, 1)) ∧ (decode cX7_copy 14 = .ok (.lconst 0, 1)) ∧ (decode cX7_copy 15 = .ok (.ldc2_w 88, 3)) ∧ (decode cX7_copy 18 = .ok (.invokestatic 78, 3)) ∧ (decode cX7_copy 21 = .ok (.ifCond .ne 10, 3)) := by decide +kernel
theorem dX7_copy_0 : decode cX7_copy 0 = .ok (.iload_n 1, 1) := qd2_142.1
theorem dX7_copy_1 : decode cX7_copy 1 = .ok (.i2l, 1) := qd2_142.2.1
theorem dX7_copy_2 : decode cX7_copy 2 = .ok (.lconst 0, 1) := qd2_142.2.2.1
theorem dX7_copy_3 : decode cX7_copy 3 = .ok (.ldc2_w 88, 3) := qd2_142.2.2.2.1
theorem dX7_copy_6 : decode cX7_copy 6 = .ok (.invokestatic 78, 3) := qd2_142.2.2.2.2.1
theorem dX7_copy_9 : decode cX7_copy 9 = .ok (.ifCond .eq 15, 3) := qd2_142.2.2.2.2.2.1
theorem dX7_copy_12 : decode cX7_copy 12 = .ok (.iload_n 2, 1) := qd2_142.2.2.2.2.2.2.1
theorem dX7_copy_13 : decode cX7_copy 13 = .ok (.i2l, 1) := qd2_142.2.2.2.2.2.2.2.1
theorem dX7_copy_14 : decode cX7_copy 14 = .ok (.lconst 0, 1) := qd2_142.2.2.2.2.2.2.2.2.1
theorem dX7_copy_15 : decode cX7_copy 15 = .ok (.ldc2_w 88, 3) := qd2_142.2.2.2.2.2.2.2.2.2.1
theorem dX7_copy_18 : decode cX7_copy 18 = .ok (.invokestatic 78, 3) := qd2_142.2.2.2.2.2.2.2.2.2.2.1
theorem dX7_copy_21 : decode cX7_copy 21 = .ok (.ifCond .ne 10, 3) := qd2_142.2.2.2.2.2.2.2.2.2.2.2
theorem qd2_143 : (decode cX7_copy 24 = .ok (.aload_n 0, 1)) ∧ (decode cX7_copy 25 = .ok (.bipush (-2), 2)) ∧ (decode cX7_copy 27 = .ok (.invokevirtual 94, 3)) ∧ (decode cX7_copy 30 = .ok (.ireturn, 1)) ∧ (decode cX7_copy 31 = .ok (.aload_n 0, 1)) ∧ (decode cX7_copy 32 = .ok (.getfield 7, 3)) ∧ (decode cX7_copy 35 = .ok (.iload_n 1, 1)) ∧ (decode cX7_copy 36 = .ok (.iaload, 1)) ∧ (decode cX7_copy 37 = .ok (.iconst 2, 1)) ∧ (decode cX7_copy 38 = .ok (.if_icmp .eq 48, 3)) ∧ (decode cX7_copy 41 = .ok (.aload_n 0, 1)) ∧ (decode cX7_copy 42 = .ok (.getfield 7, 3)) := by decide +kernel
theorem dX7_copy_24 : decode cX7_copy 24 = .ok (.aload_n 0, 1) := qd2_143.1
theorem dX7_copy_25 : decode cX7_copy 25 = .ok (.bipush (-2), 2) := qd2_143.2.1
theorem dX7_copy_27 : decode cX7_copy 27 = .ok (.invokevirtual 94, 3) := qd2_143.2.2.1
theorem dX7_copy_30 : decode cX7_copy 30 = .ok (.ireturn, 1) := qd2_143.2.2.2.1
theorem dX7_copy_31 : decode cX7_copy 31 = .ok (.aload_n 0, 1) := qd2_143.2.2.2.2.1
theorem dX7_copy_32 : decode cX7_copy 32 = .ok (.getfield 7, 3) := qd2_143.2.2.2.2.2.1
theorem dX7_copy_35 : decode cX7_copy 35 = .ok (.iload_n 1, 1) := qd2_143.2.2.2.2.2.2.1
theorem dX7_copy_36 : decode cX7_copy 36 = .ok (.iaload, 1) := qd2_143.2.2.2.2.2.2.2.1
theorem dX7_copy_37 : decode cX7_copy 37 = .ok (.iconst 2, 1) := qd2_143.2.2.2.2.2.2.2.2.1
theorem dX7_copy_38 : decode cX7_copy 38 = .ok (.if_icmp .eq 48, 3) := qd2_143.2.2.2.2.2.2.2.2.2.1
theorem dX7_copy_41 : decode cX7_copy 41 = .ok (.aload_n 0, 1) := qd2_143.2.2.2.2.2.2.2.2.2.2.1
theorem dX7_copy_42 : decode cX7_copy 42 = .ok (.getfield 7, 3) := qd2_143.2.2.2.2.2.2.2.2.2.2.2
theorem qd2_144 : (decode cX7_copy 45 = .ok (.iload_n 2, 1)) ∧ (decode cX7_copy 46 = .ok (.iaload, 1)) ∧ (decode cX7_copy 47 = .ok (.iconst 2, 1)) ∧ (decode cX7_copy 48 = .ok (.if_icmp .eq 38, 3)) ∧ (decode cX7_copy 51 = .ok (.aload_n 0, 1)) ∧ (decode cX7_copy 52 = .ok (.getfield 7, 3)) ∧ (decode cX7_copy 55 = .ok (.iload_n 1, 1)) ∧ (decode cX7_copy 56 = .ok (.iaload, 1)) ∧ (decode cX7_copy 57 = .ok (.iconst 1, 1)) ∧ (decode cX7_copy 58 = .ok (.if_icmp .ne 35, 3)) ∧ (decode cX7_copy 61 = .ok (.aload_n 0, 1)) ∧ (decode cX7_copy 62 = .ok (.getfield 7, 3)) := by decide +kernel
theorem dX7_copy_45 : decode cX7_copy 45 = .ok (.iload_n 2, 1) := qd2_144.1
theorem dX7_copy_46 : decode cX7_copy 46 = .ok (.iaload, 1) := qd2_144.2.1
theorem dX7_copy_47 : decode cX7_copy 47 = .ok (.iconst 2, 1) := qd2_144.2.2.1
theorem dX7_copy_48 : decode cX7_copy 48 = .ok (.if_icmp .eq 38, 3) := qd2_144.2.2.2.1
theorem dX7_copy_51 : decode cX7_copy 51 = .ok (.aload_n 0, 1) := qd2_144.2.2.2.2.1
theorem dX7_copy_52 : decode cX7_copy 52 = .ok (.getfield 7, 3) := qd2_144.2.2.2.2.2.1
theorem dX7_copy_55 : decode cX7_copy 55 = .ok (.iload_n 1, 1) := qd2_144.2.2.2.2.2.2.1
theorem dX7_copy_56 : decode cX7_copy 56 = .ok (.iaload, 1) := qd2_144.2.2.2.2.2.2.2.1
theorem dX7_copy_57 : decode cX7_copy 57 = .ok (.iconst 1, 1) := qd2_144.2.2.2.2.2.2.2.2.1
theorem dX7_copy_58 : decode cX7_copy 58 = .ok (.if_icmp .ne 35, 3) := qd2_144.2.2.2.2.2.2.2.2.2.1
theorem dX7_copy_61 : decode cX7_copy 61 = .ok (.aload_n 0, 1) := qd2_144.2.2.2.2.2.2.2.2.2.2.1
theorem dX7_copy_62 : decode cX7_copy 62 = .ok (.getfield 7, 3) := qd2_144.2.2.2.2.2.2.2.2.2.2.2
theorem qd2_145 : (decode cX7_copy 65 = .ok (.iload_n 2, 1)) ∧ (decode cX7_copy 66 = .ok (.iaload, 1)) ∧ (decode cX7_copy 67 = .ok (.iconst 1, 1)) ∧ (decode cX7_copy 68 = .ok (.if_icmp .ne 25, 3)) ∧ (decode cX7_copy 71 = .ok (.aload_n 0, 1)) ∧ (decode cX7_copy 72 = .ok (.getfield 13, 3)) ∧ (decode cX7_copy 75 = .ok (.iload_n 1, 1)) ∧ (decode cX7_copy 76 = .ok (.iaload, 1)) ∧ (decode cX7_copy 77 = .ok (.aload_n 0, 1)) ∧ (decode cX7_copy 78 = .ok (.getfield 13, 3)) ∧ (decode cX7_copy 81 = .ok (.iload_n 2, 1)) ∧ (decode cX7_copy 82 = .ok (.iaload, 1)) := by decide +kernel
theorem dX7_copy_65 : decode cX7_copy 65 = .ok (.iload_n 2, 1) := qd2_145.1
theorem dX7_copy_66 : decode cX7_copy 66 = .ok (.iaload, 1) := qd2_145.2.1
theorem dX7_copy_67 : decode cX7_copy 67 = .ok (.iconst 1, 1) := qd2_145.2.2.1
theorem dX7_copy_68 : decode cX7_copy 68 = .ok (.if_icmp .ne 25, 3) := qd2_145.2.2.2.1
theorem dX7_copy_71 : decode cX7_copy 71 = .ok (.aload_n 0, 1) := qd2_145.2.2.2.2.1
theorem dX7_copy_72 : decode cX7_copy 72 = .ok (.getfield 13, 3) := qd2_145.2.2.2.2.2.1
theorem dX7_copy_75 : decode cX7_copy 75 = .ok (.iload_n 1, 1) := qd2_145.2.2.2.2.2.2.1
theorem dX7_copy_76 : decode cX7_copy 76 = .ok (.iaload, 1) := qd2_145.2.2.2.2.2.2.2.1
theorem dX7_copy_77 : decode cX7_copy 77 = .ok (.aload_n 0, 1) := qd2_145.2.2.2.2.2.2.2.2.1
theorem dX7_copy_78 : decode cX7_copy 78 = .ok (.getfield 13, 3) := qd2_145.2.2.2.2.2.2.2.2.2.1
theorem dX7_copy_81 : decode cX7_copy 81 = .ok (.iload_n 2, 1) := qd2_145.2.2.2.2.2.2.2.2.2.2.1
theorem dX7_copy_82 : decode cX7_copy 82 = .ok (.iaload, 1) := qd2_145.2.2.2.2.2.2.2.2.2.2.2
theorem qd2_146 : (decode cX7_copy 83 = .ok (.if_icmp .eq 10, 3)) ∧ (decode cX7_copy 86 = .ok (.aload_n 0, 1)) ∧ (decode cX7_copy 87 = .ok (.bipush (-3), 2)) ∧ (decode cX7_copy 89 = .ok (.invokevirtual 94, 3)) ∧ (decode cX7_copy 92 = .ok (.ireturn, 1)) ∧ (decode cX7_copy 93 = .ok (.aload_n 0, 1)) ∧ (decode cX7_copy 94 = .ok (.getfield 7, 3)) ∧ (decode cX7_copy 97 = .ok (.iload_n 1, 1)) ∧ (decode cX7_copy 98 = .ok (.iaload, 1)) ∧ (decode cX7_copy 99 = .ok (.ifCond .eq 12, 3)) ∧ (decode cX7_copy 102 = .ok (.aload_n 0, 1)) ∧ (decode cX7_copy 103 = .ok (.getfield 7, 3)) := by decide +kernel
theorem dX7_copy_83 : decode cX7_copy 83 = .ok (.if_icmp .eq 10, 3) := qd2_146.1
theorem dX7_copy_86 : decode cX7_copy 86 = .ok (.aload_n 0, 1) := qd2_146.2.1
theorem dX7_copy_87 : decode cX7_copy 87 = .ok (.bipush (-3), 2) := qd2_146.2.2.1
theorem dX7_copy_89 : decode cX7_copy 89 = .ok (.invokevirtual 94, 3) := qd2_146.2.2.2.1
theorem dX7_copy_92 : decode cX7_copy 92 = .ok (.ireturn, 1) := qd2_146.2.2.2.2.1
theorem dX7_copy_93 : decode cX7_copy 93 = .ok (.aload_n 0, 1) := qd2_146.2.2.2.2.2.1
theorem dX7_copy_94 : decode cX7_copy 94 = .ok (.getfield 7, 3) := qd2_146.2.2.2.2.2.2.1
theorem dX7_copy_97 : decode cX7_copy 97 = .ok (.iload_n 1, 1) := qd2_146.2.2.2.2.2.2.2.1
theorem dX7_copy_98 : decode cX7_copy 98 = .ok (.iaload, 1) := qd2_146.2.2.2.2.2.2.2.2.1
theorem dX7_copy_99 : decode cX7_copy 99 = .ok (.ifCond .eq 12, 3) := qd2_146.2.2.2.2.2.2.2.2.2.1
theorem dX7_copy_102 : decode cX7_copy 102 = .ok (.aload_n 0, 1) := qd2_146.2.2.2.2.2.2.2.2.2.2.1
theorem dX7_copy_103 : decode cX7_copy 103 = .ok (.getfield 7, 3) := qd2_146.2.2.2.2.2.2.2.2.2.2.2
theorem qd2_147 : (decode cX7_copy 106 = .ok (.iload_n 2, 1)) ∧ (decode cX7_copy 107 = .ok (.iaload, 1)) ∧ (decode cX7_copy 108 = .ok (.ifCond .ne 10, 3)) ∧ (decode cX7_copy 111 = .ok (.aload_n 0, 1)) ∧ (decode cX7_copy 112 = .ok (.bipush (-4), 2)) ∧ (decode cX7_copy 114 = .ok (.invokevirtual 94, 3)) ∧ (decode cX7_copy 117 = .ok (.ireturn, 1)) ∧ (decode cX7_copy 118 = .ok (.iload 5, 2)) ∧ (decode cX7_copy 120 = .ok (.ifCond .lt 61, 3)) ∧ (decode cX7_copy 123 = .ok (.iload_n 3, 1)) ∧ (decode cX7_copy 124 = .ok (.ifCond .lt 57, 3)) ∧ (decode cX7_copy 127 = .ok (.iload 4, 2)) := by decide +kernel
theorem dX7_copy_106 : decode cX7_copy 106 = .ok (.iload_n 2, 1) := qd2_147.1
theorem dX7_copy_107 : decode cX7_copy 107 = .ok (.iaload, 1) := qd2_147.2.1
theorem dX7_copy_108 : decode cX7_copy 108 = .ok (.ifCond .ne 10, 3) := qd2_147.2.2.1
theorem dX7_copy_111 : decode cX7_copy 111 = .ok (.aload_n 0, 1) := qd2_147.2.2.2.1
theorem dX7_copy_112 : decode cX7_copy 112 = .ok (.bipush (-4), 2) := qd2_147.2.2.2.2.1
theorem dX7_copy_114 : decode cX7_copy 114 = .ok (.invokevirtual 94, 3) := qd2_147.2.2.2.2.2.1
theorem dX7_copy_117 : decode cX7_copy 117 = .ok (.ireturn, 1) := qd2_147.2.2.2.2.2.2.1
theorem dX7_copy_118 : decode cX7_copy 118 = .ok (.iload 5, 2) := qd2_147.2.2.2.2.2.2.2.1
theorem dX7_copy_120 : decode cX7_copy 120 = .ok (.ifCond .lt 61, 3) := qd2_147.2.2.2.2.2.2.2.2.1
theorem dX7_copy_123 : decode cX7_copy 123 = .ok (.iload_n 3, 1) := qd2_147.2.2.2.2.2.2.2.2.2.1
theorem dX7_copy_124 : decode cX7_copy 124 = .ok (.ifCond .lt 57, 3) := qd2_147.2.2.2.2.2.2.2.2.2.2.1
theorem dX7_copy_127 : decode cX7_copy 127 = .ok (.iload 4, 2) := qd2_147.2.2.2.2.2.2.2.2.2.2.2
theorem qd2_148 : (decode cX7_copy 129 = .ok (.ifCond .lt 52, 3)) ∧ (decode cX7_copy 132 = .ok (.iload 5, 2)) ∧ (decode cX7_copy 134 = .ok (.aload_n 0, 1)) ∧ (decode cX7_copy 135 = .ok (.getfield 16, 3)) ∧ (decode cX7_copy 138 = .ok (.iload_n 1, 1)) ∧ (decode cX7_copy 139 = .ok (.iaload, 1)) ∧ (decode cX7_copy 140 = .ok (.if_icmp .gt 41, 3)) ∧ (decode cX7_copy 143 = .ok (.iload 5, 2)) ∧ (decode cX7_copy 145 = .ok (.aload_n 0, 1)) ∧ (decode cX7_copy 146 = .ok (.getfield 16, 3)) ∧ (decode cX7_copy 149 = .ok (.iload_n 2, 1)) ∧ (decode cX7_copy 150 = .ok (.iaload, 1)) := by decide +kernel
theorem dX7_copy_129 : decode cX7_copy 129 = .ok (.ifCond .lt 52, 3) := qd2_148.1
theorem dX7_copy_132 : decode cX7_copy 132 = .ok (.iload 5, 2) := qd2_148.2.1
theorem dX7_copy_134 : decode cX7_copy 134 = .ok (.aload_n 0, 1) := qd2_148.2.2.1
theorem dX7_copy_135 : decode cX7_copy 135 = .ok (.getfield 16, 3) := qd2_148.2.2.2.1
theorem dX7_copy_138 : decode cX7_copy 138 = .ok (.iload_n 1, 1) := qd2_148.2.2.2.2.1
theorem dX7_copy_139 : decode cX7_copy 139 = .ok (.iaload, 1) := qd2_148.2.2.2.2.2.1
theorem dX7_copy_140 : decode cX7_copy 140 = .ok (.if_icmp .gt 41, 3) := qd2_148.2.2.2.2.2.2.1
theorem dX7_copy_143 : decode cX7_copy 143 = .ok (.iload 5, 2) := qd2_148.2.2.2.2.2.2.2.1
theorem dX7_copy_145 : decode cX7_copy 145 = .ok (.aload_n 0, 1) := qd2_148.2.2.2.2.2.2.2.2.1
theorem dX7_copy_146 : decode cX7_copy 146 = .ok (.getfield 16, 3) := qd2_148.2.2.2.2.2.2.2.2.2.1
theorem dX7_copy_149 : decode cX7_copy 149 = .ok (.iload_n 2, 1) := qd2_148.2.2.2.2.2.2.2.2.2.2.1
theorem dX7_copy_150 : decode cX7_copy 150 = .ok (.iaload, 1) := qd2_148.2.2.2.2.2.2.2.2.2.2.2
theorem qd2_149 : (decode cX7_copy 151 = .ok (.if_icmp .gt 30, 3)) ∧ (decode cX7_copy 154 = .ok (.iload_n 3, 1)) ∧ (decode cX7_copy 155 = .ok (.aload_n 0, 1)) ∧ (decode cX7_copy 156 = .ok (.getfield 16, 3)) ∧ (decode cX7_copy 159 = .ok (.iload_n 1, 1)) ∧ (decode cX7_copy 160 = .ok (.iaload, 1)) ∧ (decode cX7_copy 161 = .ok (.iload 5, 2)) ∧ (decode cX7_copy 163 = .ok (.isub, 1)) ∧ (decode cX7_copy 164 = .ok (.if_icmp .gt 17, 3)) ∧ (decode cX7_copy 167 = .ok (.iload 4, 2)) ∧ (decode cX7_copy 169 = .ok (.aload_n 0, 1)) ∧ (decode cX7_copy 170 = .ok (.getfield 16, 3)) := by decide +kernel
theorem dX7_copy_151 : decode cX7_copy 151 = .ok (.if_icmp .gt 30, 3) := qd2_149.1
theorem dX7_copy_154 : decode cX7_copy 154 = .ok (.iload_n 3, 1) := qd2_149.2.1
theorem dX7_copy_155 : decode cX7_copy 155 = .ok (.aload_n 0, 1) := qd2_149.2.2.1
theorem dX7_copy_156 : decode cX7_copy 156 = .ok (.getfield 16, 3) := qd2_149.2.2.2.1
theorem dX7_copy_159 : decode cX7_copy 159 = .ok (.iload_n 1, 1) := qd2_149.2.2.2.2.1
theorem dX7_copy_160 : decode cX7_copy 160 = .ok (.iaload, 1) := qd2_149.2.2.2.2.2.1
theorem dX7_copy_161 : decode cX7_copy 161 = .ok (.iload 5, 2) := qd2_149.2.2.2.2.2.2.1
theorem dX7_copy_163 : decode cX7_copy 163 = .ok (.isub, 1) := qd2_149.2.2.2.2.2.2.2.1
theorem dX7_copy_164 : decode cX7_copy 164 = .ok (.if_icmp .gt 17, 3) := qd2_149.2.2.2.2.2.2.2.2.1
theorem dX7_copy_167 : decode cX7_copy 167 = .ok (.iload 4, 2) := qd2_149.2.2.2.2.2.2.2.2.2.1
theorem dX7_copy_169 : decode cX7_copy 169 = .ok (.aload_n 0, 1) := qd2_149.2.2.2.2.2.2.2.2.2.2.1
theorem dX7_copy_170 : decode cX7_copy 170 = .ok (.getfield 16, 3) := qd2_149.2.2.2.2.2.2.2.2.2.2.2
theorem qd2_150 : (decode cX7_copy 173 = .ok (.iload_n 2, 1)) ∧ (decode cX7_copy 174 = .ok (.iaload, 1)) ∧ (decode cX7_copy 175 = .ok (.iload 5, 2)) ∧ (decode cX7_copy 177 = .ok (.isub, 1)) ∧ (decode cX7_copy 178 = .ok (.if_icmp .le 10, 3)) ∧ (decode cX7_copy 181 = .ok (.aload_n 0, 1)) ∧ (decode cX7_copy 182 = .ok (.bipush (-2), 2)) ∧ (decode cX7_copy 184 = .ok (.invokevirtual 94, 3)) ∧ (decode cX7_copy 187 = .ok (.ireturn, 1)) ∧ (decode cX7_copy 188 = .ok (.iconst 0, 1)) ∧ (decode cX7_copy 189 = .ok (.istore 6, 2)) ∧ (decode cX7_copy 191 = .ok (.iload 6, 2)) := by decide +kernel
theorem dX7_copy_173 : decode cX7_copy 173 = .ok (.iload_n 2, 1) := qd2_150.1
theorem dX7_copy_174 : decode cX7_copy 174 = .ok (.iaload, 1) := qd2_150.2.1
theorem dX7_copy_175 : decode cX7_copy 175 = .ok (.iload 5, 2) := qd2_150.2.2.1
theorem dX7_copy_177 : decode cX7_copy 177 = .ok (.isub, 1) := qd2_150.2.2.2.1
theorem dX7_copy_178 : decode cX7_copy 178 = .ok (.if_icmp .le 10, 3) := qd2_150.2.2.2.2.1
theorem dX7_copy_181 : decode cX7_copy 181 = .ok (.aload_n 0, 1) := qd2_150.2.2.2.2.2.1
theorem dX7_copy_182 : decode cX7_copy 182 = .ok (.bipush (-2), 2) := qd2_150.2.2.2.2.2.2.1
theorem dX7_copy_184 : decode cX7_copy 184 = .ok (.invokevirtual 94, 3) := qd2_150.2.2.2.2.2.2.2.1
theorem dX7_copy_187 : decode cX7_copy 187 = .ok (.ireturn, 1) := qd2_150.2.2.2.2.2.2.2.2.1
theorem dX7_copy_188 : decode cX7_copy 188 = .ok (.iconst 0, 1) := qd2_150.2.2.2.2.2.2.2.2.2.1
theorem dX7_copy_189 : decode cX7_copy 189 = .ok (.istore 6, 2) := qd2_150.2.2.2.2.2.2.2.2.2.2.1
theorem dX7_copy_191 : decode cX7_copy 191 = .ok (.iload 6, 2) := qd2_150.2.2.2.2.2.2.2.2.2.2.2
theorem qd2_151 : (decode cX7_copy 193 = .ok (.iload 5, 2)) ∧ (decode cX7_copy 195 = .ok (.if_icmp .ge 27, 3)) ∧ (decode cX7_copy 198 = .ok (.aload_n 0, 1)) ∧ (decode cX7_copy 199 = .ok (.getfield 24, 3)) ∧ (decode cX7_copy 202 = .ok (.iload 6, 2)) ∧ (decode cX7_copy 204 = .ok (.aload_n 0, 1)) ∧ (decode cX7_copy 205 = .ok (.getfield 21, 3)) ∧ (decode cX7_copy 208 = .ok (.iload_n 1, 1)) ∧ (decode cX7_copy 209 = .ok (.aaload, 1)) ∧ (decode cX7_copy 210 = .ok (.iload_n 3, 1)) ∧ (decode cX7_copy 211 = .ok (.iload 6, 2)) ∧ (decode cX7_copy 213 = .ok (.iadd, 1)) := by decide +kernel
theorem dX7_copy_193 : decode cX7_copy 193 = .ok (.iload 5, 2) := qd2_151.1
theorem dX7_copy_195 : decode cX7_copy 195 = .ok (.if_icmp .ge 27, 3) := qd2_151.2.1
theorem dX7_copy_198 : decode cX7_copy 198 = .ok (.aload_n 0, 1) := qd2_151.2.2.1
theorem dX7_copy_199 : decode cX7_copy 199 = .ok (.getfield 24, 3) := qd2_151.2.2.2.1
theorem dX7_copy_202 : decode cX7_copy 202 = .ok (.iload 6, 2) := qd2_151.2.2.2.2.1
theorem dX7_copy_204 : decode cX7_copy 204 = .ok (.aload_n 0, 1) := qd2_151.2.2.2.2.2.1
theorem dX7_copy_205 : decode cX7_copy 205 = .ok (.getfield 21, 3) := qd2_151.2.2.2.2.2.2.1
theorem dX7_copy_208 : decode cX7_copy 208 = .ok (.iload_n 1, 1) := qd2_151.2.2.2.2.2.2.2.1
theorem dX7_copy_209 : decode cX7_copy 209 = .ok (.aaload, 1) := qd2_151.2.2.2.2.2.2.2.2.1
theorem dX7_copy_210 : decode cX7_copy 210 = .ok (.iload_n 3, 1) := qd2_151.2.2.2.2.2.2.2.2.2.1
theorem dX7_copy_211 : decode cX7_copy 211 = .ok (.iload 6, 2) := qd2_151.2.2.2.2.2.2.2.2.2.2.1
theorem dX7_copy_213 : decode cX7_copy 213 = .ok (.iadd, 1) := qd2_151.2.2.2.2.2.2.2.2.2.2.2
theorem qd2_152 : (decode cX7_copy 214 = .ok (.laload, 1)) ∧ (decode cX7_copy 215 = .ok (.lastore, 1)) ∧ (decode cX7_copy 216 = .ok (.iinc 6 1, 3)) ∧ (decode cX7_copy 219 = .ok (.goto (-28), 3)) ∧ (decode cX7_copy 222 = .ok (.iconst 0, 1)) ∧ (decode cX7_copy 223 = .ok (.istore 6, 2)) ∧ (decode cX7_copy 225 = .ok (.iload 6, 2)) ∧ (decode cX7_copy 227 = .ok (.iload 5, 2)) ∧ (decode cX7_copy 229 = .ok (.if_icmp .ge 28, 3)) ∧ (decode cX7_copy 232 = .ok (.aload_n 0, 1)) ∧ (decode cX7_copy 233 = .ok (.getfield 21, 3)) ∧ (decode cX7_copy 236 = .ok (.iload_n 2, 1)) := by decide +kernel
theorem dX7_copy_214 : decode cX7_copy 214 = .ok (.laload, 1) := qd2_152.1
theorem dX7_copy_215 : decode cX7_copy 215 = .ok (.lastore, 1) := qd2_152.2.1
theorem dX7_copy_216 : decode cX7_copy 216 = .ok (.iinc 6 1, 3) := qd2_152.2.2.1
theorem dX7_copy_219 : decode cX7_copy 219 = .ok (.goto (-28), 3) := qd2_152.2.2.2.1
theorem dX7_copy_222 : decode cX7_copy 222 = .ok (.iconst 0, 1) := qd2_152.2.2.2.2.1
theorem dX7_copy_223 : decode cX7_copy 223 = .ok (.istore 6, 2) := qd2_152.2.2.2.2.2.1
theorem dX7_copy_225 : decode cX7_copy 225 = .ok (.iload 6, 2) := qd2_152.2.2.2.2.2.2.1
theorem dX7_copy_227 : decode cX7_copy 227 = .ok (.iload 5, 2) := qd2_152.2.2.2.2.2.2.2.1
theorem dX7_copy_229 : decode cX7_copy 229 = .ok (.if_icmp .ge 28, 3) := qd2_152.2.2.2.2.2.2.2.2.1
theorem dX7_copy_232 : decode cX7_copy 232 = .ok (.aload_n 0, 1) := qd2_152.2.2.2.2.2.2.2.2.2.1
theorem dX7_copy_233 : decode cX7_copy 233 = .ok (.getfield 21, 3) := qd2_152.2.2.2.2.2.2.2.2.2.2.1
theorem dX7_copy_236 : decode cX7_copy 236 = .ok (.iload_n 2, 1) := qd2_152.2.2.2.2.2.2.2.2.2.2.2
theorem qd2_153 : (decode cX7_copy 237 = .ok (.aaload, 1)) ∧ (decode cX7_copy 238 = .ok (.iload 4, 2)) ∧ (decode cX7_copy 240 = .ok (.iload 6, 2)) ∧ (decode cX7_copy 242 = .ok (.iadd, 1)) ∧ (decode cX7_copy 243 = .ok (.aload_n 0, 1)) ∧ (decode cX7_copy 244 = .ok (.getfield 24, 3)) ∧ (decode cX7_copy 247 = .ok (.iload 6, 2)) ∧ (decode cX7_copy 249 = .ok (.laload, 1)) ∧ (decode cX7_copy 250 = .ok (.lastore, 1)) ∧ (decode cX7_copy 251 = .ok (.iinc 6 1, 3)) ∧ (decode cX7_copy 254 = .ok (.goto (-29), 3)) ∧ (decode cX7_copy 257 = .ok (.iload 5, 2)) := by decide +kernel
theorem dX7_copy_237 : decode cX7_copy 237 = .ok (.aaload, 1) := qd2_153.1
theorem dX7_copy_238 : decode cX7_copy 238 = .ok (.iload 4, 2) := qd2_153.2.1
theorem dX7_copy_240 : decode cX7_copy 240 = .ok (.iload 6, 2) := qd2_153.2.2.1
theorem dX7_copy_242 : decode cX7_copy 242 = .ok (.iadd, 1) := qd2_153.2.2.2.1
theorem dX7_copy_243 : decode cX7_copy 243 = .ok (.aload_n 0, 1) := qd2_153.2.2.2.2.1
theorem dX7_copy_244 : decode cX7_copy 244 = .ok (.getfield 24, 3) := qd2_153.2.2.2.2.2.1
theorem dX7_copy_247 : decode cX7_copy 247 = .ok (.iload 6, 2) := qd2_153.2.2.2.2.2.2.1
theorem dX7_copy_249 : decode cX7_copy 249 = .ok (.laload, 1) := qd2_153.2.2.2.2.2.2.2.1
theorem dX7_copy_250 : decode cX7_copy 250 = .ok (.lastore, 1) := qd2_153.2.2.2.2.2.2.2.2.1
theorem dX7_copy_251 : decode cX7_copy 251 = .ok (.iinc 6 1, 3) := qd2_153.2.2.2.2.2.2.2.2.2.1
theorem dX7_copy_254 : decode cX7_copy 254 = .ok (.goto (-29), 3) := qd2_153.2.2.2.2.2.2.2.2.2.2.1
theorem dX7_copy_257 : decode cX7_copy 257 = .ok (.iload 5, 2) := qd2_153.2.2.2.2.2.2.2.2.2.2.2
theorem dX7_copy_259 : decode cX7_copy 259 = .ok (.ireturn, 1) := by decide +kernel
theorem qd2_154 : (decode cX7_element 0 = .ok (.iload_n 1, 1)) ∧ (decode cX7_element 1 = .ok (.i2l, 1)) ∧ (decode cX7_element 2 = .ok (.lconst 0, 1)) ∧ (decode cX7_element 3 = .ok (.ldc2_w 88, 3)) ∧ (decode cX7_element 6 = .ok (.invokestatic 78, 3)) ∧ (decode cX7_element 9 = .ok (.ifCond .eq 42, 3)) ∧ (decode cX7_element 12 = .ok (.aload_n 0, 1)) ∧ (decode cX7_element 13 = .ok (.getfield 7, 3)) ∧ (decode cX7_element 16 = .ok (.iload_n 1, 1)) ∧ (decode cX7_element 17 = .ok (.iaload, 1)) ∧ (decode cX7_element 18 = .ok (.iconst 1, 1)) ∧ (decode cX7_element 19 = .ok (.if_icmp .ne 32, 3)) := by decide +kernel
theorem dX7_element_0 : decode cX7_element 0 = .ok (.iload_n 1, 1) := qd2_154.1
theorem dX7_element_1 : decode cX7_element 1 = .ok (.i2l, 1) := qd2_154.2.1
theorem dX7_element_2 : decode cX7_element 2 = .ok (.lconst 0, 1) := qd2_154.2.2.1
theorem dX7_element_3 : decode cX7_element 3 = .ok (.ldc2_w 88, 3) := qd2_154.2.2.2.1
theorem dX7_element_6 : decode cX7_element 6 = .ok (.invokestatic 78, 3) := qd2_154.2.2.2.2.1
theorem dX7_element_9 : decode cX7_element 9 = .ok (.ifCond .eq 42, 3) := qd2_154.2.2.2.2.2.1
theorem dX7_element_12 : decode cX7_element 12 = .ok (.aload_n 0, 1) := qd2_154.2.2.2.2.2.2.1
theorem dX7_element_13 : decode cX7_element 13 = .ok (.getfield 7, 3) := qd2_154.2.2.2.2.2.2.2.1
theorem dX7_element_16 : decode cX7_element 16 = .ok (.iload_n 1, 1) := qd2_154.2.2.2.2.2.2.2.2.1
theorem dX7_element_17 : decode cX7_element 17 = .ok (.iaload, 1) := qd2_154.2.2.2.2.2.2.2.2.2.1
theorem dX7_element_18 : decode cX7_element 18 = .ok (.iconst 1, 1) := qd2_154.2.2.2.2.2.2.2.2.2.2.1
theorem dX7_element_19 : decode cX7_element 19 = .ok (.if_icmp .ne 32, 3) := qd2_154.2.2.2.2.2.2.2.2.2.2.2
theorem qd2_155 : (decode cX7_element 22 = .ok (.iload_n 2, 1)) ∧ (decode cX7_element 23 = .ok (.i2l, 1)) ∧ (decode cX7_element 24 = .ok (.lconst 0, 1)) ∧ (decode cX7_element 25 = .ok (.aload_n 0, 1)) ∧ (decode cX7_element 26 = .ok (.getfield 16, 3)) ∧ (decode cX7_element 29 = .ok (.iload_n 1, 1)) ∧ (decode cX7_element 30 = .ok (.iaload, 1)) ∧ (decode cX7_element 31 = .ok (.iconst 1, 1)) ∧ (decode cX7_element 32 = .ok (.isub, 1)) ∧ (decode cX7_element 33 = .ok (.i2l, 1)) ∧ (decode cX7_element 34 = .ok (.invokestatic 78, 3)) ∧ (decode cX7_element 37 = .ok (.ifCond .eq 14, 3)) := by decide +kernel
theorem dX7_element_22 : decode cX7_element 22 = .ok (.iload_n 2, 1) := qd2_155.1
theorem dX7_element_23 : decode cX7_element 23 = .ok (.i2l, 1) := qd2_155.2.1
theorem dX7_element_24 : decode cX7_element 24 = .ok (.lconst 0, 1) := qd2_155.2.2.1
theorem dX7_element_25 : decode cX7_element 25 = .ok (.aload_n 0, 1) := qd2_155.2.2.2.1
theorem dX7_element_26 : decode cX7_element 26 = .ok (.getfield 16, 3) := qd2_155.2.2.2.2.1
theorem dX7_element_29 : decode cX7_element 29 = .ok (.iload_n 1, 1) := qd2_155.2.2.2.2.2.1
theorem dX7_element_30 : decode cX7_element 30 = .ok (.iaload, 1) := qd2_155.2.2.2.2.2.2.1
theorem dX7_element_31 : decode cX7_element 31 = .ok (.iconst 1, 1) := qd2_155.2.2.2.2.2.2.2.1
theorem dX7_element_32 : decode cX7_element 32 = .ok (.isub, 1) := qd2_155.2.2.2.2.2.2.2.2.1
theorem dX7_element_33 : decode cX7_element 33 = .ok (.i2l, 1) := qd2_155.2.2.2.2.2.2.2.2.2.1
theorem dX7_element_34 : decode cX7_element 34 = .ok (.invokestatic 78, 3) := qd2_155.2.2.2.2.2.2.2.2.2.2.1
theorem dX7_element_37 : decode cX7_element 37 = .ok (.ifCond .eq 14, 3) := qd2_155.2.2.2.2.2.2.2.2.2.2.2
theorem qd2_156 : (decode cX7_element 40 = .ok (.aload_n 0, 1)) ∧ (decode cX7_element 41 = .ok (.getfield 21, 3)) ∧ (decode cX7_element 44 = .ok (.iload_n 1, 1)) ∧ (decode cX7_element 45 = .ok (.aaload, 1)) ∧ (decode cX7_element 46 = .ok (.iload_n 2, 1)) ∧ (decode cX7_element 47 = .ok (.laload, 1)) ∧ (decode cX7_element 48 = .ok (.goto 4, 3)) ∧ (decode cX7_element 51 = .ok (.lconst 0, 1)) ∧ (decode cX7_element 52 = .ok (.lreturn, 1)) := by decide +kernel
theorem dX7_element_40 : decode cX7_element 40 = .ok (.aload_n 0, 1) := qd2_156.1
theorem dX7_element_41 : decode cX7_element 41 = .ok (.getfield 21, 3) := qd2_156.2.1
theorem dX7_element_44 : decode cX7_element 44 = .ok (.iload_n 1, 1) := qd2_156.2.2.1
theorem dX7_element_45 : decode cX7_element 45 = .ok (.aaload, 1) := qd2_156.2.2.2.1
theorem dX7_element_46 : decode cX7_element 46 = .ok (.iload_n 2, 1) := qd2_156.2.2.2.2.1
theorem dX7_element_47 : decode cX7_element 47 = .ok (.laload, 1) := qd2_156.2.2.2.2.2.1
theorem dX7_element_48 : decode cX7_element 48 = .ok (.goto 4, 3) := qd2_156.2.2.2.2.2.2.1
theorem dX7_element_51 : decode cX7_element 51 = .ok (.lconst 0, 1) := qd2_156.2.2.2.2.2.2.2.1
theorem dX7_element_52 : decode cX7_element 52 = .ok (.lreturn, 1) := qd2_156.2.2.2.2.2.2.2.2
theorem qd2_157 : (decode cX7_holds 0 = .ok (.iload_n 1, 1)) ∧ (decode cX7_holds 1 = .ok (.i2l, 1)) ∧ (decode cX7_holds 2 = .ok (.lconst 0, 1)) ∧ (decode cX7_holds 3 = .ok (.ldc2_w 88, 3)) ∧ (decode cX7_holds 6 = .ok (.invokestatic 78, 3)) ∧ (decode cX7_holds 9 = .ok (.ifCond .eq 12, 3)) ∧ (decode cX7_holds 12 = .ok (.aload_n 0, 1)) ∧ (decode cX7_holds 13 = .ok (.getfield 7, 3)) ∧ (decode cX7_holds 16 = .ok (.iload_n 1, 1)) ∧ (decode cX7_holds 17 = .ok (.iaload, 1)) ∧ (decode cX7_holds 18 = .ok (.ifCond .ne 5, 3)) ∧ (decode cX7_holds 21 = .ok (.iconst (-1), 1)) := by decide +kernel
theorem dX7_holds_0 : decode cX7_holds 0 = .ok (.iload_n 1, 1) := qd2_157.1
theorem dX7_holds_1 : decode cX7_holds 1 = .ok (.i2l, 1) := qd2_157.2.1
theorem dX7_holds_2 : decode cX7_holds 2 = .ok (.lconst 0, 1) := qd2_157.2.2.1
theorem dX7_holds_3 : decode cX7_holds 3 = .ok (.ldc2_w 88, 3) := qd2_157.2.2.2.1
theorem dX7_holds_6 : decode cX7_holds 6 = .ok (.invokestatic 78, 3) := qd2_157.2.2.2.2.1
theorem dX7_holds_9 : decode cX7_holds 9 = .ok (.ifCond .eq 12, 3) := qd2_157.2.2.2.2.2.1
theorem dX7_holds_12 : decode cX7_holds 12 = .ok (.aload_n 0, 1) := qd2_157.2.2.2.2.2.2.1
theorem dX7_holds_13 : decode cX7_holds 13 = .ok (.getfield 7, 3) := qd2_157.2.2.2.2.2.2.2.1
theorem dX7_holds_16 : decode cX7_holds 16 = .ok (.iload_n 1, 1) := qd2_157.2.2.2.2.2.2.2.2.1
theorem dX7_holds_17 : decode cX7_holds 17 = .ok (.iaload, 1) := qd2_157.2.2.2.2.2.2.2.2.2.1
theorem dX7_holds_18 : decode cX7_holds 18 = .ok (.ifCond .ne 5, 3) := qd2_157.2.2.2.2.2.2.2.2.2.2.1
theorem dX7_holds_21 : decode cX7_holds 21 = .ok (.iconst (-1), 1) := qd2_157.2.2.2.2.2.2.2.2.2.2.2
theorem qd2_158 : (decode cX7_holds 22 = .ok (.ireturn, 1)) ∧ (decode cX7_holds 23 = .ok (.aload_n 0, 1)) ∧ (decode cX7_holds 24 = .ok (.getfield 7, 3)) ∧ (decode cX7_holds 27 = .ok (.iload_n 1, 1)) ∧ (decode cX7_holds 28 = .ok (.iaload, 1)) ∧ (decode cX7_holds 29 = .ok (.iconst 1, 1)) ∧ (decode cX7_holds 30 = .ok (.if_icmp .ne 12, 3)) ∧ (decode cX7_holds 33 = .ok (.aload_n 0, 1)) ∧ (decode cX7_holds 34 = .ok (.getfield 13, 3)) ∧ (decode cX7_holds 37 = .ok (.iload_n 1, 1)) ∧ (decode cX7_holds 38 = .ok (.iaload, 1)) ∧ (decode cX7_holds 39 = .ok (.goto 12, 3)) := by decide +kernel
theorem dX7_holds_22 : decode cX7_holds 22 = .ok (.ireturn, 1) := qd2_158.1
theorem dX7_holds_23 : decode cX7_holds 23 = .ok (.aload_n 0, 1) := qd2_158.2.1
theorem dX7_holds_24 : decode cX7_holds 24 = .ok (.getfield 7, 3) := qd2_158.2.2.1
theorem dX7_holds_27 : decode cX7_holds 27 = .ok (.iload_n 1, 1) := qd2_158.2.2.2.1
theorem dX7_holds_28 : decode cX7_holds 28 = .ok (.iaload, 1) := qd2_158.2.2.2.2.1
theorem dX7_holds_29 : decode cX7_holds 29 = .ok (.iconst 1, 1) := qd2_158.2.2.2.2.2.1
theorem dX7_holds_30 : decode cX7_holds 30 = .ok (.if_icmp .ne 12, 3) := qd2_158.2.2.2.2.2.2.1
theorem dX7_holds_33 : decode cX7_holds 33 = .ok (.aload_n 0, 1) := qd2_158.2.2.2.2.2.2.2.1
theorem dX7_holds_34 : decode cX7_holds 34 = .ok (.getfield 13, 3) := qd2_158.2.2.2.2.2.2.2.2.1
theorem dX7_holds_37 : decode cX7_holds 37 = .ok (.iload_n 1, 1) := qd2_158.2.2.2.2.2.2.2.2.2.1
theorem dX7_holds_38 : decode cX7_holds 38 = .ok (.iaload, 1) := qd2_158.2.2.2.2.2.2.2.2.2.2.1
theorem dX7_holds_39 : decode cX7_holds 39 = .ok (.goto 12, 3) := qd2_158.2.2.2.2.2.2.2.2.2.2.2
theorem qd2_159 : (decode cX7_holds 42 = .ok (.bipush 10, 2)) ∧ (decode cX7_holds 44 = .ok (.aload_n 0, 1)) ∧ (decode cX7_holds 45 = .ok (.getfield 28, 3)) ∧ (decode cX7_holds 48 = .ok (.iload_n 1, 1)) ∧ (decode cX7_holds 49 = .ok (.iaload, 1)) ∧ (decode cX7_holds 50 = .ok (.iadd, 1)) ∧ (decode cX7_holds 51 = .ok (.ireturn, 1)) := by decide +kernel
theorem dX7_holds_42 : decode cX7_holds 42 = .ok (.bipush 10, 2) := qd2_159.1
theorem dX7_holds_44 : decode cX7_holds 44 = .ok (.aload_n 0, 1) := qd2_159.2.1
theorem dX7_holds_45 : decode cX7_holds 45 = .ok (.getfield 28, 3) := qd2_159.2.2.1
theorem dX7_holds_48 : decode cX7_holds 48 = .ok (.iload_n 1, 1) := qd2_159.2.2.2.1
theorem dX7_holds_49 : decode cX7_holds 49 = .ok (.iaload, 1) := qd2_159.2.2.2.2.1
theorem dX7_holds_50 : decode cX7_holds 50 = .ok (.iadd, 1) := qd2_159.2.2.2.2.2.1
theorem dX7_holds_51 : decode cX7_holds 51 = .ok (.ireturn, 1) := qd2_159.2.2.2.2.2.2
theorem qd2_160 : (decode cX7_show 0 = .ok (.iload_n 1, 1)) ∧ (decode cX7_show 1 = .ok (.i2l, 1)) ∧ (decode cX7_show 2 = .ok (.lconst 0, 1)) ∧ (decode cX7_show 3 = .ok (.ldc2_w 88, 3)) ∧ (decode cX7_show 6 = .ok (.invokestatic 78, 3)) ∧ (decode cX7_show 9 = .ok (.ifCond .eq 16, 3)) ∧ (decode cX7_show 12 = .ok (.iload_n 2, 1)) ∧ (decode cX7_show 13 = .ok (.iconst (-1), 1)) ∧ (decode cX7_show 14 = .ok (.if_icmp .eq 18, 3)) ∧ (decode cX7_show 17 = .ok (.aload_n 0, 1)) ∧ (decode cX7_show 18 = .ok (.iload_n 2, 1)) ∧ (decode cX7_show 19 = .ok (.invokevirtual 102, 3)) := by decide +kernel
theorem dX7_show_0 : decode cX7_show 0 = .ok (.iload_n 1, 1) := qd2_160.1
theorem dX7_show_1 : decode cX7_show 1 = .ok (.i2l, 1) := qd2_160.2.1
theorem dX7_show_2 : decode cX7_show 2 = .ok (.lconst 0, 1) := qd2_160.2.2.1
theorem dX7_show_3 : decode cX7_show 3 = .ok (.ldc2_w 88, 3) := qd2_160.2.2.2.1
theorem dX7_show_6 : decode cX7_show 6 = .ok (.invokestatic 78, 3) := qd2_160.2.2.2.2.1
theorem dX7_show_9 : decode cX7_show 9 = .ok (.ifCond .eq 16, 3) := qd2_160.2.2.2.2.2.1
theorem dX7_show_12 : decode cX7_show 12 = .ok (.iload_n 2, 1) := qd2_160.2.2.2.2.2.2.1
theorem dX7_show_13 : decode cX7_show 13 = .ok (.iconst (-1), 1) := qd2_160.2.2.2.2.2.2.2.1
theorem dX7_show_14 : decode cX7_show 14 = .ok (.if_icmp .eq 18, 3) := qd2_160.2.2.2.2.2.2.2.2.1
theorem dX7_show_17 : decode cX7_show 17 = .ok (.aload_n 0, 1) := qd2_160.2.2.2.2.2.2.2.2.2.1
theorem dX7_show_18 : decode cX7_show 18 = .ok (.iload_n 2, 1) := qd2_160.2.2.2.2.2.2.2.2.2.2.1
theorem dX7_show_19 : decode cX7_show 19 = .ok (.invokevirtual 102, 3) := qd2_160.2.2.2.2.2.2.2.2.2.2.2
theorem qd2_161 : (decode cX7_show 22 = .ok (.ifCond .ne 10, 3)) ∧ (decode cX7_show 25 = .ok (.aload_n 0, 1)) ∧ (decode cX7_show 26 = .ok (.bipush (-2), 2)) ∧ (decode cX7_show 28 = .ok (.invokevirtual 94, 3)) ∧ (decode cX7_show 31 = .ok (.ireturn, 1)) ∧ (decode cX7_show 32 = .ok (.aload_n 0, 1)) ∧ (decode cX7_show 33 = .ok (.getfield 7, 3)) ∧ (decode cX7_show 36 = .ok (.iload_n 1, 1)) ∧ (decode cX7_show 37 = .ok (.iload_n 2, 1)) ∧ (decode cX7_show 38 = .ok (.iconst (-1), 1)) ∧ (decode cX7_show 39 = .ok (.if_icmp .ne 7, 3)) ∧ (decode cX7_show 42 = .ok (.iconst 0, 1)) := by decide +kernel
theorem dX7_show_22 : decode cX7_show 22 = .ok (.ifCond .ne 10, 3) := qd2_161.1
theorem dX7_show_25 : decode cX7_show 25 = .ok (.aload_n 0, 1) := qd2_161.2.1
theorem dX7_show_26 : decode cX7_show 26 = .ok (.bipush (-2), 2) := qd2_161.2.2.1
theorem dX7_show_28 : decode cX7_show 28 = .ok (.invokevirtual 94, 3) := qd2_161.2.2.2.1
theorem dX7_show_31 : decode cX7_show 31 = .ok (.ireturn, 1) := qd2_161.2.2.2.2.1
theorem dX7_show_32 : decode cX7_show 32 = .ok (.aload_n 0, 1) := qd2_161.2.2.2.2.2.1
theorem dX7_show_33 : decode cX7_show 33 = .ok (.getfield 7, 3) := qd2_161.2.2.2.2.2.2.1
theorem dX7_show_36 : decode cX7_show 36 = .ok (.iload_n 1, 1) := qd2_161.2.2.2.2.2.2.2.1
theorem dX7_show_37 : decode cX7_show 37 = .ok (.iload_n 2, 1) := qd2_161.2.2.2.2.2.2.2.2.1
theorem dX7_show_38 : decode cX7_show 38 = .ok (.iconst (-1), 1) := qd2_161.2.2.2.2.2.2.2.2.2.1
theorem dX7_show_39 : decode cX7_show 39 = .ok (.if_icmp .ne 7, 3) := qd2_161.2.2.2.2.2.2.2.2.2.2.1
theorem dX7_show_42 : decode cX7_show 42 = .ok (.iconst 0, 1) := qd2_161.2.2.2.2.2.2.2.2.2.2.2
theorem qd2_162 : (decode cX7_show 43 = .ok (.goto 4, 3)) ∧ (decode cX7_show 46 = .ok (.iconst 2, 1)) ∧ (decode cX7_show 47 = .ok (.iastore, 1)) ∧ (decode cX7_show 48 = .ok (.aload_n 0, 1)) ∧ (decode cX7_show 49 = .ok (.getfield 28, 3)) ∧ (decode cX7_show 52 = .ok (.iload_n 1, 1)) ∧ (decode cX7_show 53 = .ok (.iload_n 2, 1)) ∧ (decode cX7_show 54 = .ok (.iastore, 1)) ∧ (decode cX7_show 55 = .ok (.iconst 1, 1)) ∧ (decode cX7_show 56 = .ok (.ireturn, 1)) := by decide +kernel
theorem dX7_show_43 : decode cX7_show 43 = .ok (.goto 4, 3) := qd2_162.1
theorem dX7_show_46 : decode cX7_show 46 = .ok (.iconst 2, 1) := qd2_162.2.1
theorem dX7_show_47 : decode cX7_show 47 = .ok (.iastore, 1) := qd2_162.2.2.1
theorem dX7_show_48 : decode cX7_show 48 = .ok (.aload_n 0, 1) := qd2_162.2.2.2.1
theorem dX7_show_49 : decode cX7_show 49 = .ok (.getfield 28, 3) := qd2_162.2.2.2.2.1
theorem dX7_show_52 : decode cX7_show 52 = .ok (.iload_n 1, 1) := qd2_162.2.2.2.2.2.1
theorem dX7_show_53 : decode cX7_show 53 = .ok (.iload_n 2, 1) := qd2_162.2.2.2.2.2.2.1
theorem dX7_show_54 : decode cX7_show 54 = .ok (.iastore, 1) := qd2_162.2.2.2.2.2.2.2.1
theorem dX7_show_55 : decode cX7_show 55 = .ok (.iconst 1, 1) := qd2_162.2.2.2.2.2.2.2.2.1
theorem dX7_show_56 : decode cX7_show 56 = .ok (.ireturn, 1) := qd2_162.2.2.2.2.2.2.2.2.2
theorem qd2_163 : (decode cX7_isUnder 0 = .ok (.iload_n 1, 1)) ∧ (decode cX7_isUnder 1 = .ok (.ifCond .eq 28, 3)) ∧ (decode cX7_isUnder 4 = .ok (.iload_n 0, 1)) ∧ (decode cX7_isUnder 5 = .ok (.iload_n 1, 1)) ∧ (decode cX7_isUnder 6 = .ok (.if_icmp .eq 23, 3)) ∧ (decode cX7_isUnder 9 = .ok (.iload_n 1, 1)) ∧ (decode cX7_isUnder 10 = .ok (.iconst 1, 1)) ∧ (decode cX7_isUnder 11 = .ok (.if_icmp .ne 8, 3)) ∧ (decode cX7_isUnder 14 = .ok (.iload_n 0, 1)) ∧ (decode cX7_isUnder 15 = .ok (.iconst 2, 1)) ∧ (decode cX7_isUnder 16 = .ok (.if_icmp .eq 13, 3)) ∧ (decode cX7_isUnder 19 = .ok (.iload_n 1, 1)) := by decide +kernel
theorem dX7_isUnder_0 : decode cX7_isUnder 0 = .ok (.iload_n 1, 1) := qd2_163.1
theorem dX7_isUnder_1 : decode cX7_isUnder 1 = .ok (.ifCond .eq 28, 3) := qd2_163.2.1
theorem dX7_isUnder_4 : decode cX7_isUnder 4 = .ok (.iload_n 0, 1) := qd2_163.2.2.1
theorem dX7_isUnder_5 : decode cX7_isUnder 5 = .ok (.iload_n 1, 1) := qd2_163.2.2.2.1
theorem dX7_isUnder_6 : decode cX7_isUnder 6 = .ok (.if_icmp .eq 23, 3) := qd2_163.2.2.2.2.1
theorem dX7_isUnder_9 : decode cX7_isUnder 9 = .ok (.iload_n 1, 1) := qd2_163.2.2.2.2.2.1
theorem dX7_isUnder_10 : decode cX7_isUnder 10 = .ok (.iconst 1, 1) := qd2_163.2.2.2.2.2.2.1
theorem dX7_isUnder_11 : decode cX7_isUnder 11 = .ok (.if_icmp .ne 8, 3) := qd2_163.2.2.2.2.2.2.2.1
theorem dX7_isUnder_14 : decode cX7_isUnder 14 = .ok (.iload_n 0, 1) := qd2_163.2.2.2.2.2.2.2.2.1
theorem dX7_isUnder_15 : decode cX7_isUnder 15 = .ok (.iconst 2, 1) := qd2_163.2.2.2.2.2.2.2.2.2.1
theorem dX7_isUnder_16 : decode cX7_isUnder 16 = .ok (.if_icmp .eq 13, 3) := qd2_163.2.2.2.2.2.2.2.2.2.2.1
theorem dX7_isUnder_19 : decode cX7_isUnder 19 = .ok (.iload_n 1, 1) := qd2_163.2.2.2.2.2.2.2.2.2.2.2
theorem qd2_164 : (decode cX7_isUnder 20 = .ok (.iconst 4, 1)) ∧ (decode cX7_isUnder 21 = .ok (.if_icmp .ne 12, 3)) ∧ (decode cX7_isUnder 24 = .ok (.iload_n 0, 1)) ∧ (decode cX7_isUnder 25 = .ok (.iconst 5, 1)) ∧ (decode cX7_isUnder 26 = .ok (.if_icmp .ne 7, 3)) ∧ (decode cX7_isUnder 29 = .ok (.iconst 1, 1)) ∧ (decode cX7_isUnder 30 = .ok (.goto 4, 3)) ∧ (decode cX7_isUnder 33 = .ok (.iconst 0, 1)) ∧ (decode cX7_isUnder 34 = .ok (.ireturn, 1)) := by decide +kernel
theorem dX7_isUnder_20 : decode cX7_isUnder 20 = .ok (.iconst 4, 1) := qd2_164.1
theorem dX7_isUnder_21 : decode cX7_isUnder 21 = .ok (.if_icmp .ne 12, 3) := qd2_164.2.1
theorem dX7_isUnder_24 : decode cX7_isUnder 24 = .ok (.iload_n 0, 1) := qd2_164.2.2.1
theorem dX7_isUnder_25 : decode cX7_isUnder 25 = .ok (.iconst 5, 1) := qd2_164.2.2.2.1
theorem dX7_isUnder_26 : decode cX7_isUnder 26 = .ok (.if_icmp .ne 7, 3) := qd2_164.2.2.2.2.1
theorem dX7_isUnder_29 : decode cX7_isUnder 29 = .ok (.iconst 1, 1) := qd2_164.2.2.2.2.2.1
theorem dX7_isUnder_30 : decode cX7_isUnder 30 = .ok (.goto 4, 3) := qd2_164.2.2.2.2.2.2.1
theorem dX7_isUnder_33 : decode cX7_isUnder 33 = .ok (.iconst 0, 1) := qd2_164.2.2.2.2.2.2.2.1
theorem dX7_isUnder_34 : decode cX7_isUnder 34 = .ok (.ireturn, 1) := qd2_164.2.2.2.2.2.2.2.2
theorem qd2_165 : (decode cX7_says 0 = .ok (.iload_n 1, 1)) ∧ (decode cX7_says 1 = .ok (.i2l, 1)) ∧ (decode cX7_says 2 = .ok (.lconst 0, 1)) ∧ (decode cX7_says 3 = .ok (.ldc2_w 88, 3)) ∧ (decode cX7_says 6 = .ok (.invokestatic 78, 3)) ∧ (decode cX7_says 9 = .ok (.ifCond .eq 15, 3)) ∧ (decode cX7_says 12 = .ok (.iload_n 2, 1)) ∧ (decode cX7_says 13 = .ok (.i2l, 1)) ∧ (decode cX7_says 14 = .ok (.lconst 0, 1)) ∧ (decode cX7_says 15 = .ok (.ldc2_w 106, 3)) ∧ (decode cX7_says 18 = .ok (.invokestatic 78, 3)) ∧ (decode cX7_says 21 = .ok (.ifCond .ne 10, 3)) := by decide +kernel
theorem dX7_says_0 : decode cX7_says 0 = .ok (.iload_n 1, 1) := qd2_165.1
theorem dX7_says_1 : decode cX7_says 1 = .ok (.i2l, 1) := qd2_165.2.1
theorem dX7_says_2 : decode cX7_says 2 = .ok (.lconst 0, 1) := qd2_165.2.2.1
theorem dX7_says_3 : decode cX7_says 3 = .ok (.ldc2_w 88, 3) := qd2_165.2.2.2.1
theorem dX7_says_6 : decode cX7_says 6 = .ok (.invokestatic 78, 3) := qd2_165.2.2.2.2.1
theorem dX7_says_9 : decode cX7_says 9 = .ok (.ifCond .eq 15, 3) := qd2_165.2.2.2.2.2.1
theorem dX7_says_12 : decode cX7_says 12 = .ok (.iload_n 2, 1) := qd2_165.2.2.2.2.2.2.1
theorem dX7_says_13 : decode cX7_says 13 = .ok (.i2l, 1) := qd2_165.2.2.2.2.2.2.2.1
theorem dX7_says_14 : decode cX7_says 14 = .ok (.lconst 0, 1) := qd2_165.2.2.2.2.2.2.2.2.1
theorem dX7_says_15 : decode cX7_says 15 = .ok (.ldc2_w 106, 3) := qd2_165.2.2.2.2.2.2.2.2.2.1
theorem dX7_says_18 : decode cX7_says 18 = .ok (.invokestatic 78, 3) := qd2_165.2.2.2.2.2.2.2.2.2.2.1
theorem dX7_says_21 : decode cX7_says 21 = .ok (.ifCond .ne 10, 3) := qd2_165.2.2.2.2.2.2.2.2.2.2.2
theorem qd2_166 : (decode cX7_says 24 = .ok (.aload_n 0, 1)) ∧ (decode cX7_says 25 = .ok (.bipush (-2), 2)) ∧ (decode cX7_says 27 = .ok (.invokevirtual 94, 3)) ∧ (decode cX7_says 30 = .ok (.ireturn, 1)) ∧ (decode cX7_says 31 = .ok (.aload_n 0, 1)) ∧ (decode cX7_says 32 = .ok (.getfield 7, 3)) ∧ (decode cX7_says 35 = .ok (.iload_n 1, 1)) ∧ (decode cX7_says 36 = .ok (.iaload, 1)) ∧ (decode cX7_says 37 = .ok (.iconst 1, 1)) ∧ (decode cX7_says 38 = .ok (.if_icmp .eq 33, 3)) ∧ (decode cX7_says 41 = .ok (.aload_n 0, 1)) ∧ (decode cX7_says 42 = .ok (.getfield 7, 3)) := by decide +kernel
theorem dX7_says_24 : decode cX7_says 24 = .ok (.aload_n 0, 1) := qd2_166.1
theorem dX7_says_25 : decode cX7_says 25 = .ok (.bipush (-2), 2) := qd2_166.2.1
theorem dX7_says_27 : decode cX7_says 27 = .ok (.invokevirtual 94, 3) := qd2_166.2.2.1
theorem dX7_says_30 : decode cX7_says 30 = .ok (.ireturn, 1) := qd2_166.2.2.2.1
theorem dX7_says_31 : decode cX7_says 31 = .ok (.aload_n 0, 1) := qd2_166.2.2.2.2.1
theorem dX7_says_32 : decode cX7_says 32 = .ok (.getfield 7, 3) := qd2_166.2.2.2.2.2.1
theorem dX7_says_35 : decode cX7_says 35 = .ok (.iload_n 1, 1) := qd2_166.2.2.2.2.2.2.1
theorem dX7_says_36 : decode cX7_says 36 = .ok (.iaload, 1) := qd2_166.2.2.2.2.2.2.2.1
theorem dX7_says_37 : decode cX7_says 37 = .ok (.iconst 1, 1) := qd2_166.2.2.2.2.2.2.2.2.1
theorem dX7_says_38 : decode cX7_says 38 = .ok (.if_icmp .eq 33, 3) := qd2_166.2.2.2.2.2.2.2.2.2.1
theorem dX7_says_41 : decode cX7_says 41 = .ok (.aload_n 0, 1) := qd2_166.2.2.2.2.2.2.2.2.2.2.1
theorem dX7_says_42 : decode cX7_says 42 = .ok (.getfield 7, 3) := qd2_166.2.2.2.2.2.2.2.2.2.2.2
theorem qd2_167 : (decode cX7_says 45 = .ok (.iload_n 1, 1)) ∧ (decode cX7_says 46 = .ok (.iaload, 1)) ∧ (decode cX7_says 47 = .ok (.iconst 2, 1)) ∧ (decode cX7_says 48 = .ok (.if_icmp .ne 30, 3)) ∧ (decode cX7_says 51 = .ok (.aload_n 0, 1)) ∧ (decode cX7_says 52 = .ok (.getfield 51, 3)) ∧ (decode cX7_says 55 = .ok (.aload_n 0, 1)) ∧ (decode cX7_says 56 = .ok (.getfield 28, 3)) ∧ (decode cX7_says 59 = .ok (.iload_n 1, 1)) ∧ (decode cX7_says 60 = .ok (.iaload, 1)) ∧ (decode cX7_says 61 = .ok (.aaload, 1)) ∧ (decode cX7_says 62 = .ok (.iconst 0, 1)) := by decide +kernel
theorem dX7_says_45 : decode cX7_says 45 = .ok (.iload_n 1, 1) := qd2_167.1
theorem dX7_says_46 : decode cX7_says 46 = .ok (.iaload, 1) := qd2_167.2.1
theorem dX7_says_47 : decode cX7_says 47 = .ok (.iconst 2, 1) := qd2_167.2.2.1
theorem dX7_says_48 : decode cX7_says 48 = .ok (.if_icmp .ne 30, 3) := qd2_167.2.2.2.1
theorem dX7_says_51 : decode cX7_says 51 = .ok (.aload_n 0, 1) := qd2_167.2.2.2.2.1
theorem dX7_says_52 : decode cX7_says 52 = .ok (.getfield 51, 3) := qd2_167.2.2.2.2.2.1
theorem dX7_says_55 : decode cX7_says 55 = .ok (.aload_n 0, 1) := qd2_167.2.2.2.2.2.2.1
theorem dX7_says_56 : decode cX7_says 56 = .ok (.getfield 28, 3) := qd2_167.2.2.2.2.2.2.2.1
theorem dX7_says_59 : decode cX7_says 59 = .ok (.iload_n 1, 1) := qd2_167.2.2.2.2.2.2.2.2.1
theorem dX7_says_60 : decode cX7_says 60 = .ok (.iaload, 1) := qd2_167.2.2.2.2.2.2.2.2.2.1
theorem dX7_says_61 : decode cX7_says 61 = .ok (.aaload, 1) := qd2_167.2.2.2.2.2.2.2.2.2.2.1
theorem dX7_says_62 : decode cX7_says 62 = .ok (.iconst 0, 1) := qd2_167.2.2.2.2.2.2.2.2.2.2.2
theorem qd2_168 : (decode cX7_says 63 = .ok (.iaload, 1)) ∧ (decode cX7_says 64 = .ok (.iload_n 2, 1)) ∧ (decode cX7_says 65 = .ok (.invokestatic 108, 3)) ∧ (decode cX7_says 68 = .ok (.ifCond .ne 10, 3)) ∧ (decode cX7_says 71 = .ok (.aload_n 0, 1)) ∧ (decode cX7_says 72 = .ok (.bipush (-3), 2)) ∧ (decode cX7_says 74 = .ok (.invokevirtual 94, 3)) ∧ (decode cX7_says 77 = .ok (.ireturn, 1)) ∧ (decode cX7_says 78 = .ok (.aload_n 0, 1)) ∧ (decode cX7_says 79 = .ok (.getfield 7, 3)) ∧ (decode cX7_says 82 = .ok (.iload_n 1, 1)) ∧ (decode cX7_says 83 = .ok (.iaload, 1)) := by decide +kernel
theorem dX7_says_63 : decode cX7_says 63 = .ok (.iaload, 1) := qd2_168.1
theorem dX7_says_64 : decode cX7_says 64 = .ok (.iload_n 2, 1) := qd2_168.2.1
theorem dX7_says_65 : decode cX7_says 65 = .ok (.invokestatic 108, 3) := qd2_168.2.2.1
theorem dX7_says_68 : decode cX7_says 68 = .ok (.ifCond .ne 10, 3) := qd2_168.2.2.2.1
theorem dX7_says_71 : decode cX7_says 71 = .ok (.aload_n 0, 1) := qd2_168.2.2.2.2.1
theorem dX7_says_72 : decode cX7_says 72 = .ok (.bipush (-3), 2) := qd2_168.2.2.2.2.2.1
theorem dX7_says_74 : decode cX7_says 74 = .ok (.invokevirtual 94, 3) := qd2_168.2.2.2.2.2.2.1
theorem dX7_says_77 : decode cX7_says 77 = .ok (.ireturn, 1) := qd2_168.2.2.2.2.2.2.2.1
theorem dX7_says_78 : decode cX7_says 78 = .ok (.aload_n 0, 1) := qd2_168.2.2.2.2.2.2.2.2.1
theorem dX7_says_79 : decode cX7_says 79 = .ok (.getfield 7, 3) := qd2_168.2.2.2.2.2.2.2.2.2.1
theorem dX7_says_82 : decode cX7_says 82 = .ok (.iload_n 1, 1) := qd2_168.2.2.2.2.2.2.2.2.2.2.1
theorem dX7_says_83 : decode cX7_says 83 = .ok (.iaload, 1) := qd2_168.2.2.2.2.2.2.2.2.2.2.2
theorem qd2_169 : (decode cX7_says 84 = .ok (.ifCond .ne 10, 3)) ∧ (decode cX7_says 87 = .ok (.aload_n 0, 1)) ∧ (decode cX7_says 88 = .ok (.bipush (-4), 2)) ∧ (decode cX7_says 90 = .ok (.invokevirtual 94, 3)) ∧ (decode cX7_says 93 = .ok (.ireturn, 1)) ∧ (decode cX7_says 94 = .ok (.aload_n 0, 1)) ∧ (decode cX7_says 95 = .ok (.getfield 51, 3)) ∧ (decode cX7_says 98 = .ok (.aload_n 0, 1)) ∧ (decode cX7_says 99 = .ok (.getfield 28, 3)) ∧ (decode cX7_says 102 = .ok (.iload_n 1, 1)) ∧ (decode cX7_says 103 = .ok (.iaload, 1)) ∧ (decode cX7_says 104 = .ok (.aaload, 1)) := by decide +kernel
theorem dX7_says_84 : decode cX7_says 84 = .ok (.ifCond .ne 10, 3) := qd2_169.1
theorem dX7_says_87 : decode cX7_says 87 = .ok (.aload_n 0, 1) := qd2_169.2.1
theorem dX7_says_88 : decode cX7_says 88 = .ok (.bipush (-4), 2) := qd2_169.2.2.1
theorem dX7_says_90 : decode cX7_says 90 = .ok (.invokevirtual 94, 3) := qd2_169.2.2.2.1
theorem dX7_says_93 : decode cX7_says 93 = .ok (.ireturn, 1) := qd2_169.2.2.2.2.1
theorem dX7_says_94 : decode cX7_says 94 = .ok (.aload_n 0, 1) := qd2_169.2.2.2.2.2.1
theorem dX7_says_95 : decode cX7_says 95 = .ok (.getfield 51, 3) := qd2_169.2.2.2.2.2.2.1
theorem dX7_says_98 : decode cX7_says 98 = .ok (.aload_n 0, 1) := qd2_169.2.2.2.2.2.2.2.1
theorem dX7_says_99 : decode cX7_says 99 = .ok (.getfield 28, 3) := qd2_169.2.2.2.2.2.2.2.2.1
theorem dX7_says_102 : decode cX7_says 102 = .ok (.iload_n 1, 1) := qd2_169.2.2.2.2.2.2.2.2.2.1
theorem dX7_says_103 : decode cX7_says 103 = .ok (.iaload, 1) := qd2_169.2.2.2.2.2.2.2.2.2.2.1
theorem dX7_says_104 : decode cX7_says 104 = .ok (.aaload, 1) := qd2_169.2.2.2.2.2.2.2.2.2.2.2
theorem qd2_170 : (decode cX7_says 105 = .ok (.astore_n 3, 1)) ∧ (decode cX7_says 106 = .ok (.iload_n 2, 1)) ∧ (decode cX7_says 107 = .ok (.ifCond .ne 9, 3)) ∧ (decode cX7_says 110 = .ok (.aload_n 3, 1)) ∧ (decode cX7_says 111 = .ok (.iconst 3, 1)) ∧ (decode cX7_says 112 = .ok (.iaload, 1)) ∧ (decode cX7_says 113 = .ok (.goto 24, 3)) ∧ (decode cX7_says 116 = .ok (.iload_n 2, 1)) ∧ (decode cX7_says 117 = .ok (.iconst 4, 1)) ∧ (decode cX7_says 118 = .ok (.if_icmp .ge 9, 3)) ∧ (decode cX7_says 121 = .ok (.aload_n 3, 1)) ∧ (decode cX7_says 122 = .ok (.iconst 1, 1)) := by decide +kernel
theorem dX7_says_105 : decode cX7_says 105 = .ok (.astore_n 3, 1) := qd2_170.1
theorem dX7_says_106 : decode cX7_says 106 = .ok (.iload_n 2, 1) := qd2_170.2.1
theorem dX7_says_107 : decode cX7_says 107 = .ok (.ifCond .ne 9, 3) := qd2_170.2.2.1
theorem dX7_says_110 : decode cX7_says 110 = .ok (.aload_n 3, 1) := qd2_170.2.2.2.1
theorem dX7_says_111 : decode cX7_says 111 = .ok (.iconst 3, 1) := qd2_170.2.2.2.2.1
theorem dX7_says_112 : decode cX7_says 112 = .ok (.iaload, 1) := qd2_170.2.2.2.2.2.1
theorem dX7_says_113 : decode cX7_says 113 = .ok (.goto 24, 3) := qd2_170.2.2.2.2.2.2.1
theorem dX7_says_116 : decode cX7_says 116 = .ok (.iload_n 2, 1) := qd2_170.2.2.2.2.2.2.2.1
theorem dX7_says_117 : decode cX7_says 117 = .ok (.iconst 4, 1) := qd2_170.2.2.2.2.2.2.2.2.1
theorem dX7_says_118 : decode cX7_says 118 = .ok (.if_icmp .ge 9, 3) := qd2_170.2.2.2.2.2.2.2.2.2.1
theorem dX7_says_121 : decode cX7_says 121 = .ok (.aload_n 3, 1) := qd2_170.2.2.2.2.2.2.2.2.2.2.1
theorem dX7_says_122 : decode cX7_says 122 = .ok (.iconst 1, 1) := qd2_170.2.2.2.2.2.2.2.2.2.2.2
theorem qd2_171 : (decode cX7_says 123 = .ok (.iaload, 1)) ∧ (decode cX7_says 124 = .ok (.goto 13, 3)) ∧ (decode cX7_says 127 = .ok (.bipush 100, 2)) ∧ (decode cX7_says 129 = .ok (.aload_n 3, 1)) ∧ (decode cX7_says 130 = .ok (.iconst 1, 1)) ∧ (decode cX7_says 131 = .ok (.iaload, 1)) ∧ (decode cX7_says 132 = .ok (.imul, 1)) ∧ (decode cX7_says 133 = .ok (.aload_n 3, 1)) ∧ (decode cX7_says 134 = .ok (.iconst 2, 1)) ∧ (decode cX7_says 135 = .ok (.iaload, 1)) ∧ (decode cX7_says 136 = .ok (.iadd, 1)) ∧ (decode cX7_says 137 = .ok (.ireturn, 1)) := by decide +kernel
theorem dX7_says_123 : decode cX7_says 123 = .ok (.iaload, 1) := qd2_171.1
theorem dX7_says_124 : decode cX7_says 124 = .ok (.goto 13, 3) := qd2_171.2.1
theorem dX7_says_127 : decode cX7_says 127 = .ok (.bipush 100, 2) := qd2_171.2.2.1
theorem dX7_says_129 : decode cX7_says 129 = .ok (.aload_n 3, 1) := qd2_171.2.2.2.1
theorem dX7_says_130 : decode cX7_says 130 = .ok (.iconst 1, 1) := qd2_171.2.2.2.2.1
theorem dX7_says_131 : decode cX7_says 131 = .ok (.iaload, 1) := qd2_171.2.2.2.2.2.1
theorem dX7_says_132 : decode cX7_says 132 = .ok (.imul, 1) := qd2_171.2.2.2.2.2.2.1
theorem dX7_says_133 : decode cX7_says 133 = .ok (.aload_n 3, 1) := qd2_171.2.2.2.2.2.2.2.1
theorem dX7_says_134 : decode cX7_says 134 = .ok (.iconst 2, 1) := qd2_171.2.2.2.2.2.2.2.2.1
theorem dX7_says_135 : decode cX7_says 135 = .ok (.iaload, 1) := qd2_171.2.2.2.2.2.2.2.2.2.1
theorem dX7_says_136 : decode cX7_says 136 = .ok (.iadd, 1) := qd2_171.2.2.2.2.2.2.2.2.2.2.1
theorem dX7_says_137 : decode cX7_says 137 = .ok (.ireturn, 1) := qd2_171.2.2.2.2.2.2.2.2.2.2.2
theorem qd2_172 : (decode cX7_newLine 0 = .ok (.aload_n 0, 1)) ∧ (decode cX7_newLine 1 = .ok (.getfield 39, 3)) ∧ (decode cX7_newLine 4 = .ok (.aload_n 0, 1)) ∧ (decode cX7_newLine 5 = .ok (.getfield 82, 3)) ∧ (decode cX7_newLine 8 = .ok (.aaload, 1)) ∧ (decode cX7_newLine 9 = .ok (.astore_n 3, 1)) ∧ (decode cX7_newLine 10 = .ok (.aload_n 3, 1)) ∧ (decode cX7_newLine 11 = .ok (.iconst 0, 1)) ∧ (decode cX7_newLine 12 = .ok (.iload_n 1, 1)) ∧ (decode cX7_newLine 13 = .ok (.iastore, 1)) ∧ (decode cX7_newLine 14 = .ok (.aload_n 3, 1)) ∧ (decode cX7_newLine 15 = .ok (.iconst 1, 1)) := by decide +kernel
theorem dX7_newLine_0 : decode cX7_newLine 0 = .ok (.aload_n 0, 1) := qd2_172.1
theorem dX7_newLine_1 : decode cX7_newLine 1 = .ok (.getfield 39, 3) := qd2_172.2.1
theorem dX7_newLine_4 : decode cX7_newLine 4 = .ok (.aload_n 0, 1) := qd2_172.2.2.1
theorem dX7_newLine_5 : decode cX7_newLine 5 = .ok (.getfield 82, 3) := qd2_172.2.2.2.1
theorem dX7_newLine_8 : decode cX7_newLine 8 = .ok (.aaload, 1) := qd2_172.2.2.2.2.1
theorem dX7_newLine_9 : decode cX7_newLine 9 = .ok (.astore_n 3, 1) := qd2_172.2.2.2.2.2.1
theorem dX7_newLine_10 : decode cX7_newLine 10 = .ok (.aload_n 3, 1) := qd2_172.2.2.2.2.2.2.1
theorem dX7_newLine_11 : decode cX7_newLine 11 = .ok (.iconst 0, 1) := qd2_172.2.2.2.2.2.2.2.1
theorem dX7_newLine_12 : decode cX7_newLine 12 = .ok (.iload_n 1, 1) := qd2_172.2.2.2.2.2.2.2.2.1
theorem dX7_newLine_13 : decode cX7_newLine 13 = .ok (.iastore, 1) := qd2_172.2.2.2.2.2.2.2.2.2.1
theorem dX7_newLine_14 : decode cX7_newLine 14 = .ok (.aload_n 3, 1) := qd2_172.2.2.2.2.2.2.2.2.2.2.1
theorem dX7_newLine_15 : decode cX7_newLine 15 = .ok (.iconst 1, 1) := qd2_172.2.2.2.2.2.2.2.2.2.2.2
theorem qd2_173 : (decode cX7_newLine 16 = .ok (.iload_n 2, 1)) ∧ (decode cX7_newLine 17 = .ok (.iastore, 1)) ∧ (decode cX7_newLine 18 = .ok (.aload_n 3, 1)) ∧ (decode cX7_newLine 19 = .ok (.iconst 2, 1)) ∧ (decode cX7_newLine 20 = .ok (.bipush 7, 2)) ∧ (decode cX7_newLine 22 = .ok (.iastore, 1)) ∧ (decode cX7_newLine 23 = .ok (.aload_n 3, 1)) ∧ (decode cX7_newLine 24 = .ok (.iconst 3, 1)) ∧ (decode cX7_newLine 25 = .ok (.bipush 10, 2)) ∧ (decode cX7_newLine 27 = .ok (.iastore, 1)) ∧ (decode cX7_newLine 28 = .ok (.aload_n 3, 1)) ∧ (decode cX7_newLine 29 = .ok (.iconst 4, 1)) := by decide +kernel
theorem dX7_newLine_16 : decode cX7_newLine 16 = .ok (.iload_n 2, 1) := qd2_173.1
theorem dX7_newLine_17 : decode cX7_newLine 17 = .ok (.iastore, 1) := qd2_173.2.1
theorem dX7_newLine_18 : decode cX7_newLine 18 = .ok (.aload_n 3, 1) := qd2_173.2.2.1
theorem dX7_newLine_19 : decode cX7_newLine 19 = .ok (.iconst 2, 1) := qd2_173.2.2.2.1
theorem dX7_newLine_20 : decode cX7_newLine 20 = .ok (.bipush 7, 2) := qd2_173.2.2.2.2.1
theorem dX7_newLine_22 : decode cX7_newLine 22 = .ok (.iastore, 1) := qd2_173.2.2.2.2.2.1
theorem dX7_newLine_23 : decode cX7_newLine 23 = .ok (.aload_n 3, 1) := qd2_173.2.2.2.2.2.2.1
theorem dX7_newLine_24 : decode cX7_newLine 24 = .ok (.iconst 3, 1) := qd2_173.2.2.2.2.2.2.2.1
theorem dX7_newLine_25 : decode cX7_newLine 25 = .ok (.bipush 10, 2) := qd2_173.2.2.2.2.2.2.2.2.1
theorem dX7_newLine_27 : decode cX7_newLine 27 = .ok (.iastore, 1) := qd2_173.2.2.2.2.2.2.2.2.2.1
theorem dX7_newLine_28 : decode cX7_newLine 28 = .ok (.aload_n 3, 1) := qd2_173.2.2.2.2.2.2.2.2.2.2.1
theorem dX7_newLine_29 : decode cX7_newLine 29 = .ok (.iconst 4, 1) := qd2_173.2.2.2.2.2.2.2.2.2.2.2
theorem qd2_174 : (decode cX7_newLine 30 = .ok (.sipush 999, 3)) ∧ (decode cX7_newLine 33 = .ok (.iastore, 1)) ∧ (decode cX7_newLine 34 = .ok (.aload_n 3, 1)) ∧ (decode cX7_newLine 35 = .ok (.iconst 5, 1)) ∧ (decode cX7_newLine 36 = .ok (.iconst 0, 1)) ∧ (decode cX7_newLine 37 = .ok (.iastore, 1)) ∧ (decode cX7_newLine 38 = .ok (.aload_n 3, 1)) ∧ (decode cX7_newLine 39 = .ok (.bipush 6, 2)) ∧ (decode cX7_newLine 41 = .ok (.iconst 0, 1)) ∧ (decode cX7_newLine 42 = .ok (.iastore, 1)) ∧ (decode cX7_newLine 43 = .ok (.return_, 1)) := by decide +kernel
theorem dX7_newLine_30 : decode cX7_newLine 30 = .ok (.sipush 999, 3) := qd2_174.1
theorem dX7_newLine_33 : decode cX7_newLine 33 = .ok (.iastore, 1) := qd2_174.2.1
theorem dX7_newLine_34 : decode cX7_newLine 34 = .ok (.aload_n 3, 1) := qd2_174.2.2.1
theorem dX7_newLine_35 : decode cX7_newLine 35 = .ok (.iconst 5, 1) := qd2_174.2.2.2.1
theorem dX7_newLine_36 : decode cX7_newLine 36 = .ok (.iconst 0, 1) := qd2_174.2.2.2.2.1
theorem dX7_newLine_37 : decode cX7_newLine 37 = .ok (.iastore, 1) := qd2_174.2.2.2.2.2.1
theorem dX7_newLine_38 : decode cX7_newLine 38 = .ok (.aload_n 3, 1) := qd2_174.2.2.2.2.2.2.1
theorem dX7_newLine_39 : decode cX7_newLine 39 = .ok (.bipush 6, 2) := qd2_174.2.2.2.2.2.2.2.1
theorem dX7_newLine_41 : decode cX7_newLine 41 = .ok (.iconst 0, 1) := qd2_174.2.2.2.2.2.2.2.2.1
theorem dX7_newLine_42 : decode cX7_newLine 42 = .ok (.iastore, 1) := qd2_174.2.2.2.2.2.2.2.2.2.1
theorem dX7_newLine_43 : decode cX7_newLine 43 = .ok (.return_, 1) := qd2_174.2.2.2.2.2.2.2.2.2.2
