theorem qd5_0 : (decode cJ2_length_9d52b 0 = .ok (.aload_n 0, 1)) ∧ (decode cJ2_length_9d52b 1 = .ok (.arraylength, 1)) ∧ (decode cJ2_length_9d52b 2 = .ok (.iconst 1, 1)) ∧ (decode cJ2_length_9d52b 3 = .ok (.ishr, 1)) ∧ (decode cJ2_length_9d52b 4 = .ok (.ireturn, 1)) := by decide +kernel
theorem dJ2_length_9d52b_0 : decode cJ2_length_9d52b 0 = .ok (.aload_n 0, 1) := qd5_0.1
theorem dJ2_length_9d52b_1 : decode cJ2_length_9d52b 1 = .ok (.arraylength, 1) := qd5_0.2.1
theorem dJ2_length_9d52b_2 : decode cJ2_length_9d52b 2 = .ok (.iconst 1, 1) := qd5_0.2.2.1
theorem dJ2_length_9d52b_3 : decode cJ2_length_9d52b 3 = .ok (.ishr, 1) := qd5_0.2.2.2.1
theorem dJ2_length_9d52b_4 : decode cJ2_length_9d52b 4 = .ok (.ireturn, 1) := qd5_0.2.2.2.2
theorem qd5_1 : (decode cJ2_charAt_3b067 0 = .ok (.iload_n 1, 1)) ∧ (decode cJ2_charAt_3b067 1 = .ok (.aload_n 0, 1)) ∧ (decode cJ2_charAt_3b067 2 = .ok (.invokestatic 67, 3)) ∧ (decode cJ2_charAt_3b067 5 = .ok (.aload_n 0, 1)) ∧ (decode cJ2_charAt_3b067 6 = .ok (.iload_n 1, 1)) ∧ (decode cJ2_charAt_3b067 7 = .ok (.invokestatic 71, 3)) ∧ (decode cJ2_charAt_3b067 10 = .ok (.ireturn, 1)) := by decide +kernel
theorem dJ2_charAt_3b067_0 : decode cJ2_charAt_3b067 0 = .ok (.iload_n 1, 1) := qd5_1.1
theorem dJ2_charAt_3b067_1 : decode cJ2_charAt_3b067 1 = .ok (.aload_n 0, 1) := qd5_1.2.1
theorem dJ2_charAt_3b067_2 : decode cJ2_charAt_3b067 2 = .ok (.invokestatic 67, 3) := qd5_1.2.2.1
theorem dJ2_charAt_3b067_5 : decode cJ2_charAt_3b067 5 = .ok (.aload_n 0, 1) := qd5_1.2.2.2.1
theorem dJ2_charAt_3b067_6 : decode cJ2_charAt_3b067 6 = .ok (.iload_n 1, 1) := qd5_1.2.2.2.2.1
theorem dJ2_charAt_3b067_7 : decode cJ2_charAt_3b067 7 = .ok (.invokestatic 71, 3) := qd5_1.2.2.2.2.2.1
theorem dJ2_charAt_3b067_10 : decode cJ2_charAt_3b067 10 = .ok (.ireturn, 1) := qd5_1.2.2.2.2.2.2
theorem qd5_2 : (decode cJ2_checkIndex_2214a 0 = .ok (.iload_n 0, 1)) ∧ (decode cJ2_checkIndex_2214a 1 = .ok (.aload_n 1, 1)) ∧ (decode cJ2_checkIndex_2214a 2 = .ok (.invokestatic 48, 3)) ∧ (decode cJ2_checkIndex_2214a 5 = .ok (.invokestatic 414, 3)) ∧ (decode cJ2_checkIndex_2214a 8 = .ok (.return_, 1)) := by decide +kernel
theorem dJ2_checkIndex_2214a_0 : decode cJ2_checkIndex_2214a 0 = .ok (.iload_n 0, 1) := qd5_2.1
theorem dJ2_checkIndex_2214a_1 : decode cJ2_checkIndex_2214a 1 = .ok (.aload_n 1, 1) := qd5_2.2.1
theorem dJ2_checkIndex_2214a_2 : decode cJ2_checkIndex_2214a 2 = .ok (.invokestatic 48, 3) := qd5_2.2.2.1
theorem dJ2_checkIndex_2214a_5 : decode cJ2_checkIndex_2214a 5 = .ok (.invokestatic 414, 3) := qd5_2.2.2.2.1
theorem dJ2_checkIndex_2214a_8 : decode cJ2_checkIndex_2214a 8 = .ok (.return_, 1) := qd5_2.2.2.2.2
theorem qd5_3 : (decode cJ7_fill_d0a16 0 = .ok (.iconst 0, 1)) ∧ (decode cJ7_fill_d0a16 1 = .ok (.istore_n 3, 1)) ∧ (decode cJ7_fill_d0a16 2 = .ok (.aload_n 0, 1)) ∧ (decode cJ7_fill_d0a16 3 = .ok (.arraylength, 1)) ∧ (decode cJ7_fill_d0a16 4 = .ok (.istore 4, 2)) ∧ (decode cJ7_fill_d0a16 6 = .ok (.iload_n 3, 1)) ∧ (decode cJ7_fill_d0a16 7 = .ok (.iload 4, 2)) ∧ (decode cJ7_fill_d0a16 9 = .ok (.if_icmp .ge 13, 3)) ∧ (decode cJ7_fill_d0a16 12 = .ok (.aload_n 0, 1)) ∧ (decode cJ7_fill_d0a16 13 = .ok (.iload_n 3, 1)) ∧ (decode cJ7_fill_d0a16 14 = .ok (.lload_n 1, 1)) ∧ (decode cJ7_fill_d0a16 15 = .ok (.lastore, 1)) := by decide +kernel
theorem dJ7_fill_d0a16_0 : decode cJ7_fill_d0a16 0 = .ok (.iconst 0, 1) := qd5_3.1
theorem dJ7_fill_d0a16_1 : decode cJ7_fill_d0a16 1 = .ok (.istore_n 3, 1) := qd5_3.2.1
theorem dJ7_fill_d0a16_2 : decode cJ7_fill_d0a16 2 = .ok (.aload_n 0, 1) := qd5_3.2.2.1
theorem dJ7_fill_d0a16_3 : decode cJ7_fill_d0a16 3 = .ok (.arraylength, 1) := qd5_3.2.2.2.1
theorem dJ7_fill_d0a16_4 : decode cJ7_fill_d0a16 4 = .ok (.istore 4, 2) := qd5_3.2.2.2.2.1
theorem dJ7_fill_d0a16_6 : decode cJ7_fill_d0a16 6 = .ok (.iload_n 3, 1) := qd5_3.2.2.2.2.2.1
theorem dJ7_fill_d0a16_7 : decode cJ7_fill_d0a16 7 = .ok (.iload 4, 2) := qd5_3.2.2.2.2.2.2.1
theorem dJ7_fill_d0a16_9 : decode cJ7_fill_d0a16 9 = .ok (.if_icmp .ge 13, 3) := qd5_3.2.2.2.2.2.2.2.1
theorem dJ7_fill_d0a16_12 : decode cJ7_fill_d0a16 12 = .ok (.aload_n 0, 1) := qd5_3.2.2.2.2.2.2.2.2.1
theorem dJ7_fill_d0a16_13 : decode cJ7_fill_d0a16 13 = .ok (.iload_n 3, 1) := qd5_3.2.2.2.2.2.2.2.2.2.1
theorem dJ7_fill_d0a16_14 : decode cJ7_fill_d0a16 14 = .ok (.lload_n 1, 1) := qd5_3.2.2.2.2.2.2.2.2.2.2.1
theorem dJ7_fill_d0a16_15 : decode cJ7_fill_d0a16 15 = .ok (.lastore, 1) := qd5_3.2.2.2.2.2.2.2.2.2.2.2
theorem qd5_4 : (decode cJ7_fill_d0a16 16 = .ok (.iinc 3 1, 3)) ∧ (decode cJ7_fill_d0a16 19 = .ok (.goto (-13), 3)) ∧ (decode cJ7_fill_d0a16 22 = .ok (.return_, 1)) := by decide +kernel
theorem dJ7_fill_d0a16_16 : decode cJ7_fill_d0a16 16 = .ok (.iinc 3 1, 3) := qd5_4.1
theorem dJ7_fill_d0a16_19 : decode cJ7_fill_d0a16 19 = .ok (.goto (-13), 3) := qd5_4.2.1
theorem dJ7_fill_d0a16_22 : decode cJ7_fill_d0a16 22 = .ok (.return_, 1) := qd5_4.2.2
theorem qd5_5 : (decode cJ7_fill_53178 0 = .ok (.iconst 0, 1)) ∧ (decode cJ7_fill_53178 1 = .ok (.istore_n 2, 1)) ∧ (decode cJ7_fill_53178 2 = .ok (.aload_n 0, 1)) ∧ (decode cJ7_fill_53178 3 = .ok (.arraylength, 1)) ∧ (decode cJ7_fill_53178 4 = .ok (.istore_n 3, 1)) ∧ (decode cJ7_fill_53178 5 = .ok (.iload_n 2, 1)) ∧ (decode cJ7_fill_53178 6 = .ok (.iload_n 3, 1)) ∧ (decode cJ7_fill_53178 7 = .ok (.if_icmp .ge 13, 3)) ∧ (decode cJ7_fill_53178 10 = .ok (.aload_n 0, 1)) ∧ (decode cJ7_fill_53178 11 = .ok (.iload_n 2, 1)) ∧ (decode cJ7_fill_53178 12 = .ok (.iload_n 1, 1)) ∧ (decode cJ7_fill_53178 13 = .ok (.iastore, 1)) := by decide +kernel
theorem dJ7_fill_53178_0 : decode cJ7_fill_53178 0 = .ok (.iconst 0, 1) := qd5_5.1
theorem dJ7_fill_53178_1 : decode cJ7_fill_53178 1 = .ok (.istore_n 2, 1) := qd5_5.2.1
theorem dJ7_fill_53178_2 : decode cJ7_fill_53178 2 = .ok (.aload_n 0, 1) := qd5_5.2.2.1
theorem dJ7_fill_53178_3 : decode cJ7_fill_53178 3 = .ok (.arraylength, 1) := qd5_5.2.2.2.1
theorem dJ7_fill_53178_4 : decode cJ7_fill_53178 4 = .ok (.istore_n 3, 1) := qd5_5.2.2.2.2.1
theorem dJ7_fill_53178_5 : decode cJ7_fill_53178 5 = .ok (.iload_n 2, 1) := qd5_5.2.2.2.2.2.1
theorem dJ7_fill_53178_6 : decode cJ7_fill_53178 6 = .ok (.iload_n 3, 1) := qd5_5.2.2.2.2.2.2.1
theorem dJ7_fill_53178_7 : decode cJ7_fill_53178 7 = .ok (.if_icmp .ge 13, 3) := qd5_5.2.2.2.2.2.2.2.1
theorem dJ7_fill_53178_10 : decode cJ7_fill_53178 10 = .ok (.aload_n 0, 1) := qd5_5.2.2.2.2.2.2.2.2.1
theorem dJ7_fill_53178_11 : decode cJ7_fill_53178 11 = .ok (.iload_n 2, 1) := qd5_5.2.2.2.2.2.2.2.2.2.1
theorem dJ7_fill_53178_12 : decode cJ7_fill_53178 12 = .ok (.iload_n 1, 1) := qd5_5.2.2.2.2.2.2.2.2.2.2.1
theorem dJ7_fill_53178_13 : decode cJ7_fill_53178 13 = .ok (.iastore, 1) := qd5_5.2.2.2.2.2.2.2.2.2.2.2
theorem qd5_6 : (decode cJ7_fill_53178 14 = .ok (.iinc 2 1, 3)) ∧ (decode cJ7_fill_53178 17 = .ok (.goto (-12), 3)) ∧ (decode cJ7_fill_53178 20 = .ok (.return_, 1)) := by decide +kernel
theorem dJ7_fill_53178_14 : decode cJ7_fill_53178 14 = .ok (.iinc 2 1, 3) := qd5_6.1
theorem dJ7_fill_53178_17 : decode cJ7_fill_53178 17 = .ok (.goto (-12), 3) := qd5_6.2.1
theorem dJ7_fill_53178_20 : decode cJ7_fill_53178 20 = .ok (.return_, 1) := qd5_6.2.2
theorem qd5_7 : (decode cJ3_checkIndex_8e157 0 = .ok (.iload_n 0, 1)) ∧ (decode cJ3_checkIndex_8e157 1 = .ok (.ifCond .lt 8, 3)) ∧ (decode cJ3_checkIndex_8e157 4 = .ok (.iload_n 0, 1)) ∧ (decode cJ3_checkIndex_8e157 5 = .ok (.iload_n 1, 1)) ∧ (decode cJ3_checkIndex_8e157 6 = .ok (.if_icmp .lt 10, 3)) ∧ (decode cJ3_checkIndex_8e157 9 = .ok (.aload_n 2, 1)) ∧ (decode cJ3_checkIndex_8e157 10 = .ok (.iload_n 0, 1)) ∧ (decode cJ3_checkIndex_8e157 11 = .ok (.iload_n 1, 1)) ∧ (decode cJ3_checkIndex_8e157 12 = .ok (.invokestatic 95, 3)) ∧ (decode cJ3_checkIndex_8e157 15 = .ok (.athrow, 1)) ∧ (decode cJ3_checkIndex_8e157 16 = .ok (.iload_n 0, 1)) ∧ (decode cJ3_checkIndex_8e157 17 = .ok (.ireturn, 1)) := by decide +kernel
theorem dJ3_checkIndex_8e157_0 : decode cJ3_checkIndex_8e157 0 = .ok (.iload_n 0, 1) := qd5_7.1
theorem dJ3_checkIndex_8e157_1 : decode cJ3_checkIndex_8e157 1 = .ok (.ifCond .lt 8, 3) := qd5_7.2.1
theorem dJ3_checkIndex_8e157_4 : decode cJ3_checkIndex_8e157 4 = .ok (.iload_n 0, 1) := qd5_7.2.2.1
theorem dJ3_checkIndex_8e157_5 : decode cJ3_checkIndex_8e157 5 = .ok (.iload_n 1, 1) := qd5_7.2.2.2.1
theorem dJ3_checkIndex_8e157_6 : decode cJ3_checkIndex_8e157 6 = .ok (.if_icmp .lt 10, 3) := qd5_7.2.2.2.2.1
theorem dJ3_checkIndex_8e157_9 : decode cJ3_checkIndex_8e157 9 = .ok (.aload_n 2, 1) := qd5_7.2.2.2.2.2.1
theorem dJ3_checkIndex_8e157_10 : decode cJ3_checkIndex_8e157 10 = .ok (.iload_n 0, 1) := qd5_7.2.2.2.2.2.2.1
theorem dJ3_checkIndex_8e157_11 : decode cJ3_checkIndex_8e157 11 = .ok (.iload_n 1, 1) := qd5_7.2.2.2.2.2.2.2.1
theorem dJ3_checkIndex_8e157_12 : decode cJ3_checkIndex_8e157 12 = .ok (.invokestatic 95, 3) := qd5_7.2.2.2.2.2.2.2.2.1
theorem dJ3_checkIndex_8e157_15 : decode cJ3_checkIndex_8e157 15 = .ok (.athrow, 1) := qd5_7.2.2.2.2.2.2.2.2.2.1
theorem dJ3_checkIndex_8e157_16 : decode cJ3_checkIndex_8e157 16 = .ok (.iload_n 0, 1) := qd5_7.2.2.2.2.2.2.2.2.2.2.1
theorem dJ3_checkIndex_8e157_17 : decode cJ3_checkIndex_8e157 17 = .ok (.ireturn, 1) := qd5_7.2.2.2.2.2.2.2.2.2.2.2
theorem qd5_8 : (decode cL_law 0 = .ok (.new 7, 3)) ∧ (decode cL_law 3 = .ok (.dup, 1)) ∧ (decode cL_law 4 = .ok (.invokespecial 9, 3)) ∧ (decode cL_law 7 = .ok (.astore_n 1, 1)) ∧ (decode cL_law 8 = .ok (.new 10, 3)) ∧ (decode cL_law 11 = .ok (.dup, 1)) ∧ (decode cL_law 12 = .ok (.invokespecial 12, 3)) ∧ (decode cL_law 15 = .ok (.astore_n 2, 1)) ∧ (decode cL_law 16 = .ok (.iconst 0, 1)) ∧ (decode cL_law 17 = .ok (.istore_n 3, 1)) ∧ (decode cL_law 18 = .ok (.iload_n 3, 1)) ∧ (decode cL_law 19 = .ok (.aload_n 0, 1)) := by decide +kernel
theorem dL_law_0 : decode cL_law 0 = .ok (.new 7, 3) := qd5_8.1
theorem dL_law_3 : decode cL_law 3 = .ok (.dup, 1) := qd5_8.2.1
theorem dL_law_4 : decode cL_law 4 = .ok (.invokespecial 9, 3) := qd5_8.2.2.1
theorem dL_law_7 : decode cL_law 7 = .ok (.astore_n 1, 1) := qd5_8.2.2.2.1
theorem dL_law_8 : decode cL_law 8 = .ok (.new 10, 3) := qd5_8.2.2.2.2.1
theorem dL_law_11 : decode cL_law 11 = .ok (.dup, 1) := qd5_8.2.2.2.2.2.1
theorem dL_law_12 : decode cL_law 12 = .ok (.invokespecial 12, 3) := qd5_8.2.2.2.2.2.2.1
theorem dL_law_15 : decode cL_law 15 = .ok (.astore_n 2, 1) := qd5_8.2.2.2.2.2.2.2.1
theorem dL_law_16 : decode cL_law 16 = .ok (.iconst 0, 1) := qd5_8.2.2.2.2.2.2.2.2.1
theorem dL_law_17 : decode cL_law 17 = .ok (.istore_n 3, 1) := qd5_8.2.2.2.2.2.2.2.2.2.1
theorem dL_law_18 : decode cL_law 18 = .ok (.iload_n 3, 1) := qd5_8.2.2.2.2.2.2.2.2.2.2.1
theorem dL_law_19 : decode cL_law 19 = .ok (.aload_n 0, 1) := qd5_8.2.2.2.2.2.2.2.2.2.2.2
theorem qd5_9 : (decode cL_law 20 = .ok (.arraylength, 1)) ∧ (decode cL_law 21 = .ok (.bipush 7, 2)) ∧ (decode cL_law 23 = .ok (.isub, 1)) ∧ (decode cL_law 24 = .ok (.if_icmp .gt 1576, 3)) ∧ (decode cL_law 27 = .ok (.aload_n 0, 1)) ∧ (decode cL_law 28 = .ok (.iload_n 3, 1)) ∧ (decode cL_law 29 = .ok (.iaload, 1)) ∧ (decode cL_law 30 = .ok (.bipush 63, 2)) ∧ (decode cL_law 32 = .ok (.iand, 1)) ∧ (decode cL_law 33 = .ok (.tableswitch 1561 0 45 #[199, 242, 315, 378, 411, 434, 467, 500, 575, 618, 671, 704, 737, 760, 809, 842, 855, 868, 901, 934, 967, 1000, 1033, 1046, 1069, 1092, 1105, 1128, 1141, 1154, 1167, 1190, 1203, 1236, 1259, 1282, 1315, 1338, 1387, 1400, 1433, 1466, 1489, 1512, 1525, 1538], 199)) ∧ (decode cL_law 232 = .ok (.aload_n 1, 1)) ∧ (decode cL_law 233 = .ok (.aload_n 0, 1)) := by decide +kernel
theorem dL_law_20 : decode cL_law 20 = .ok (.arraylength, 1) := qd5_9.1
theorem dL_law_21 : decode cL_law 21 = .ok (.bipush 7, 2) := qd5_9.2.1
theorem dL_law_23 : decode cL_law 23 = .ok (.isub, 1) := qd5_9.2.2.1
theorem dL_law_24 : decode cL_law 24 = .ok (.if_icmp .gt 1576, 3) := qd5_9.2.2.2.1
theorem dL_law_27 : decode cL_law 27 = .ok (.aload_n 0, 1) := qd5_9.2.2.2.2.1
theorem dL_law_28 : decode cL_law 28 = .ok (.iload_n 3, 1) := qd5_9.2.2.2.2.2.1
theorem dL_law_29 : decode cL_law 29 = .ok (.iaload, 1) := qd5_9.2.2.2.2.2.2.1
theorem dL_law_30 : decode cL_law 30 = .ok (.bipush 63, 2) := qd5_9.2.2.2.2.2.2.2.1
theorem dL_law_32 : decode cL_law 32 = .ok (.iand, 1) := qd5_9.2.2.2.2.2.2.2.2.1
theorem dL_law_33 : decode cL_law 33 = .ok (.tableswitch 1561 0 45 #[199, 242, 315, 378, 411, 434, 467, 500, 575, 618, 671, 704, 737, 760, 809, 842, 855, 868, 901, 934, 967, 1000, 1033, 1046, 1069, 1092, 1105, 1128, 1141, 1154, 1167, 1190, 1203, 1236, 1259, 1282, 1315, 1338, 1387, 1400, 1433, 1466, 1489, 1512, 1525, 1538], 199) := qd5_9.2.2.2.2.2.2.2.2.2.1
theorem dL_law_232 : decode cL_law 232 = .ok (.aload_n 1, 1) := qd5_9.2.2.2.2.2.2.2.2.2.2.1
theorem dL_law_233 : decode cL_law 233 = .ok (.aload_n 0, 1) := qd5_9.2.2.2.2.2.2.2.2.2.2.2
theorem qd5_10 : (decode cL_law 234 = .ok (.iload_n 3, 1)) ∧ (decode cL_law 235 = .ok (.iconst 1, 1)) ∧ (decode cL_law 236 = .ok (.iadd, 1)) ∧ (decode cL_law 237 = .ok (.iaload, 1)) ∧ (decode cL_law 238 = .ok (.aload_n 0, 1)) ∧ (decode cL_law 239 = .ok (.iload_n 3, 1)) ∧ (decode cL_law 240 = .ok (.iconst 2, 1)) ∧ (decode cL_law 241 = .ok (.iadd, 1)) ∧ (decode cL_law 242 = .ok (.iaload, 1)) ∧ (decode cL_law 243 = .ok (.aload_n 0, 1)) ∧ (decode cL_law 244 = .ok (.iload_n 3, 1)) ∧ (decode cL_law 245 = .ok (.iconst 3, 1)) := by decide +kernel
theorem dL_law_234 : decode cL_law 234 = .ok (.iload_n 3, 1) := qd5_10.1
theorem dL_law_235 : decode cL_law 235 = .ok (.iconst 1, 1) := qd5_10.2.1
theorem dL_law_236 : decode cL_law 236 = .ok (.iadd, 1) := qd5_10.2.2.1
theorem dL_law_237 : decode cL_law 237 = .ok (.iaload, 1) := qd5_10.2.2.2.1
theorem dL_law_238 : decode cL_law 238 = .ok (.aload_n 0, 1) := qd5_10.2.2.2.2.1
theorem dL_law_239 : decode cL_law 239 = .ok (.iload_n 3, 1) := qd5_10.2.2.2.2.2.1
theorem dL_law_240 : decode cL_law 240 = .ok (.iconst 2, 1) := qd5_10.2.2.2.2.2.2.1
theorem dL_law_241 : decode cL_law 241 = .ok (.iadd, 1) := qd5_10.2.2.2.2.2.2.2.1
theorem dL_law_242 : decode cL_law 242 = .ok (.iaload, 1) := qd5_10.2.2.2.2.2.2.2.2.1
theorem dL_law_243 : decode cL_law 243 = .ok (.aload_n 0, 1) := qd5_10.2.2.2.2.2.2.2.2.2.1
theorem dL_law_244 : decode cL_law 244 = .ok (.iload_n 3, 1) := qd5_10.2.2.2.2.2.2.2.2.2.2.1
theorem dL_law_245 : decode cL_law 245 = .ok (.iconst 3, 1) := qd5_10.2.2.2.2.2.2.2.2.2.2.2
theorem qd5_11 : (decode cL_law 246 = .ok (.iadd, 1)) ∧ (decode cL_law 247 = .ok (.iaload, 1)) ∧ (decode cL_law 248 = .ok (.invokevirtual 13, 3)) ∧ (decode cL_law 251 = .ok (.pop, 1)) ∧ (decode cL_law 252 = .ok (.aload_n 2, 1)) ∧ (decode cL_law 253 = .ok (.aload_n 0, 1)) ∧ (decode cL_law 254 = .ok (.iload_n 3, 1)) ∧ (decode cL_law 255 = .ok (.iconst 1, 1)) ∧ (decode cL_law 256 = .ok (.iadd, 1)) ∧ (decode cL_law 257 = .ok (.iaload, 1)) ∧ (decode cL_law 258 = .ok (.aload_n 0, 1)) ∧ (decode cL_law 259 = .ok (.iload_n 3, 1)) := by decide +kernel
theorem dL_law_246 : decode cL_law 246 = .ok (.iadd, 1) := qd5_11.1
theorem dL_law_247 : decode cL_law 247 = .ok (.iaload, 1) := qd5_11.2.1
theorem dL_law_248 : decode cL_law 248 = .ok (.invokevirtual 13, 3) := qd5_11.2.2.1
theorem dL_law_251 : decode cL_law 251 = .ok (.pop, 1) := qd5_11.2.2.2.1
theorem dL_law_252 : decode cL_law 252 = .ok (.aload_n 2, 1) := qd5_11.2.2.2.2.1
theorem dL_law_253 : decode cL_law 253 = .ok (.aload_n 0, 1) := qd5_11.2.2.2.2.2.1
theorem dL_law_254 : decode cL_law 254 = .ok (.iload_n 3, 1) := qd5_11.2.2.2.2.2.2.1
theorem dL_law_255 : decode cL_law 255 = .ok (.iconst 1, 1) := qd5_11.2.2.2.2.2.2.2.1
theorem dL_law_256 : decode cL_law 256 = .ok (.iadd, 1) := qd5_11.2.2.2.2.2.2.2.2.1
theorem dL_law_257 : decode cL_law 257 = .ok (.iaload, 1) := qd5_11.2.2.2.2.2.2.2.2.2.1
theorem dL_law_258 : decode cL_law 258 = .ok (.aload_n 0, 1) := qd5_11.2.2.2.2.2.2.2.2.2.2.1
theorem dL_law_259 : decode cL_law 259 = .ok (.iload_n 3, 1) := qd5_11.2.2.2.2.2.2.2.2.2.2.2
theorem qd5_12 : (decode cL_law 260 = .ok (.iconst 2, 1)) ∧ (decode cL_law 261 = .ok (.iadd, 1)) ∧ (decode cL_law 262 = .ok (.iaload, 1)) ∧ (decode cL_law 263 = .ok (.aload_n 0, 1)) ∧ (decode cL_law 264 = .ok (.iload_n 3, 1)) ∧ (decode cL_law 265 = .ok (.iconst 3, 1)) ∧ (decode cL_law 266 = .ok (.iadd, 1)) ∧ (decode cL_law 267 = .ok (.iaload, 1)) ∧ (decode cL_law 268 = .ok (.invokevirtual 17, 3)) ∧ (decode cL_law 271 = .ok (.pop, 1)) ∧ (decode cL_law 272 = .ok (.goto 1322, 3)) ∧ (decode cL_law 275 = .ok (.aload_n 1, 1)) := by decide +kernel
theorem dL_law_260 : decode cL_law 260 = .ok (.iconst 2, 1) := qd5_12.1
theorem dL_law_261 : decode cL_law 261 = .ok (.iadd, 1) := qd5_12.2.1
theorem dL_law_262 : decode cL_law 262 = .ok (.iaload, 1) := qd5_12.2.2.1
theorem dL_law_263 : decode cL_law 263 = .ok (.aload_n 0, 1) := qd5_12.2.2.2.1
theorem dL_law_264 : decode cL_law 264 = .ok (.iload_n 3, 1) := qd5_12.2.2.2.2.1
theorem dL_law_265 : decode cL_law 265 = .ok (.iconst 3, 1) := qd5_12.2.2.2.2.2.1
theorem dL_law_266 : decode cL_law 266 = .ok (.iadd, 1) := qd5_12.2.2.2.2.2.2.1
theorem dL_law_267 : decode cL_law 267 = .ok (.iaload, 1) := qd5_12.2.2.2.2.2.2.2.1
theorem dL_law_268 : decode cL_law 268 = .ok (.invokevirtual 17, 3) := qd5_12.2.2.2.2.2.2.2.2.1
theorem dL_law_271 : decode cL_law 271 = .ok (.pop, 1) := qd5_12.2.2.2.2.2.2.2.2.2.1
theorem dL_law_272 : decode cL_law 272 = .ok (.goto 1322, 3) := qd5_12.2.2.2.2.2.2.2.2.2.2.1
theorem dL_law_275 : decode cL_law 275 = .ok (.aload_n 1, 1) := qd5_12.2.2.2.2.2.2.2.2.2.2.2
theorem qd5_13 : (decode cL_law 276 = .ok (.aload_n 0, 1)) ∧ (decode cL_law 277 = .ok (.iload_n 3, 1)) ∧ (decode cL_law 278 = .ok (.iconst 1, 1)) ∧ (decode cL_law 279 = .ok (.iadd, 1)) ∧ (decode cL_law 280 = .ok (.iaload, 1)) ∧ (decode cL_law 281 = .ok (.aload_n 0, 1)) ∧ (decode cL_law 282 = .ok (.iload_n 3, 1)) ∧ (decode cL_law 283 = .ok (.iconst 2, 1)) ∧ (decode cL_law 284 = .ok (.iadd, 1)) ∧ (decode cL_law 285 = .ok (.iaload, 1)) ∧ (decode cL_law 286 = .ok (.aload_n 0, 1)) ∧ (decode cL_law 287 = .ok (.iload_n 3, 1)) := by decide +kernel
theorem dL_law_276 : decode cL_law 276 = .ok (.aload_n 0, 1) := qd5_13.1
theorem dL_law_277 : decode cL_law 277 = .ok (.iload_n 3, 1) := qd5_13.2.1
theorem dL_law_278 : decode cL_law 278 = .ok (.iconst 1, 1) := qd5_13.2.2.1
theorem dL_law_279 : decode cL_law 279 = .ok (.iadd, 1) := qd5_13.2.2.2.1
theorem dL_law_280 : decode cL_law 280 = .ok (.iaload, 1) := qd5_13.2.2.2.2.1
theorem dL_law_281 : decode cL_law 281 = .ok (.aload_n 0, 1) := qd5_13.2.2.2.2.2.1
theorem dL_law_282 : decode cL_law 282 = .ok (.iload_n 3, 1) := qd5_13.2.2.2.2.2.2.1
theorem dL_law_283 : decode cL_law 283 = .ok (.iconst 2, 1) := qd5_13.2.2.2.2.2.2.2.1
theorem dL_law_284 : decode cL_law 284 = .ok (.iadd, 1) := qd5_13.2.2.2.2.2.2.2.2.1
theorem dL_law_285 : decode cL_law 285 = .ok (.iaload, 1) := qd5_13.2.2.2.2.2.2.2.2.2.1
theorem dL_law_286 : decode cL_law 286 = .ok (.aload_n 0, 1) := qd5_13.2.2.2.2.2.2.2.2.2.2.1
theorem dL_law_287 : decode cL_law 287 = .ok (.iload_n 3, 1) := qd5_13.2.2.2.2.2.2.2.2.2.2.2
theorem qd5_14 : (decode cL_law 288 = .ok (.iconst 3, 1)) ∧ (decode cL_law 289 = .ok (.iadd, 1)) ∧ (decode cL_law 290 = .ok (.iaload, 1)) ∧ (decode cL_law 291 = .ok (.i2l, 1)) ∧ (decode cL_law 292 = .ok (.bipush 32, 2)) ∧ (decode cL_law 294 = .ok (.lshl, 1)) ∧ (decode cL_law 295 = .ok (.aload_n 0, 1)) ∧ (decode cL_law 296 = .ok (.iload_n 3, 1)) ∧ (decode cL_law 297 = .ok (.iconst 4, 1)) ∧ (decode cL_law 298 = .ok (.iadd, 1)) ∧ (decode cL_law 299 = .ok (.iaload, 1)) ∧ (decode cL_law 300 = .ok (.i2l, 1)) := by decide +kernel
theorem dL_law_288 : decode cL_law 288 = .ok (.iconst 3, 1) := qd5_14.1
theorem dL_law_289 : decode cL_law 289 = .ok (.iadd, 1) := qd5_14.2.1
theorem dL_law_290 : decode cL_law 290 = .ok (.iaload, 1) := qd5_14.2.2.1
theorem dL_law_291 : decode cL_law 291 = .ok (.i2l, 1) := qd5_14.2.2.2.1
theorem dL_law_292 : decode cL_law 292 = .ok (.bipush 32, 2) := qd5_14.2.2.2.2.1
theorem dL_law_294 : decode cL_law 294 = .ok (.lshl, 1) := qd5_14.2.2.2.2.2.1
theorem dL_law_295 : decode cL_law 295 = .ok (.aload_n 0, 1) := qd5_14.2.2.2.2.2.2.1
theorem dL_law_296 : decode cL_law 296 = .ok (.iload_n 3, 1) := qd5_14.2.2.2.2.2.2.2.1
theorem dL_law_297 : decode cL_law 297 = .ok (.iconst 4, 1) := qd5_14.2.2.2.2.2.2.2.2.1
theorem dL_law_298 : decode cL_law 298 = .ok (.iadd, 1) := qd5_14.2.2.2.2.2.2.2.2.2.1
theorem dL_law_299 : decode cL_law 299 = .ok (.iaload, 1) := qd5_14.2.2.2.2.2.2.2.2.2.2.1
theorem dL_law_300 : decode cL_law 300 = .ok (.i2l, 1) := qd5_14.2.2.2.2.2.2.2.2.2.2.2
theorem qd5_15 : (decode cL_law 301 = .ok (.ldc2_w 18, 3)) ∧ (decode cL_law 304 = .ok (.land, 1)) ∧ (decode cL_law 305 = .ok (.lor, 1)) ∧ (decode cL_law 306 = .ok (.invokevirtual 20, 3)) ∧ (decode cL_law 309 = .ok (.pop, 1)) ∧ (decode cL_law 310 = .ok (.aload_n 2, 1)) ∧ (decode cL_law 311 = .ok (.aload_n 0, 1)) ∧ (decode cL_law 312 = .ok (.iload_n 3, 1)) ∧ (decode cL_law 313 = .ok (.iconst 1, 1)) ∧ (decode cL_law 314 = .ok (.iadd, 1)) ∧ (decode cL_law 315 = .ok (.iaload, 1)) ∧ (decode cL_law 316 = .ok (.aload_n 0, 1)) := by decide +kernel
theorem dL_law_301 : decode cL_law 301 = .ok (.ldc2_w 18, 3) := qd5_15.1
theorem dL_law_304 : decode cL_law 304 = .ok (.land, 1) := qd5_15.2.1
theorem dL_law_305 : decode cL_law 305 = .ok (.lor, 1) := qd5_15.2.2.1
theorem dL_law_306 : decode cL_law 306 = .ok (.invokevirtual 20, 3) := qd5_15.2.2.2.1
theorem dL_law_309 : decode cL_law 309 = .ok (.pop, 1) := qd5_15.2.2.2.2.1
theorem dL_law_310 : decode cL_law 310 = .ok (.aload_n 2, 1) := qd5_15.2.2.2.2.2.1
theorem dL_law_311 : decode cL_law 311 = .ok (.aload_n 0, 1) := qd5_15.2.2.2.2.2.2.1
theorem dL_law_312 : decode cL_law 312 = .ok (.iload_n 3, 1) := qd5_15.2.2.2.2.2.2.2.1
theorem dL_law_313 : decode cL_law 313 = .ok (.iconst 1, 1) := qd5_15.2.2.2.2.2.2.2.2.1
theorem dL_law_314 : decode cL_law 314 = .ok (.iadd, 1) := qd5_15.2.2.2.2.2.2.2.2.2.1
theorem dL_law_315 : decode cL_law 315 = .ok (.iaload, 1) := qd5_15.2.2.2.2.2.2.2.2.2.2.1
theorem dL_law_316 : decode cL_law 316 = .ok (.aload_n 0, 1) := qd5_15.2.2.2.2.2.2.2.2.2.2.2
theorem qd5_16 : (decode cL_law 317 = .ok (.iload_n 3, 1)) ∧ (decode cL_law 318 = .ok (.iconst 2, 1)) ∧ (decode cL_law 319 = .ok (.iadd, 1)) ∧ (decode cL_law 320 = .ok (.iaload, 1)) ∧ (decode cL_law 321 = .ok (.aload_n 0, 1)) ∧ (decode cL_law 322 = .ok (.iload_n 3, 1)) ∧ (decode cL_law 323 = .ok (.iconst 3, 1)) ∧ (decode cL_law 324 = .ok (.iadd, 1)) ∧ (decode cL_law 325 = .ok (.iaload, 1)) ∧ (decode cL_law 326 = .ok (.i2l, 1)) ∧ (decode cL_law 327 = .ok (.bipush 32, 2)) ∧ (decode cL_law 329 = .ok (.lshl, 1)) := by decide +kernel
theorem dL_law_317 : decode cL_law 317 = .ok (.iload_n 3, 1) := qd5_16.1
theorem dL_law_318 : decode cL_law 318 = .ok (.iconst 2, 1) := qd5_16.2.1
theorem dL_law_319 : decode cL_law 319 = .ok (.iadd, 1) := qd5_16.2.2.1
theorem dL_law_320 : decode cL_law 320 = .ok (.iaload, 1) := qd5_16.2.2.2.1
theorem dL_law_321 : decode cL_law 321 = .ok (.aload_n 0, 1) := qd5_16.2.2.2.2.1
theorem dL_law_322 : decode cL_law 322 = .ok (.iload_n 3, 1) := qd5_16.2.2.2.2.2.1
theorem dL_law_323 : decode cL_law 323 = .ok (.iconst 3, 1) := qd5_16.2.2.2.2.2.2.1
theorem dL_law_324 : decode cL_law 324 = .ok (.iadd, 1) := qd5_16.2.2.2.2.2.2.2.1
theorem dL_law_325 : decode cL_law 325 = .ok (.iaload, 1) := qd5_16.2.2.2.2.2.2.2.2.1
theorem dL_law_326 : decode cL_law 326 = .ok (.i2l, 1) := qd5_16.2.2.2.2.2.2.2.2.2.1
theorem dL_law_327 : decode cL_law 327 = .ok (.bipush 32, 2) := qd5_16.2.2.2.2.2.2.2.2.2.2.1
theorem dL_law_329 : decode cL_law 329 = .ok (.lshl, 1) := qd5_16.2.2.2.2.2.2.2.2.2.2.2
theorem qd5_17 : (decode cL_law 330 = .ok (.aload_n 0, 1)) ∧ (decode cL_law 331 = .ok (.iload_n 3, 1)) ∧ (decode cL_law 332 = .ok (.iconst 4, 1)) ∧ (decode cL_law 333 = .ok (.iadd, 1)) ∧ (decode cL_law 334 = .ok (.iaload, 1)) ∧ (decode cL_law 335 = .ok (.i2l, 1)) ∧ (decode cL_law 336 = .ok (.ldc2_w 18, 3)) ∧ (decode cL_law 339 = .ok (.land, 1)) ∧ (decode cL_law 340 = .ok (.lor, 1)) ∧ (decode cL_law 341 = .ok (.invokevirtual 24, 3)) ∧ (decode cL_law 344 = .ok (.pop, 1)) ∧ (decode cL_law 345 = .ok (.goto 1249, 3)) := by decide +kernel
theorem dL_law_330 : decode cL_law 330 = .ok (.aload_n 0, 1) := qd5_17.1
theorem dL_law_331 : decode cL_law 331 = .ok (.iload_n 3, 1) := qd5_17.2.1
theorem dL_law_332 : decode cL_law 332 = .ok (.iconst 4, 1) := qd5_17.2.2.1
theorem dL_law_333 : decode cL_law 333 = .ok (.iadd, 1) := qd5_17.2.2.2.1
theorem dL_law_334 : decode cL_law 334 = .ok (.iaload, 1) := qd5_17.2.2.2.2.1
theorem dL_law_335 : decode cL_law 335 = .ok (.i2l, 1) := qd5_17.2.2.2.2.2.1
theorem dL_law_336 : decode cL_law 336 = .ok (.ldc2_w 18, 3) := qd5_17.2.2.2.2.2.2.1
theorem dL_law_339 : decode cL_law 339 = .ok (.land, 1) := qd5_17.2.2.2.2.2.2.2.1
theorem dL_law_340 : decode cL_law 340 = .ok (.lor, 1) := qd5_17.2.2.2.2.2.2.2.2.1
theorem dL_law_341 : decode cL_law 341 = .ok (.invokevirtual 24, 3) := qd5_17.2.2.2.2.2.2.2.2.2.1
theorem dL_law_344 : decode cL_law 344 = .ok (.pop, 1) := qd5_17.2.2.2.2.2.2.2.2.2.2.1
theorem dL_law_345 : decode cL_law 345 = .ok (.goto 1249, 3) := qd5_17.2.2.2.2.2.2.2.2.2.2.2
theorem qd5_18 : (decode cL_law 348 = .ok (.aload_n 1, 1)) ∧ (decode cL_law 349 = .ok (.aload_n 0, 1)) ∧ (decode cL_law 350 = .ok (.iload_n 3, 1)) ∧ (decode cL_law 351 = .ok (.iconst 1, 1)) ∧ (decode cL_law 352 = .ok (.iadd, 1)) ∧ (decode cL_law 353 = .ok (.iaload, 1)) ∧ (decode cL_law 354 = .ok (.aload_n 0, 1)) ∧ (decode cL_law 355 = .ok (.iload_n 3, 1)) ∧ (decode cL_law 356 = .ok (.iconst 2, 1)) ∧ (decode cL_law 357 = .ok (.iadd, 1)) ∧ (decode cL_law 358 = .ok (.iaload, 1)) ∧ (decode cL_law 359 = .ok (.aload_n 0, 1)) := by decide +kernel
theorem dL_law_348 : decode cL_law 348 = .ok (.aload_n 1, 1) := qd5_18.1
theorem dL_law_349 : decode cL_law 349 = .ok (.aload_n 0, 1) := qd5_18.2.1
theorem dL_law_350 : decode cL_law 350 = .ok (.iload_n 3, 1) := qd5_18.2.2.1
theorem dL_law_351 : decode cL_law 351 = .ok (.iconst 1, 1) := qd5_18.2.2.2.1
theorem dL_law_352 : decode cL_law 352 = .ok (.iadd, 1) := qd5_18.2.2.2.2.1
theorem dL_law_353 : decode cL_law 353 = .ok (.iaload, 1) := qd5_18.2.2.2.2.2.1
theorem dL_law_354 : decode cL_law 354 = .ok (.aload_n 0, 1) := qd5_18.2.2.2.2.2.2.1
theorem dL_law_355 : decode cL_law 355 = .ok (.iload_n 3, 1) := qd5_18.2.2.2.2.2.2.2.1
theorem dL_law_356 : decode cL_law 356 = .ok (.iconst 2, 1) := qd5_18.2.2.2.2.2.2.2.2.1
theorem dL_law_357 : decode cL_law 357 = .ok (.iadd, 1) := qd5_18.2.2.2.2.2.2.2.2.2.1
theorem dL_law_358 : decode cL_law 358 = .ok (.iaload, 1) := qd5_18.2.2.2.2.2.2.2.2.2.2.1
theorem dL_law_359 : decode cL_law 359 = .ok (.aload_n 0, 1) := qd5_18.2.2.2.2.2.2.2.2.2.2.2
theorem qd5_19 : (decode cL_law 360 = .ok (.iload_n 3, 1)) ∧ (decode cL_law 361 = .ok (.iconst 3, 1)) ∧ (decode cL_law 362 = .ok (.iadd, 1)) ∧ (decode cL_law 363 = .ok (.iaload, 1)) ∧ (decode cL_law 364 = .ok (.aload_n 0, 1)) ∧ (decode cL_law 365 = .ok (.iload_n 3, 1)) ∧ (decode cL_law 366 = .ok (.iconst 4, 1)) ∧ (decode cL_law 367 = .ok (.iadd, 1)) ∧ (decode cL_law 368 = .ok (.iaload, 1)) ∧ (decode cL_law 369 = .ok (.aload_n 0, 1)) ∧ (decode cL_law 370 = .ok (.iload_n 3, 1)) ∧ (decode cL_law 371 = .ok (.iconst 5, 1)) := by decide +kernel
theorem dL_law_360 : decode cL_law 360 = .ok (.iload_n 3, 1) := qd5_19.1
theorem dL_law_361 : decode cL_law 361 = .ok (.iconst 3, 1) := qd5_19.2.1
theorem dL_law_362 : decode cL_law 362 = .ok (.iadd, 1) := qd5_19.2.2.1
theorem dL_law_363 : decode cL_law 363 = .ok (.iaload, 1) := qd5_19.2.2.2.1
theorem dL_law_364 : decode cL_law 364 = .ok (.aload_n 0, 1) := qd5_19.2.2.2.2.1
theorem dL_law_365 : decode cL_law 365 = .ok (.iload_n 3, 1) := qd5_19.2.2.2.2.2.1
theorem dL_law_366 : decode cL_law 366 = .ok (.iconst 4, 1) := qd5_19.2.2.2.2.2.2.1
theorem dL_law_367 : decode cL_law 367 = .ok (.iadd, 1) := qd5_19.2.2.2.2.2.2.2.1
theorem dL_law_368 : decode cL_law 368 = .ok (.iaload, 1) := qd5_19.2.2.2.2.2.2.2.2.1
theorem dL_law_369 : decode cL_law 369 = .ok (.aload_n 0, 1) := qd5_19.2.2.2.2.2.2.2.2.2.1
theorem dL_law_370 : decode cL_law 370 = .ok (.iload_n 3, 1) := qd5_19.2.2.2.2.2.2.2.2.2.2.1
theorem dL_law_371 : decode cL_law 371 = .ok (.iconst 5, 1) := qd5_19.2.2.2.2.2.2.2.2.2.2.2
theorem qd5_20 : (decode cL_law 372 = .ok (.iadd, 1)) ∧ (decode cL_law 373 = .ok (.iaload, 1)) ∧ (decode cL_law 374 = .ok (.invokevirtual 25, 3)) ∧ (decode cL_law 377 = .ok (.pop, 1)) ∧ (decode cL_law 378 = .ok (.aload_n 2, 1)) ∧ (decode cL_law 379 = .ok (.aload_n 0, 1)) ∧ (decode cL_law 380 = .ok (.iload_n 3, 1)) ∧ (decode cL_law 381 = .ok (.iconst 1, 1)) ∧ (decode cL_law 382 = .ok (.iadd, 1)) ∧ (decode cL_law 383 = .ok (.iaload, 1)) ∧ (decode cL_law 384 = .ok (.aload_n 0, 1)) ∧ (decode cL_law 385 = .ok (.iload_n 3, 1)) := by decide +kernel
theorem dL_law_372 : decode cL_law 372 = .ok (.iadd, 1) := qd5_20.1
theorem dL_law_373 : decode cL_law 373 = .ok (.iaload, 1) := qd5_20.2.1
theorem dL_law_374 : decode cL_law 374 = .ok (.invokevirtual 25, 3) := qd5_20.2.2.1
theorem dL_law_377 : decode cL_law 377 = .ok (.pop, 1) := qd5_20.2.2.2.1
theorem dL_law_378 : decode cL_law 378 = .ok (.aload_n 2, 1) := qd5_20.2.2.2.2.1
theorem dL_law_379 : decode cL_law 379 = .ok (.aload_n 0, 1) := qd5_20.2.2.2.2.2.1
theorem dL_law_380 : decode cL_law 380 = .ok (.iload_n 3, 1) := qd5_20.2.2.2.2.2.2.1
theorem dL_law_381 : decode cL_law 381 = .ok (.iconst 1, 1) := qd5_20.2.2.2.2.2.2.2.1
theorem dL_law_382 : decode cL_law 382 = .ok (.iadd, 1) := qd5_20.2.2.2.2.2.2.2.2.1
theorem dL_law_383 : decode cL_law 383 = .ok (.iaload, 1) := qd5_20.2.2.2.2.2.2.2.2.2.1
theorem dL_law_384 : decode cL_law 384 = .ok (.aload_n 0, 1) := qd5_20.2.2.2.2.2.2.2.2.2.2.1
theorem dL_law_385 : decode cL_law 385 = .ok (.iload_n 3, 1) := qd5_20.2.2.2.2.2.2.2.2.2.2.2
theorem qd5_21 : (decode cL_law 386 = .ok (.iconst 2, 1)) ∧ (decode cL_law 387 = .ok (.iadd, 1)) ∧ (decode cL_law 388 = .ok (.iaload, 1)) ∧ (decode cL_law 389 = .ok (.aload_n 0, 1)) ∧ (decode cL_law 390 = .ok (.iload_n 3, 1)) ∧ (decode cL_law 391 = .ok (.iconst 3, 1)) ∧ (decode cL_law 392 = .ok (.iadd, 1)) ∧ (decode cL_law 393 = .ok (.iaload, 1)) ∧ (decode cL_law 394 = .ok (.aload_n 0, 1)) ∧ (decode cL_law 395 = .ok (.iload_n 3, 1)) ∧ (decode cL_law 396 = .ok (.iconst 4, 1)) ∧ (decode cL_law 397 = .ok (.iadd, 1)) := by decide +kernel
theorem dL_law_386 : decode cL_law 386 = .ok (.iconst 2, 1) := qd5_21.1
theorem dL_law_387 : decode cL_law 387 = .ok (.iadd, 1) := qd5_21.2.1
theorem dL_law_388 : decode cL_law 388 = .ok (.iaload, 1) := qd5_21.2.2.1
theorem dL_law_389 : decode cL_law 389 = .ok (.aload_n 0, 1) := qd5_21.2.2.2.1
theorem dL_law_390 : decode cL_law 390 = .ok (.iload_n 3, 1) := qd5_21.2.2.2.2.1
theorem dL_law_391 : decode cL_law 391 = .ok (.iconst 3, 1) := qd5_21.2.2.2.2.2.1
theorem dL_law_392 : decode cL_law 392 = .ok (.iadd, 1) := qd5_21.2.2.2.2.2.2.1
theorem dL_law_393 : decode cL_law 393 = .ok (.iaload, 1) := qd5_21.2.2.2.2.2.2.2.1
theorem dL_law_394 : decode cL_law 394 = .ok (.aload_n 0, 1) := qd5_21.2.2.2.2.2.2.2.2.1
theorem dL_law_395 : decode cL_law 395 = .ok (.iload_n 3, 1) := qd5_21.2.2.2.2.2.2.2.2.2.1
theorem dL_law_396 : decode cL_law 396 = .ok (.iconst 4, 1) := qd5_21.2.2.2.2.2.2.2.2.2.2.1
theorem dL_law_397 : decode cL_law 397 = .ok (.iadd, 1) := qd5_21.2.2.2.2.2.2.2.2.2.2.2
theorem qd5_22 : (decode cL_law 398 = .ok (.iaload, 1)) ∧ (decode cL_law 399 = .ok (.aload_n 0, 1)) ∧ (decode cL_law 400 = .ok (.iload_n 3, 1)) ∧ (decode cL_law 401 = .ok (.iconst 5, 1)) ∧ (decode cL_law 402 = .ok (.iadd, 1)) ∧ (decode cL_law 403 = .ok (.iaload, 1)) ∧ (decode cL_law 404 = .ok (.invokevirtual 29, 3)) ∧ (decode cL_law 407 = .ok (.pop, 1)) ∧ (decode cL_law 408 = .ok (.goto 1186, 3)) ∧ (decode cL_law 411 = .ok (.aload_n 1, 1)) ∧ (decode cL_law 412 = .ok (.aload_n 0, 1)) ∧ (decode cL_law 413 = .ok (.iload_n 3, 1)) := by decide +kernel
theorem dL_law_398 : decode cL_law 398 = .ok (.iaload, 1) := qd5_22.1
theorem dL_law_399 : decode cL_law 399 = .ok (.aload_n 0, 1) := qd5_22.2.1
theorem dL_law_400 : decode cL_law 400 = .ok (.iload_n 3, 1) := qd5_22.2.2.1
theorem dL_law_401 : decode cL_law 401 = .ok (.iconst 5, 1) := qd5_22.2.2.2.1
theorem dL_law_402 : decode cL_law 402 = .ok (.iadd, 1) := qd5_22.2.2.2.2.1
theorem dL_law_403 : decode cL_law 403 = .ok (.iaload, 1) := qd5_22.2.2.2.2.2.1
theorem dL_law_404 : decode cL_law 404 = .ok (.invokevirtual 29, 3) := qd5_22.2.2.2.2.2.2.1
theorem dL_law_407 : decode cL_law 407 = .ok (.pop, 1) := qd5_22.2.2.2.2.2.2.2.1
theorem dL_law_408 : decode cL_law 408 = .ok (.goto 1186, 3) := qd5_22.2.2.2.2.2.2.2.2.1
theorem dL_law_411 : decode cL_law 411 = .ok (.aload_n 1, 1) := qd5_22.2.2.2.2.2.2.2.2.2.1
theorem dL_law_412 : decode cL_law 412 = .ok (.aload_n 0, 1) := qd5_22.2.2.2.2.2.2.2.2.2.2.1
theorem dL_law_413 : decode cL_law 413 = .ok (.iload_n 3, 1) := qd5_22.2.2.2.2.2.2.2.2.2.2.2
theorem qd5_23 : (decode cL_law 414 = .ok (.iconst 1, 1)) ∧ (decode cL_law 415 = .ok (.iadd, 1)) ∧ (decode cL_law 416 = .ok (.iaload, 1)) ∧ (decode cL_law 417 = .ok (.aload_n 0, 1)) ∧ (decode cL_law 418 = .ok (.iload_n 3, 1)) ∧ (decode cL_law 419 = .ok (.iconst 2, 1)) ∧ (decode cL_law 420 = .ok (.iadd, 1)) ∧ (decode cL_law 421 = .ok (.iaload, 1)) ∧ (decode cL_law 422 = .ok (.invokevirtual 30, 3)) ∧ (decode cL_law 425 = .ok (.pop2, 1)) ∧ (decode cL_law 426 = .ok (.aload_n 2, 1)) ∧ (decode cL_law 427 = .ok (.aload_n 0, 1)) := by decide +kernel
theorem dL_law_414 : decode cL_law 414 = .ok (.iconst 1, 1) := qd5_23.1
theorem dL_law_415 : decode cL_law 415 = .ok (.iadd, 1) := qd5_23.2.1
theorem dL_law_416 : decode cL_law 416 = .ok (.iaload, 1) := qd5_23.2.2.1
theorem dL_law_417 : decode cL_law 417 = .ok (.aload_n 0, 1) := qd5_23.2.2.2.1
theorem dL_law_418 : decode cL_law 418 = .ok (.iload_n 3, 1) := qd5_23.2.2.2.2.1
theorem dL_law_419 : decode cL_law 419 = .ok (.iconst 2, 1) := qd5_23.2.2.2.2.2.1
theorem dL_law_420 : decode cL_law 420 = .ok (.iadd, 1) := qd5_23.2.2.2.2.2.2.1
theorem dL_law_421 : decode cL_law 421 = .ok (.iaload, 1) := qd5_23.2.2.2.2.2.2.2.1
theorem dL_law_422 : decode cL_law 422 = .ok (.invokevirtual 30, 3) := qd5_23.2.2.2.2.2.2.2.2.1
theorem dL_law_425 : decode cL_law 425 = .ok (.pop2, 1) := qd5_23.2.2.2.2.2.2.2.2.2.1
theorem dL_law_426 : decode cL_law 426 = .ok (.aload_n 2, 1) := qd5_23.2.2.2.2.2.2.2.2.2.2.1
theorem dL_law_427 : decode cL_law 427 = .ok (.aload_n 0, 1) := qd5_23.2.2.2.2.2.2.2.2.2.2.2
theorem qd5_24 : (decode cL_law 428 = .ok (.iload_n 3, 1)) ∧ (decode cL_law 429 = .ok (.iconst 1, 1)) ∧ (decode cL_law 430 = .ok (.iadd, 1)) ∧ (decode cL_law 431 = .ok (.iaload, 1)) ∧ (decode cL_law 432 = .ok (.aload_n 0, 1)) ∧ (decode cL_law 433 = .ok (.iload_n 3, 1)) ∧ (decode cL_law 434 = .ok (.iconst 2, 1)) ∧ (decode cL_law 435 = .ok (.iadd, 1)) ∧ (decode cL_law 436 = .ok (.iaload, 1)) ∧ (decode cL_law 437 = .ok (.invokevirtual 34, 3)) ∧ (decode cL_law 440 = .ok (.pop2, 1)) ∧ (decode cL_law 441 = .ok (.goto 1153, 3)) := by decide +kernel
theorem dL_law_428 : decode cL_law 428 = .ok (.iload_n 3, 1) := qd5_24.1
theorem dL_law_429 : decode cL_law 429 = .ok (.iconst 1, 1) := qd5_24.2.1
theorem dL_law_430 : decode cL_law 430 = .ok (.iadd, 1) := qd5_24.2.2.1
theorem dL_law_431 : decode cL_law 431 = .ok (.iaload, 1) := qd5_24.2.2.2.1
theorem dL_law_432 : decode cL_law 432 = .ok (.aload_n 0, 1) := qd5_24.2.2.2.2.1
theorem dL_law_433 : decode cL_law 433 = .ok (.iload_n 3, 1) := qd5_24.2.2.2.2.2.1
theorem dL_law_434 : decode cL_law 434 = .ok (.iconst 2, 1) := qd5_24.2.2.2.2.2.2.1
theorem dL_law_435 : decode cL_law 435 = .ok (.iadd, 1) := qd5_24.2.2.2.2.2.2.2.1
theorem dL_law_436 : decode cL_law 436 = .ok (.iaload, 1) := qd5_24.2.2.2.2.2.2.2.2.1
theorem dL_law_437 : decode cL_law 437 = .ok (.invokevirtual 34, 3) := qd5_24.2.2.2.2.2.2.2.2.2.1
theorem dL_law_440 : decode cL_law 440 = .ok (.pop2, 1) := qd5_24.2.2.2.2.2.2.2.2.2.2.1
theorem dL_law_441 : decode cL_law 441 = .ok (.goto 1153, 3) := qd5_24.2.2.2.2.2.2.2.2.2.2.2
theorem qd5_25 : (decode cL_law 444 = .ok (.aload_n 1, 1)) ∧ (decode cL_law 445 = .ok (.aload_n 0, 1)) ∧ (decode cL_law 446 = .ok (.iload_n 3, 1)) ∧ (decode cL_law 447 = .ok (.iconst 1, 1)) ∧ (decode cL_law 448 = .ok (.iadd, 1)) ∧ (decode cL_law 449 = .ok (.iaload, 1)) ∧ (decode cL_law 450 = .ok (.invokevirtual 35, 3)) ∧ (decode cL_law 453 = .ok (.pop, 1)) ∧ (decode cL_law 454 = .ok (.aload_n 2, 1)) ∧ (decode cL_law 455 = .ok (.aload_n 0, 1)) ∧ (decode cL_law 456 = .ok (.iload_n 3, 1)) ∧ (decode cL_law 457 = .ok (.iconst 1, 1)) := by decide +kernel
theorem dL_law_444 : decode cL_law 444 = .ok (.aload_n 1, 1) := qd5_25.1
theorem dL_law_445 : decode cL_law 445 = .ok (.aload_n 0, 1) := qd5_25.2.1
theorem dL_law_446 : decode cL_law 446 = .ok (.iload_n 3, 1) := qd5_25.2.2.1
theorem dL_law_447 : decode cL_law 447 = .ok (.iconst 1, 1) := qd5_25.2.2.2.1
theorem dL_law_448 : decode cL_law 448 = .ok (.iadd, 1) := qd5_25.2.2.2.2.1
theorem dL_law_449 : decode cL_law 449 = .ok (.iaload, 1) := qd5_25.2.2.2.2.2.1
theorem dL_law_450 : decode cL_law 450 = .ok (.invokevirtual 35, 3) := qd5_25.2.2.2.2.2.2.1
theorem dL_law_453 : decode cL_law 453 = .ok (.pop, 1) := qd5_25.2.2.2.2.2.2.2.1
theorem dL_law_454 : decode cL_law 454 = .ok (.aload_n 2, 1) := qd5_25.2.2.2.2.2.2.2.2.1
theorem dL_law_455 : decode cL_law 455 = .ok (.aload_n 0, 1) := qd5_25.2.2.2.2.2.2.2.2.2.1
theorem dL_law_456 : decode cL_law 456 = .ok (.iload_n 3, 1) := qd5_25.2.2.2.2.2.2.2.2.2.2.1
theorem dL_law_457 : decode cL_law 457 = .ok (.iconst 1, 1) := qd5_25.2.2.2.2.2.2.2.2.2.2.2
theorem qd5_26 : (decode cL_law 458 = .ok (.iadd, 1)) ∧ (decode cL_law 459 = .ok (.iaload, 1)) ∧ (decode cL_law 460 = .ok (.invokevirtual 39, 3)) ∧ (decode cL_law 463 = .ok (.pop, 1)) ∧ (decode cL_law 464 = .ok (.goto 1130, 3)) ∧ (decode cL_law 467 = .ok (.aload_n 1, 1)) ∧ (decode cL_law 468 = .ok (.aload_n 0, 1)) ∧ (decode cL_law 469 = .ok (.iload_n 3, 1)) ∧ (decode cL_law 470 = .ok (.iconst 1, 1)) ∧ (decode cL_law 471 = .ok (.iadd, 1)) ∧ (decode cL_law 472 = .ok (.iaload, 1)) ∧ (decode cL_law 473 = .ok (.aload_n 0, 1)) := by decide +kernel
theorem dL_law_458 : decode cL_law 458 = .ok (.iadd, 1) := qd5_26.1
theorem dL_law_459 : decode cL_law 459 = .ok (.iaload, 1) := qd5_26.2.1
theorem dL_law_460 : decode cL_law 460 = .ok (.invokevirtual 39, 3) := qd5_26.2.2.1
theorem dL_law_463 : decode cL_law 463 = .ok (.pop, 1) := qd5_26.2.2.2.1
theorem dL_law_464 : decode cL_law 464 = .ok (.goto 1130, 3) := qd5_26.2.2.2.2.1
theorem dL_law_467 : decode cL_law 467 = .ok (.aload_n 1, 1) := qd5_26.2.2.2.2.2.1
theorem dL_law_468 : decode cL_law 468 = .ok (.aload_n 0, 1) := qd5_26.2.2.2.2.2.2.1
theorem dL_law_469 : decode cL_law 469 = .ok (.iload_n 3, 1) := qd5_26.2.2.2.2.2.2.2.1
theorem dL_law_470 : decode cL_law 470 = .ok (.iconst 1, 1) := qd5_26.2.2.2.2.2.2.2.2.1
theorem dL_law_471 : decode cL_law 471 = .ok (.iadd, 1) := qd5_26.2.2.2.2.2.2.2.2.2.1
theorem dL_law_472 : decode cL_law 472 = .ok (.iaload, 1) := qd5_26.2.2.2.2.2.2.2.2.2.2.1
theorem dL_law_473 : decode cL_law 473 = .ok (.aload_n 0, 1) := qd5_26.2.2.2.2.2.2.2.2.2.2.2
theorem qd5_27 : (decode cL_law 474 = .ok (.iload_n 3, 1)) ∧ (decode cL_law 475 = .ok (.iconst 2, 1)) ∧ (decode cL_law 476 = .ok (.iadd, 1)) ∧ (decode cL_law 477 = .ok (.iaload, 1)) ∧ (decode cL_law 478 = .ok (.invokevirtual 40, 3)) ∧ (decode cL_law 481 = .ok (.pop, 1)) ∧ (decode cL_law 482 = .ok (.aload_n 2, 1)) ∧ (decode cL_law 483 = .ok (.aload_n 0, 1)) ∧ (decode cL_law 484 = .ok (.iload_n 3, 1)) ∧ (decode cL_law 485 = .ok (.iconst 1, 1)) ∧ (decode cL_law 486 = .ok (.iadd, 1)) ∧ (decode cL_law 487 = .ok (.iaload, 1)) := by decide +kernel
theorem dL_law_474 : decode cL_law 474 = .ok (.iload_n 3, 1) := qd5_27.1
theorem dL_law_475 : decode cL_law 475 = .ok (.iconst 2, 1) := qd5_27.2.1
theorem dL_law_476 : decode cL_law 476 = .ok (.iadd, 1) := qd5_27.2.2.1
theorem dL_law_477 : decode cL_law 477 = .ok (.iaload, 1) := qd5_27.2.2.2.1
theorem dL_law_478 : decode cL_law 478 = .ok (.invokevirtual 40, 3) := qd5_27.2.2.2.2.1
theorem dL_law_481 : decode cL_law 481 = .ok (.pop, 1) := qd5_27.2.2.2.2.2.1
theorem dL_law_482 : decode cL_law 482 = .ok (.aload_n 2, 1) := qd5_27.2.2.2.2.2.2.1
theorem dL_law_483 : decode cL_law 483 = .ok (.aload_n 0, 1) := qd5_27.2.2.2.2.2.2.2.1
theorem dL_law_484 : decode cL_law 484 = .ok (.iload_n 3, 1) := qd5_27.2.2.2.2.2.2.2.2.1
theorem dL_law_485 : decode cL_law 485 = .ok (.iconst 1, 1) := qd5_27.2.2.2.2.2.2.2.2.2.1
theorem dL_law_486 : decode cL_law 486 = .ok (.iadd, 1) := qd5_27.2.2.2.2.2.2.2.2.2.2.1
theorem dL_law_487 : decode cL_law 487 = .ok (.iaload, 1) := qd5_27.2.2.2.2.2.2.2.2.2.2.2
theorem qd5_28 : (decode cL_law 488 = .ok (.aload_n 0, 1)) ∧ (decode cL_law 489 = .ok (.iload_n 3, 1)) ∧ (decode cL_law 490 = .ok (.iconst 2, 1)) ∧ (decode cL_law 491 = .ok (.iadd, 1)) ∧ (decode cL_law 492 = .ok (.iaload, 1)) ∧ (decode cL_law 493 = .ok (.invokevirtual 44, 3)) ∧ (decode cL_law 496 = .ok (.pop, 1)) ∧ (decode cL_law 497 = .ok (.goto 1097, 3)) ∧ (decode cL_law 500 = .ok (.aload_n 1, 1)) ∧ (decode cL_law 501 = .ok (.aload_n 0, 1)) ∧ (decode cL_law 502 = .ok (.iload_n 3, 1)) ∧ (decode cL_law 503 = .ok (.iconst 1, 1)) := by decide +kernel
theorem dL_law_488 : decode cL_law 488 = .ok (.aload_n 0, 1) := qd5_28.1
theorem dL_law_489 : decode cL_law 489 = .ok (.iload_n 3, 1) := qd5_28.2.1
theorem dL_law_490 : decode cL_law 490 = .ok (.iconst 2, 1) := qd5_28.2.2.1
theorem dL_law_491 : decode cL_law 491 = .ok (.iadd, 1) := qd5_28.2.2.2.1
theorem dL_law_492 : decode cL_law 492 = .ok (.iaload, 1) := qd5_28.2.2.2.2.1
theorem dL_law_493 : decode cL_law 493 = .ok (.invokevirtual 44, 3) := qd5_28.2.2.2.2.2.1
theorem dL_law_496 : decode cL_law 496 = .ok (.pop, 1) := qd5_28.2.2.2.2.2.2.1
theorem dL_law_497 : decode cL_law 497 = .ok (.goto 1097, 3) := qd5_28.2.2.2.2.2.2.2.1
theorem dL_law_500 : decode cL_law 500 = .ok (.aload_n 1, 1) := qd5_28.2.2.2.2.2.2.2.2.1
theorem dL_law_501 : decode cL_law 501 = .ok (.aload_n 0, 1) := qd5_28.2.2.2.2.2.2.2.2.2.1
theorem dL_law_502 : decode cL_law 502 = .ok (.iload_n 3, 1) := qd5_28.2.2.2.2.2.2.2.2.2.2.1
theorem dL_law_503 : decode cL_law 503 = .ok (.iconst 1, 1) := qd5_28.2.2.2.2.2.2.2.2.2.2.2
theorem qd5_29 : (decode cL_law 504 = .ok (.iadd, 1)) ∧ (decode cL_law 505 = .ok (.iaload, 1)) ∧ (decode cL_law 506 = .ok (.aload_n 0, 1)) ∧ (decode cL_law 507 = .ok (.iload_n 3, 1)) ∧ (decode cL_law 508 = .ok (.iconst 2, 1)) ∧ (decode cL_law 509 = .ok (.iadd, 1)) ∧ (decode cL_law 510 = .ok (.iaload, 1)) ∧ (decode cL_law 511 = .ok (.invokevirtual 45, 3)) ∧ (decode cL_law 514 = .ok (.pop, 1)) ∧ (decode cL_law 515 = .ok (.aload_n 2, 1)) ∧ (decode cL_law 516 = .ok (.aload_n 0, 1)) ∧ (decode cL_law 517 = .ok (.iload_n 3, 1)) := by decide +kernel
theorem dL_law_504 : decode cL_law 504 = .ok (.iadd, 1) := qd5_29.1
theorem dL_law_505 : decode cL_law 505 = .ok (.iaload, 1) := qd5_29.2.1
theorem dL_law_506 : decode cL_law 506 = .ok (.aload_n 0, 1) := qd5_29.2.2.1
theorem dL_law_507 : decode cL_law 507 = .ok (.iload_n 3, 1) := qd5_29.2.2.2.1
theorem dL_law_508 : decode cL_law 508 = .ok (.iconst 2, 1) := qd5_29.2.2.2.2.1
theorem dL_law_509 : decode cL_law 509 = .ok (.iadd, 1) := qd5_29.2.2.2.2.2.1
theorem dL_law_510 : decode cL_law 510 = .ok (.iaload, 1) := qd5_29.2.2.2.2.2.2.1
theorem dL_law_511 : decode cL_law 511 = .ok (.invokevirtual 45, 3) := qd5_29.2.2.2.2.2.2.2.1
theorem dL_law_514 : decode cL_law 514 = .ok (.pop, 1) := qd5_29.2.2.2.2.2.2.2.2.1
theorem dL_law_515 : decode cL_law 515 = .ok (.aload_n 2, 1) := qd5_29.2.2.2.2.2.2.2.2.2.1
theorem dL_law_516 : decode cL_law 516 = .ok (.aload_n 0, 1) := qd5_29.2.2.2.2.2.2.2.2.2.2.1
theorem dL_law_517 : decode cL_law 517 = .ok (.iload_n 3, 1) := qd5_29.2.2.2.2.2.2.2.2.2.2.2
theorem qd5_30 : (decode cL_law 518 = .ok (.iconst 1, 1)) ∧ (decode cL_law 519 = .ok (.iadd, 1)) ∧ (decode cL_law 520 = .ok (.iaload, 1)) ∧ (decode cL_law 521 = .ok (.aload_n 0, 1)) ∧ (decode cL_law 522 = .ok (.iload_n 3, 1)) ∧ (decode cL_law 523 = .ok (.iconst 2, 1)) ∧ (decode cL_law 524 = .ok (.iadd, 1)) ∧ (decode cL_law 525 = .ok (.iaload, 1)) ∧ (decode cL_law 526 = .ok (.invokevirtual 48, 3)) ∧ (decode cL_law 529 = .ok (.pop, 1)) ∧ (decode cL_law 530 = .ok (.goto 1064, 3)) ∧ (decode cL_law 533 = .ok (.aload_n 1, 1)) := by decide +kernel
theorem dL_law_518 : decode cL_law 518 = .ok (.iconst 1, 1) := qd5_30.1
theorem dL_law_519 : decode cL_law 519 = .ok (.iadd, 1) := qd5_30.2.1
theorem dL_law_520 : decode cL_law 520 = .ok (.iaload, 1) := qd5_30.2.2.1
theorem dL_law_521 : decode cL_law 521 = .ok (.aload_n 0, 1) := qd5_30.2.2.2.1
theorem dL_law_522 : decode cL_law 522 = .ok (.iload_n 3, 1) := qd5_30.2.2.2.2.1
theorem dL_law_523 : decode cL_law 523 = .ok (.iconst 2, 1) := qd5_30.2.2.2.2.2.1
theorem dL_law_524 : decode cL_law 524 = .ok (.iadd, 1) := qd5_30.2.2.2.2.2.2.1
theorem dL_law_525 : decode cL_law 525 = .ok (.iaload, 1) := qd5_30.2.2.2.2.2.2.2.1
theorem dL_law_526 : decode cL_law 526 = .ok (.invokevirtual 48, 3) := qd5_30.2.2.2.2.2.2.2.2.1
theorem dL_law_529 : decode cL_law 529 = .ok (.pop, 1) := qd5_30.2.2.2.2.2.2.2.2.2.1
theorem dL_law_530 : decode cL_law 530 = .ok (.goto 1064, 3) := qd5_30.2.2.2.2.2.2.2.2.2.2.1
theorem dL_law_533 : decode cL_law 533 = .ok (.aload_n 1, 1) := qd5_30.2.2.2.2.2.2.2.2.2.2.2
theorem qd5_31 : (decode cL_law 534 = .ok (.aload_n 0, 1)) ∧ (decode cL_law 535 = .ok (.iload_n 3, 1)) ∧ (decode cL_law 536 = .ok (.iconst 1, 1)) ∧ (decode cL_law 537 = .ok (.iadd, 1)) ∧ (decode cL_law 538 = .ok (.iaload, 1)) ∧ (decode cL_law 539 = .ok (.aload_n 0, 1)) ∧ (decode cL_law 540 = .ok (.iload_n 3, 1)) ∧ (decode cL_law 541 = .ok (.iconst 2, 1)) ∧ (decode cL_law 542 = .ok (.iadd, 1)) ∧ (decode cL_law 543 = .ok (.iaload, 1)) ∧ (decode cL_law 544 = .ok (.aload_n 0, 1)) ∧ (decode cL_law 545 = .ok (.iload_n 3, 1)) := by decide +kernel
theorem dL_law_534 : decode cL_law 534 = .ok (.aload_n 0, 1) := qd5_31.1
theorem dL_law_535 : decode cL_law 535 = .ok (.iload_n 3, 1) := qd5_31.2.1
theorem dL_law_536 : decode cL_law 536 = .ok (.iconst 1, 1) := qd5_31.2.2.1
theorem dL_law_537 : decode cL_law 537 = .ok (.iadd, 1) := qd5_31.2.2.2.1
theorem dL_law_538 : decode cL_law 538 = .ok (.iaload, 1) := qd5_31.2.2.2.2.1
theorem dL_law_539 : decode cL_law 539 = .ok (.aload_n 0, 1) := qd5_31.2.2.2.2.2.1
theorem dL_law_540 : decode cL_law 540 = .ok (.iload_n 3, 1) := qd5_31.2.2.2.2.2.2.1
theorem dL_law_541 : decode cL_law 541 = .ok (.iconst 2, 1) := qd5_31.2.2.2.2.2.2.2.1
theorem dL_law_542 : decode cL_law 542 = .ok (.iadd, 1) := qd5_31.2.2.2.2.2.2.2.2.1
theorem dL_law_543 : decode cL_law 543 = .ok (.iaload, 1) := qd5_31.2.2.2.2.2.2.2.2.2.1
theorem dL_law_544 : decode cL_law 544 = .ok (.aload_n 0, 1) := qd5_31.2.2.2.2.2.2.2.2.2.2.1
theorem dL_law_545 : decode cL_law 545 = .ok (.iload_n 3, 1) := qd5_31.2.2.2.2.2.2.2.2.2.2.2
theorem qd5_32 : (decode cL_law 546 = .ok (.iconst 3, 1)) ∧ (decode cL_law 547 = .ok (.iadd, 1)) ∧ (decode cL_law 548 = .ok (.iaload, 1)) ∧ (decode cL_law 549 = .ok (.aload_n 0, 1)) ∧ (decode cL_law 550 = .ok (.iload_n 3, 1)) ∧ (decode cL_law 551 = .ok (.iconst 4, 1)) ∧ (decode cL_law 552 = .ok (.iadd, 1)) ∧ (decode cL_law 553 = .ok (.iaload, 1)) ∧ (decode cL_law 554 = .ok (.aload_n 0, 1)) ∧ (decode cL_law 555 = .ok (.iload_n 3, 1)) ∧ (decode cL_law 556 = .ok (.iconst 5, 1)) ∧ (decode cL_law 557 = .ok (.iadd, 1)) := by decide +kernel
theorem dL_law_546 : decode cL_law 546 = .ok (.iconst 3, 1) := qd5_32.1
theorem dL_law_547 : decode cL_law 547 = .ok (.iadd, 1) := qd5_32.2.1
theorem dL_law_548 : decode cL_law 548 = .ok (.iaload, 1) := qd5_32.2.2.1
theorem dL_law_549 : decode cL_law 549 = .ok (.aload_n 0, 1) := qd5_32.2.2.2.1
theorem dL_law_550 : decode cL_law 550 = .ok (.iload_n 3, 1) := qd5_32.2.2.2.2.1
theorem dL_law_551 : decode cL_law 551 = .ok (.iconst 4, 1) := qd5_32.2.2.2.2.2.1
theorem dL_law_552 : decode cL_law 552 = .ok (.iadd, 1) := qd5_32.2.2.2.2.2.2.1
theorem dL_law_553 : decode cL_law 553 = .ok (.iaload, 1) := qd5_32.2.2.2.2.2.2.2.1
theorem dL_law_554 : decode cL_law 554 = .ok (.aload_n 0, 1) := qd5_32.2.2.2.2.2.2.2.2.1
theorem dL_law_555 : decode cL_law 555 = .ok (.iload_n 3, 1) := qd5_32.2.2.2.2.2.2.2.2.2.1
theorem dL_law_556 : decode cL_law 556 = .ok (.iconst 5, 1) := qd5_32.2.2.2.2.2.2.2.2.2.2.1
theorem dL_law_557 : decode cL_law 557 = .ok (.iadd, 1) := qd5_32.2.2.2.2.2.2.2.2.2.2.2
theorem qd5_33 : (decode cL_law 558 = .ok (.iaload, 1)) ∧ (decode cL_law 559 = .ok (.aload_n 0, 1)) ∧ (decode cL_law 560 = .ok (.iload_n 3, 1)) ∧ (decode cL_law 561 = .ok (.bipush 6, 2)) ∧ (decode cL_law 563 = .ok (.iadd, 1)) ∧ (decode cL_law 564 = .ok (.iaload, 1)) ∧ (decode cL_law 565 = .ok (.invokevirtual 49, 3)) ∧ (decode cL_law 568 = .ok (.aload_n 2, 1)) ∧ (decode cL_law 569 = .ok (.aload_n 0, 1)) ∧ (decode cL_law 570 = .ok (.iload_n 3, 1)) ∧ (decode cL_law 571 = .ok (.iconst 1, 1)) ∧ (decode cL_law 572 = .ok (.iadd, 1)) := by decide +kernel
theorem dL_law_558 : decode cL_law 558 = .ok (.iaload, 1) := qd5_33.1
theorem dL_law_559 : decode cL_law 559 = .ok (.aload_n 0, 1) := qd5_33.2.1
theorem dL_law_560 : decode cL_law 560 = .ok (.iload_n 3, 1) := qd5_33.2.2.1
theorem dL_law_561 : decode cL_law 561 = .ok (.bipush 6, 2) := qd5_33.2.2.2.1
theorem dL_law_563 : decode cL_law 563 = .ok (.iadd, 1) := qd5_33.2.2.2.2.1
theorem dL_law_564 : decode cL_law 564 = .ok (.iaload, 1) := qd5_33.2.2.2.2.2.1
theorem dL_law_565 : decode cL_law 565 = .ok (.invokevirtual 49, 3) := qd5_33.2.2.2.2.2.2.1
theorem dL_law_568 : decode cL_law 568 = .ok (.aload_n 2, 1) := qd5_33.2.2.2.2.2.2.2.1
theorem dL_law_569 : decode cL_law 569 = .ok (.aload_n 0, 1) := qd5_33.2.2.2.2.2.2.2.2.1
theorem dL_law_570 : decode cL_law 570 = .ok (.iload_n 3, 1) := qd5_33.2.2.2.2.2.2.2.2.2.1
theorem dL_law_571 : decode cL_law 571 = .ok (.iconst 1, 1) := qd5_33.2.2.2.2.2.2.2.2.2.2.1
theorem dL_law_572 : decode cL_law 572 = .ok (.iadd, 1) := qd5_33.2.2.2.2.2.2.2.2.2.2.2
theorem qd5_34 : (decode cL_law 573 = .ok (.iaload, 1)) ∧ (decode cL_law 574 = .ok (.aload_n 0, 1)) ∧ (decode cL_law 575 = .ok (.iload_n 3, 1)) ∧ (decode cL_law 576 = .ok (.iconst 2, 1)) ∧ (decode cL_law 577 = .ok (.iadd, 1)) ∧ (decode cL_law 578 = .ok (.iaload, 1)) ∧ (decode cL_law 579 = .ok (.aload_n 0, 1)) ∧ (decode cL_law 580 = .ok (.iload_n 3, 1)) ∧ (decode cL_law 581 = .ok (.iconst 3, 1)) ∧ (decode cL_law 582 = .ok (.iadd, 1)) ∧ (decode cL_law 583 = .ok (.iaload, 1)) ∧ (decode cL_law 584 = .ok (.aload_n 0, 1)) := by decide +kernel
theorem dL_law_573 : decode cL_law 573 = .ok (.iaload, 1) := qd5_34.1
theorem dL_law_574 : decode cL_law 574 = .ok (.aload_n 0, 1) := qd5_34.2.1
theorem dL_law_575 : decode cL_law 575 = .ok (.iload_n 3, 1) := qd5_34.2.2.1
theorem dL_law_576 : decode cL_law 576 = .ok (.iconst 2, 1) := qd5_34.2.2.2.1
theorem dL_law_577 : decode cL_law 577 = .ok (.iadd, 1) := qd5_34.2.2.2.2.1
theorem dL_law_578 : decode cL_law 578 = .ok (.iaload, 1) := qd5_34.2.2.2.2.2.1
theorem dL_law_579 : decode cL_law 579 = .ok (.aload_n 0, 1) := qd5_34.2.2.2.2.2.2.1
theorem dL_law_580 : decode cL_law 580 = .ok (.iload_n 3, 1) := qd5_34.2.2.2.2.2.2.2.1
theorem dL_law_581 : decode cL_law 581 = .ok (.iconst 3, 1) := qd5_34.2.2.2.2.2.2.2.2.1
theorem dL_law_582 : decode cL_law 582 = .ok (.iadd, 1) := qd5_34.2.2.2.2.2.2.2.2.2.1
theorem dL_law_583 : decode cL_law 583 = .ok (.iaload, 1) := qd5_34.2.2.2.2.2.2.2.2.2.2.1
theorem dL_law_584 : decode cL_law 584 = .ok (.aload_n 0, 1) := qd5_34.2.2.2.2.2.2.2.2.2.2.2
theorem qd5_35 : (decode cL_law 585 = .ok (.iload_n 3, 1)) ∧ (decode cL_law 586 = .ok (.iconst 4, 1)) ∧ (decode cL_law 587 = .ok (.iadd, 1)) ∧ (decode cL_law 588 = .ok (.iaload, 1)) ∧ (decode cL_law 589 = .ok (.aload_n 0, 1)) ∧ (decode cL_law 590 = .ok (.iload_n 3, 1)) ∧ (decode cL_law 591 = .ok (.iconst 5, 1)) ∧ (decode cL_law 592 = .ok (.iadd, 1)) ∧ (decode cL_law 593 = .ok (.iaload, 1)) ∧ (decode cL_law 594 = .ok (.aload_n 0, 1)) ∧ (decode cL_law 595 = .ok (.iload_n 3, 1)) ∧ (decode cL_law 596 = .ok (.bipush 6, 2)) := by decide +kernel
theorem dL_law_585 : decode cL_law 585 = .ok (.iload_n 3, 1) := qd5_35.1
theorem dL_law_586 : decode cL_law 586 = .ok (.iconst 4, 1) := qd5_35.2.1
theorem dL_law_587 : decode cL_law 587 = .ok (.iadd, 1) := qd5_35.2.2.1
theorem dL_law_588 : decode cL_law 588 = .ok (.iaload, 1) := qd5_35.2.2.2.1
theorem dL_law_589 : decode cL_law 589 = .ok (.aload_n 0, 1) := qd5_35.2.2.2.2.1
theorem dL_law_590 : decode cL_law 590 = .ok (.iload_n 3, 1) := qd5_35.2.2.2.2.2.1
theorem dL_law_591 : decode cL_law 591 = .ok (.iconst 5, 1) := qd5_35.2.2.2.2.2.2.1
theorem dL_law_592 : decode cL_law 592 = .ok (.iadd, 1) := qd5_35.2.2.2.2.2.2.2.1
theorem dL_law_593 : decode cL_law 593 = .ok (.iaload, 1) := qd5_35.2.2.2.2.2.2.2.2.1
theorem dL_law_594 : decode cL_law 594 = .ok (.aload_n 0, 1) := qd5_35.2.2.2.2.2.2.2.2.2.1
theorem dL_law_595 : decode cL_law 595 = .ok (.iload_n 3, 1) := qd5_35.2.2.2.2.2.2.2.2.2.2.1
theorem dL_law_596 : decode cL_law 596 = .ok (.bipush 6, 2) := qd5_35.2.2.2.2.2.2.2.2.2.2.2
theorem qd5_36 : (decode cL_law 598 = .ok (.iadd, 1)) ∧ (decode cL_law 599 = .ok (.iaload, 1)) ∧ (decode cL_law 600 = .ok (.invokevirtual 53, 3)) ∧ (decode cL_law 603 = .ok (.if_icmp .eq 991, 3)) ∧ (decode cL_law 606 = .ok (.iconst 0, 1)) ∧ (decode cL_law 607 = .ok (.ireturn, 1)) ∧ (decode cL_law 608 = .ok (.aload_n 1, 1)) ∧ (decode cL_law 609 = .ok (.aload_n 0, 1)) ∧ (decode cL_law 610 = .ok (.iload_n 3, 1)) ∧ (decode cL_law 611 = .ok (.iconst 1, 1)) ∧ (decode cL_law 612 = .ok (.iadd, 1)) ∧ (decode cL_law 613 = .ok (.iaload, 1)) := by decide +kernel
theorem dL_law_598 : decode cL_law 598 = .ok (.iadd, 1) := qd5_36.1
theorem dL_law_599 : decode cL_law 599 = .ok (.iaload, 1) := qd5_36.2.1
theorem dL_law_600 : decode cL_law 600 = .ok (.invokevirtual 53, 3) := qd5_36.2.2.1
theorem dL_law_603 : decode cL_law 603 = .ok (.if_icmp .eq 991, 3) := qd5_36.2.2.2.1
theorem dL_law_606 : decode cL_law 606 = .ok (.iconst 0, 1) := qd5_36.2.2.2.2.1
theorem dL_law_607 : decode cL_law 607 = .ok (.ireturn, 1) := qd5_36.2.2.2.2.2.1
theorem dL_law_608 : decode cL_law 608 = .ok (.aload_n 1, 1) := qd5_36.2.2.2.2.2.2.1
theorem dL_law_609 : decode cL_law 609 = .ok (.aload_n 0, 1) := qd5_36.2.2.2.2.2.2.2.1
theorem dL_law_610 : decode cL_law 610 = .ok (.iload_n 3, 1) := qd5_36.2.2.2.2.2.2.2.2.1
theorem dL_law_611 : decode cL_law 611 = .ok (.iconst 1, 1) := qd5_36.2.2.2.2.2.2.2.2.2.1
theorem dL_law_612 : decode cL_law 612 = .ok (.iadd, 1) := qd5_36.2.2.2.2.2.2.2.2.2.2.1
theorem dL_law_613 : decode cL_law 613 = .ok (.iaload, 1) := qd5_36.2.2.2.2.2.2.2.2.2.2.2
theorem qd5_37 : (decode cL_law 614 = .ok (.aload_n 0, 1)) ∧ (decode cL_law 615 = .ok (.iload_n 3, 1)) ∧ (decode cL_law 616 = .ok (.iconst 2, 1)) ∧ (decode cL_law 617 = .ok (.iadd, 1)) ∧ (decode cL_law 618 = .ok (.iaload, 1)) ∧ (decode cL_law 619 = .ok (.aload_n 0, 1)) ∧ (decode cL_law 620 = .ok (.iload_n 3, 1)) ∧ (decode cL_law 621 = .ok (.iconst 3, 1)) ∧ (decode cL_law 622 = .ok (.iadd, 1)) ∧ (decode cL_law 623 = .ok (.iaload, 1)) ∧ (decode cL_law 624 = .ok (.invokevirtual 54, 3)) ∧ (decode cL_law 627 = .ok (.pop, 1)) := by decide +kernel
theorem dL_law_614 : decode cL_law 614 = .ok (.aload_n 0, 1) := qd5_37.1
theorem dL_law_615 : decode cL_law 615 = .ok (.iload_n 3, 1) := qd5_37.2.1
theorem dL_law_616 : decode cL_law 616 = .ok (.iconst 2, 1) := qd5_37.2.2.1
theorem dL_law_617 : decode cL_law 617 = .ok (.iadd, 1) := qd5_37.2.2.2.1
theorem dL_law_618 : decode cL_law 618 = .ok (.iaload, 1) := qd5_37.2.2.2.2.1
theorem dL_law_619 : decode cL_law 619 = .ok (.aload_n 0, 1) := qd5_37.2.2.2.2.2.1
theorem dL_law_620 : decode cL_law 620 = .ok (.iload_n 3, 1) := qd5_37.2.2.2.2.2.2.1
theorem dL_law_621 : decode cL_law 621 = .ok (.iconst 3, 1) := qd5_37.2.2.2.2.2.2.2.1
theorem dL_law_622 : decode cL_law 622 = .ok (.iadd, 1) := qd5_37.2.2.2.2.2.2.2.2.1
theorem dL_law_623 : decode cL_law 623 = .ok (.iaload, 1) := qd5_37.2.2.2.2.2.2.2.2.2.1
theorem dL_law_624 : decode cL_law 624 = .ok (.invokevirtual 54, 3) := qd5_37.2.2.2.2.2.2.2.2.2.2.1
theorem dL_law_627 : decode cL_law 627 = .ok (.pop, 1) := qd5_37.2.2.2.2.2.2.2.2.2.2.2
theorem qd5_38 : (decode cL_law 628 = .ok (.aload_n 2, 1)) ∧ (decode cL_law 629 = .ok (.aload_n 0, 1)) ∧ (decode cL_law 630 = .ok (.iload_n 3, 1)) ∧ (decode cL_law 631 = .ok (.iconst 1, 1)) ∧ (decode cL_law 632 = .ok (.iadd, 1)) ∧ (decode cL_law 633 = .ok (.iaload, 1)) ∧ (decode cL_law 634 = .ok (.aload_n 0, 1)) ∧ (decode cL_law 635 = .ok (.iload_n 3, 1)) ∧ (decode cL_law 636 = .ok (.iconst 2, 1)) ∧ (decode cL_law 637 = .ok (.iadd, 1)) ∧ (decode cL_law 638 = .ok (.iaload, 1)) ∧ (decode cL_law 639 = .ok (.aload_n 0, 1)) := by decide +kernel
theorem dL_law_628 : decode cL_law 628 = .ok (.aload_n 2, 1) := qd5_38.1
theorem dL_law_629 : decode cL_law 629 = .ok (.aload_n 0, 1) := qd5_38.2.1
theorem dL_law_630 : decode cL_law 630 = .ok (.iload_n 3, 1) := qd5_38.2.2.1
theorem dL_law_631 : decode cL_law 631 = .ok (.iconst 1, 1) := qd5_38.2.2.2.1
theorem dL_law_632 : decode cL_law 632 = .ok (.iadd, 1) := qd5_38.2.2.2.2.1
theorem dL_law_633 : decode cL_law 633 = .ok (.iaload, 1) := qd5_38.2.2.2.2.2.1
theorem dL_law_634 : decode cL_law 634 = .ok (.aload_n 0, 1) := qd5_38.2.2.2.2.2.2.1
theorem dL_law_635 : decode cL_law 635 = .ok (.iload_n 3, 1) := qd5_38.2.2.2.2.2.2.2.1
theorem dL_law_636 : decode cL_law 636 = .ok (.iconst 2, 1) := qd5_38.2.2.2.2.2.2.2.2.1
theorem dL_law_637 : decode cL_law 637 = .ok (.iadd, 1) := qd5_38.2.2.2.2.2.2.2.2.2.1
theorem dL_law_638 : decode cL_law 638 = .ok (.iaload, 1) := qd5_38.2.2.2.2.2.2.2.2.2.2.1
theorem dL_law_639 : decode cL_law 639 = .ok (.aload_n 0, 1) := qd5_38.2.2.2.2.2.2.2.2.2.2.2
theorem qd5_39 : (decode cL_law 640 = .ok (.iload_n 3, 1)) ∧ (decode cL_law 641 = .ok (.iconst 3, 1)) ∧ (decode cL_law 642 = .ok (.iadd, 1)) ∧ (decode cL_law 643 = .ok (.iaload, 1)) ∧ (decode cL_law 644 = .ok (.invokevirtual 57, 3)) ∧ (decode cL_law 647 = .ok (.pop, 1)) ∧ (decode cL_law 648 = .ok (.goto 946, 3)) ∧ (decode cL_law 651 = .ok (.aload_n 1, 1)) ∧ (decode cL_law 652 = .ok (.aload_n 0, 1)) ∧ (decode cL_law 653 = .ok (.iload_n 3, 1)) ∧ (decode cL_law 654 = .ok (.iconst 1, 1)) ∧ (decode cL_law 655 = .ok (.iadd, 1)) := by decide +kernel
theorem dL_law_640 : decode cL_law 640 = .ok (.iload_n 3, 1) := qd5_39.1
theorem dL_law_641 : decode cL_law 641 = .ok (.iconst 3, 1) := qd5_39.2.1
theorem dL_law_642 : decode cL_law 642 = .ok (.iadd, 1) := qd5_39.2.2.1
theorem dL_law_643 : decode cL_law 643 = .ok (.iaload, 1) := qd5_39.2.2.2.1
theorem dL_law_644 : decode cL_law 644 = .ok (.invokevirtual 57, 3) := qd5_39.2.2.2.2.1
theorem dL_law_647 : decode cL_law 647 = .ok (.pop, 1) := qd5_39.2.2.2.2.2.1
theorem dL_law_648 : decode cL_law 648 = .ok (.goto 946, 3) := qd5_39.2.2.2.2.2.2.1
theorem dL_law_651 : decode cL_law 651 = .ok (.aload_n 1, 1) := qd5_39.2.2.2.2.2.2.2.1
theorem dL_law_652 : decode cL_law 652 = .ok (.aload_n 0, 1) := qd5_39.2.2.2.2.2.2.2.2.1
theorem dL_law_653 : decode cL_law 653 = .ok (.iload_n 3, 1) := qd5_39.2.2.2.2.2.2.2.2.2.1
theorem dL_law_654 : decode cL_law 654 = .ok (.iconst 1, 1) := qd5_39.2.2.2.2.2.2.2.2.2.2.1
theorem dL_law_655 : decode cL_law 655 = .ok (.iadd, 1) := qd5_39.2.2.2.2.2.2.2.2.2.2.2
theorem qd5_40 : (decode cL_law 656 = .ok (.iaload, 1)) ∧ (decode cL_law 657 = .ok (.aload_n 0, 1)) ∧ (decode cL_law 658 = .ok (.iload_n 3, 1)) ∧ (decode cL_law 659 = .ok (.iconst 2, 1)) ∧ (decode cL_law 660 = .ok (.iadd, 1)) ∧ (decode cL_law 661 = .ok (.iaload, 1)) ∧ (decode cL_law 662 = .ok (.aload_n 0, 1)) ∧ (decode cL_law 663 = .ok (.iload_n 3, 1)) ∧ (decode cL_law 664 = .ok (.iconst 3, 1)) ∧ (decode cL_law 665 = .ok (.iadd, 1)) ∧ (decode cL_law 666 = .ok (.iaload, 1)) ∧ (decode cL_law 667 = .ok (.aload_n 0, 1)) := by decide +kernel
theorem dL_law_656 : decode cL_law 656 = .ok (.iaload, 1) := qd5_40.1
theorem dL_law_657 : decode cL_law 657 = .ok (.aload_n 0, 1) := qd5_40.2.1
theorem dL_law_658 : decode cL_law 658 = .ok (.iload_n 3, 1) := qd5_40.2.2.1
theorem dL_law_659 : decode cL_law 659 = .ok (.iconst 2, 1) := qd5_40.2.2.2.1
theorem dL_law_660 : decode cL_law 660 = .ok (.iadd, 1) := qd5_40.2.2.2.2.1
theorem dL_law_661 : decode cL_law 661 = .ok (.iaload, 1) := qd5_40.2.2.2.2.2.1
theorem dL_law_662 : decode cL_law 662 = .ok (.aload_n 0, 1) := qd5_40.2.2.2.2.2.2.1
theorem dL_law_663 : decode cL_law 663 = .ok (.iload_n 3, 1) := qd5_40.2.2.2.2.2.2.2.1
theorem dL_law_664 : decode cL_law 664 = .ok (.iconst 3, 1) := qd5_40.2.2.2.2.2.2.2.2.1
theorem dL_law_665 : decode cL_law 665 = .ok (.iadd, 1) := qd5_40.2.2.2.2.2.2.2.2.2.1
theorem dL_law_666 : decode cL_law 666 = .ok (.iaload, 1) := qd5_40.2.2.2.2.2.2.2.2.2.2.1
theorem dL_law_667 : decode cL_law 667 = .ok (.aload_n 0, 1) := qd5_40.2.2.2.2.2.2.2.2.2.2.2
theorem qd5_41 : (decode cL_law 668 = .ok (.iload_n 3, 1)) ∧ (decode cL_law 669 = .ok (.iconst 4, 1)) ∧ (decode cL_law 670 = .ok (.iadd, 1)) ∧ (decode cL_law 671 = .ok (.iaload, 1)) ∧ (decode cL_law 672 = .ok (.invokevirtual 58, 3)) ∧ (decode cL_law 675 = .ok (.pop, 1)) ∧ (decode cL_law 676 = .ok (.aload_n 2, 1)) ∧ (decode cL_law 677 = .ok (.aload_n 0, 1)) ∧ (decode cL_law 678 = .ok (.iload_n 3, 1)) ∧ (decode cL_law 679 = .ok (.iconst 1, 1)) ∧ (decode cL_law 680 = .ok (.iadd, 1)) ∧ (decode cL_law 681 = .ok (.iaload, 1)) := by decide +kernel
theorem dL_law_668 : decode cL_law 668 = .ok (.iload_n 3, 1) := qd5_41.1
theorem dL_law_669 : decode cL_law 669 = .ok (.iconst 4, 1) := qd5_41.2.1
theorem dL_law_670 : decode cL_law 670 = .ok (.iadd, 1) := qd5_41.2.2.1
theorem dL_law_671 : decode cL_law 671 = .ok (.iaload, 1) := qd5_41.2.2.2.1
theorem dL_law_672 : decode cL_law 672 = .ok (.invokevirtual 58, 3) := qd5_41.2.2.2.2.1
theorem dL_law_675 : decode cL_law 675 = .ok (.pop, 1) := qd5_41.2.2.2.2.2.1
theorem dL_law_676 : decode cL_law 676 = .ok (.aload_n 2, 1) := qd5_41.2.2.2.2.2.2.1
theorem dL_law_677 : decode cL_law 677 = .ok (.aload_n 0, 1) := qd5_41.2.2.2.2.2.2.2.1
theorem dL_law_678 : decode cL_law 678 = .ok (.iload_n 3, 1) := qd5_41.2.2.2.2.2.2.2.2.1
theorem dL_law_679 : decode cL_law 679 = .ok (.iconst 1, 1) := qd5_41.2.2.2.2.2.2.2.2.2.1
theorem dL_law_680 : decode cL_law 680 = .ok (.iadd, 1) := qd5_41.2.2.2.2.2.2.2.2.2.2.1
theorem dL_law_681 : decode cL_law 681 = .ok (.iaload, 1) := qd5_41.2.2.2.2.2.2.2.2.2.2.2
theorem qd5_42 : (decode cL_law 682 = .ok (.aload_n 0, 1)) ∧ (decode cL_law 683 = .ok (.iload_n 3, 1)) ∧ (decode cL_law 684 = .ok (.iconst 2, 1)) ∧ (decode cL_law 685 = .ok (.iadd, 1)) ∧ (decode cL_law 686 = .ok (.iaload, 1)) ∧ (decode cL_law 687 = .ok (.aload_n 0, 1)) ∧ (decode cL_law 688 = .ok (.iload_n 3, 1)) ∧ (decode cL_law 689 = .ok (.iconst 3, 1)) ∧ (decode cL_law 690 = .ok (.iadd, 1)) ∧ (decode cL_law 691 = .ok (.iaload, 1)) ∧ (decode cL_law 692 = .ok (.aload_n 0, 1)) ∧ (decode cL_law 693 = .ok (.iload_n 3, 1)) := by decide +kernel
theorem dL_law_682 : decode cL_law 682 = .ok (.aload_n 0, 1) := qd5_42.1
theorem dL_law_683 : decode cL_law 683 = .ok (.iload_n 3, 1) := qd5_42.2.1
theorem dL_law_684 : decode cL_law 684 = .ok (.iconst 2, 1) := qd5_42.2.2.1
theorem dL_law_685 : decode cL_law 685 = .ok (.iadd, 1) := qd5_42.2.2.2.1
theorem dL_law_686 : decode cL_law 686 = .ok (.iaload, 1) := qd5_42.2.2.2.2.1
theorem dL_law_687 : decode cL_law 687 = .ok (.aload_n 0, 1) := qd5_42.2.2.2.2.2.1
theorem dL_law_688 : decode cL_law 688 = .ok (.iload_n 3, 1) := qd5_42.2.2.2.2.2.2.1
theorem dL_law_689 : decode cL_law 689 = .ok (.iconst 3, 1) := qd5_42.2.2.2.2.2.2.2.1
theorem dL_law_690 : decode cL_law 690 = .ok (.iadd, 1) := qd5_42.2.2.2.2.2.2.2.2.1
theorem dL_law_691 : decode cL_law 691 = .ok (.iaload, 1) := qd5_42.2.2.2.2.2.2.2.2.2.1
theorem dL_law_692 : decode cL_law 692 = .ok (.aload_n 0, 1) := qd5_42.2.2.2.2.2.2.2.2.2.2.1
theorem dL_law_693 : decode cL_law 693 = .ok (.iload_n 3, 1) := qd5_42.2.2.2.2.2.2.2.2.2.2.2
theorem qd5_43 : (decode cL_law 694 = .ok (.iconst 4, 1)) ∧ (decode cL_law 695 = .ok (.iadd, 1)) ∧ (decode cL_law 696 = .ok (.iaload, 1)) ∧ (decode cL_law 697 = .ok (.invokevirtual 62, 3)) ∧ (decode cL_law 700 = .ok (.pop, 1)) ∧ (decode cL_law 701 = .ok (.goto 893, 3)) ∧ (decode cL_law 704 = .ok (.aload_n 1, 1)) ∧ (decode cL_law 705 = .ok (.aload_n 0, 1)) ∧ (decode cL_law 706 = .ok (.iload_n 3, 1)) ∧ (decode cL_law 707 = .ok (.iconst 1, 1)) ∧ (decode cL_law 708 = .ok (.iadd, 1)) ∧ (decode cL_law 709 = .ok (.iaload, 1)) := by decide +kernel
theorem dL_law_694 : decode cL_law 694 = .ok (.iconst 4, 1) := qd5_43.1
theorem dL_law_695 : decode cL_law 695 = .ok (.iadd, 1) := qd5_43.2.1
theorem dL_law_696 : decode cL_law 696 = .ok (.iaload, 1) := qd5_43.2.2.1
theorem dL_law_697 : decode cL_law 697 = .ok (.invokevirtual 62, 3) := qd5_43.2.2.2.1
theorem dL_law_700 : decode cL_law 700 = .ok (.pop, 1) := qd5_43.2.2.2.2.1
theorem dL_law_701 : decode cL_law 701 = .ok (.goto 893, 3) := qd5_43.2.2.2.2.2.1
theorem dL_law_704 : decode cL_law 704 = .ok (.aload_n 1, 1) := qd5_43.2.2.2.2.2.2.1
theorem dL_law_705 : decode cL_law 705 = .ok (.aload_n 0, 1) := qd5_43.2.2.2.2.2.2.2.1
theorem dL_law_706 : decode cL_law 706 = .ok (.iload_n 3, 1) := qd5_43.2.2.2.2.2.2.2.2.1
theorem dL_law_707 : decode cL_law 707 = .ok (.iconst 1, 1) := qd5_43.2.2.2.2.2.2.2.2.2.1
theorem dL_law_708 : decode cL_law 708 = .ok (.iadd, 1) := qd5_43.2.2.2.2.2.2.2.2.2.2.1
theorem dL_law_709 : decode cL_law 709 = .ok (.iaload, 1) := qd5_43.2.2.2.2.2.2.2.2.2.2.2
theorem qd5_44 : (decode cL_law 710 = .ok (.aload_n 0, 1)) ∧ (decode cL_law 711 = .ok (.iload_n 3, 1)) ∧ (decode cL_law 712 = .ok (.iconst 2, 1)) ∧ (decode cL_law 713 = .ok (.iadd, 1)) ∧ (decode cL_law 714 = .ok (.iaload, 1)) ∧ (decode cL_law 715 = .ok (.invokevirtual 63, 3)) ∧ (decode cL_law 718 = .ok (.pop, 1)) ∧ (decode cL_law 719 = .ok (.aload_n 2, 1)) ∧ (decode cL_law 720 = .ok (.aload_n 0, 1)) ∧ (decode cL_law 721 = .ok (.iload_n 3, 1)) ∧ (decode cL_law 722 = .ok (.iconst 1, 1)) ∧ (decode cL_law 723 = .ok (.iadd, 1)) := by decide +kernel
theorem dL_law_710 : decode cL_law 710 = .ok (.aload_n 0, 1) := qd5_44.1
theorem dL_law_711 : decode cL_law 711 = .ok (.iload_n 3, 1) := qd5_44.2.1
theorem dL_law_712 : decode cL_law 712 = .ok (.iconst 2, 1) := qd5_44.2.2.1
theorem dL_law_713 : decode cL_law 713 = .ok (.iadd, 1) := qd5_44.2.2.2.1
theorem dL_law_714 : decode cL_law 714 = .ok (.iaload, 1) := qd5_44.2.2.2.2.1
theorem dL_law_715 : decode cL_law 715 = .ok (.invokevirtual 63, 3) := qd5_44.2.2.2.2.2.1
theorem dL_law_718 : decode cL_law 718 = .ok (.pop, 1) := qd5_44.2.2.2.2.2.2.1
theorem dL_law_719 : decode cL_law 719 = .ok (.aload_n 2, 1) := qd5_44.2.2.2.2.2.2.2.1
theorem dL_law_720 : decode cL_law 720 = .ok (.aload_n 0, 1) := qd5_44.2.2.2.2.2.2.2.2.1
theorem dL_law_721 : decode cL_law 721 = .ok (.iload_n 3, 1) := qd5_44.2.2.2.2.2.2.2.2.2.1
theorem dL_law_722 : decode cL_law 722 = .ok (.iconst 1, 1) := qd5_44.2.2.2.2.2.2.2.2.2.2.1
theorem dL_law_723 : decode cL_law 723 = .ok (.iadd, 1) := qd5_44.2.2.2.2.2.2.2.2.2.2.2
theorem qd5_45 : (decode cL_law 724 = .ok (.iaload, 1)) ∧ (decode cL_law 725 = .ok (.aload_n 0, 1)) ∧ (decode cL_law 726 = .ok (.iload_n 3, 1)) ∧ (decode cL_law 727 = .ok (.iconst 2, 1)) ∧ (decode cL_law 728 = .ok (.iadd, 1)) ∧ (decode cL_law 729 = .ok (.iaload, 1)) ∧ (decode cL_law 730 = .ok (.invokevirtual 66, 3)) ∧ (decode cL_law 733 = .ok (.pop, 1)) ∧ (decode cL_law 734 = .ok (.goto 860, 3)) ∧ (decode cL_law 737 = .ok (.aload_n 1, 1)) ∧ (decode cL_law 738 = .ok (.aload_n 0, 1)) ∧ (decode cL_law 739 = .ok (.iload_n 3, 1)) := by decide +kernel
theorem dL_law_724 : decode cL_law 724 = .ok (.iaload, 1) := qd5_45.1
theorem dL_law_725 : decode cL_law 725 = .ok (.aload_n 0, 1) := qd5_45.2.1
theorem dL_law_726 : decode cL_law 726 = .ok (.iload_n 3, 1) := qd5_45.2.2.1
theorem dL_law_727 : decode cL_law 727 = .ok (.iconst 2, 1) := qd5_45.2.2.2.1
theorem dL_law_728 : decode cL_law 728 = .ok (.iadd, 1) := qd5_45.2.2.2.2.1
theorem dL_law_729 : decode cL_law 729 = .ok (.iaload, 1) := qd5_45.2.2.2.2.2.1
theorem dL_law_730 : decode cL_law 730 = .ok (.invokevirtual 66, 3) := qd5_45.2.2.2.2.2.2.1
theorem dL_law_733 : decode cL_law 733 = .ok (.pop, 1) := qd5_45.2.2.2.2.2.2.2.1
theorem dL_law_734 : decode cL_law 734 = .ok (.goto 860, 3) := qd5_45.2.2.2.2.2.2.2.2.1
theorem dL_law_737 : decode cL_law 737 = .ok (.aload_n 1, 1) := qd5_45.2.2.2.2.2.2.2.2.2.1
theorem dL_law_738 : decode cL_law 738 = .ok (.aload_n 0, 1) := qd5_45.2.2.2.2.2.2.2.2.2.2.1
theorem dL_law_739 : decode cL_law 739 = .ok (.iload_n 3, 1) := qd5_45.2.2.2.2.2.2.2.2.2.2.2
theorem qd5_46 : (decode cL_law 740 = .ok (.iconst 1, 1)) ∧ (decode cL_law 741 = .ok (.iadd, 1)) ∧ (decode cL_law 742 = .ok (.iaload, 1)) ∧ (decode cL_law 743 = .ok (.aload_n 0, 1)) ∧ (decode cL_law 744 = .ok (.iload_n 3, 1)) ∧ (decode cL_law 745 = .ok (.iconst 2, 1)) ∧ (decode cL_law 746 = .ok (.iadd, 1)) ∧ (decode cL_law 747 = .ok (.iaload, 1)) ∧ (decode cL_law 748 = .ok (.invokevirtual 67, 3)) ∧ (decode cL_law 751 = .ok (.pop, 1)) ∧ (decode cL_law 752 = .ok (.aload_n 2, 1)) ∧ (decode cL_law 753 = .ok (.aload_n 0, 1)) := by decide +kernel
theorem dL_law_740 : decode cL_law 740 = .ok (.iconst 1, 1) := qd5_46.1
theorem dL_law_741 : decode cL_law 741 = .ok (.iadd, 1) := qd5_46.2.1
theorem dL_law_742 : decode cL_law 742 = .ok (.iaload, 1) := qd5_46.2.2.1
theorem dL_law_743 : decode cL_law 743 = .ok (.aload_n 0, 1) := qd5_46.2.2.2.1
theorem dL_law_744 : decode cL_law 744 = .ok (.iload_n 3, 1) := qd5_46.2.2.2.2.1
theorem dL_law_745 : decode cL_law 745 = .ok (.iconst 2, 1) := qd5_46.2.2.2.2.2.1
theorem dL_law_746 : decode cL_law 746 = .ok (.iadd, 1) := qd5_46.2.2.2.2.2.2.1
theorem dL_law_747 : decode cL_law 747 = .ok (.iaload, 1) := qd5_46.2.2.2.2.2.2.2.1
theorem dL_law_748 : decode cL_law 748 = .ok (.invokevirtual 67, 3) := qd5_46.2.2.2.2.2.2.2.2.1
theorem dL_law_751 : decode cL_law 751 = .ok (.pop, 1) := qd5_46.2.2.2.2.2.2.2.2.2.1
theorem dL_law_752 : decode cL_law 752 = .ok (.aload_n 2, 1) := qd5_46.2.2.2.2.2.2.2.2.2.2.1
theorem dL_law_753 : decode cL_law 753 = .ok (.aload_n 0, 1) := qd5_46.2.2.2.2.2.2.2.2.2.2.2
theorem qd5_47 : (decode cL_law 754 = .ok (.iload_n 3, 1)) ∧ (decode cL_law 755 = .ok (.iconst 1, 1)) ∧ (decode cL_law 756 = .ok (.iadd, 1)) ∧ (decode cL_law 757 = .ok (.iaload, 1)) ∧ (decode cL_law 758 = .ok (.aload_n 0, 1)) ∧ (decode cL_law 759 = .ok (.iload_n 3, 1)) ∧ (decode cL_law 760 = .ok (.iconst 2, 1)) ∧ (decode cL_law 761 = .ok (.iadd, 1)) ∧ (decode cL_law 762 = .ok (.iaload, 1)) ∧ (decode cL_law 763 = .ok (.invokevirtual 70, 3)) ∧ (decode cL_law 766 = .ok (.pop, 1)) ∧ (decode cL_law 767 = .ok (.goto 827, 3)) := by decide +kernel
theorem dL_law_754 : decode cL_law 754 = .ok (.iload_n 3, 1) := qd5_47.1
theorem dL_law_755 : decode cL_law 755 = .ok (.iconst 1, 1) := qd5_47.2.1
theorem dL_law_756 : decode cL_law 756 = .ok (.iadd, 1) := qd5_47.2.2.1
theorem dL_law_757 : decode cL_law 757 = .ok (.iaload, 1) := qd5_47.2.2.2.1
theorem dL_law_758 : decode cL_law 758 = .ok (.aload_n 0, 1) := qd5_47.2.2.2.2.1
theorem dL_law_759 : decode cL_law 759 = .ok (.iload_n 3, 1) := qd5_47.2.2.2.2.2.1
theorem dL_law_760 : decode cL_law 760 = .ok (.iconst 2, 1) := qd5_47.2.2.2.2.2.2.1
theorem dL_law_761 : decode cL_law 761 = .ok (.iadd, 1) := qd5_47.2.2.2.2.2.2.2.1
theorem dL_law_762 : decode cL_law 762 = .ok (.iaload, 1) := qd5_47.2.2.2.2.2.2.2.2.1
theorem dL_law_763 : decode cL_law 763 = .ok (.invokevirtual 70, 3) := qd5_47.2.2.2.2.2.2.2.2.2.1
theorem dL_law_766 : decode cL_law 766 = .ok (.pop, 1) := qd5_47.2.2.2.2.2.2.2.2.2.2.1
theorem dL_law_767 : decode cL_law 767 = .ok (.goto 827, 3) := qd5_47.2.2.2.2.2.2.2.2.2.2.2
theorem qd5_48 : (decode cL_law 770 = .ok (.aload_n 1, 1)) ∧ (decode cL_law 771 = .ok (.aload_n 0, 1)) ∧ (decode cL_law 772 = .ok (.iload_n 3, 1)) ∧ (decode cL_law 773 = .ok (.iconst 1, 1)) ∧ (decode cL_law 774 = .ok (.iadd, 1)) ∧ (decode cL_law 775 = .ok (.iaload, 1)) ∧ (decode cL_law 776 = .ok (.invokevirtual 71, 3)) ∧ (decode cL_law 779 = .ok (.pop, 1)) ∧ (decode cL_law 780 = .ok (.aload_n 2, 1)) ∧ (decode cL_law 781 = .ok (.aload_n 0, 1)) ∧ (decode cL_law 782 = .ok (.iload_n 3, 1)) ∧ (decode cL_law 783 = .ok (.iconst 1, 1)) := by decide +kernel
theorem dL_law_770 : decode cL_law 770 = .ok (.aload_n 1, 1) := qd5_48.1
theorem dL_law_771 : decode cL_law 771 = .ok (.aload_n 0, 1) := qd5_48.2.1
theorem dL_law_772 : decode cL_law 772 = .ok (.iload_n 3, 1) := qd5_48.2.2.1
theorem dL_law_773 : decode cL_law 773 = .ok (.iconst 1, 1) := qd5_48.2.2.2.1
theorem dL_law_774 : decode cL_law 774 = .ok (.iadd, 1) := qd5_48.2.2.2.2.1
theorem dL_law_775 : decode cL_law 775 = .ok (.iaload, 1) := qd5_48.2.2.2.2.2.1
theorem dL_law_776 : decode cL_law 776 = .ok (.invokevirtual 71, 3) := qd5_48.2.2.2.2.2.2.1
theorem dL_law_779 : decode cL_law 779 = .ok (.pop, 1) := qd5_48.2.2.2.2.2.2.2.1
theorem dL_law_780 : decode cL_law 780 = .ok (.aload_n 2, 1) := qd5_48.2.2.2.2.2.2.2.2.1
theorem dL_law_781 : decode cL_law 781 = .ok (.aload_n 0, 1) := qd5_48.2.2.2.2.2.2.2.2.2.1
theorem dL_law_782 : decode cL_law 782 = .ok (.iload_n 3, 1) := qd5_48.2.2.2.2.2.2.2.2.2.2.1
theorem dL_law_783 : decode cL_law 783 = .ok (.iconst 1, 1) := qd5_48.2.2.2.2.2.2.2.2.2.2.2
theorem qd5_49 : (decode cL_law 784 = .ok (.iadd, 1)) ∧ (decode cL_law 785 = .ok (.iaload, 1)) ∧ (decode cL_law 786 = .ok (.invokevirtual 74, 3)) ∧ (decode cL_law 789 = .ok (.pop, 1)) ∧ (decode cL_law 790 = .ok (.goto 804, 3)) ∧ (decode cL_law 793 = .ok (.aload_n 1, 1)) ∧ (decode cL_law 794 = .ok (.aload_n 0, 1)) ∧ (decode cL_law 795 = .ok (.iload_n 3, 1)) ∧ (decode cL_law 796 = .ok (.iconst 1, 1)) ∧ (decode cL_law 797 = .ok (.iadd, 1)) ∧ (decode cL_law 798 = .ok (.iaload, 1)) ∧ (decode cL_law 799 = .ok (.aload_n 0, 1)) := by decide +kernel
theorem dL_law_784 : decode cL_law 784 = .ok (.iadd, 1) := qd5_49.1
theorem dL_law_785 : decode cL_law 785 = .ok (.iaload, 1) := qd5_49.2.1
theorem dL_law_786 : decode cL_law 786 = .ok (.invokevirtual 74, 3) := qd5_49.2.2.1
theorem dL_law_789 : decode cL_law 789 = .ok (.pop, 1) := qd5_49.2.2.2.1
theorem dL_law_790 : decode cL_law 790 = .ok (.goto 804, 3) := qd5_49.2.2.2.2.1
theorem dL_law_793 : decode cL_law 793 = .ok (.aload_n 1, 1) := qd5_49.2.2.2.2.2.1
theorem dL_law_794 : decode cL_law 794 = .ok (.aload_n 0, 1) := qd5_49.2.2.2.2.2.2.1
theorem dL_law_795 : decode cL_law 795 = .ok (.iload_n 3, 1) := qd5_49.2.2.2.2.2.2.2.1
theorem dL_law_796 : decode cL_law 796 = .ok (.iconst 1, 1) := qd5_49.2.2.2.2.2.2.2.2.1
theorem dL_law_797 : decode cL_law 797 = .ok (.iadd, 1) := qd5_49.2.2.2.2.2.2.2.2.2.1
theorem dL_law_798 : decode cL_law 798 = .ok (.iaload, 1) := qd5_49.2.2.2.2.2.2.2.2.2.2.1
theorem dL_law_799 : decode cL_law 799 = .ok (.aload_n 0, 1) := qd5_49.2.2.2.2.2.2.2.2.2.2.2
theorem qd5_50 : (decode cL_law 800 = .ok (.iload_n 3, 1)) ∧ (decode cL_law 801 = .ok (.iconst 2, 1)) ∧ (decode cL_law 802 = .ok (.iadd, 1)) ∧ (decode cL_law 803 = .ok (.iaload, 1)) ∧ (decode cL_law 804 = .ok (.ifCond .eq 7, 3)) ∧ (decode cL_law 807 = .ok (.iconst 1, 1)) ∧ (decode cL_law 808 = .ok (.goto 4, 3)) ∧ (decode cL_law 811 = .ok (.iconst 0, 1)) ∧ (decode cL_law 812 = .ok (.invokevirtual 75, 3)) ∧ (decode cL_law 815 = .ok (.pop, 1)) ∧ (decode cL_law 816 = .ok (.aload_n 2, 1)) ∧ (decode cL_law 817 = .ok (.aload_n 0, 1)) := by decide +kernel
theorem dL_law_800 : decode cL_law 800 = .ok (.iload_n 3, 1) := qd5_50.1
theorem dL_law_801 : decode cL_law 801 = .ok (.iconst 2, 1) := qd5_50.2.1
theorem dL_law_802 : decode cL_law 802 = .ok (.iadd, 1) := qd5_50.2.2.1
theorem dL_law_803 : decode cL_law 803 = .ok (.iaload, 1) := qd5_50.2.2.2.1
theorem dL_law_804 : decode cL_law 804 = .ok (.ifCond .eq 7, 3) := qd5_50.2.2.2.2.1
theorem dL_law_807 : decode cL_law 807 = .ok (.iconst 1, 1) := qd5_50.2.2.2.2.2.1
theorem dL_law_808 : decode cL_law 808 = .ok (.goto 4, 3) := qd5_50.2.2.2.2.2.2.1
theorem dL_law_811 : decode cL_law 811 = .ok (.iconst 0, 1) := qd5_50.2.2.2.2.2.2.2.1
theorem dL_law_812 : decode cL_law 812 = .ok (.invokevirtual 75, 3) := qd5_50.2.2.2.2.2.2.2.2.1
theorem dL_law_815 : decode cL_law 815 = .ok (.pop, 1) := qd5_50.2.2.2.2.2.2.2.2.2.1
theorem dL_law_816 : decode cL_law 816 = .ok (.aload_n 2, 1) := qd5_50.2.2.2.2.2.2.2.2.2.2.1
theorem dL_law_817 : decode cL_law 817 = .ok (.aload_n 0, 1) := qd5_50.2.2.2.2.2.2.2.2.2.2.2
theorem qd5_51 : (decode cL_law 818 = .ok (.iload_n 3, 1)) ∧ (decode cL_law 819 = .ok (.iconst 1, 1)) ∧ (decode cL_law 820 = .ok (.iadd, 1)) ∧ (decode cL_law 821 = .ok (.iaload, 1)) ∧ (decode cL_law 822 = .ok (.aload_n 0, 1)) ∧ (decode cL_law 823 = .ok (.iload_n 3, 1)) ∧ (decode cL_law 824 = .ok (.iconst 2, 1)) ∧ (decode cL_law 825 = .ok (.iadd, 1)) ∧ (decode cL_law 826 = .ok (.iaload, 1)) ∧ (decode cL_law 827 = .ok (.ifCond .eq 7, 3)) ∧ (decode cL_law 830 = .ok (.iconst 1, 1)) ∧ (decode cL_law 831 = .ok (.goto 4, 3)) := by decide +kernel
theorem dL_law_818 : decode cL_law 818 = .ok (.iload_n 3, 1) := qd5_51.1
theorem dL_law_819 : decode cL_law 819 = .ok (.iconst 1, 1) := qd5_51.2.1
theorem dL_law_820 : decode cL_law 820 = .ok (.iadd, 1) := qd5_51.2.2.1
theorem dL_law_821 : decode cL_law 821 = .ok (.iaload, 1) := qd5_51.2.2.2.1
theorem dL_law_822 : decode cL_law 822 = .ok (.aload_n 0, 1) := qd5_51.2.2.2.2.1
theorem dL_law_823 : decode cL_law 823 = .ok (.iload_n 3, 1) := qd5_51.2.2.2.2.2.1
theorem dL_law_824 : decode cL_law 824 = .ok (.iconst 2, 1) := qd5_51.2.2.2.2.2.2.1
theorem dL_law_825 : decode cL_law 825 = .ok (.iadd, 1) := qd5_51.2.2.2.2.2.2.2.1
theorem dL_law_826 : decode cL_law 826 = .ok (.iaload, 1) := qd5_51.2.2.2.2.2.2.2.2.1
theorem dL_law_827 : decode cL_law 827 = .ok (.ifCond .eq 7, 3) := qd5_51.2.2.2.2.2.2.2.2.2.1
theorem dL_law_830 : decode cL_law 830 = .ok (.iconst 1, 1) := qd5_51.2.2.2.2.2.2.2.2.2.2.1
theorem dL_law_831 : decode cL_law 831 = .ok (.goto 4, 3) := qd5_51.2.2.2.2.2.2.2.2.2.2.2
theorem qd5_52 : (decode cL_law 834 = .ok (.iconst 0, 1)) ∧ (decode cL_law 835 = .ok (.invokevirtual 79, 3)) ∧ (decode cL_law 838 = .ok (.pop, 1)) ∧ (decode cL_law 839 = .ok (.goto 755, 3)) ∧ (decode cL_law 842 = .ok (.aload_n 1, 1)) ∧ (decode cL_law 843 = .ok (.aload_n 0, 1)) ∧ (decode cL_law 844 = .ok (.iload_n 3, 1)) ∧ (decode cL_law 845 = .ok (.iconst 1, 1)) ∧ (decode cL_law 846 = .ok (.iadd, 1)) ∧ (decode cL_law 847 = .ok (.iaload, 1)) ∧ (decode cL_law 848 = .ok (.aload_n 0, 1)) ∧ (decode cL_law 849 = .ok (.iload_n 3, 1)) := by decide +kernel
theorem dL_law_834 : decode cL_law 834 = .ok (.iconst 0, 1) := qd5_52.1
theorem dL_law_835 : decode cL_law 835 = .ok (.invokevirtual 79, 3) := qd5_52.2.1
theorem dL_law_838 : decode cL_law 838 = .ok (.pop, 1) := qd5_52.2.2.1
theorem dL_law_839 : decode cL_law 839 = .ok (.goto 755, 3) := qd5_52.2.2.2.1
theorem dL_law_842 : decode cL_law 842 = .ok (.aload_n 1, 1) := qd5_52.2.2.2.2.1
theorem dL_law_843 : decode cL_law 843 = .ok (.aload_n 0, 1) := qd5_52.2.2.2.2.2.1
theorem dL_law_844 : decode cL_law 844 = .ok (.iload_n 3, 1) := qd5_52.2.2.2.2.2.2.1
theorem dL_law_845 : decode cL_law 845 = .ok (.iconst 1, 1) := qd5_52.2.2.2.2.2.2.2.1
theorem dL_law_846 : decode cL_law 846 = .ok (.iadd, 1) := qd5_52.2.2.2.2.2.2.2.2.1
theorem dL_law_847 : decode cL_law 847 = .ok (.iaload, 1) := qd5_52.2.2.2.2.2.2.2.2.2.1
theorem dL_law_848 : decode cL_law 848 = .ok (.aload_n 0, 1) := qd5_52.2.2.2.2.2.2.2.2.2.2.1
theorem dL_law_849 : decode cL_law 849 = .ok (.iload_n 3, 1) := qd5_52.2.2.2.2.2.2.2.2.2.2.2
theorem qd5_53 : (decode cL_law 850 = .ok (.iconst 2, 1)) ∧ (decode cL_law 851 = .ok (.iadd, 1)) ∧ (decode cL_law 852 = .ok (.iaload, 1)) ∧ (decode cL_law 853 = .ok (.invokevirtual 80, 3)) ∧ (decode cL_law 856 = .ok (.pop, 1)) ∧ (decode cL_law 857 = .ok (.aload_n 2, 1)) ∧ (decode cL_law 858 = .ok (.aload_n 0, 1)) ∧ (decode cL_law 859 = .ok (.iload_n 3, 1)) ∧ (decode cL_law 860 = .ok (.iconst 1, 1)) ∧ (decode cL_law 861 = .ok (.iadd, 1)) ∧ (decode cL_law 862 = .ok (.iaload, 1)) ∧ (decode cL_law 863 = .ok (.aload_n 0, 1)) := by decide +kernel
theorem dL_law_850 : decode cL_law 850 = .ok (.iconst 2, 1) := qd5_53.1
theorem dL_law_851 : decode cL_law 851 = .ok (.iadd, 1) := qd5_53.2.1
theorem dL_law_852 : decode cL_law 852 = .ok (.iaload, 1) := qd5_53.2.2.1
theorem dL_law_853 : decode cL_law 853 = .ok (.invokevirtual 80, 3) := qd5_53.2.2.2.1
theorem dL_law_856 : decode cL_law 856 = .ok (.pop, 1) := qd5_53.2.2.2.2.1
theorem dL_law_857 : decode cL_law 857 = .ok (.aload_n 2, 1) := qd5_53.2.2.2.2.2.1
theorem dL_law_858 : decode cL_law 858 = .ok (.aload_n 0, 1) := qd5_53.2.2.2.2.2.2.1
theorem dL_law_859 : decode cL_law 859 = .ok (.iload_n 3, 1) := qd5_53.2.2.2.2.2.2.2.1
theorem dL_law_860 : decode cL_law 860 = .ok (.iconst 1, 1) := qd5_53.2.2.2.2.2.2.2.2.1
theorem dL_law_861 : decode cL_law 861 = .ok (.iadd, 1) := qd5_53.2.2.2.2.2.2.2.2.2.1
theorem dL_law_862 : decode cL_law 862 = .ok (.iaload, 1) := qd5_53.2.2.2.2.2.2.2.2.2.2.1
theorem dL_law_863 : decode cL_law 863 = .ok (.aload_n 0, 1) := qd5_53.2.2.2.2.2.2.2.2.2.2.2
theorem qd5_54 : (decode cL_law 864 = .ok (.iload_n 3, 1)) ∧ (decode cL_law 865 = .ok (.iconst 2, 1)) ∧ (decode cL_law 866 = .ok (.iadd, 1)) ∧ (decode cL_law 867 = .ok (.iaload, 1)) ∧ (decode cL_law 868 = .ok (.invokevirtual 83, 3)) ∧ (decode cL_law 871 = .ok (.pop, 1)) ∧ (decode cL_law 872 = .ok (.goto 722, 3)) ∧ (decode cL_law 875 = .ok (.aload_n 1, 1)) ∧ (decode cL_law 876 = .ok (.invokevirtual 84, 3)) ∧ (decode cL_law 879 = .ok (.pop, 1)) ∧ (decode cL_law 880 = .ok (.aload_n 2, 1)) ∧ (decode cL_law 881 = .ok (.invokevirtual 88, 3)) := by decide +kernel
theorem dL_law_864 : decode cL_law 864 = .ok (.iload_n 3, 1) := qd5_54.1
theorem dL_law_865 : decode cL_law 865 = .ok (.iconst 2, 1) := qd5_54.2.1
theorem dL_law_866 : decode cL_law 866 = .ok (.iadd, 1) := qd5_54.2.2.1
theorem dL_law_867 : decode cL_law 867 = .ok (.iaload, 1) := qd5_54.2.2.2.1
theorem dL_law_868 : decode cL_law 868 = .ok (.invokevirtual 83, 3) := qd5_54.2.2.2.2.1
theorem dL_law_871 : decode cL_law 871 = .ok (.pop, 1) := qd5_54.2.2.2.2.2.1
theorem dL_law_872 : decode cL_law 872 = .ok (.goto 722, 3) := qd5_54.2.2.2.2.2.2.1
theorem dL_law_875 : decode cL_law 875 = .ok (.aload_n 1, 1) := qd5_54.2.2.2.2.2.2.2.1
theorem dL_law_876 : decode cL_law 876 = .ok (.invokevirtual 84, 3) := qd5_54.2.2.2.2.2.2.2.2.1
theorem dL_law_879 : decode cL_law 879 = .ok (.pop, 1) := qd5_54.2.2.2.2.2.2.2.2.2.1
theorem dL_law_880 : decode cL_law 880 = .ok (.aload_n 2, 1) := qd5_54.2.2.2.2.2.2.2.2.2.2.1
theorem dL_law_881 : decode cL_law 881 = .ok (.invokevirtual 88, 3) := qd5_54.2.2.2.2.2.2.2.2.2.2.2
theorem qd5_55 : (decode cL_law 884 = .ok (.pop, 1)) ∧ (decode cL_law 885 = .ok (.goto 709, 3)) ∧ (decode cL_law 888 = .ok (.aload_n 1, 1)) ∧ (decode cL_law 889 = .ok (.invokevirtual 89, 3)) ∧ (decode cL_law 892 = .ok (.pop, 1)) ∧ (decode cL_law 893 = .ok (.aload_n 2, 1)) ∧ (decode cL_law 894 = .ok (.invokevirtual 92, 3)) ∧ (decode cL_law 897 = .ok (.pop, 1)) ∧ (decode cL_law 898 = .ok (.goto 696, 3)) ∧ (decode cL_law 901 = .ok (.aload_n 1, 1)) ∧ (decode cL_law 902 = .ok (.aload_n 0, 1)) ∧ (decode cL_law 903 = .ok (.iload_n 3, 1)) := by decide +kernel
theorem dL_law_884 : decode cL_law 884 = .ok (.pop, 1) := qd5_55.1
theorem dL_law_885 : decode cL_law 885 = .ok (.goto 709, 3) := qd5_55.2.1
theorem dL_law_888 : decode cL_law 888 = .ok (.aload_n 1, 1) := qd5_55.2.2.1
theorem dL_law_889 : decode cL_law 889 = .ok (.invokevirtual 89, 3) := qd5_55.2.2.2.1
theorem dL_law_892 : decode cL_law 892 = .ok (.pop, 1) := qd5_55.2.2.2.2.1
theorem dL_law_893 : decode cL_law 893 = .ok (.aload_n 2, 1) := qd5_55.2.2.2.2.2.1
theorem dL_law_894 : decode cL_law 894 = .ok (.invokevirtual 92, 3) := qd5_55.2.2.2.2.2.2.1
theorem dL_law_897 : decode cL_law 897 = .ok (.pop, 1) := qd5_55.2.2.2.2.2.2.2.1
theorem dL_law_898 : decode cL_law 898 = .ok (.goto 696, 3) := qd5_55.2.2.2.2.2.2.2.2.1
theorem dL_law_901 : decode cL_law 901 = .ok (.aload_n 1, 1) := qd5_55.2.2.2.2.2.2.2.2.2.1
theorem dL_law_902 : decode cL_law 902 = .ok (.aload_n 0, 1) := qd5_55.2.2.2.2.2.2.2.2.2.2.1
theorem dL_law_903 : decode cL_law 903 = .ok (.iload_n 3, 1) := qd5_55.2.2.2.2.2.2.2.2.2.2.2
theorem qd5_56 : (decode cL_law 904 = .ok (.iconst 1, 1)) ∧ (decode cL_law 905 = .ok (.iadd, 1)) ∧ (decode cL_law 906 = .ok (.iaload, 1)) ∧ (decode cL_law 907 = .ok (.aload_n 0, 1)) ∧ (decode cL_law 908 = .ok (.iload_n 3, 1)) ∧ (decode cL_law 909 = .ok (.iconst 2, 1)) ∧ (decode cL_law 910 = .ok (.iadd, 1)) ∧ (decode cL_law 911 = .ok (.iaload, 1)) ∧ (decode cL_law 912 = .ok (.invokevirtual 93, 3)) ∧ (decode cL_law 915 = .ok (.pop, 1)) ∧ (decode cL_law 916 = .ok (.aload_n 2, 1)) ∧ (decode cL_law 917 = .ok (.aload_n 0, 1)) := by decide +kernel
theorem dL_law_904 : decode cL_law 904 = .ok (.iconst 1, 1) := qd5_56.1
theorem dL_law_905 : decode cL_law 905 = .ok (.iadd, 1) := qd5_56.2.1
theorem dL_law_906 : decode cL_law 906 = .ok (.iaload, 1) := qd5_56.2.2.1
theorem dL_law_907 : decode cL_law 907 = .ok (.aload_n 0, 1) := qd5_56.2.2.2.1
theorem dL_law_908 : decode cL_law 908 = .ok (.iload_n 3, 1) := qd5_56.2.2.2.2.1
theorem dL_law_909 : decode cL_law 909 = .ok (.iconst 2, 1) := qd5_56.2.2.2.2.2.1
theorem dL_law_910 : decode cL_law 910 = .ok (.iadd, 1) := qd5_56.2.2.2.2.2.2.1
theorem dL_law_911 : decode cL_law 911 = .ok (.iaload, 1) := qd5_56.2.2.2.2.2.2.2.1
theorem dL_law_912 : decode cL_law 912 = .ok (.invokevirtual 93, 3) := qd5_56.2.2.2.2.2.2.2.2.1
theorem dL_law_915 : decode cL_law 915 = .ok (.pop, 1) := qd5_56.2.2.2.2.2.2.2.2.2.1
theorem dL_law_916 : decode cL_law 916 = .ok (.aload_n 2, 1) := qd5_56.2.2.2.2.2.2.2.2.2.2.1
theorem dL_law_917 : decode cL_law 917 = .ok (.aload_n 0, 1) := qd5_56.2.2.2.2.2.2.2.2.2.2.2
theorem qd5_57 : (decode cL_law 918 = .ok (.iload_n 3, 1)) ∧ (decode cL_law 919 = .ok (.iconst 1, 1)) ∧ (decode cL_law 920 = .ok (.iadd, 1)) ∧ (decode cL_law 921 = .ok (.iaload, 1)) ∧ (decode cL_law 922 = .ok (.aload_n 0, 1)) ∧ (decode cL_law 923 = .ok (.iload_n 3, 1)) ∧ (decode cL_law 924 = .ok (.iconst 2, 1)) ∧ (decode cL_law 925 = .ok (.iadd, 1)) ∧ (decode cL_law 926 = .ok (.iaload, 1)) ∧ (decode cL_law 927 = .ok (.invokevirtual 96, 3)) ∧ (decode cL_law 930 = .ok (.pop, 1)) ∧ (decode cL_law 931 = .ok (.goto 663, 3)) := by decide +kernel
theorem dL_law_918 : decode cL_law 918 = .ok (.iload_n 3, 1) := qd5_57.1
theorem dL_law_919 : decode cL_law 919 = .ok (.iconst 1, 1) := qd5_57.2.1
theorem dL_law_920 : decode cL_law 920 = .ok (.iadd, 1) := qd5_57.2.2.1
theorem dL_law_921 : decode cL_law 921 = .ok (.iaload, 1) := qd5_57.2.2.2.1
theorem dL_law_922 : decode cL_law 922 = .ok (.aload_n 0, 1) := qd5_57.2.2.2.2.1
theorem dL_law_923 : decode cL_law 923 = .ok (.iload_n 3, 1) := qd5_57.2.2.2.2.2.1
theorem dL_law_924 : decode cL_law 924 = .ok (.iconst 2, 1) := qd5_57.2.2.2.2.2.2.1
theorem dL_law_925 : decode cL_law 925 = .ok (.iadd, 1) := qd5_57.2.2.2.2.2.2.2.1
theorem dL_law_926 : decode cL_law 926 = .ok (.iaload, 1) := qd5_57.2.2.2.2.2.2.2.2.1
theorem dL_law_927 : decode cL_law 927 = .ok (.invokevirtual 96, 3) := qd5_57.2.2.2.2.2.2.2.2.2.1
theorem dL_law_930 : decode cL_law 930 = .ok (.pop, 1) := qd5_57.2.2.2.2.2.2.2.2.2.2.1
theorem dL_law_931 : decode cL_law 931 = .ok (.goto 663, 3) := qd5_57.2.2.2.2.2.2.2.2.2.2.2
theorem qd5_58 : (decode cL_law 934 = .ok (.aload_n 1, 1)) ∧ (decode cL_law 935 = .ok (.aload_n 0, 1)) ∧ (decode cL_law 936 = .ok (.iload_n 3, 1)) ∧ (decode cL_law 937 = .ok (.iconst 1, 1)) ∧ (decode cL_law 938 = .ok (.iadd, 1)) ∧ (decode cL_law 939 = .ok (.iaload, 1)) ∧ (decode cL_law 940 = .ok (.aload_n 0, 1)) ∧ (decode cL_law 941 = .ok (.iload_n 3, 1)) ∧ (decode cL_law 942 = .ok (.iconst 2, 1)) ∧ (decode cL_law 943 = .ok (.iadd, 1)) ∧ (decode cL_law 944 = .ok (.iaload, 1)) ∧ (decode cL_law 945 = .ok (.invokevirtual 97, 3)) := by decide +kernel
theorem dL_law_934 : decode cL_law 934 = .ok (.aload_n 1, 1) := qd5_58.1
theorem dL_law_935 : decode cL_law 935 = .ok (.aload_n 0, 1) := qd5_58.2.1
theorem dL_law_936 : decode cL_law 936 = .ok (.iload_n 3, 1) := qd5_58.2.2.1
theorem dL_law_937 : decode cL_law 937 = .ok (.iconst 1, 1) := qd5_58.2.2.2.1
theorem dL_law_938 : decode cL_law 938 = .ok (.iadd, 1) := qd5_58.2.2.2.2.1
theorem dL_law_939 : decode cL_law 939 = .ok (.iaload, 1) := qd5_58.2.2.2.2.2.1
theorem dL_law_940 : decode cL_law 940 = .ok (.aload_n 0, 1) := qd5_58.2.2.2.2.2.2.1
theorem dL_law_941 : decode cL_law 941 = .ok (.iload_n 3, 1) := qd5_58.2.2.2.2.2.2.2.1
theorem dL_law_942 : decode cL_law 942 = .ok (.iconst 2, 1) := qd5_58.2.2.2.2.2.2.2.2.1
theorem dL_law_943 : decode cL_law 943 = .ok (.iadd, 1) := qd5_58.2.2.2.2.2.2.2.2.2.1
theorem dL_law_944 : decode cL_law 944 = .ok (.iaload, 1) := qd5_58.2.2.2.2.2.2.2.2.2.2.1
theorem dL_law_945 : decode cL_law 945 = .ok (.invokevirtual 97, 3) := qd5_58.2.2.2.2.2.2.2.2.2.2.2
theorem qd5_59 : (decode cL_law 948 = .ok (.pop, 1)) ∧ (decode cL_law 949 = .ok (.aload_n 2, 1)) ∧ (decode cL_law 950 = .ok (.aload_n 0, 1)) ∧ (decode cL_law 951 = .ok (.iload_n 3, 1)) ∧ (decode cL_law 952 = .ok (.iconst 1, 1)) ∧ (decode cL_law 953 = .ok (.iadd, 1)) ∧ (decode cL_law 954 = .ok (.iaload, 1)) ∧ (decode cL_law 955 = .ok (.aload_n 0, 1)) ∧ (decode cL_law 956 = .ok (.iload_n 3, 1)) ∧ (decode cL_law 957 = .ok (.iconst 2, 1)) ∧ (decode cL_law 958 = .ok (.iadd, 1)) ∧ (decode cL_law 959 = .ok (.iaload, 1)) := by decide +kernel
theorem dL_law_948 : decode cL_law 948 = .ok (.pop, 1) := qd5_59.1
theorem dL_law_949 : decode cL_law 949 = .ok (.aload_n 2, 1) := qd5_59.2.1
theorem dL_law_950 : decode cL_law 950 = .ok (.aload_n 0, 1) := qd5_59.2.2.1
theorem dL_law_951 : decode cL_law 951 = .ok (.iload_n 3, 1) := qd5_59.2.2.2.1
theorem dL_law_952 : decode cL_law 952 = .ok (.iconst 1, 1) := qd5_59.2.2.2.2.1
theorem dL_law_953 : decode cL_law 953 = .ok (.iadd, 1) := qd5_59.2.2.2.2.2.1
theorem dL_law_954 : decode cL_law 954 = .ok (.iaload, 1) := qd5_59.2.2.2.2.2.2.1
theorem dL_law_955 : decode cL_law 955 = .ok (.aload_n 0, 1) := qd5_59.2.2.2.2.2.2.2.1
theorem dL_law_956 : decode cL_law 956 = .ok (.iload_n 3, 1) := qd5_59.2.2.2.2.2.2.2.2.1
theorem dL_law_957 : decode cL_law 957 = .ok (.iconst 2, 1) := qd5_59.2.2.2.2.2.2.2.2.2.1
theorem dL_law_958 : decode cL_law 958 = .ok (.iadd, 1) := qd5_59.2.2.2.2.2.2.2.2.2.2.1
theorem dL_law_959 : decode cL_law 959 = .ok (.iaload, 1) := qd5_59.2.2.2.2.2.2.2.2.2.2.2
theorem qd5_60 : (decode cL_law 960 = .ok (.invokevirtual 100, 3)) ∧ (decode cL_law 963 = .ok (.pop, 1)) ∧ (decode cL_law 964 = .ok (.goto 630, 3)) ∧ (decode cL_law 967 = .ok (.aload_n 1, 1)) ∧ (decode cL_law 968 = .ok (.aload_n 0, 1)) ∧ (decode cL_law 969 = .ok (.iload_n 3, 1)) ∧ (decode cL_law 970 = .ok (.iconst 1, 1)) ∧ (decode cL_law 971 = .ok (.iadd, 1)) ∧ (decode cL_law 972 = .ok (.iaload, 1)) ∧ (decode cL_law 973 = .ok (.aload_n 0, 1)) ∧ (decode cL_law 974 = .ok (.iload_n 3, 1)) ∧ (decode cL_law 975 = .ok (.iconst 2, 1)) := by decide +kernel
theorem dL_law_960 : decode cL_law 960 = .ok (.invokevirtual 100, 3) := qd5_60.1
theorem dL_law_963 : decode cL_law 963 = .ok (.pop, 1) := qd5_60.2.1
theorem dL_law_964 : decode cL_law 964 = .ok (.goto 630, 3) := qd5_60.2.2.1
theorem dL_law_967 : decode cL_law 967 = .ok (.aload_n 1, 1) := qd5_60.2.2.2.1
theorem dL_law_968 : decode cL_law 968 = .ok (.aload_n 0, 1) := qd5_60.2.2.2.2.1
theorem dL_law_969 : decode cL_law 969 = .ok (.iload_n 3, 1) := qd5_60.2.2.2.2.2.1
theorem dL_law_970 : decode cL_law 970 = .ok (.iconst 1, 1) := qd5_60.2.2.2.2.2.2.1
theorem dL_law_971 : decode cL_law 971 = .ok (.iadd, 1) := qd5_60.2.2.2.2.2.2.2.1
theorem dL_law_972 : decode cL_law 972 = .ok (.iaload, 1) := qd5_60.2.2.2.2.2.2.2.2.1
theorem dL_law_973 : decode cL_law 973 = .ok (.aload_n 0, 1) := qd5_60.2.2.2.2.2.2.2.2.2.1
theorem dL_law_974 : decode cL_law 974 = .ok (.iload_n 3, 1) := qd5_60.2.2.2.2.2.2.2.2.2.2.1
theorem dL_law_975 : decode cL_law 975 = .ok (.iconst 2, 1) := qd5_60.2.2.2.2.2.2.2.2.2.2.2
theorem qd5_61 : (decode cL_law 976 = .ok (.iadd, 1)) ∧ (decode cL_law 977 = .ok (.iaload, 1)) ∧ (decode cL_law 978 = .ok (.invokevirtual 101, 3)) ∧ (decode cL_law 981 = .ok (.pop, 1)) ∧ (decode cL_law 982 = .ok (.aload_n 2, 1)) ∧ (decode cL_law 983 = .ok (.aload_n 0, 1)) ∧ (decode cL_law 984 = .ok (.iload_n 3, 1)) ∧ (decode cL_law 985 = .ok (.iconst 1, 1)) ∧ (decode cL_law 986 = .ok (.iadd, 1)) ∧ (decode cL_law 987 = .ok (.iaload, 1)) ∧ (decode cL_law 988 = .ok (.aload_n 0, 1)) ∧ (decode cL_law 989 = .ok (.iload_n 3, 1)) := by decide +kernel
theorem dL_law_976 : decode cL_law 976 = .ok (.iadd, 1) := qd5_61.1
theorem dL_law_977 : decode cL_law 977 = .ok (.iaload, 1) := qd5_61.2.1
theorem dL_law_978 : decode cL_law 978 = .ok (.invokevirtual 101, 3) := qd5_61.2.2.1
theorem dL_law_981 : decode cL_law 981 = .ok (.pop, 1) := qd5_61.2.2.2.1
theorem dL_law_982 : decode cL_law 982 = .ok (.aload_n 2, 1) := qd5_61.2.2.2.2.1
theorem dL_law_983 : decode cL_law 983 = .ok (.aload_n 0, 1) := qd5_61.2.2.2.2.2.1
theorem dL_law_984 : decode cL_law 984 = .ok (.iload_n 3, 1) := qd5_61.2.2.2.2.2.2.1
theorem dL_law_985 : decode cL_law 985 = .ok (.iconst 1, 1) := qd5_61.2.2.2.2.2.2.2.1
theorem dL_law_986 : decode cL_law 986 = .ok (.iadd, 1) := qd5_61.2.2.2.2.2.2.2.2.1
theorem dL_law_987 : decode cL_law 987 = .ok (.iaload, 1) := qd5_61.2.2.2.2.2.2.2.2.2.1
theorem dL_law_988 : decode cL_law 988 = .ok (.aload_n 0, 1) := qd5_61.2.2.2.2.2.2.2.2.2.2.1
theorem dL_law_989 : decode cL_law 989 = .ok (.iload_n 3, 1) := qd5_61.2.2.2.2.2.2.2.2.2.2.2
theorem qd5_62 : (decode cL_law 990 = .ok (.iconst 2, 1)) ∧ (decode cL_law 991 = .ok (.iadd, 1)) ∧ (decode cL_law 992 = .ok (.iaload, 1)) ∧ (decode cL_law 993 = .ok (.invokevirtual 104, 3)) ∧ (decode cL_law 996 = .ok (.pop, 1)) ∧ (decode cL_law 997 = .ok (.goto 597, 3)) ∧ (decode cL_law 1000 = .ok (.aload_n 1, 1)) ∧ (decode cL_law 1001 = .ok (.aload_n 0, 1)) ∧ (decode cL_law 1002 = .ok (.iload_n 3, 1)) ∧ (decode cL_law 1003 = .ok (.iconst 1, 1)) ∧ (decode cL_law 1004 = .ok (.iadd, 1)) ∧ (decode cL_law 1005 = .ok (.iaload, 1)) := by decide +kernel
theorem dL_law_990 : decode cL_law 990 = .ok (.iconst 2, 1) := qd5_62.1
theorem dL_law_991 : decode cL_law 991 = .ok (.iadd, 1) := qd5_62.2.1
theorem dL_law_992 : decode cL_law 992 = .ok (.iaload, 1) := qd5_62.2.2.1
theorem dL_law_993 : decode cL_law 993 = .ok (.invokevirtual 104, 3) := qd5_62.2.2.2.1
theorem dL_law_996 : decode cL_law 996 = .ok (.pop, 1) := qd5_62.2.2.2.2.1
theorem dL_law_997 : decode cL_law 997 = .ok (.goto 597, 3) := qd5_62.2.2.2.2.2.1
theorem dL_law_1000 : decode cL_law 1000 = .ok (.aload_n 1, 1) := qd5_62.2.2.2.2.2.2.1
theorem dL_law_1001 : decode cL_law 1001 = .ok (.aload_n 0, 1) := qd5_62.2.2.2.2.2.2.2.1
theorem dL_law_1002 : decode cL_law 1002 = .ok (.iload_n 3, 1) := qd5_62.2.2.2.2.2.2.2.2.1
theorem dL_law_1003 : decode cL_law 1003 = .ok (.iconst 1, 1) := qd5_62.2.2.2.2.2.2.2.2.2.1
theorem dL_law_1004 : decode cL_law 1004 = .ok (.iadd, 1) := qd5_62.2.2.2.2.2.2.2.2.2.2.1
theorem dL_law_1005 : decode cL_law 1005 = .ok (.iaload, 1) := qd5_62.2.2.2.2.2.2.2.2.2.2.2
theorem qd5_63 : (decode cL_law 1006 = .ok (.aload_n 0, 1)) ∧ (decode cL_law 1007 = .ok (.iload_n 3, 1)) ∧ (decode cL_law 1008 = .ok (.iconst 2, 1)) ∧ (decode cL_law 1009 = .ok (.iadd, 1)) ∧ (decode cL_law 1010 = .ok (.iaload, 1)) ∧ (decode cL_law 1011 = .ok (.invokevirtual 105, 3)) ∧ (decode cL_law 1014 = .ok (.pop, 1)) ∧ (decode cL_law 1015 = .ok (.aload_n 2, 1)) ∧ (decode cL_law 1016 = .ok (.aload_n 0, 1)) ∧ (decode cL_law 1017 = .ok (.iload_n 3, 1)) ∧ (decode cL_law 1018 = .ok (.iconst 1, 1)) ∧ (decode cL_law 1019 = .ok (.iadd, 1)) := by decide +kernel
theorem dL_law_1006 : decode cL_law 1006 = .ok (.aload_n 0, 1) := qd5_63.1
theorem dL_law_1007 : decode cL_law 1007 = .ok (.iload_n 3, 1) := qd5_63.2.1
theorem dL_law_1008 : decode cL_law 1008 = .ok (.iconst 2, 1) := qd5_63.2.2.1
theorem dL_law_1009 : decode cL_law 1009 = .ok (.iadd, 1) := qd5_63.2.2.2.1
theorem dL_law_1010 : decode cL_law 1010 = .ok (.iaload, 1) := qd5_63.2.2.2.2.1
theorem dL_law_1011 : decode cL_law 1011 = .ok (.invokevirtual 105, 3) := qd5_63.2.2.2.2.2.1
theorem dL_law_1014 : decode cL_law 1014 = .ok (.pop, 1) := qd5_63.2.2.2.2.2.2.1
theorem dL_law_1015 : decode cL_law 1015 = .ok (.aload_n 2, 1) := qd5_63.2.2.2.2.2.2.2.1
theorem dL_law_1016 : decode cL_law 1016 = .ok (.aload_n 0, 1) := qd5_63.2.2.2.2.2.2.2.2.1
theorem dL_law_1017 : decode cL_law 1017 = .ok (.iload_n 3, 1) := qd5_63.2.2.2.2.2.2.2.2.2.1
theorem dL_law_1018 : decode cL_law 1018 = .ok (.iconst 1, 1) := qd5_63.2.2.2.2.2.2.2.2.2.2.1
theorem dL_law_1019 : decode cL_law 1019 = .ok (.iadd, 1) := qd5_63.2.2.2.2.2.2.2.2.2.2.2
theorem qd5_64 : (decode cL_law 1020 = .ok (.iaload, 1)) ∧ (decode cL_law 1021 = .ok (.aload_n 0, 1)) ∧ (decode cL_law 1022 = .ok (.iload_n 3, 1)) ∧ (decode cL_law 1023 = .ok (.iconst 2, 1)) ∧ (decode cL_law 1024 = .ok (.iadd, 1)) ∧ (decode cL_law 1025 = .ok (.iaload, 1)) ∧ (decode cL_law 1026 = .ok (.invokevirtual 108, 3)) ∧ (decode cL_law 1029 = .ok (.pop, 1)) ∧ (decode cL_law 1030 = .ok (.goto 564, 3)) ∧ (decode cL_law 1033 = .ok (.aload_n 1, 1)) ∧ (decode cL_law 1034 = .ok (.aload_n 0, 1)) ∧ (decode cL_law 1035 = .ok (.iload_n 3, 1)) := by decide +kernel
theorem dL_law_1020 : decode cL_law 1020 = .ok (.iaload, 1) := qd5_64.1
theorem dL_law_1021 : decode cL_law 1021 = .ok (.aload_n 0, 1) := qd5_64.2.1
theorem dL_law_1022 : decode cL_law 1022 = .ok (.iload_n 3, 1) := qd5_64.2.2.1
theorem dL_law_1023 : decode cL_law 1023 = .ok (.iconst 2, 1) := qd5_64.2.2.2.1
theorem dL_law_1024 : decode cL_law 1024 = .ok (.iadd, 1) := qd5_64.2.2.2.2.1
theorem dL_law_1025 : decode cL_law 1025 = .ok (.iaload, 1) := qd5_64.2.2.2.2.2.1
theorem dL_law_1026 : decode cL_law 1026 = .ok (.invokevirtual 108, 3) := qd5_64.2.2.2.2.2.2.1
theorem dL_law_1029 : decode cL_law 1029 = .ok (.pop, 1) := qd5_64.2.2.2.2.2.2.2.1
theorem dL_law_1030 : decode cL_law 1030 = .ok (.goto 564, 3) := qd5_64.2.2.2.2.2.2.2.2.1
theorem dL_law_1033 : decode cL_law 1033 = .ok (.aload_n 1, 1) := qd5_64.2.2.2.2.2.2.2.2.2.1
theorem dL_law_1034 : decode cL_law 1034 = .ok (.aload_n 0, 1) := qd5_64.2.2.2.2.2.2.2.2.2.2.1
theorem dL_law_1035 : decode cL_law 1035 = .ok (.iload_n 3, 1) := qd5_64.2.2.2.2.2.2.2.2.2.2.2
theorem qd5_65 : (decode cL_law 1036 = .ok (.iconst 1, 1)) ∧ (decode cL_law 1037 = .ok (.iadd, 1)) ∧ (decode cL_law 1038 = .ok (.iaload, 1)) ∧ (decode cL_law 1039 = .ok (.aload_n 0, 1)) ∧ (decode cL_law 1040 = .ok (.iload_n 3, 1)) ∧ (decode cL_law 1041 = .ok (.iconst 2, 1)) ∧ (decode cL_law 1042 = .ok (.iadd, 1)) ∧ (decode cL_law 1043 = .ok (.iaload, 1)) ∧ (decode cL_law 1044 = .ok (.invokevirtual 109, 3)) ∧ (decode cL_law 1047 = .ok (.pop, 1)) ∧ (decode cL_law 1048 = .ok (.aload_n 2, 1)) ∧ (decode cL_law 1049 = .ok (.aload_n 0, 1)) := by decide +kernel
theorem dL_law_1036 : decode cL_law 1036 = .ok (.iconst 1, 1) := qd5_65.1
theorem dL_law_1037 : decode cL_law 1037 = .ok (.iadd, 1) := qd5_65.2.1
theorem dL_law_1038 : decode cL_law 1038 = .ok (.iaload, 1) := qd5_65.2.2.1
theorem dL_law_1039 : decode cL_law 1039 = .ok (.aload_n 0, 1) := qd5_65.2.2.2.1
theorem dL_law_1040 : decode cL_law 1040 = .ok (.iload_n 3, 1) := qd5_65.2.2.2.2.1
theorem dL_law_1041 : decode cL_law 1041 = .ok (.iconst 2, 1) := qd5_65.2.2.2.2.2.1
theorem dL_law_1042 : decode cL_law 1042 = .ok (.iadd, 1) := qd5_65.2.2.2.2.2.2.1
theorem dL_law_1043 : decode cL_law 1043 = .ok (.iaload, 1) := qd5_65.2.2.2.2.2.2.2.1
theorem dL_law_1044 : decode cL_law 1044 = .ok (.invokevirtual 109, 3) := qd5_65.2.2.2.2.2.2.2.2.1
theorem dL_law_1047 : decode cL_law 1047 = .ok (.pop, 1) := qd5_65.2.2.2.2.2.2.2.2.2.1
theorem dL_law_1048 : decode cL_law 1048 = .ok (.aload_n 2, 1) := qd5_65.2.2.2.2.2.2.2.2.2.2.1
theorem dL_law_1049 : decode cL_law 1049 = .ok (.aload_n 0, 1) := qd5_65.2.2.2.2.2.2.2.2.2.2.2
theorem qd5_66 : (decode cL_law 1050 = .ok (.iload_n 3, 1)) ∧ (decode cL_law 1051 = .ok (.iconst 1, 1)) ∧ (decode cL_law 1052 = .ok (.iadd, 1)) ∧ (decode cL_law 1053 = .ok (.iaload, 1)) ∧ (decode cL_law 1054 = .ok (.aload_n 0, 1)) ∧ (decode cL_law 1055 = .ok (.iload_n 3, 1)) ∧ (decode cL_law 1056 = .ok (.iconst 2, 1)) ∧ (decode cL_law 1057 = .ok (.iadd, 1)) ∧ (decode cL_law 1058 = .ok (.iaload, 1)) ∧ (decode cL_law 1059 = .ok (.invokevirtual 112, 3)) ∧ (decode cL_law 1062 = .ok (.pop, 1)) ∧ (decode cL_law 1063 = .ok (.goto 531, 3)) := by decide +kernel
theorem dL_law_1050 : decode cL_law 1050 = .ok (.iload_n 3, 1) := qd5_66.1
theorem dL_law_1051 : decode cL_law 1051 = .ok (.iconst 1, 1) := qd5_66.2.1
theorem dL_law_1052 : decode cL_law 1052 = .ok (.iadd, 1) := qd5_66.2.2.1
theorem dL_law_1053 : decode cL_law 1053 = .ok (.iaload, 1) := qd5_66.2.2.2.1
theorem dL_law_1054 : decode cL_law 1054 = .ok (.aload_n 0, 1) := qd5_66.2.2.2.2.1
theorem dL_law_1055 : decode cL_law 1055 = .ok (.iload_n 3, 1) := qd5_66.2.2.2.2.2.1
theorem dL_law_1056 : decode cL_law 1056 = .ok (.iconst 2, 1) := qd5_66.2.2.2.2.2.2.1
theorem dL_law_1057 : decode cL_law 1057 = .ok (.iadd, 1) := qd5_66.2.2.2.2.2.2.2.1
theorem dL_law_1058 : decode cL_law 1058 = .ok (.iaload, 1) := qd5_66.2.2.2.2.2.2.2.2.1
theorem dL_law_1059 : decode cL_law 1059 = .ok (.invokevirtual 112, 3) := qd5_66.2.2.2.2.2.2.2.2.2.1
theorem dL_law_1062 : decode cL_law 1062 = .ok (.pop, 1) := qd5_66.2.2.2.2.2.2.2.2.2.2.1
theorem dL_law_1063 : decode cL_law 1063 = .ok (.goto 531, 3) := qd5_66.2.2.2.2.2.2.2.2.2.2.2
theorem qd5_67 : (decode cL_law 1066 = .ok (.aload_n 1, 1)) ∧ (decode cL_law 1067 = .ok (.invokevirtual 113, 3)) ∧ (decode cL_law 1070 = .ok (.pop, 1)) ∧ (decode cL_law 1071 = .ok (.aload_n 2, 1)) ∧ (decode cL_law 1072 = .ok (.invokevirtual 116, 3)) ∧ (decode cL_law 1075 = .ok (.pop, 1)) ∧ (decode cL_law 1076 = .ok (.goto 518, 3)) ∧ (decode cL_law 1079 = .ok (.aload_n 1, 1)) ∧ (decode cL_law 1080 = .ok (.aload_n 0, 1)) ∧ (decode cL_law 1081 = .ok (.iload_n 3, 1)) ∧ (decode cL_law 1082 = .ok (.iconst 1, 1)) ∧ (decode cL_law 1083 = .ok (.iadd, 1)) := by decide +kernel
theorem dL_law_1066 : decode cL_law 1066 = .ok (.aload_n 1, 1) := qd5_67.1
theorem dL_law_1067 : decode cL_law 1067 = .ok (.invokevirtual 113, 3) := qd5_67.2.1
theorem dL_law_1070 : decode cL_law 1070 = .ok (.pop, 1) := qd5_67.2.2.1
theorem dL_law_1071 : decode cL_law 1071 = .ok (.aload_n 2, 1) := qd5_67.2.2.2.1
theorem dL_law_1072 : decode cL_law 1072 = .ok (.invokevirtual 116, 3) := qd5_67.2.2.2.2.1
theorem dL_law_1075 : decode cL_law 1075 = .ok (.pop, 1) := qd5_67.2.2.2.2.2.1
theorem dL_law_1076 : decode cL_law 1076 = .ok (.goto 518, 3) := qd5_67.2.2.2.2.2.2.1
theorem dL_law_1079 : decode cL_law 1079 = .ok (.aload_n 1, 1) := qd5_67.2.2.2.2.2.2.2.1
theorem dL_law_1080 : decode cL_law 1080 = .ok (.aload_n 0, 1) := qd5_67.2.2.2.2.2.2.2.2.1
theorem dL_law_1081 : decode cL_law 1081 = .ok (.iload_n 3, 1) := qd5_67.2.2.2.2.2.2.2.2.2.1
theorem dL_law_1082 : decode cL_law 1082 = .ok (.iconst 1, 1) := qd5_67.2.2.2.2.2.2.2.2.2.2.1
theorem dL_law_1083 : decode cL_law 1083 = .ok (.iadd, 1) := qd5_67.2.2.2.2.2.2.2.2.2.2.2
theorem qd5_68 : (decode cL_law 1084 = .ok (.iaload, 1)) ∧ (decode cL_law 1085 = .ok (.invokevirtual 117, 3)) ∧ (decode cL_law 1088 = .ok (.pop, 1)) ∧ (decode cL_law 1089 = .ok (.aload_n 2, 1)) ∧ (decode cL_law 1090 = .ok (.aload_n 0, 1)) ∧ (decode cL_law 1091 = .ok (.iload_n 3, 1)) ∧ (decode cL_law 1092 = .ok (.iconst 1, 1)) ∧ (decode cL_law 1093 = .ok (.iadd, 1)) ∧ (decode cL_law 1094 = .ok (.iaload, 1)) ∧ (decode cL_law 1095 = .ok (.invokevirtual 120, 3)) ∧ (decode cL_law 1098 = .ok (.pop, 1)) ∧ (decode cL_law 1099 = .ok (.goto 495, 3)) := by decide +kernel
theorem dL_law_1084 : decode cL_law 1084 = .ok (.iaload, 1) := qd5_68.1
theorem dL_law_1085 : decode cL_law 1085 = .ok (.invokevirtual 117, 3) := qd5_68.2.1
theorem dL_law_1088 : decode cL_law 1088 = .ok (.pop, 1) := qd5_68.2.2.1
theorem dL_law_1089 : decode cL_law 1089 = .ok (.aload_n 2, 1) := qd5_68.2.2.2.1
theorem dL_law_1090 : decode cL_law 1090 = .ok (.aload_n 0, 1) := qd5_68.2.2.2.2.1
theorem dL_law_1091 : decode cL_law 1091 = .ok (.iload_n 3, 1) := qd5_68.2.2.2.2.2.1
theorem dL_law_1092 : decode cL_law 1092 = .ok (.iconst 1, 1) := qd5_68.2.2.2.2.2.2.1
theorem dL_law_1093 : decode cL_law 1093 = .ok (.iadd, 1) := qd5_68.2.2.2.2.2.2.2.1
theorem dL_law_1094 : decode cL_law 1094 = .ok (.iaload, 1) := qd5_68.2.2.2.2.2.2.2.2.1
theorem dL_law_1095 : decode cL_law 1095 = .ok (.invokevirtual 120, 3) := qd5_68.2.2.2.2.2.2.2.2.2.1
theorem dL_law_1098 : decode cL_law 1098 = .ok (.pop, 1) := qd5_68.2.2.2.2.2.2.2.2.2.2.1
theorem dL_law_1099 : decode cL_law 1099 = .ok (.goto 495, 3) := qd5_68.2.2.2.2.2.2.2.2.2.2.2
theorem qd5_69 : (decode cL_law 1102 = .ok (.aload_n 1, 1)) ∧ (decode cL_law 1103 = .ok (.aload_n 0, 1)) ∧ (decode cL_law 1104 = .ok (.iload_n 3, 1)) ∧ (decode cL_law 1105 = .ok (.iconst 1, 1)) ∧ (decode cL_law 1106 = .ok (.iadd, 1)) ∧ (decode cL_law 1107 = .ok (.iaload, 1)) ∧ (decode cL_law 1108 = .ok (.invokevirtual 121, 3)) ∧ (decode cL_law 1111 = .ok (.pop, 1)) ∧ (decode cL_law 1112 = .ok (.aload_n 2, 1)) ∧ (decode cL_law 1113 = .ok (.aload_n 0, 1)) ∧ (decode cL_law 1114 = .ok (.iload_n 3, 1)) ∧ (decode cL_law 1115 = .ok (.iconst 1, 1)) := by decide +kernel
theorem dL_law_1102 : decode cL_law 1102 = .ok (.aload_n 1, 1) := qd5_69.1
theorem dL_law_1103 : decode cL_law 1103 = .ok (.aload_n 0, 1) := qd5_69.2.1
theorem dL_law_1104 : decode cL_law 1104 = .ok (.iload_n 3, 1) := qd5_69.2.2.1
theorem dL_law_1105 : decode cL_law 1105 = .ok (.iconst 1, 1) := qd5_69.2.2.2.1
theorem dL_law_1106 : decode cL_law 1106 = .ok (.iadd, 1) := qd5_69.2.2.2.2.1
theorem dL_law_1107 : decode cL_law 1107 = .ok (.iaload, 1) := qd5_69.2.2.2.2.2.1
theorem dL_law_1108 : decode cL_law 1108 = .ok (.invokevirtual 121, 3) := qd5_69.2.2.2.2.2.2.1
theorem dL_law_1111 : decode cL_law 1111 = .ok (.pop, 1) := qd5_69.2.2.2.2.2.2.2.1
theorem dL_law_1112 : decode cL_law 1112 = .ok (.aload_n 2, 1) := qd5_69.2.2.2.2.2.2.2.2.1
theorem dL_law_1113 : decode cL_law 1113 = .ok (.aload_n 0, 1) := qd5_69.2.2.2.2.2.2.2.2.2.1
theorem dL_law_1114 : decode cL_law 1114 = .ok (.iload_n 3, 1) := qd5_69.2.2.2.2.2.2.2.2.2.2.1
theorem dL_law_1115 : decode cL_law 1115 = .ok (.iconst 1, 1) := qd5_69.2.2.2.2.2.2.2.2.2.2.2
theorem qd5_70 : (decode cL_law 1116 = .ok (.iadd, 1)) ∧ (decode cL_law 1117 = .ok (.iaload, 1)) ∧ (decode cL_law 1118 = .ok (.invokevirtual 124, 3)) ∧ (decode cL_law 1121 = .ok (.pop, 1)) ∧ (decode cL_law 1122 = .ok (.goto 472, 3)) ∧ (decode cL_law 1125 = .ok (.aload_n 1, 1)) ∧ (decode cL_law 1126 = .ok (.invokevirtual 125, 3)) ∧ (decode cL_law 1129 = .ok (.pop, 1)) ∧ (decode cL_law 1130 = .ok (.aload_n 2, 1)) ∧ (decode cL_law 1131 = .ok (.invokevirtual 128, 3)) ∧ (decode cL_law 1134 = .ok (.pop, 1)) ∧ (decode cL_law 1135 = .ok (.goto 459, 3)) := by decide +kernel
theorem dL_law_1116 : decode cL_law 1116 = .ok (.iadd, 1) := qd5_70.1
theorem dL_law_1117 : decode cL_law 1117 = .ok (.iaload, 1) := qd5_70.2.1
theorem dL_law_1118 : decode cL_law 1118 = .ok (.invokevirtual 124, 3) := qd5_70.2.2.1
theorem dL_law_1121 : decode cL_law 1121 = .ok (.pop, 1) := qd5_70.2.2.2.1
theorem dL_law_1122 : decode cL_law 1122 = .ok (.goto 472, 3) := qd5_70.2.2.2.2.1
theorem dL_law_1125 : decode cL_law 1125 = .ok (.aload_n 1, 1) := qd5_70.2.2.2.2.2.1
theorem dL_law_1126 : decode cL_law 1126 = .ok (.invokevirtual 125, 3) := qd5_70.2.2.2.2.2.2.1
theorem dL_law_1129 : decode cL_law 1129 = .ok (.pop, 1) := qd5_70.2.2.2.2.2.2.2.1
theorem dL_law_1130 : decode cL_law 1130 = .ok (.aload_n 2, 1) := qd5_70.2.2.2.2.2.2.2.2.1
theorem dL_law_1131 : decode cL_law 1131 = .ok (.invokevirtual 128, 3) := qd5_70.2.2.2.2.2.2.2.2.2.1
theorem dL_law_1134 : decode cL_law 1134 = .ok (.pop, 1) := qd5_70.2.2.2.2.2.2.2.2.2.2.1
theorem dL_law_1135 : decode cL_law 1135 = .ok (.goto 459, 3) := qd5_70.2.2.2.2.2.2.2.2.2.2.2
theorem qd5_71 : (decode cL_law 1138 = .ok (.aload_n 1, 1)) ∧ (decode cL_law 1139 = .ok (.aload_n 0, 1)) ∧ (decode cL_law 1140 = .ok (.iload_n 3, 1)) ∧ (decode cL_law 1141 = .ok (.iconst 1, 1)) ∧ (decode cL_law 1142 = .ok (.iadd, 1)) ∧ (decode cL_law 1143 = .ok (.iaload, 1)) ∧ (decode cL_law 1144 = .ok (.invokevirtual 129, 3)) ∧ (decode cL_law 1147 = .ok (.pop, 1)) ∧ (decode cL_law 1148 = .ok (.aload_n 2, 1)) ∧ (decode cL_law 1149 = .ok (.aload_n 0, 1)) ∧ (decode cL_law 1150 = .ok (.iload_n 3, 1)) ∧ (decode cL_law 1151 = .ok (.iconst 1, 1)) := by decide +kernel
theorem dL_law_1138 : decode cL_law 1138 = .ok (.aload_n 1, 1) := qd5_71.1
theorem dL_law_1139 : decode cL_law 1139 = .ok (.aload_n 0, 1) := qd5_71.2.1
theorem dL_law_1140 : decode cL_law 1140 = .ok (.iload_n 3, 1) := qd5_71.2.2.1
theorem dL_law_1141 : decode cL_law 1141 = .ok (.iconst 1, 1) := qd5_71.2.2.2.1
theorem dL_law_1142 : decode cL_law 1142 = .ok (.iadd, 1) := qd5_71.2.2.2.2.1
theorem dL_law_1143 : decode cL_law 1143 = .ok (.iaload, 1) := qd5_71.2.2.2.2.2.1
theorem dL_law_1144 : decode cL_law 1144 = .ok (.invokevirtual 129, 3) := qd5_71.2.2.2.2.2.2.1
theorem dL_law_1147 : decode cL_law 1147 = .ok (.pop, 1) := qd5_71.2.2.2.2.2.2.2.1
theorem dL_law_1148 : decode cL_law 1148 = .ok (.aload_n 2, 1) := qd5_71.2.2.2.2.2.2.2.2.1
theorem dL_law_1149 : decode cL_law 1149 = .ok (.aload_n 0, 1) := qd5_71.2.2.2.2.2.2.2.2.2.1
theorem dL_law_1150 : decode cL_law 1150 = .ok (.iload_n 3, 1) := qd5_71.2.2.2.2.2.2.2.2.2.2.1
theorem dL_law_1151 : decode cL_law 1151 = .ok (.iconst 1, 1) := qd5_71.2.2.2.2.2.2.2.2.2.2.2
theorem qd5_72 : (decode cL_law 1152 = .ok (.iadd, 1)) ∧ (decode cL_law 1153 = .ok (.iaload, 1)) ∧ (decode cL_law 1154 = .ok (.invokevirtual 132, 3)) ∧ (decode cL_law 1157 = .ok (.pop, 1)) ∧ (decode cL_law 1158 = .ok (.goto 436, 3)) ∧ (decode cL_law 1161 = .ok (.aload_n 1, 1)) ∧ (decode cL_law 1162 = .ok (.invokevirtual 133, 3)) ∧ (decode cL_law 1165 = .ok (.pop, 1)) ∧ (decode cL_law 1166 = .ok (.aload_n 2, 1)) ∧ (decode cL_law 1167 = .ok (.invokevirtual 136, 3)) ∧ (decode cL_law 1170 = .ok (.pop, 1)) ∧ (decode cL_law 1171 = .ok (.goto 423, 3)) := by decide +kernel
theorem dL_law_1152 : decode cL_law 1152 = .ok (.iadd, 1) := qd5_72.1
theorem dL_law_1153 : decode cL_law 1153 = .ok (.iaload, 1) := qd5_72.2.1
theorem dL_law_1154 : decode cL_law 1154 = .ok (.invokevirtual 132, 3) := qd5_72.2.2.1
theorem dL_law_1157 : decode cL_law 1157 = .ok (.pop, 1) := qd5_72.2.2.2.1
theorem dL_law_1158 : decode cL_law 1158 = .ok (.goto 436, 3) := qd5_72.2.2.2.2.1
theorem dL_law_1161 : decode cL_law 1161 = .ok (.aload_n 1, 1) := qd5_72.2.2.2.2.2.1
theorem dL_law_1162 : decode cL_law 1162 = .ok (.invokevirtual 133, 3) := qd5_72.2.2.2.2.2.2.1
theorem dL_law_1165 : decode cL_law 1165 = .ok (.pop, 1) := qd5_72.2.2.2.2.2.2.2.1
theorem dL_law_1166 : decode cL_law 1166 = .ok (.aload_n 2, 1) := qd5_72.2.2.2.2.2.2.2.2.1
theorem dL_law_1167 : decode cL_law 1167 = .ok (.invokevirtual 136, 3) := qd5_72.2.2.2.2.2.2.2.2.2.1
theorem dL_law_1170 : decode cL_law 1170 = .ok (.pop, 1) := qd5_72.2.2.2.2.2.2.2.2.2.2.1
theorem dL_law_1171 : decode cL_law 1171 = .ok (.goto 423, 3) := qd5_72.2.2.2.2.2.2.2.2.2.2.2
theorem qd5_73 : (decode cL_law 1174 = .ok (.aload_n 1, 1)) ∧ (decode cL_law 1175 = .ok (.invokevirtual 137, 3)) ∧ (decode cL_law 1178 = .ok (.pop, 1)) ∧ (decode cL_law 1179 = .ok (.aload_n 2, 1)) ∧ (decode cL_law 1180 = .ok (.invokevirtual 140, 3)) ∧ (decode cL_law 1183 = .ok (.pop, 1)) ∧ (decode cL_law 1184 = .ok (.goto 410, 3)) ∧ (decode cL_law 1187 = .ok (.aload_n 1, 1)) ∧ (decode cL_law 1188 = .ok (.invokevirtual 141, 3)) ∧ (decode cL_law 1191 = .ok (.pop, 1)) ∧ (decode cL_law 1192 = .ok (.aload_n 2, 1)) ∧ (decode cL_law 1193 = .ok (.invokevirtual 144, 3)) := by decide +kernel
theorem dL_law_1174 : decode cL_law 1174 = .ok (.aload_n 1, 1) := qd5_73.1
theorem dL_law_1175 : decode cL_law 1175 = .ok (.invokevirtual 137, 3) := qd5_73.2.1
theorem dL_law_1178 : decode cL_law 1178 = .ok (.pop, 1) := qd5_73.2.2.1
theorem dL_law_1179 : decode cL_law 1179 = .ok (.aload_n 2, 1) := qd5_73.2.2.2.1
theorem dL_law_1180 : decode cL_law 1180 = .ok (.invokevirtual 140, 3) := qd5_73.2.2.2.2.1
theorem dL_law_1183 : decode cL_law 1183 = .ok (.pop, 1) := qd5_73.2.2.2.2.2.1
theorem dL_law_1184 : decode cL_law 1184 = .ok (.goto 410, 3) := qd5_73.2.2.2.2.2.2.1
theorem dL_law_1187 : decode cL_law 1187 = .ok (.aload_n 1, 1) := qd5_73.2.2.2.2.2.2.2.1
theorem dL_law_1188 : decode cL_law 1188 = .ok (.invokevirtual 141, 3) := qd5_73.2.2.2.2.2.2.2.2.1
theorem dL_law_1191 : decode cL_law 1191 = .ok (.pop, 1) := qd5_73.2.2.2.2.2.2.2.2.2.1
theorem dL_law_1192 : decode cL_law 1192 = .ok (.aload_n 2, 1) := qd5_73.2.2.2.2.2.2.2.2.2.2.1
theorem dL_law_1193 : decode cL_law 1193 = .ok (.invokevirtual 144, 3) := qd5_73.2.2.2.2.2.2.2.2.2.2.2
theorem qd5_74 : (decode cL_law 1196 = .ok (.pop, 1)) ∧ (decode cL_law 1197 = .ok (.goto 397, 3)) ∧ (decode cL_law 1200 = .ok (.aload_n 1, 1)) ∧ (decode cL_law 1201 = .ok (.aload_n 0, 1)) ∧ (decode cL_law 1202 = .ok (.iload_n 3, 1)) ∧ (decode cL_law 1203 = .ok (.iconst 1, 1)) ∧ (decode cL_law 1204 = .ok (.iadd, 1)) ∧ (decode cL_law 1205 = .ok (.iaload, 1)) ∧ (decode cL_law 1206 = .ok (.invokevirtual 145, 3)) ∧ (decode cL_law 1209 = .ok (.pop, 1)) ∧ (decode cL_law 1210 = .ok (.aload_n 2, 1)) ∧ (decode cL_law 1211 = .ok (.aload_n 0, 1)) := by decide +kernel
theorem dL_law_1196 : decode cL_law 1196 = .ok (.pop, 1) := qd5_74.1
theorem dL_law_1197 : decode cL_law 1197 = .ok (.goto 397, 3) := qd5_74.2.1
theorem dL_law_1200 : decode cL_law 1200 = .ok (.aload_n 1, 1) := qd5_74.2.2.1
theorem dL_law_1201 : decode cL_law 1201 = .ok (.aload_n 0, 1) := qd5_74.2.2.2.1
theorem dL_law_1202 : decode cL_law 1202 = .ok (.iload_n 3, 1) := qd5_74.2.2.2.2.1
theorem dL_law_1203 : decode cL_law 1203 = .ok (.iconst 1, 1) := qd5_74.2.2.2.2.2.1
theorem dL_law_1204 : decode cL_law 1204 = .ok (.iadd, 1) := qd5_74.2.2.2.2.2.2.1
theorem dL_law_1205 : decode cL_law 1205 = .ok (.iaload, 1) := qd5_74.2.2.2.2.2.2.2.1
theorem dL_law_1206 : decode cL_law 1206 = .ok (.invokevirtual 145, 3) := qd5_74.2.2.2.2.2.2.2.2.1
theorem dL_law_1209 : decode cL_law 1209 = .ok (.pop, 1) := qd5_74.2.2.2.2.2.2.2.2.2.1
theorem dL_law_1210 : decode cL_law 1210 = .ok (.aload_n 2, 1) := qd5_74.2.2.2.2.2.2.2.2.2.2.1
theorem dL_law_1211 : decode cL_law 1211 = .ok (.aload_n 0, 1) := qd5_74.2.2.2.2.2.2.2.2.2.2.2
theorem qd5_75 : (decode cL_law 1212 = .ok (.iload_n 3, 1)) ∧ (decode cL_law 1213 = .ok (.iconst 1, 1)) ∧ (decode cL_law 1214 = .ok (.iadd, 1)) ∧ (decode cL_law 1215 = .ok (.iaload, 1)) ∧ (decode cL_law 1216 = .ok (.invokevirtual 148, 3)) ∧ (decode cL_law 1219 = .ok (.pop, 1)) ∧ (decode cL_law 1220 = .ok (.goto 374, 3)) ∧ (decode cL_law 1223 = .ok (.aload_n 1, 1)) ∧ (decode cL_law 1224 = .ok (.invokevirtual 149, 3)) ∧ (decode cL_law 1227 = .ok (.pop, 1)) ∧ (decode cL_law 1228 = .ok (.aload_n 2, 1)) ∧ (decode cL_law 1229 = .ok (.invokevirtual 152, 3)) := by decide +kernel
theorem dL_law_1212 : decode cL_law 1212 = .ok (.iload_n 3, 1) := qd5_75.1
theorem dL_law_1213 : decode cL_law 1213 = .ok (.iconst 1, 1) := qd5_75.2.1
theorem dL_law_1214 : decode cL_law 1214 = .ok (.iadd, 1) := qd5_75.2.2.1
theorem dL_law_1215 : decode cL_law 1215 = .ok (.iaload, 1) := qd5_75.2.2.2.1
theorem dL_law_1216 : decode cL_law 1216 = .ok (.invokevirtual 148, 3) := qd5_75.2.2.2.2.1
theorem dL_law_1219 : decode cL_law 1219 = .ok (.pop, 1) := qd5_75.2.2.2.2.2.1
theorem dL_law_1220 : decode cL_law 1220 = .ok (.goto 374, 3) := qd5_75.2.2.2.2.2.2.1
theorem dL_law_1223 : decode cL_law 1223 = .ok (.aload_n 1, 1) := qd5_75.2.2.2.2.2.2.2.1
theorem dL_law_1224 : decode cL_law 1224 = .ok (.invokevirtual 149, 3) := qd5_75.2.2.2.2.2.2.2.2.1
theorem dL_law_1227 : decode cL_law 1227 = .ok (.pop, 1) := qd5_75.2.2.2.2.2.2.2.2.2.1
theorem dL_law_1228 : decode cL_law 1228 = .ok (.aload_n 2, 1) := qd5_75.2.2.2.2.2.2.2.2.2.2.1
theorem dL_law_1229 : decode cL_law 1229 = .ok (.invokevirtual 152, 3) := qd5_75.2.2.2.2.2.2.2.2.2.2.2
theorem qd5_76 : (decode cL_law 1232 = .ok (.pop, 1)) ∧ (decode cL_law 1233 = .ok (.goto 361, 3)) ∧ (decode cL_law 1236 = .ok (.aload_n 1, 1)) ∧ (decode cL_law 1237 = .ok (.aload_n 0, 1)) ∧ (decode cL_law 1238 = .ok (.iload_n 3, 1)) ∧ (decode cL_law 1239 = .ok (.iconst 1, 1)) ∧ (decode cL_law 1240 = .ok (.iadd, 1)) ∧ (decode cL_law 1241 = .ok (.iaload, 1)) ∧ (decode cL_law 1242 = .ok (.aload_n 0, 1)) ∧ (decode cL_law 1243 = .ok (.iload_n 3, 1)) ∧ (decode cL_law 1244 = .ok (.iconst 2, 1)) ∧ (decode cL_law 1245 = .ok (.iadd, 1)) := by decide +kernel
theorem dL_law_1232 : decode cL_law 1232 = .ok (.pop, 1) := qd5_76.1
theorem dL_law_1233 : decode cL_law 1233 = .ok (.goto 361, 3) := qd5_76.2.1
theorem dL_law_1236 : decode cL_law 1236 = .ok (.aload_n 1, 1) := qd5_76.2.2.1
theorem dL_law_1237 : decode cL_law 1237 = .ok (.aload_n 0, 1) := qd5_76.2.2.2.1
theorem dL_law_1238 : decode cL_law 1238 = .ok (.iload_n 3, 1) := qd5_76.2.2.2.2.1
theorem dL_law_1239 : decode cL_law 1239 = .ok (.iconst 1, 1) := qd5_76.2.2.2.2.2.1
theorem dL_law_1240 : decode cL_law 1240 = .ok (.iadd, 1) := qd5_76.2.2.2.2.2.2.1
theorem dL_law_1241 : decode cL_law 1241 = .ok (.iaload, 1) := qd5_76.2.2.2.2.2.2.2.1
theorem dL_law_1242 : decode cL_law 1242 = .ok (.aload_n 0, 1) := qd5_76.2.2.2.2.2.2.2.2.1
theorem dL_law_1243 : decode cL_law 1243 = .ok (.iload_n 3, 1) := qd5_76.2.2.2.2.2.2.2.2.2.1
theorem dL_law_1244 : decode cL_law 1244 = .ok (.iconst 2, 1) := qd5_76.2.2.2.2.2.2.2.2.2.2.1
theorem dL_law_1245 : decode cL_law 1245 = .ok (.iadd, 1) := qd5_76.2.2.2.2.2.2.2.2.2.2.2
theorem qd5_77 : (decode cL_law 1246 = .ok (.iaload, 1)) ∧ (decode cL_law 1247 = .ok (.invokevirtual 153, 3)) ∧ (decode cL_law 1250 = .ok (.pop, 1)) ∧ (decode cL_law 1251 = .ok (.aload_n 2, 1)) ∧ (decode cL_law 1252 = .ok (.aload_n 0, 1)) ∧ (decode cL_law 1253 = .ok (.iload_n 3, 1)) ∧ (decode cL_law 1254 = .ok (.iconst 1, 1)) ∧ (decode cL_law 1255 = .ok (.iadd, 1)) ∧ (decode cL_law 1256 = .ok (.iaload, 1)) ∧ (decode cL_law 1257 = .ok (.aload_n 0, 1)) ∧ (decode cL_law 1258 = .ok (.iload_n 3, 1)) ∧ (decode cL_law 1259 = .ok (.iconst 2, 1)) := by decide +kernel
theorem dL_law_1246 : decode cL_law 1246 = .ok (.iaload, 1) := qd5_77.1
theorem dL_law_1247 : decode cL_law 1247 = .ok (.invokevirtual 153, 3) := qd5_77.2.1
theorem dL_law_1250 : decode cL_law 1250 = .ok (.pop, 1) := qd5_77.2.2.1
theorem dL_law_1251 : decode cL_law 1251 = .ok (.aload_n 2, 1) := qd5_77.2.2.2.1
theorem dL_law_1252 : decode cL_law 1252 = .ok (.aload_n 0, 1) := qd5_77.2.2.2.2.1
theorem dL_law_1253 : decode cL_law 1253 = .ok (.iload_n 3, 1) := qd5_77.2.2.2.2.2.1
theorem dL_law_1254 : decode cL_law 1254 = .ok (.iconst 1, 1) := qd5_77.2.2.2.2.2.2.1
theorem dL_law_1255 : decode cL_law 1255 = .ok (.iadd, 1) := qd5_77.2.2.2.2.2.2.2.1
theorem dL_law_1256 : decode cL_law 1256 = .ok (.iaload, 1) := qd5_77.2.2.2.2.2.2.2.2.1
theorem dL_law_1257 : decode cL_law 1257 = .ok (.aload_n 0, 1) := qd5_77.2.2.2.2.2.2.2.2.2.1
theorem dL_law_1258 : decode cL_law 1258 = .ok (.iload_n 3, 1) := qd5_77.2.2.2.2.2.2.2.2.2.2.1
theorem dL_law_1259 : decode cL_law 1259 = .ok (.iconst 2, 1) := qd5_77.2.2.2.2.2.2.2.2.2.2.2
theorem qd5_78 : (decode cL_law 1260 = .ok (.iadd, 1)) ∧ (decode cL_law 1261 = .ok (.iaload, 1)) ∧ (decode cL_law 1262 = .ok (.invokevirtual 156, 3)) ∧ (decode cL_law 1265 = .ok (.pop, 1)) ∧ (decode cL_law 1266 = .ok (.goto 328, 3)) ∧ (decode cL_law 1269 = .ok (.aload_n 1, 1)) ∧ (decode cL_law 1270 = .ok (.aload_n 0, 1)) ∧ (decode cL_law 1271 = .ok (.iload_n 3, 1)) ∧ (decode cL_law 1272 = .ok (.iconst 1, 1)) ∧ (decode cL_law 1273 = .ok (.iadd, 1)) ∧ (decode cL_law 1274 = .ok (.iaload, 1)) ∧ (decode cL_law 1275 = .ok (.invokevirtual 157, 3)) := by decide +kernel
theorem dL_law_1260 : decode cL_law 1260 = .ok (.iadd, 1) := qd5_78.1
theorem dL_law_1261 : decode cL_law 1261 = .ok (.iaload, 1) := qd5_78.2.1
theorem dL_law_1262 : decode cL_law 1262 = .ok (.invokevirtual 156, 3) := qd5_78.2.2.1
theorem dL_law_1265 : decode cL_law 1265 = .ok (.pop, 1) := qd5_78.2.2.2.1
theorem dL_law_1266 : decode cL_law 1266 = .ok (.goto 328, 3) := qd5_78.2.2.2.2.1
theorem dL_law_1269 : decode cL_law 1269 = .ok (.aload_n 1, 1) := qd5_78.2.2.2.2.2.1
theorem dL_law_1270 : decode cL_law 1270 = .ok (.aload_n 0, 1) := qd5_78.2.2.2.2.2.2.1
theorem dL_law_1271 : decode cL_law 1271 = .ok (.iload_n 3, 1) := qd5_78.2.2.2.2.2.2.2.1
theorem dL_law_1272 : decode cL_law 1272 = .ok (.iconst 1, 1) := qd5_78.2.2.2.2.2.2.2.2.1
theorem dL_law_1273 : decode cL_law 1273 = .ok (.iadd, 1) := qd5_78.2.2.2.2.2.2.2.2.2.1
theorem dL_law_1274 : decode cL_law 1274 = .ok (.iaload, 1) := qd5_78.2.2.2.2.2.2.2.2.2.2.1
theorem dL_law_1275 : decode cL_law 1275 = .ok (.invokevirtual 157, 3) := qd5_78.2.2.2.2.2.2.2.2.2.2.2
theorem qd5_79 : (decode cL_law 1278 = .ok (.pop, 1)) ∧ (decode cL_law 1279 = .ok (.aload_n 2, 1)) ∧ (decode cL_law 1280 = .ok (.aload_n 0, 1)) ∧ (decode cL_law 1281 = .ok (.iload_n 3, 1)) ∧ (decode cL_law 1282 = .ok (.iconst 1, 1)) ∧ (decode cL_law 1283 = .ok (.iadd, 1)) ∧ (decode cL_law 1284 = .ok (.iaload, 1)) ∧ (decode cL_law 1285 = .ok (.invokevirtual 160, 3)) ∧ (decode cL_law 1288 = .ok (.pop, 1)) ∧ (decode cL_law 1289 = .ok (.goto 305, 3)) ∧ (decode cL_law 1292 = .ok (.aload_n 1, 1)) ∧ (decode cL_law 1293 = .ok (.aload_n 0, 1)) := by decide +kernel
theorem dL_law_1278 : decode cL_law 1278 = .ok (.pop, 1) := qd5_79.1
theorem dL_law_1279 : decode cL_law 1279 = .ok (.aload_n 2, 1) := qd5_79.2.1
theorem dL_law_1280 : decode cL_law 1280 = .ok (.aload_n 0, 1) := qd5_79.2.2.1
theorem dL_law_1281 : decode cL_law 1281 = .ok (.iload_n 3, 1) := qd5_79.2.2.2.1
theorem dL_law_1282 : decode cL_law 1282 = .ok (.iconst 1, 1) := qd5_79.2.2.2.2.1
theorem dL_law_1283 : decode cL_law 1283 = .ok (.iadd, 1) := qd5_79.2.2.2.2.2.1
theorem dL_law_1284 : decode cL_law 1284 = .ok (.iaload, 1) := qd5_79.2.2.2.2.2.2.1
theorem dL_law_1285 : decode cL_law 1285 = .ok (.invokevirtual 160, 3) := qd5_79.2.2.2.2.2.2.2.1
theorem dL_law_1288 : decode cL_law 1288 = .ok (.pop, 1) := qd5_79.2.2.2.2.2.2.2.2.1
theorem dL_law_1289 : decode cL_law 1289 = .ok (.goto 305, 3) := qd5_79.2.2.2.2.2.2.2.2.2.1
theorem dL_law_1292 : decode cL_law 1292 = .ok (.aload_n 1, 1) := qd5_79.2.2.2.2.2.2.2.2.2.2.1
theorem dL_law_1293 : decode cL_law 1293 = .ok (.aload_n 0, 1) := qd5_79.2.2.2.2.2.2.2.2.2.2.2
theorem qd5_80 : (decode cL_law 1294 = .ok (.iload_n 3, 1)) ∧ (decode cL_law 1295 = .ok (.iconst 1, 1)) ∧ (decode cL_law 1296 = .ok (.iadd, 1)) ∧ (decode cL_law 1297 = .ok (.iaload, 1)) ∧ (decode cL_law 1298 = .ok (.invokevirtual 161, 3)) ∧ (decode cL_law 1301 = .ok (.pop, 1)) ∧ (decode cL_law 1302 = .ok (.aload_n 2, 1)) ∧ (decode cL_law 1303 = .ok (.aload_n 0, 1)) ∧ (decode cL_law 1304 = .ok (.iload_n 3, 1)) ∧ (decode cL_law 1305 = .ok (.iconst 1, 1)) ∧ (decode cL_law 1306 = .ok (.iadd, 1)) ∧ (decode cL_law 1307 = .ok (.iaload, 1)) := by decide +kernel
theorem dL_law_1294 : decode cL_law 1294 = .ok (.iload_n 3, 1) := qd5_80.1
theorem dL_law_1295 : decode cL_law 1295 = .ok (.iconst 1, 1) := qd5_80.2.1
theorem dL_law_1296 : decode cL_law 1296 = .ok (.iadd, 1) := qd5_80.2.2.1
theorem dL_law_1297 : decode cL_law 1297 = .ok (.iaload, 1) := qd5_80.2.2.2.1
theorem dL_law_1298 : decode cL_law 1298 = .ok (.invokevirtual 161, 3) := qd5_80.2.2.2.2.1
theorem dL_law_1301 : decode cL_law 1301 = .ok (.pop, 1) := qd5_80.2.2.2.2.2.1
theorem dL_law_1302 : decode cL_law 1302 = .ok (.aload_n 2, 1) := qd5_80.2.2.2.2.2.2.1
theorem dL_law_1303 : decode cL_law 1303 = .ok (.aload_n 0, 1) := qd5_80.2.2.2.2.2.2.2.1
theorem dL_law_1304 : decode cL_law 1304 = .ok (.iload_n 3, 1) := qd5_80.2.2.2.2.2.2.2.2.1
theorem dL_law_1305 : decode cL_law 1305 = .ok (.iconst 1, 1) := qd5_80.2.2.2.2.2.2.2.2.2.1
theorem dL_law_1306 : decode cL_law 1306 = .ok (.iadd, 1) := qd5_80.2.2.2.2.2.2.2.2.2.2.1
theorem dL_law_1307 : decode cL_law 1307 = .ok (.iaload, 1) := qd5_80.2.2.2.2.2.2.2.2.2.2.2
theorem qd5_81 : (decode cL_law 1308 = .ok (.invokevirtual 164, 3)) ∧ (decode cL_law 1311 = .ok (.pop, 1)) ∧ (decode cL_law 1312 = .ok (.goto 282, 3)) ∧ (decode cL_law 1315 = .ok (.aload_n 1, 1)) ∧ (decode cL_law 1316 = .ok (.aload_n 0, 1)) ∧ (decode cL_law 1317 = .ok (.iload_n 3, 1)) ∧ (decode cL_law 1318 = .ok (.iconst 1, 1)) ∧ (decode cL_law 1319 = .ok (.iadd, 1)) ∧ (decode cL_law 1320 = .ok (.iaload, 1)) ∧ (decode cL_law 1321 = .ok (.aload_n 0, 1)) ∧ (decode cL_law 1322 = .ok (.iload_n 3, 1)) ∧ (decode cL_law 1323 = .ok (.iconst 2, 1)) := by decide +kernel
theorem dL_law_1308 : decode cL_law 1308 = .ok (.invokevirtual 164, 3) := qd5_81.1
theorem dL_law_1311 : decode cL_law 1311 = .ok (.pop, 1) := qd5_81.2.1
theorem dL_law_1312 : decode cL_law 1312 = .ok (.goto 282, 3) := qd5_81.2.2.1
theorem dL_law_1315 : decode cL_law 1315 = .ok (.aload_n 1, 1) := qd5_81.2.2.2.1
theorem dL_law_1316 : decode cL_law 1316 = .ok (.aload_n 0, 1) := qd5_81.2.2.2.2.1
theorem dL_law_1317 : decode cL_law 1317 = .ok (.iload_n 3, 1) := qd5_81.2.2.2.2.2.1
theorem dL_law_1318 : decode cL_law 1318 = .ok (.iconst 1, 1) := qd5_81.2.2.2.2.2.2.1
theorem dL_law_1319 : decode cL_law 1319 = .ok (.iadd, 1) := qd5_81.2.2.2.2.2.2.2.1
theorem dL_law_1320 : decode cL_law 1320 = .ok (.iaload, 1) := qd5_81.2.2.2.2.2.2.2.2.1
theorem dL_law_1321 : decode cL_law 1321 = .ok (.aload_n 0, 1) := qd5_81.2.2.2.2.2.2.2.2.2.1
theorem dL_law_1322 : decode cL_law 1322 = .ok (.iload_n 3, 1) := qd5_81.2.2.2.2.2.2.2.2.2.2.1
theorem dL_law_1323 : decode cL_law 1323 = .ok (.iconst 2, 1) := qd5_81.2.2.2.2.2.2.2.2.2.2.2
theorem qd5_82 : (decode cL_law 1324 = .ok (.iadd, 1)) ∧ (decode cL_law 1325 = .ok (.iaload, 1)) ∧ (decode cL_law 1326 = .ok (.invokevirtual 165, 3)) ∧ (decode cL_law 1329 = .ok (.pop, 1)) ∧ (decode cL_law 1330 = .ok (.aload_n 2, 1)) ∧ (decode cL_law 1331 = .ok (.aload_n 0, 1)) ∧ (decode cL_law 1332 = .ok (.iload_n 3, 1)) ∧ (decode cL_law 1333 = .ok (.iconst 1, 1)) ∧ (decode cL_law 1334 = .ok (.iadd, 1)) ∧ (decode cL_law 1335 = .ok (.iaload, 1)) ∧ (decode cL_law 1336 = .ok (.aload_n 0, 1)) ∧ (decode cL_law 1337 = .ok (.iload_n 3, 1)) := by decide +kernel
theorem dL_law_1324 : decode cL_law 1324 = .ok (.iadd, 1) := qd5_82.1
theorem dL_law_1325 : decode cL_law 1325 = .ok (.iaload, 1) := qd5_82.2.1
theorem dL_law_1326 : decode cL_law 1326 = .ok (.invokevirtual 165, 3) := qd5_82.2.2.1
theorem dL_law_1329 : decode cL_law 1329 = .ok (.pop, 1) := qd5_82.2.2.2.1
theorem dL_law_1330 : decode cL_law 1330 = .ok (.aload_n 2, 1) := qd5_82.2.2.2.2.1
theorem dL_law_1331 : decode cL_law 1331 = .ok (.aload_n 0, 1) := qd5_82.2.2.2.2.2.1
theorem dL_law_1332 : decode cL_law 1332 = .ok (.iload_n 3, 1) := qd5_82.2.2.2.2.2.2.1
theorem dL_law_1333 : decode cL_law 1333 = .ok (.iconst 1, 1) := qd5_82.2.2.2.2.2.2.2.1
theorem dL_law_1334 : decode cL_law 1334 = .ok (.iadd, 1) := qd5_82.2.2.2.2.2.2.2.2.1
theorem dL_law_1335 : decode cL_law 1335 = .ok (.iaload, 1) := qd5_82.2.2.2.2.2.2.2.2.2.1
theorem dL_law_1336 : decode cL_law 1336 = .ok (.aload_n 0, 1) := qd5_82.2.2.2.2.2.2.2.2.2.2.1
theorem dL_law_1337 : decode cL_law 1337 = .ok (.iload_n 3, 1) := qd5_82.2.2.2.2.2.2.2.2.2.2.2
theorem qd5_83 : (decode cL_law 1338 = .ok (.iconst 2, 1)) ∧ (decode cL_law 1339 = .ok (.iadd, 1)) ∧ (decode cL_law 1340 = .ok (.iaload, 1)) ∧ (decode cL_law 1341 = .ok (.invokevirtual 168, 3)) ∧ (decode cL_law 1344 = .ok (.pop, 1)) ∧ (decode cL_law 1345 = .ok (.goto 249, 3)) ∧ (decode cL_law 1348 = .ok (.aload_n 1, 1)) ∧ (decode cL_law 1349 = .ok (.aload_n 0, 1)) ∧ (decode cL_law 1350 = .ok (.iload_n 3, 1)) ∧ (decode cL_law 1351 = .ok (.iconst 1, 1)) ∧ (decode cL_law 1352 = .ok (.iadd, 1)) ∧ (decode cL_law 1353 = .ok (.iaload, 1)) := by decide +kernel
theorem dL_law_1338 : decode cL_law 1338 = .ok (.iconst 2, 1) := qd5_83.1
theorem dL_law_1339 : decode cL_law 1339 = .ok (.iadd, 1) := qd5_83.2.1
theorem dL_law_1340 : decode cL_law 1340 = .ok (.iaload, 1) := qd5_83.2.2.1
theorem dL_law_1341 : decode cL_law 1341 = .ok (.invokevirtual 168, 3) := qd5_83.2.2.2.1
theorem dL_law_1344 : decode cL_law 1344 = .ok (.pop, 1) := qd5_83.2.2.2.2.1
theorem dL_law_1345 : decode cL_law 1345 = .ok (.goto 249, 3) := qd5_83.2.2.2.2.2.1
theorem dL_law_1348 : decode cL_law 1348 = .ok (.aload_n 1, 1) := qd5_83.2.2.2.2.2.2.1
theorem dL_law_1349 : decode cL_law 1349 = .ok (.aload_n 0, 1) := qd5_83.2.2.2.2.2.2.2.1
theorem dL_law_1350 : decode cL_law 1350 = .ok (.iload_n 3, 1) := qd5_83.2.2.2.2.2.2.2.2.1
theorem dL_law_1351 : decode cL_law 1351 = .ok (.iconst 1, 1) := qd5_83.2.2.2.2.2.2.2.2.2.1
theorem dL_law_1352 : decode cL_law 1352 = .ok (.iadd, 1) := qd5_83.2.2.2.2.2.2.2.2.2.2.1
theorem dL_law_1353 : decode cL_law 1353 = .ok (.iaload, 1) := qd5_83.2.2.2.2.2.2.2.2.2.2.2
theorem qd5_84 : (decode cL_law 1354 = .ok (.invokevirtual 169, 3)) ∧ (decode cL_law 1357 = .ok (.pop, 1)) ∧ (decode cL_law 1358 = .ok (.aload_n 2, 1)) ∧ (decode cL_law 1359 = .ok (.aload_n 0, 1)) ∧ (decode cL_law 1360 = .ok (.iload_n 3, 1)) ∧ (decode cL_law 1361 = .ok (.iconst 1, 1)) ∧ (decode cL_law 1362 = .ok (.iadd, 1)) ∧ (decode cL_law 1363 = .ok (.iaload, 1)) ∧ (decode cL_law 1364 = .ok (.invokevirtual 172, 3)) ∧ (decode cL_law 1367 = .ok (.pop, 1)) ∧ (decode cL_law 1368 = .ok (.goto 226, 3)) ∧ (decode cL_law 1371 = .ok (.aload_n 1, 1)) := by decide +kernel
theorem dL_law_1354 : decode cL_law 1354 = .ok (.invokevirtual 169, 3) := qd5_84.1
theorem dL_law_1357 : decode cL_law 1357 = .ok (.pop, 1) := qd5_84.2.1
theorem dL_law_1358 : decode cL_law 1358 = .ok (.aload_n 2, 1) := qd5_84.2.2.1
theorem dL_law_1359 : decode cL_law 1359 = .ok (.aload_n 0, 1) := qd5_84.2.2.2.1
theorem dL_law_1360 : decode cL_law 1360 = .ok (.iload_n 3, 1) := qd5_84.2.2.2.2.1
theorem dL_law_1361 : decode cL_law 1361 = .ok (.iconst 1, 1) := qd5_84.2.2.2.2.2.1
theorem dL_law_1362 : decode cL_law 1362 = .ok (.iadd, 1) := qd5_84.2.2.2.2.2.2.1
theorem dL_law_1363 : decode cL_law 1363 = .ok (.iaload, 1) := qd5_84.2.2.2.2.2.2.2.1
theorem dL_law_1364 : decode cL_law 1364 = .ok (.invokevirtual 172, 3) := qd5_84.2.2.2.2.2.2.2.2.1
theorem dL_law_1367 : decode cL_law 1367 = .ok (.pop, 1) := qd5_84.2.2.2.2.2.2.2.2.2.1
theorem dL_law_1368 : decode cL_law 1368 = .ok (.goto 226, 3) := qd5_84.2.2.2.2.2.2.2.2.2.2.1
theorem dL_law_1371 : decode cL_law 1371 = .ok (.aload_n 1, 1) := qd5_84.2.2.2.2.2.2.2.2.2.2.2
theorem qd5_85 : (decode cL_law 1372 = .ok (.aload_n 0, 1)) ∧ (decode cL_law 1373 = .ok (.iload_n 3, 1)) ∧ (decode cL_law 1374 = .ok (.iconst 1, 1)) ∧ (decode cL_law 1375 = .ok (.iadd, 1)) ∧ (decode cL_law 1376 = .ok (.iaload, 1)) ∧ (decode cL_law 1377 = .ok (.aload_n 0, 1)) ∧ (decode cL_law 1378 = .ok (.iload_n 3, 1)) ∧ (decode cL_law 1379 = .ok (.iconst 2, 1)) ∧ (decode cL_law 1380 = .ok (.iadd, 1)) ∧ (decode cL_law 1381 = .ok (.iaload, 1)) ∧ (decode cL_law 1382 = .ok (.ifCond .eq 7, 3)) ∧ (decode cL_law 1385 = .ok (.iconst 1, 1)) := by decide +kernel
theorem dL_law_1372 : decode cL_law 1372 = .ok (.aload_n 0, 1) := qd5_85.1
theorem dL_law_1373 : decode cL_law 1373 = .ok (.iload_n 3, 1) := qd5_85.2.1
theorem dL_law_1374 : decode cL_law 1374 = .ok (.iconst 1, 1) := qd5_85.2.2.1
theorem dL_law_1375 : decode cL_law 1375 = .ok (.iadd, 1) := qd5_85.2.2.2.1
theorem dL_law_1376 : decode cL_law 1376 = .ok (.iaload, 1) := qd5_85.2.2.2.2.1
theorem dL_law_1377 : decode cL_law 1377 = .ok (.aload_n 0, 1) := qd5_85.2.2.2.2.2.1
theorem dL_law_1378 : decode cL_law 1378 = .ok (.iload_n 3, 1) := qd5_85.2.2.2.2.2.2.1
theorem dL_law_1379 : decode cL_law 1379 = .ok (.iconst 2, 1) := qd5_85.2.2.2.2.2.2.2.1
theorem dL_law_1380 : decode cL_law 1380 = .ok (.iadd, 1) := qd5_85.2.2.2.2.2.2.2.2.1
theorem dL_law_1381 : decode cL_law 1381 = .ok (.iaload, 1) := qd5_85.2.2.2.2.2.2.2.2.2.1
theorem dL_law_1382 : decode cL_law 1382 = .ok (.ifCond .eq 7, 3) := qd5_85.2.2.2.2.2.2.2.2.2.2.1
theorem dL_law_1385 : decode cL_law 1385 = .ok (.iconst 1, 1) := qd5_85.2.2.2.2.2.2.2.2.2.2.2
theorem qd5_86 : (decode cL_law 1386 = .ok (.goto 4, 3)) ∧ (decode cL_law 1389 = .ok (.iconst 0, 1)) ∧ (decode cL_law 1390 = .ok (.invokevirtual 173, 3)) ∧ (decode cL_law 1393 = .ok (.pop, 1)) ∧ (decode cL_law 1394 = .ok (.aload_n 2, 1)) ∧ (decode cL_law 1395 = .ok (.aload_n 0, 1)) ∧ (decode cL_law 1396 = .ok (.iload_n 3, 1)) ∧ (decode cL_law 1397 = .ok (.iconst 1, 1)) ∧ (decode cL_law 1398 = .ok (.iadd, 1)) ∧ (decode cL_law 1399 = .ok (.iaload, 1)) ∧ (decode cL_law 1400 = .ok (.aload_n 0, 1)) ∧ (decode cL_law 1401 = .ok (.iload_n 3, 1)) := by decide +kernel
theorem dL_law_1386 : decode cL_law 1386 = .ok (.goto 4, 3) := qd5_86.1
theorem dL_law_1389 : decode cL_law 1389 = .ok (.iconst 0, 1) := qd5_86.2.1
theorem dL_law_1390 : decode cL_law 1390 = .ok (.invokevirtual 173, 3) := qd5_86.2.2.1
theorem dL_law_1393 : decode cL_law 1393 = .ok (.pop, 1) := qd5_86.2.2.2.1
theorem dL_law_1394 : decode cL_law 1394 = .ok (.aload_n 2, 1) := qd5_86.2.2.2.2.1
theorem dL_law_1395 : decode cL_law 1395 = .ok (.aload_n 0, 1) := qd5_86.2.2.2.2.2.1
theorem dL_law_1396 : decode cL_law 1396 = .ok (.iload_n 3, 1) := qd5_86.2.2.2.2.2.2.1
theorem dL_law_1397 : decode cL_law 1397 = .ok (.iconst 1, 1) := qd5_86.2.2.2.2.2.2.2.1
theorem dL_law_1398 : decode cL_law 1398 = .ok (.iadd, 1) := qd5_86.2.2.2.2.2.2.2.2.1
theorem dL_law_1399 : decode cL_law 1399 = .ok (.iaload, 1) := qd5_86.2.2.2.2.2.2.2.2.2.1
theorem dL_law_1400 : decode cL_law 1400 = .ok (.aload_n 0, 1) := qd5_86.2.2.2.2.2.2.2.2.2.2.1
theorem dL_law_1401 : decode cL_law 1401 = .ok (.iload_n 3, 1) := qd5_86.2.2.2.2.2.2.2.2.2.2.2
theorem qd5_87 : (decode cL_law 1402 = .ok (.iconst 2, 1)) ∧ (decode cL_law 1403 = .ok (.iadd, 1)) ∧ (decode cL_law 1404 = .ok (.iaload, 1)) ∧ (decode cL_law 1405 = .ok (.ifCond .eq 7, 3)) ∧ (decode cL_law 1408 = .ok (.iconst 1, 1)) ∧ (decode cL_law 1409 = .ok (.goto 4, 3)) ∧ (decode cL_law 1412 = .ok (.iconst 0, 1)) ∧ (decode cL_law 1413 = .ok (.invokevirtual 176, 3)) ∧ (decode cL_law 1416 = .ok (.pop, 1)) ∧ (decode cL_law 1417 = .ok (.goto 177, 3)) ∧ (decode cL_law 1420 = .ok (.aload_n 1, 1)) ∧ (decode cL_law 1421 = .ok (.invokevirtual 177, 3)) := by decide +kernel
theorem dL_law_1402 : decode cL_law 1402 = .ok (.iconst 2, 1) := qd5_87.1
theorem dL_law_1403 : decode cL_law 1403 = .ok (.iadd, 1) := qd5_87.2.1
theorem dL_law_1404 : decode cL_law 1404 = .ok (.iaload, 1) := qd5_87.2.2.1
theorem dL_law_1405 : decode cL_law 1405 = .ok (.ifCond .eq 7, 3) := qd5_87.2.2.2.1
theorem dL_law_1408 : decode cL_law 1408 = .ok (.iconst 1, 1) := qd5_87.2.2.2.2.1
theorem dL_law_1409 : decode cL_law 1409 = .ok (.goto 4, 3) := qd5_87.2.2.2.2.2.1
theorem dL_law_1412 : decode cL_law 1412 = .ok (.iconst 0, 1) := qd5_87.2.2.2.2.2.2.1
theorem dL_law_1413 : decode cL_law 1413 = .ok (.invokevirtual 176, 3) := qd5_87.2.2.2.2.2.2.2.1
theorem dL_law_1416 : decode cL_law 1416 = .ok (.pop, 1) := qd5_87.2.2.2.2.2.2.2.2.1
theorem dL_law_1417 : decode cL_law 1417 = .ok (.goto 177, 3) := qd5_87.2.2.2.2.2.2.2.2.2.1
theorem dL_law_1420 : decode cL_law 1420 = .ok (.aload_n 1, 1) := qd5_87.2.2.2.2.2.2.2.2.2.2.1
theorem dL_law_1421 : decode cL_law 1421 = .ok (.invokevirtual 177, 3) := qd5_87.2.2.2.2.2.2.2.2.2.2.2
theorem qd5_88 : (decode cL_law 1424 = .ok (.pop, 1)) ∧ (decode cL_law 1425 = .ok (.aload_n 2, 1)) ∧ (decode cL_law 1426 = .ok (.invokevirtual 180, 3)) ∧ (decode cL_law 1429 = .ok (.pop, 1)) ∧ (decode cL_law 1430 = .ok (.goto 164, 3)) ∧ (decode cL_law 1433 = .ok (.aload_n 1, 1)) ∧ (decode cL_law 1434 = .ok (.aload_n 0, 1)) ∧ (decode cL_law 1435 = .ok (.iload_n 3, 1)) ∧ (decode cL_law 1436 = .ok (.iconst 1, 1)) ∧ (decode cL_law 1437 = .ok (.iadd, 1)) ∧ (decode cL_law 1438 = .ok (.iaload, 1)) ∧ (decode cL_law 1439 = .ok (.aload_n 0, 1)) := by decide +kernel
theorem dL_law_1424 : decode cL_law 1424 = .ok (.pop, 1) := qd5_88.1
theorem dL_law_1425 : decode cL_law 1425 = .ok (.aload_n 2, 1) := qd5_88.2.1
theorem dL_law_1426 : decode cL_law 1426 = .ok (.invokevirtual 180, 3) := qd5_88.2.2.1
theorem dL_law_1429 : decode cL_law 1429 = .ok (.pop, 1) := qd5_88.2.2.2.1
theorem dL_law_1430 : decode cL_law 1430 = .ok (.goto 164, 3) := qd5_88.2.2.2.2.1
theorem dL_law_1433 : decode cL_law 1433 = .ok (.aload_n 1, 1) := qd5_88.2.2.2.2.2.1
theorem dL_law_1434 : decode cL_law 1434 = .ok (.aload_n 0, 1) := qd5_88.2.2.2.2.2.2.1
theorem dL_law_1435 : decode cL_law 1435 = .ok (.iload_n 3, 1) := qd5_88.2.2.2.2.2.2.2.1
theorem dL_law_1436 : decode cL_law 1436 = .ok (.iconst 1, 1) := qd5_88.2.2.2.2.2.2.2.2.1
theorem dL_law_1437 : decode cL_law 1437 = .ok (.iadd, 1) := qd5_88.2.2.2.2.2.2.2.2.2.1
theorem dL_law_1438 : decode cL_law 1438 = .ok (.iaload, 1) := qd5_88.2.2.2.2.2.2.2.2.2.2.1
theorem dL_law_1439 : decode cL_law 1439 = .ok (.aload_n 0, 1) := qd5_88.2.2.2.2.2.2.2.2.2.2.2
theorem qd5_89 : (decode cL_law 1440 = .ok (.iload_n 3, 1)) ∧ (decode cL_law 1441 = .ok (.iconst 2, 1)) ∧ (decode cL_law 1442 = .ok (.iadd, 1)) ∧ (decode cL_law 1443 = .ok (.iaload, 1)) ∧ (decode cL_law 1444 = .ok (.invokevirtual 181, 3)) ∧ (decode cL_law 1447 = .ok (.pop, 1)) ∧ (decode cL_law 1448 = .ok (.aload_n 2, 1)) ∧ (decode cL_law 1449 = .ok (.aload_n 0, 1)) ∧ (decode cL_law 1450 = .ok (.iload_n 3, 1)) ∧ (decode cL_law 1451 = .ok (.iconst 1, 1)) ∧ (decode cL_law 1452 = .ok (.iadd, 1)) ∧ (decode cL_law 1453 = .ok (.iaload, 1)) := by decide +kernel
theorem dL_law_1440 : decode cL_law 1440 = .ok (.iload_n 3, 1) := qd5_89.1
theorem dL_law_1441 : decode cL_law 1441 = .ok (.iconst 2, 1) := qd5_89.2.1
theorem dL_law_1442 : decode cL_law 1442 = .ok (.iadd, 1) := qd5_89.2.2.1
theorem dL_law_1443 : decode cL_law 1443 = .ok (.iaload, 1) := qd5_89.2.2.2.1
theorem dL_law_1444 : decode cL_law 1444 = .ok (.invokevirtual 181, 3) := qd5_89.2.2.2.2.1
theorem dL_law_1447 : decode cL_law 1447 = .ok (.pop, 1) := qd5_89.2.2.2.2.2.1
theorem dL_law_1448 : decode cL_law 1448 = .ok (.aload_n 2, 1) := qd5_89.2.2.2.2.2.2.1
theorem dL_law_1449 : decode cL_law 1449 = .ok (.aload_n 0, 1) := qd5_89.2.2.2.2.2.2.2.1
theorem dL_law_1450 : decode cL_law 1450 = .ok (.iload_n 3, 1) := qd5_89.2.2.2.2.2.2.2.2.1
theorem dL_law_1451 : decode cL_law 1451 = .ok (.iconst 1, 1) := qd5_89.2.2.2.2.2.2.2.2.2.1
theorem dL_law_1452 : decode cL_law 1452 = .ok (.iadd, 1) := qd5_89.2.2.2.2.2.2.2.2.2.2.1
theorem dL_law_1453 : decode cL_law 1453 = .ok (.iaload, 1) := qd5_89.2.2.2.2.2.2.2.2.2.2.2
theorem qd5_90 : (decode cL_law 1454 = .ok (.aload_n 0, 1)) ∧ (decode cL_law 1455 = .ok (.iload_n 3, 1)) ∧ (decode cL_law 1456 = .ok (.iconst 2, 1)) ∧ (decode cL_law 1457 = .ok (.iadd, 1)) ∧ (decode cL_law 1458 = .ok (.iaload, 1)) ∧ (decode cL_law 1459 = .ok (.invokevirtual 184, 3)) ∧ (decode cL_law 1462 = .ok (.pop, 1)) ∧ (decode cL_law 1463 = .ok (.goto 131, 3)) ∧ (decode cL_law 1466 = .ok (.aload_n 1, 1)) ∧ (decode cL_law 1467 = .ok (.aload_n 0, 1)) ∧ (decode cL_law 1468 = .ok (.iload_n 3, 1)) ∧ (decode cL_law 1469 = .ok (.iconst 1, 1)) := by decide +kernel
theorem dL_law_1454 : decode cL_law 1454 = .ok (.aload_n 0, 1) := qd5_90.1
theorem dL_law_1455 : decode cL_law 1455 = .ok (.iload_n 3, 1) := qd5_90.2.1
theorem dL_law_1456 : decode cL_law 1456 = .ok (.iconst 2, 1) := qd5_90.2.2.1
theorem dL_law_1457 : decode cL_law 1457 = .ok (.iadd, 1) := qd5_90.2.2.2.1
theorem dL_law_1458 : decode cL_law 1458 = .ok (.iaload, 1) := qd5_90.2.2.2.2.1
theorem dL_law_1459 : decode cL_law 1459 = .ok (.invokevirtual 184, 3) := qd5_90.2.2.2.2.2.1
theorem dL_law_1462 : decode cL_law 1462 = .ok (.pop, 1) := qd5_90.2.2.2.2.2.2.1
theorem dL_law_1463 : decode cL_law 1463 = .ok (.goto 131, 3) := qd5_90.2.2.2.2.2.2.2.1
theorem dL_law_1466 : decode cL_law 1466 = .ok (.aload_n 1, 1) := qd5_90.2.2.2.2.2.2.2.2.1
theorem dL_law_1467 : decode cL_law 1467 = .ok (.aload_n 0, 1) := qd5_90.2.2.2.2.2.2.2.2.2.1
theorem dL_law_1468 : decode cL_law 1468 = .ok (.iload_n 3, 1) := qd5_90.2.2.2.2.2.2.2.2.2.2.1
theorem dL_law_1469 : decode cL_law 1469 = .ok (.iconst 1, 1) := qd5_90.2.2.2.2.2.2.2.2.2.2.2
theorem qd5_91 : (decode cL_law 1470 = .ok (.iadd, 1)) ∧ (decode cL_law 1471 = .ok (.iaload, 1)) ∧ (decode cL_law 1472 = .ok (.aload_n 0, 1)) ∧ (decode cL_law 1473 = .ok (.iload_n 3, 1)) ∧ (decode cL_law 1474 = .ok (.iconst 2, 1)) ∧ (decode cL_law 1475 = .ok (.iadd, 1)) ∧ (decode cL_law 1476 = .ok (.iaload, 1)) ∧ (decode cL_law 1477 = .ok (.invokevirtual 185, 3)) ∧ (decode cL_law 1480 = .ok (.pop, 1)) ∧ (decode cL_law 1481 = .ok (.aload_n 2, 1)) ∧ (decode cL_law 1482 = .ok (.aload_n 0, 1)) ∧ (decode cL_law 1483 = .ok (.iload_n 3, 1)) := by decide +kernel
theorem dL_law_1470 : decode cL_law 1470 = .ok (.iadd, 1) := qd5_91.1
theorem dL_law_1471 : decode cL_law 1471 = .ok (.iaload, 1) := qd5_91.2.1
theorem dL_law_1472 : decode cL_law 1472 = .ok (.aload_n 0, 1) := qd5_91.2.2.1
theorem dL_law_1473 : decode cL_law 1473 = .ok (.iload_n 3, 1) := qd5_91.2.2.2.1
theorem dL_law_1474 : decode cL_law 1474 = .ok (.iconst 2, 1) := qd5_91.2.2.2.2.1
theorem dL_law_1475 : decode cL_law 1475 = .ok (.iadd, 1) := qd5_91.2.2.2.2.2.1
theorem dL_law_1476 : decode cL_law 1476 = .ok (.iaload, 1) := qd5_91.2.2.2.2.2.2.1
theorem dL_law_1477 : decode cL_law 1477 = .ok (.invokevirtual 185, 3) := qd5_91.2.2.2.2.2.2.2.1
theorem dL_law_1480 : decode cL_law 1480 = .ok (.pop, 1) := qd5_91.2.2.2.2.2.2.2.2.1
theorem dL_law_1481 : decode cL_law 1481 = .ok (.aload_n 2, 1) := qd5_91.2.2.2.2.2.2.2.2.2.1
theorem dL_law_1482 : decode cL_law 1482 = .ok (.aload_n 0, 1) := qd5_91.2.2.2.2.2.2.2.2.2.2.1
theorem dL_law_1483 : decode cL_law 1483 = .ok (.iload_n 3, 1) := qd5_91.2.2.2.2.2.2.2.2.2.2.2
theorem qd5_92 : (decode cL_law 1484 = .ok (.iconst 1, 1)) ∧ (decode cL_law 1485 = .ok (.iadd, 1)) ∧ (decode cL_law 1486 = .ok (.iaload, 1)) ∧ (decode cL_law 1487 = .ok (.aload_n 0, 1)) ∧ (decode cL_law 1488 = .ok (.iload_n 3, 1)) ∧ (decode cL_law 1489 = .ok (.iconst 2, 1)) ∧ (decode cL_law 1490 = .ok (.iadd, 1)) ∧ (decode cL_law 1491 = .ok (.iaload, 1)) ∧ (decode cL_law 1492 = .ok (.invokevirtual 188, 3)) ∧ (decode cL_law 1495 = .ok (.pop, 1)) ∧ (decode cL_law 1496 = .ok (.goto 98, 3)) ∧ (decode cL_law 1499 = .ok (.aload_n 1, 1)) := by decide +kernel
theorem dL_law_1484 : decode cL_law 1484 = .ok (.iconst 1, 1) := qd5_92.1
theorem dL_law_1485 : decode cL_law 1485 = .ok (.iadd, 1) := qd5_92.2.1
theorem dL_law_1486 : decode cL_law 1486 = .ok (.iaload, 1) := qd5_92.2.2.1
theorem dL_law_1487 : decode cL_law 1487 = .ok (.aload_n 0, 1) := qd5_92.2.2.2.1
theorem dL_law_1488 : decode cL_law 1488 = .ok (.iload_n 3, 1) := qd5_92.2.2.2.2.1
theorem dL_law_1489 : decode cL_law 1489 = .ok (.iconst 2, 1) := qd5_92.2.2.2.2.2.1
theorem dL_law_1490 : decode cL_law 1490 = .ok (.iadd, 1) := qd5_92.2.2.2.2.2.2.1
theorem dL_law_1491 : decode cL_law 1491 = .ok (.iaload, 1) := qd5_92.2.2.2.2.2.2.2.1
theorem dL_law_1492 : decode cL_law 1492 = .ok (.invokevirtual 188, 3) := qd5_92.2.2.2.2.2.2.2.2.1
theorem dL_law_1495 : decode cL_law 1495 = .ok (.pop, 1) := qd5_92.2.2.2.2.2.2.2.2.2.1
theorem dL_law_1496 : decode cL_law 1496 = .ok (.goto 98, 3) := qd5_92.2.2.2.2.2.2.2.2.2.2.1
theorem dL_law_1499 : decode cL_law 1499 = .ok (.aload_n 1, 1) := qd5_92.2.2.2.2.2.2.2.2.2.2.2
theorem qd5_93 : (decode cL_law 1500 = .ok (.aload_n 0, 1)) ∧ (decode cL_law 1501 = .ok (.iload_n 3, 1)) ∧ (decode cL_law 1502 = .ok (.iconst 1, 1)) ∧ (decode cL_law 1503 = .ok (.iadd, 1)) ∧ (decode cL_law 1504 = .ok (.iaload, 1)) ∧ (decode cL_law 1505 = .ok (.invokevirtual 189, 3)) ∧ (decode cL_law 1508 = .ok (.pop, 1)) ∧ (decode cL_law 1509 = .ok (.aload_n 2, 1)) ∧ (decode cL_law 1510 = .ok (.aload_n 0, 1)) ∧ (decode cL_law 1511 = .ok (.iload_n 3, 1)) ∧ (decode cL_law 1512 = .ok (.iconst 1, 1)) ∧ (decode cL_law 1513 = .ok (.iadd, 1)) := by decide +kernel
theorem dL_law_1500 : decode cL_law 1500 = .ok (.aload_n 0, 1) := qd5_93.1
theorem dL_law_1501 : decode cL_law 1501 = .ok (.iload_n 3, 1) := qd5_93.2.1
theorem dL_law_1502 : decode cL_law 1502 = .ok (.iconst 1, 1) := qd5_93.2.2.1
theorem dL_law_1503 : decode cL_law 1503 = .ok (.iadd, 1) := qd5_93.2.2.2.1
theorem dL_law_1504 : decode cL_law 1504 = .ok (.iaload, 1) := qd5_93.2.2.2.2.1
theorem dL_law_1505 : decode cL_law 1505 = .ok (.invokevirtual 189, 3) := qd5_93.2.2.2.2.2.1
theorem dL_law_1508 : decode cL_law 1508 = .ok (.pop, 1) := qd5_93.2.2.2.2.2.2.1
theorem dL_law_1509 : decode cL_law 1509 = .ok (.aload_n 2, 1) := qd5_93.2.2.2.2.2.2.2.1
theorem dL_law_1510 : decode cL_law 1510 = .ok (.aload_n 0, 1) := qd5_93.2.2.2.2.2.2.2.2.1
theorem dL_law_1511 : decode cL_law 1511 = .ok (.iload_n 3, 1) := qd5_93.2.2.2.2.2.2.2.2.2.1
theorem dL_law_1512 : decode cL_law 1512 = .ok (.iconst 1, 1) := qd5_93.2.2.2.2.2.2.2.2.2.2.1
theorem dL_law_1513 : decode cL_law 1513 = .ok (.iadd, 1) := qd5_93.2.2.2.2.2.2.2.2.2.2.2
theorem qd5_94 : (decode cL_law 1514 = .ok (.iaload, 1)) ∧ (decode cL_law 1515 = .ok (.invokevirtual 192, 3)) ∧ (decode cL_law 1518 = .ok (.pop, 1)) ∧ (decode cL_law 1519 = .ok (.goto 75, 3)) ∧ (decode cL_law 1522 = .ok (.aload_n 1, 1)) ∧ (decode cL_law 1523 = .ok (.aload_n 0, 1)) ∧ (decode cL_law 1524 = .ok (.iload_n 3, 1)) ∧ (decode cL_law 1525 = .ok (.iconst 1, 1)) ∧ (decode cL_law 1526 = .ok (.iadd, 1)) ∧ (decode cL_law 1527 = .ok (.iaload, 1)) ∧ (decode cL_law 1528 = .ok (.invokevirtual 193, 3)) ∧ (decode cL_law 1531 = .ok (.pop, 1)) := by decide +kernel
theorem dL_law_1514 : decode cL_law 1514 = .ok (.iaload, 1) := qd5_94.1
theorem dL_law_1515 : decode cL_law 1515 = .ok (.invokevirtual 192, 3) := qd5_94.2.1
theorem dL_law_1518 : decode cL_law 1518 = .ok (.pop, 1) := qd5_94.2.2.1
theorem dL_law_1519 : decode cL_law 1519 = .ok (.goto 75, 3) := qd5_94.2.2.2.1
theorem dL_law_1522 : decode cL_law 1522 = .ok (.aload_n 1, 1) := qd5_94.2.2.2.2.1
theorem dL_law_1523 : decode cL_law 1523 = .ok (.aload_n 0, 1) := qd5_94.2.2.2.2.2.1
theorem dL_law_1524 : decode cL_law 1524 = .ok (.iload_n 3, 1) := qd5_94.2.2.2.2.2.2.1
theorem dL_law_1525 : decode cL_law 1525 = .ok (.iconst 1, 1) := qd5_94.2.2.2.2.2.2.2.1
theorem dL_law_1526 : decode cL_law 1526 = .ok (.iadd, 1) := qd5_94.2.2.2.2.2.2.2.2.1
theorem dL_law_1527 : decode cL_law 1527 = .ok (.iaload, 1) := qd5_94.2.2.2.2.2.2.2.2.2.1
theorem dL_law_1528 : decode cL_law 1528 = .ok (.invokevirtual 193, 3) := qd5_94.2.2.2.2.2.2.2.2.2.2.1
theorem dL_law_1531 : decode cL_law 1531 = .ok (.pop, 1) := qd5_94.2.2.2.2.2.2.2.2.2.2.2
theorem qd5_95 : (decode cL_law 1532 = .ok (.aload_n 2, 1)) ∧ (decode cL_law 1533 = .ok (.aload_n 0, 1)) ∧ (decode cL_law 1534 = .ok (.iload_n 3, 1)) ∧ (decode cL_law 1535 = .ok (.iconst 1, 1)) ∧ (decode cL_law 1536 = .ok (.iadd, 1)) ∧ (decode cL_law 1537 = .ok (.iaload, 1)) ∧ (decode cL_law 1538 = .ok (.invokevirtual 196, 3)) ∧ (decode cL_law 1541 = .ok (.pop, 1)) ∧ (decode cL_law 1542 = .ok (.goto 52, 3)) ∧ (decode cL_law 1545 = .ok (.aload_n 1, 1)) ∧ (decode cL_law 1546 = .ok (.invokevirtual 197, 3)) ∧ (decode cL_law 1549 = .ok (.pop, 1)) := by decide +kernel
theorem dL_law_1532 : decode cL_law 1532 = .ok (.aload_n 2, 1) := qd5_95.1
theorem dL_law_1533 : decode cL_law 1533 = .ok (.aload_n 0, 1) := qd5_95.2.1
theorem dL_law_1534 : decode cL_law 1534 = .ok (.iload_n 3, 1) := qd5_95.2.2.1
theorem dL_law_1535 : decode cL_law 1535 = .ok (.iconst 1, 1) := qd5_95.2.2.2.1
theorem dL_law_1536 : decode cL_law 1536 = .ok (.iadd, 1) := qd5_95.2.2.2.2.1
theorem dL_law_1537 : decode cL_law 1537 = .ok (.iaload, 1) := qd5_95.2.2.2.2.2.1
theorem dL_law_1538 : decode cL_law 1538 = .ok (.invokevirtual 196, 3) := qd5_95.2.2.2.2.2.2.1
theorem dL_law_1541 : decode cL_law 1541 = .ok (.pop, 1) := qd5_95.2.2.2.2.2.2.2.1
theorem dL_law_1542 : decode cL_law 1542 = .ok (.goto 52, 3) := qd5_95.2.2.2.2.2.2.2.2.1
theorem dL_law_1545 : decode cL_law 1545 = .ok (.aload_n 1, 1) := qd5_95.2.2.2.2.2.2.2.2.2.1
theorem dL_law_1546 : decode cL_law 1546 = .ok (.invokevirtual 197, 3) := qd5_95.2.2.2.2.2.2.2.2.2.2.1
theorem dL_law_1549 : decode cL_law 1549 = .ok (.pop, 1) := qd5_95.2.2.2.2.2.2.2.2.2.2.2
theorem qd5_96 : (decode cL_law 1550 = .ok (.aload_n 2, 1)) ∧ (decode cL_law 1551 = .ok (.invokevirtual 200, 3)) ∧ (decode cL_law 1554 = .ok (.pop, 1)) ∧ (decode cL_law 1555 = .ok (.goto 39, 3)) ∧ (decode cL_law 1558 = .ok (.aload_n 1, 1)) ∧ (decode cL_law 1559 = .ok (.invokevirtual 201, 3)) ∧ (decode cL_law 1562 = .ok (.pop, 1)) ∧ (decode cL_law 1563 = .ok (.aload_n 2, 1)) ∧ (decode cL_law 1564 = .ok (.invokevirtual 204, 3)) ∧ (decode cL_law 1567 = .ok (.pop, 1)) ∧ (decode cL_law 1568 = .ok (.goto 26, 3)) ∧ (decode cL_law 1571 = .ok (.aload_n 1, 1)) := by decide +kernel
theorem dL_law_1550 : decode cL_law 1550 = .ok (.aload_n 2, 1) := qd5_96.1
theorem dL_law_1551 : decode cL_law 1551 = .ok (.invokevirtual 200, 3) := qd5_96.2.1
theorem dL_law_1554 : decode cL_law 1554 = .ok (.pop, 1) := qd5_96.2.2.1
theorem dL_law_1555 : decode cL_law 1555 = .ok (.goto 39, 3) := qd5_96.2.2.2.1
theorem dL_law_1558 : decode cL_law 1558 = .ok (.aload_n 1, 1) := qd5_96.2.2.2.2.1
theorem dL_law_1559 : decode cL_law 1559 = .ok (.invokevirtual 201, 3) := qd5_96.2.2.2.2.2.1
theorem dL_law_1562 : decode cL_law 1562 = .ok (.pop, 1) := qd5_96.2.2.2.2.2.2.1
theorem dL_law_1563 : decode cL_law 1563 = .ok (.aload_n 2, 1) := qd5_96.2.2.2.2.2.2.2.1
theorem dL_law_1564 : decode cL_law 1564 = .ok (.invokevirtual 204, 3) := qd5_96.2.2.2.2.2.2.2.2.1
theorem dL_law_1567 : decode cL_law 1567 = .ok (.pop, 1) := qd5_96.2.2.2.2.2.2.2.2.2.1
theorem dL_law_1568 : decode cL_law 1568 = .ok (.goto 26, 3) := qd5_96.2.2.2.2.2.2.2.2.2.2.1
theorem dL_law_1571 : decode cL_law 1571 = .ok (.aload_n 1, 1) := qd5_96.2.2.2.2.2.2.2.2.2.2.2
theorem qd5_97 : (decode cL_law 1572 = .ok (.aload_n 0, 1)) ∧ (decode cL_law 1573 = .ok (.iload_n 3, 1)) ∧ (decode cL_law 1574 = .ok (.iconst 1, 1)) ∧ (decode cL_law 1575 = .ok (.iadd, 1)) ∧ (decode cL_law 1576 = .ok (.iaload, 1)) ∧ (decode cL_law 1577 = .ok (.invokevirtual 205, 3)) ∧ (decode cL_law 1580 = .ok (.pop, 1)) ∧ (decode cL_law 1581 = .ok (.aload_n 2, 1)) ∧ (decode cL_law 1582 = .ok (.aload_n 0, 1)) ∧ (decode cL_law 1583 = .ok (.iload_n 3, 1)) ∧ (decode cL_law 1584 = .ok (.iconst 1, 1)) ∧ (decode cL_law 1585 = .ok (.iadd, 1)) := by decide +kernel
theorem dL_law_1572 : decode cL_law 1572 = .ok (.aload_n 0, 1) := qd5_97.1
theorem dL_law_1573 : decode cL_law 1573 = .ok (.iload_n 3, 1) := qd5_97.2.1
theorem dL_law_1574 : decode cL_law 1574 = .ok (.iconst 1, 1) := qd5_97.2.2.1
theorem dL_law_1575 : decode cL_law 1575 = .ok (.iadd, 1) := qd5_97.2.2.2.1
theorem dL_law_1576 : decode cL_law 1576 = .ok (.iaload, 1) := qd5_97.2.2.2.2.1
theorem dL_law_1577 : decode cL_law 1577 = .ok (.invokevirtual 205, 3) := qd5_97.2.2.2.2.2.1
theorem dL_law_1580 : decode cL_law 1580 = .ok (.pop, 1) := qd5_97.2.2.2.2.2.2.1
theorem dL_law_1581 : decode cL_law 1581 = .ok (.aload_n 2, 1) := qd5_97.2.2.2.2.2.2.2.1
theorem dL_law_1582 : decode cL_law 1582 = .ok (.aload_n 0, 1) := qd5_97.2.2.2.2.2.2.2.2.1
theorem dL_law_1583 : decode cL_law 1583 = .ok (.iload_n 3, 1) := qd5_97.2.2.2.2.2.2.2.2.2.1
theorem dL_law_1584 : decode cL_law 1584 = .ok (.iconst 1, 1) := qd5_97.2.2.2.2.2.2.2.2.2.2.1
theorem dL_law_1585 : decode cL_law 1585 = .ok (.iadd, 1) := qd5_97.2.2.2.2.2.2.2.2.2.2.2
theorem qd5_98 : (decode cL_law 1586 = .ok (.iaload, 1)) ∧ (decode cL_law 1587 = .ok (.invokevirtual 208, 3)) ∧ (decode cL_law 1590 = .ok (.pop, 1)) ∧ (decode cL_law 1591 = .ok (.goto 3, 3)) ∧ (decode cL_law 1594 = .ok (.iinc 3 7, 3)) ∧ (decode cL_law 1597 = .ok (.goto (-1579), 3)) ∧ (decode cL_law 1600 = .ok (.iconst 1, 1)) ∧ (decode cL_law 1601 = .ok (.ireturn, 1)) := by decide +kernel
theorem dL_law_1586 : decode cL_law 1586 = .ok (.iaload, 1) := qd5_98.1
theorem dL_law_1587 : decode cL_law 1587 = .ok (.invokevirtual 208, 3) := qd5_98.2.1
theorem dL_law_1590 : decode cL_law 1590 = .ok (.pop, 1) := qd5_98.2.2.1
theorem dL_law_1591 : decode cL_law 1591 = .ok (.goto 3, 3) := qd5_98.2.2.2.1
theorem dL_law_1594 : decode cL_law 1594 = .ok (.iinc 3 7, 3) := qd5_98.2.2.2.2.1
theorem dL_law_1597 : decode cL_law 1597 = .ok (.goto (-1579), 3) := qd5_98.2.2.2.2.2.1
theorem dL_law_1600 : decode cL_law 1600 = .ok (.iconst 1, 1) := qd5_98.2.2.2.2.2.2.1
theorem dL_law_1601 : decode cL_law 1601 = .ok (.ireturn, 1) := qd5_98.2.2.2.2.2.2.2
